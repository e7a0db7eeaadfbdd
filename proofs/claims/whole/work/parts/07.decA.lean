theorem dX0_init_0 : decode cX0_init 0 = .ok (.aload_n 0, 1) := by decide +kernel
theorem dX0_init_1 : decode cX0_init 1 = .ok (.invokespecial 3, 3) := by decide +kernel
theorem dX0_init_4 : decode cX0_init 4 = .ok (.aload_n 0, 1) := by decide +kernel
theorem dX0_init_5 : decode cX0_init 5 = .ok (.bipush 64, 2) := by decide +kernel
theorem dX0_init_7 : decode cX0_init 7 = .ok (.newarray .int, 2) := by decide +kernel
theorem dX0_init_9 : decode cX0_init 9 = .ok (.putfield 9, 3) := by decide +kernel
theorem dX0_init_12 : decode cX0_init 12 = .ok (.iconst 0, 1) := by decide +kernel
theorem dX0_init_13 : decode cX0_init 13 = .ok (.istore_n 1, 1) := by decide +kernel
theorem dX0_init_14 : decode cX0_init 14 = .ok (.iload_n 1, 1) := by decide +kernel
theorem dX0_init_15 : decode cX0_init 15 = .ok (.bipush 64, 2) := by decide +kernel
theorem dX0_init_17 : decode cX0_init 17 = .ok (.if_icmp .ge 16, 3) := by decide +kernel
theorem dX0_init_20 : decode cX0_init 20 = .ok (.aload_n 0, 1) := by decide +kernel
theorem dX0_init_21 : decode cX0_init 21 = .ok (.getfield 9, 3) := by decide +kernel
theorem dX0_init_24 : decode cX0_init 24 = .ok (.iload_n 1, 1) := by decide +kernel
theorem dX0_init_25 : decode cX0_init 25 = .ok (.iload_n 1, 1) := by decide +kernel
theorem dX0_init_26 : decode cX0_init 26 = .ok (.iastore, 1) := by decide +kernel
theorem dX0_init_27 : decode cX0_init 27 = .ok (.iinc 1 1, 3) := by decide +kernel
theorem dX0_init_30 : decode cX0_init 30 = .ok (.goto (-16), 3) := by decide +kernel
theorem dX0_init_33 : decode cX0_init 33 = .ok (.aload_n 0, 1) := by decide +kernel
theorem dX0_init_34 : decode cX0_init 34 = .ok (.bipush 28, 2) := by decide +kernel
theorem dX0_init_36 : decode cX0_init 36 = .ok (.newarray .int, 2) := by decide +kernel
theorem dX0_init_38 : decode cX0_init 38 = .ok (.putfield 15, 3) := by decide +kernel
theorem dX0_init_41 : decode cX0_init 41 = .ok (.iconst 0, 1) := by decide +kernel
theorem dX0_init_42 : decode cX0_init 42 = .ok (.istore_n 1, 1) := by decide +kernel
theorem dX0_init_43 : decode cX0_init 43 = .ok (.iload_n 1, 1) := by decide +kernel
theorem dX0_init_44 : decode cX0_init 44 = .ok (.iconst 4, 1) := by decide +kernel
theorem dX0_init_45 : decode cX0_init 45 = .ok (.if_icmp .ge 33, 3) := by decide +kernel
theorem dX0_init_48 : decode cX0_init 48 = .ok (.aload_n 0, 1) := by decide +kernel
theorem dX0_init_49 : decode cX0_init 49 = .ok (.getfield 15, 3) := by decide +kernel
theorem dX0_init_52 : decode cX0_init 52 = .ok (.iload_n 1, 1) := by decide +kernel
theorem dX0_init_53 : decode cX0_init 53 = .ok (.bipush 7, 2) := by decide +kernel
theorem dX0_init_55 : decode cX0_init 55 = .ok (.imul, 1) := by decide +kernel
theorem dX0_init_56 : decode cX0_init 56 = .ok (.iconst 0, 1) := by decide +kernel
theorem dX0_init_57 : decode cX0_init 57 = .ok (.iadd, 1) := by decide +kernel
theorem dX0_init_58 : decode cX0_init 58 = .ok (.iconst 1, 1) := by decide +kernel
theorem dX0_init_59 : decode cX0_init 59 = .ok (.iastore, 1) := by decide +kernel
theorem dX0_init_60 : decode cX0_init 60 = .ok (.aload_n 0, 1) := by decide +kernel
theorem dX0_init_61 : decode cX0_init 61 = .ok (.getfield 15, 3) := by decide +kernel
theorem dX0_init_64 : decode cX0_init 64 = .ok (.iload_n 1, 1) := by decide +kernel
theorem dX0_init_65 : decode cX0_init 65 = .ok (.bipush 7, 2) := by decide +kernel
theorem dX0_init_67 : decode cX0_init 67 = .ok (.imul, 1) := by decide +kernel
theorem dX0_init_68 : decode cX0_init 68 = .ok (.iconst 2, 1) := by decide +kernel
theorem dX0_init_69 : decode cX0_init 69 = .ok (.iadd, 1) := by decide +kernel
theorem dX0_init_70 : decode cX0_init 70 = .ok (.iconst 4, 1) := by decide +kernel
theorem dX0_init_71 : decode cX0_init 71 = .ok (.iastore, 1) := by decide +kernel
theorem dX0_init_72 : decode cX0_init 72 = .ok (.iinc 1 1, 3) := by decide +kernel
theorem dX0_init_75 : decode cX0_init 75 = .ok (.goto (-32), 3) := by decide +kernel
theorem dX0_init_78 : decode cX0_init 78 = .ok (.aload_n 0, 1) := by decide +kernel
theorem dX0_init_79 : decode cX0_init 79 = .ok (.sipush 312, 3) := by decide +kernel
theorem dX0_init_82 : decode cX0_init 82 = .ok (.newarray .int, 2) := by decide +kernel
theorem dX0_init_84 : decode cX0_init 84 = .ok (.putfield 18, 3) := by decide +kernel
theorem dX0_init_87 : decode cX0_init 87 = .ok (.aload_n 0, 1) := by decide +kernel
theorem dX0_init_88 : decode cX0_init 88 = .ok (.bipush 24, 2) := by decide +kernel
theorem dX0_init_90 : decode cX0_init 90 = .ok (.newarray .int, 2) := by decide +kernel
theorem dX0_init_92 : decode cX0_init 92 = .ok (.putfield 21, 3) := by decide +kernel
theorem dX0_init_95 : decode cX0_init 95 = .ok (.aload_n 0, 1) := by decide +kernel
theorem dX0_init_96 : decode cX0_init 96 = .ok (.iconst 0, 1) := by decide +kernel
theorem dX0_init_97 : decode cX0_init 97 = .ok (.putfield 24, 3) := by decide +kernel
theorem dX0_init_100 : decode cX0_init 100 = .ok (.aload_n 0, 1) := by decide +kernel
theorem dX0_init_101 : decode cX0_init 101 = .ok (.iconst 3, 1) := by decide +kernel
theorem dX0_init_102 : decode cX0_init 102 = .ok (.putfield 28, 3) := by decide +kernel
theorem dX0_init_105 : decode cX0_init 105 = .ok (.aload_n 0, 1) := by decide +kernel
theorem dX0_init_106 : decode cX0_init 106 = .ok (.iconst 0, 1) := by decide +kernel
theorem dX0_init_107 : decode cX0_init 107 = .ok (.putfield 31, 3) := by decide +kernel
theorem dX0_init_110 : decode cX0_init 110 = .ok (.return_, 1) := by decide +kernel
theorem dX0_copyFrom_0 : decode cX0_copyFrom 0 = .ok (.aload_n 1, 1) := by decide +kernel
theorem dX0_copyFrom_1 : decode cX0_copyFrom 1 = .ok (.getfield 9, 3) := by decide +kernel
theorem dX0_copyFrom_4 : decode cX0_copyFrom 4 = .ok (.iconst 0, 1) := by decide +kernel
theorem dX0_copyFrom_5 : decode cX0_copyFrom 5 = .ok (.aload_n 0, 1) := by decide +kernel
theorem dX0_copyFrom_6 : decode cX0_copyFrom 6 = .ok (.getfield 9, 3) := by decide +kernel
theorem dX0_copyFrom_9 : decode cX0_copyFrom 9 = .ok (.iconst 0, 1) := by decide +kernel
theorem dX0_copyFrom_10 : decode cX0_copyFrom 10 = .ok (.aload_n 0, 1) := by decide +kernel
theorem dX0_copyFrom_11 : decode cX0_copyFrom 11 = .ok (.getfield 9, 3) := by decide +kernel
theorem dX0_copyFrom_14 : decode cX0_copyFrom 14 = .ok (.arraylength, 1) := by decide +kernel
theorem dX0_copyFrom_15 : decode cX0_copyFrom 15 = .ok (.invokestatic 34, 3) := by decide +kernel
theorem dX0_copyFrom_18 : decode cX0_copyFrom 18 = .ok (.aload_n 1, 1) := by decide +kernel
theorem dX0_copyFrom_19 : decode cX0_copyFrom 19 = .ok (.getfield 15, 3) := by decide +kernel
theorem dX0_copyFrom_22 : decode cX0_copyFrom 22 = .ok (.iconst 0, 1) := by decide +kernel
theorem dX0_copyFrom_23 : decode cX0_copyFrom 23 = .ok (.aload_n 0, 1) := by decide +kernel
theorem dX0_copyFrom_24 : decode cX0_copyFrom 24 = .ok (.getfield 15, 3) := by decide +kernel
theorem dX0_copyFrom_27 : decode cX0_copyFrom 27 = .ok (.iconst 0, 1) := by decide +kernel
theorem dX0_copyFrom_28 : decode cX0_copyFrom 28 = .ok (.aload_n 0, 1) := by decide +kernel
theorem dX0_copyFrom_29 : decode cX0_copyFrom 29 = .ok (.getfield 15, 3) := by decide +kernel
theorem dX0_copyFrom_32 : decode cX0_copyFrom 32 = .ok (.arraylength, 1) := by decide +kernel
theorem dX0_copyFrom_33 : decode cX0_copyFrom 33 = .ok (.invokestatic 34, 3) := by decide +kernel
theorem dX0_copyFrom_36 : decode cX0_copyFrom 36 = .ok (.aload_n 1, 1) := by decide +kernel
theorem dX0_copyFrom_37 : decode cX0_copyFrom 37 = .ok (.getfield 18, 3) := by decide +kernel
theorem dX0_copyFrom_40 : decode cX0_copyFrom 40 = .ok (.iconst 0, 1) := by decide +kernel
theorem dX0_copyFrom_41 : decode cX0_copyFrom 41 = .ok (.aload_n 0, 1) := by decide +kernel
theorem dX0_copyFrom_42 : decode cX0_copyFrom 42 = .ok (.getfield 18, 3) := by decide +kernel
theorem dX0_copyFrom_45 : decode cX0_copyFrom 45 = .ok (.iconst 0, 1) := by decide +kernel
theorem dX0_copyFrom_46 : decode cX0_copyFrom 46 = .ok (.aload_n 0, 1) := by decide +kernel
theorem dX0_copyFrom_47 : decode cX0_copyFrom 47 = .ok (.getfield 18, 3) := by decide +kernel
theorem dX0_copyFrom_50 : decode cX0_copyFrom 50 = .ok (.arraylength, 1) := by decide +kernel
theorem dX0_copyFrom_51 : decode cX0_copyFrom 51 = .ok (.invokestatic 34, 3) := by decide +kernel
theorem dX0_copyFrom_54 : decode cX0_copyFrom 54 = .ok (.aload_n 1, 1) := by decide +kernel
theorem dX0_copyFrom_55 : decode cX0_copyFrom 55 = .ok (.getfield 21, 3) := by decide +kernel
theorem dX0_copyFrom_58 : decode cX0_copyFrom 58 = .ok (.iconst 0, 1) := by decide +kernel
theorem dX0_copyFrom_59 : decode cX0_copyFrom 59 = .ok (.aload_n 0, 1) := by decide +kernel
theorem dX0_copyFrom_60 : decode cX0_copyFrom 60 = .ok (.getfield 21, 3) := by decide +kernel
theorem dX0_copyFrom_63 : decode cX0_copyFrom 63 = .ok (.iconst 0, 1) := by decide +kernel
theorem dX0_copyFrom_64 : decode cX0_copyFrom 64 = .ok (.aload_n 0, 1) := by decide +kernel
theorem dX0_copyFrom_65 : decode cX0_copyFrom 65 = .ok (.getfield 21, 3) := by decide +kernel
theorem dX0_copyFrom_68 : decode cX0_copyFrom 68 = .ok (.arraylength, 1) := by decide +kernel
theorem dX0_copyFrom_69 : decode cX0_copyFrom 69 = .ok (.invokestatic 34, 3) := by decide +kernel
theorem dX0_copyFrom_72 : decode cX0_copyFrom 72 = .ok (.aload_n 0, 1) := by decide +kernel
theorem dX0_copyFrom_73 : decode cX0_copyFrom 73 = .ok (.aload_n 1, 1) := by decide +kernel
theorem dX0_copyFrom_74 : decode cX0_copyFrom 74 = .ok (.getfield 24, 3) := by decide +kernel
theorem dX0_copyFrom_77 : decode cX0_copyFrom 77 = .ok (.putfield 24, 3) := by decide +kernel
theorem dX0_copyFrom_80 : decode cX0_copyFrom 80 = .ok (.aload_n 0, 1) := by decide +kernel
theorem dX0_copyFrom_81 : decode cX0_copyFrom 81 = .ok (.aload_n 1, 1) := by decide +kernel
theorem dX0_copyFrom_82 : decode cX0_copyFrom 82 = .ok (.getfield 28, 3) := by decide +kernel
theorem dX0_copyFrom_85 : decode cX0_copyFrom 85 = .ok (.putfield 28, 3) := by decide +kernel
theorem dX0_copyFrom_88 : decode cX0_copyFrom 88 = .ok (.aload_n 0, 1) := by decide +kernel
theorem dX0_copyFrom_89 : decode cX0_copyFrom 89 = .ok (.aload_n 1, 1) := by decide +kernel
theorem dX0_copyFrom_90 : decode cX0_copyFrom 90 = .ok (.getfield 31, 3) := by decide +kernel
theorem dX0_copyFrom_93 : decode cX0_copyFrom 93 = .ok (.putfield 31, 3) := by decide +kernel
theorem dX0_copyFrom_96 : decode cX0_copyFrom 96 = .ok (.return_, 1) := by decide +kernel
theorem dX0_placeOf_0 : decode cX0_placeOf 0 = .ok (.iload_n 0, 1) := by decide +kernel
theorem dX0_placeOf_1 : decode cX0_placeOf 1 = .ok (.bipush 6, 2) := by decide +kernel
theorem dX0_placeOf_3 : decode cX0_placeOf 3 = .ok (.imul, 1) := by decide +kernel
theorem dX0_placeOf_4 : decode cX0_placeOf 4 = .ok (.iload_n 1, 1) := by decide +kernel
theorem dX0_placeOf_5 : decode cX0_placeOf 5 = .ok (.iadd, 1) := by decide +kernel
theorem dX0_placeOf_6 : decode cX0_placeOf 6 = .ok (.ireturn, 1) := by decide +kernel
theorem dX0_slotBehind_0 : decode cX0_slotBehind 0 = .ok (.iload_n 0, 1) := by decide +kernel
theorem dX0_slotBehind_1 : decode cX0_slotBehind 1 = .ok (.iconst 5, 1) := by decide +kernel
theorem dX0_slotBehind_2 : decode cX0_slotBehind 2 = .ok (.if_icmp .lt 7, 3) := by decide +kernel
theorem dX0_slotBehind_5 : decode cX0_slotBehind 5 = .ok (.iconst 0, 1) := by decide +kernel
theorem dX0_slotBehind_6 : decode cX0_slotBehind 6 = .ok (.goto 6, 3) := by decide +kernel
theorem dX0_slotBehind_9 : decode cX0_slotBehind 9 = .ok (.iload_n 0, 1) := by decide +kernel
theorem dX0_slotBehind_10 : decode cX0_slotBehind 10 = .ok (.iconst 1, 1) := by decide +kernel
theorem dX0_slotBehind_11 : decode cX0_slotBehind 11 = .ok (.iadd, 1) := by decide +kernel
theorem dX0_slotBehind_12 : decode cX0_slotBehind 12 = .ok (.ireturn, 1) := by decide +kernel
theorem dX0_ofChannel_0 : decode cX0_ofChannel 0 = .ok (.aload_n 0, 1) := by decide +kernel
theorem dX0_ofChannel_1 : decode cX0_ofChannel 1 = .ok (.getfield 15, 3) := by decide +kernel
theorem dX0_ofChannel_4 : decode cX0_ofChannel 4 = .ok (.iload_n 1, 1) := by decide +kernel
theorem dX0_ofChannel_5 : decode cX0_ofChannel 5 = .ok (.bipush 7, 2) := by decide +kernel
theorem dX0_ofChannel_7 : decode cX0_ofChannel 7 = .ok (.imul, 1) := by decide +kernel
theorem dX0_ofChannel_8 : decode cX0_ofChannel 8 = .ok (.iload_n 2, 1) := by decide +kernel
theorem dX0_ofChannel_9 : decode cX0_ofChannel 9 = .ok (.iadd, 1) := by decide +kernel
theorem dX0_ofChannel_10 : decode cX0_ofChannel 10 = .ok (.iaload, 1) := by decide +kernel
theorem dX0_ofChannel_11 : decode cX0_ofChannel 11 = .ok (.ireturn, 1) := by decide +kernel
theorem dX0_setChannel_0 : decode cX0_setChannel 0 = .ok (.aload_n 0, 1) := by decide +kernel
theorem dX0_setChannel_1 : decode cX0_setChannel 1 = .ok (.getfield 15, 3) := by decide +kernel
theorem dX0_setChannel_4 : decode cX0_setChannel 4 = .ok (.iload_n 1, 1) := by decide +kernel
theorem dX0_setChannel_5 : decode cX0_setChannel 5 = .ok (.bipush 7, 2) := by decide +kernel
theorem dX0_setChannel_7 : decode cX0_setChannel 7 = .ok (.imul, 1) := by decide +kernel
theorem dX0_setChannel_8 : decode cX0_setChannel 8 = .ok (.iload_n 2, 1) := by decide +kernel
theorem dX0_setChannel_9 : decode cX0_setChannel 9 = .ok (.iadd, 1) := by decide +kernel
theorem dX0_setChannel_10 : decode cX0_setChannel 10 = .ok (.iload_n 3, 1) := by decide +kernel
theorem dX0_setChannel_11 : decode cX0_setChannel 11 = .ok (.iastore, 1) := by decide +kernel
theorem dX0_setChannel_12 : decode cX0_setChannel 12 = .ok (.return_, 1) := by decide +kernel
theorem dX0_addOneTo_0 : decode cX0_addOneTo 0 = .ok (.aload_n 0, 1) := by decide +kernel
theorem dX0_addOneTo_1 : decode cX0_addOneTo 1 = .ok (.getfield 15, 3) := by decide +kernel
theorem dX0_addOneTo_4 : decode cX0_addOneTo 4 = .ok (.iload_n 1, 1) := by decide +kernel
theorem dX0_addOneTo_5 : decode cX0_addOneTo 5 = .ok (.bipush 7, 2) := by decide +kernel
theorem dX0_addOneTo_7 : decode cX0_addOneTo 7 = .ok (.imul, 1) := by decide +kernel
theorem dX0_addOneTo_8 : decode cX0_addOneTo 8 = .ok (.iload_n 2, 1) := by decide +kernel
theorem dX0_addOneTo_9 : decode cX0_addOneTo 9 = .ok (.iadd, 1) := by decide +kernel
theorem dX0_addOneTo_10 : decode cX0_addOneTo 10 = .ok (.dup2, 1) := by decide +kernel
theorem dX0_addOneTo_11 : decode cX0_addOneTo 11 = .ok (.iaload, 1) := by decide +kernel
theorem dX0_addOneTo_12 : decode cX0_addOneTo 12 = .ok (.iconst 1, 1) := by decide +kernel
theorem dX0_addOneTo_13 : decode cX0_addOneTo 13 = .ok (.iadd, 1) := by decide +kernel
theorem dX0_addOneTo_14 : decode cX0_addOneTo 14 = .ok (.iastore, 1) := by decide +kernel
theorem dX0_addOneTo_15 : decode cX0_addOneTo 15 = .ok (.return_, 1) := by decide +kernel
theorem dX0_ofLetter_0 : decode cX0_ofLetter 0 = .ok (.aload_n 0, 1) := by decide +kernel
theorem dX0_ofLetter_1 : decode cX0_ofLetter 1 = .ok (.getfield 18, 3) := by decide +kernel
theorem dX0_ofLetter_4 : decode cX0_ofLetter 4 = .ok (.iload_n 1, 1) := by decide +kernel
theorem dX0_ofLetter_5 : decode cX0_ofLetter 5 = .ok (.bipush 13, 2) := by decide +kernel
theorem dX0_ofLetter_7 : decode cX0_ofLetter 7 = .ok (.imul, 1) := by decide +kernel
theorem dX0_ofLetter_8 : decode cX0_ofLetter 8 = .ok (.iload_n 2, 1) := by decide +kernel
theorem dX0_ofLetter_9 : decode cX0_ofLetter 9 = .ok (.iadd, 1) := by decide +kernel
theorem dX0_ofLetter_10 : decode cX0_ofLetter 10 = .ok (.iaload, 1) := by decide +kernel
theorem dX0_ofLetter_11 : decode cX0_ofLetter 11 = .ok (.ireturn, 1) := by decide +kernel
theorem dX0_setLetter_0 : decode cX0_setLetter 0 = .ok (.aload_n 0, 1) := by decide +kernel
theorem dX0_setLetter_1 : decode cX0_setLetter 1 = .ok (.getfield 18, 3) := by decide +kernel
theorem dX0_setLetter_4 : decode cX0_setLetter 4 = .ok (.iload_n 1, 1) := by decide +kernel
theorem dX0_setLetter_5 : decode cX0_setLetter 5 = .ok (.bipush 13, 2) := by decide +kernel
theorem dX0_setLetter_7 : decode cX0_setLetter 7 = .ok (.imul, 1) := by decide +kernel
theorem dX0_setLetter_8 : decode cX0_setLetter 8 = .ok (.iload_n 2, 1) := by decide +kernel
theorem dX0_setLetter_9 : decode cX0_setLetter 9 = .ok (.iadd, 1) := by decide +kernel
theorem dX0_setLetter_10 : decode cX0_setLetter 10 = .ok (.iload_n 3, 1) := by decide +kernel
theorem dX0_setLetter_11 : decode cX0_setLetter 11 = .ok (.iastore, 1) := by decide +kernel
theorem dX0_setLetter_12 : decode cX0_setLetter 12 = .ok (.return_, 1) := by decide +kernel
theorem dX0_hasLetter_0 : decode cX0_hasLetter 0 = .ok (.aload_n 0, 1) := by decide +kernel
theorem dX0_hasLetter_1 : decode cX0_hasLetter 1 = .ok (.iload_n 1, 1) := by decide +kernel
theorem dX0_hasLetter_2 : decode cX0_hasLetter 2 = .ok (.iconst 2, 1) := by decide +kernel
theorem dX0_hasLetter_3 : decode cX0_hasLetter 3 = .ok (.invokevirtual 40, 3) := by decide +kernel
theorem dX0_hasLetter_6 : decode cX0_hasLetter 6 = .ok (.ifCond .le 7, 3) := by decide +kernel
theorem dX0_hasLetter_9 : decode cX0_hasLetter 9 = .ok (.iconst 1, 1) := by decide +kernel
theorem dX0_hasLetter_10 : decode cX0_hasLetter 10 = .ok (.goto 4, 3) := by decide +kernel
theorem dX0_hasLetter_13 : decode cX0_hasLetter 13 = .ok (.iconst 0, 1) := by decide +kernel
theorem dX0_hasLetter_14 : decode cX0_hasLetter 14 = .ok (.ireturn, 1) := by decide +kernel
theorem dX0_isEngines_0 : decode cX0_isEngines 0 = .ok (.aload_n 0, 1) := by decide +kernel
theorem dX0_isEngines_1 : decode cX0_isEngines 1 = .ok (.iload_n 1, 1) := by decide +kernel
theorem dX0_isEngines_2 : decode cX0_isEngines 2 = .ok (.bipush 9, 2) := by decide +kernel
theorem dX0_isEngines_4 : decode cX0_isEngines 4 = .ok (.invokevirtual 40, 3) := by decide +kernel
theorem dX0_isEngines_7 : decode cX0_isEngines 7 = .ok (.iconst 1, 1) := by decide +kernel
theorem dX0_isEngines_8 : decode cX0_isEngines 8 = .ok (.if_icmp .ne 7, 3) := by decide +kernel
theorem dX0_isEngines_11 : decode cX0_isEngines 11 = .ok (.iconst 1, 1) := by decide +kernel
theorem dX0_isEngines_12 : decode cX0_isEngines 12 = .ok (.goto 4, 3) := by decide +kernel
theorem dX0_isEngines_15 : decode cX0_isEngines 15 = .ok (.iconst 0, 1) := by decide +kernel
theorem dX0_isEngines_16 : decode cX0_isEngines 16 = .ok (.ireturn, 1) := by decide +kernel
theorem dX0_isToCarry_0 : decode cX0_isToCarry 0 = .ok (.iload_n 1, 1) := by decide +kernel
theorem dX0_isToCarry_1 : decode cX0_isToCarry 1 = .ok (.bipush 13, 2) := by decide +kernel
theorem dX0_isToCarry_3 : decode cX0_isToCarry 3 = .ok (.imul, 1) := by decide +kernel
theorem dX0_isToCarry_4 : decode cX0_isToCarry 4 = .ok (.istore_n 2, 1) := by decide +kernel
theorem dX0_isToCarry_5 : decode cX0_isToCarry 5 = .ok (.aload_n 0, 1) := by decide +kernel
theorem dX0_isToCarry_6 : decode cX0_isToCarry 6 = .ok (.getfield 18, 3) := by decide +kernel
theorem dX0_isToCarry_9 : decode cX0_isToCarry 9 = .ok (.iload_n 2, 1) := by decide +kernel
theorem dX0_isToCarry_10 : decode cX0_isToCarry 10 = .ok (.bipush 9, 2) := by decide +kernel
theorem dX0_isToCarry_12 : decode cX0_isToCarry 12 = .ok (.iadd, 1) := by decide +kernel
theorem dX0_isToCarry_13 : decode cX0_isToCarry 13 = .ok (.iaload, 1) := by decide +kernel
theorem dX0_isToCarry_14 : decode cX0_isToCarry 14 = .ok (.iconst 1, 1) := by decide +kernel
theorem dX0_isToCarry_15 : decode cX0_isToCarry 15 = .ok (.if_icmp .ne 19, 3) := by decide +kernel
theorem dX0_isToCarry_18 : decode cX0_isToCarry 18 = .ok (.aload_n 0, 1) := by decide +kernel
theorem dX0_isToCarry_19 : decode cX0_isToCarry 19 = .ok (.getfield 18, 3) := by decide +kernel
theorem dX0_isToCarry_22 : decode cX0_isToCarry 22 = .ok (.iload_n 2, 1) := by decide +kernel
theorem dX0_isToCarry_23 : decode cX0_isToCarry 23 = .ok (.bipush 12, 2) := by decide +kernel
theorem dX0_isToCarry_25 : decode cX0_isToCarry 25 = .ok (.iadd, 1) := by decide +kernel
theorem dX0_isToCarry_26 : decode cX0_isToCarry 26 = .ok (.iaload, 1) := by decide +kernel
theorem dX0_isToCarry_27 : decode cX0_isToCarry 27 = .ok (.ifCond .ne 7, 3) := by decide +kernel
theorem dX0_isToCarry_30 : decode cX0_isToCarry 30 = .ok (.iconst 1, 1) := by decide +kernel
theorem dX0_isToCarry_31 : decode cX0_isToCarry 31 = .ok (.goto 4, 3) := by decide +kernel
theorem dX0_isToCarry_34 : decode cX0_isToCarry 34 = .ok (.iconst 0, 1) := by decide +kernel
theorem dX0_isToCarry_35 : decode cX0_isToCarry 35 = .ok (.ireturn, 1) := by decide +kernel
theorem dX0_unitsOf_0 : decode cX0_unitsOf 0 = .ok (.aload_n 0, 1) := by decide +kernel
theorem dX0_unitsOf_1 : decode cX0_unitsOf 1 = .ok (.iload_n 1, 1) := by decide +kernel
theorem dX0_unitsOf_2 : decode cX0_unitsOf 2 = .ok (.iconst 2, 1) := by decide +kernel
theorem dX0_unitsOf_3 : decode cX0_unitsOf 3 = .ok (.invokevirtual 40, 3) := by decide +kernel
theorem dX0_unitsOf_6 : decode cX0_unitsOf 6 = .ok (.aload_n 0, 1) := by decide +kernel
theorem dX0_unitsOf_7 : decode cX0_unitsOf 7 = .ok (.iload_n 1, 1) := by decide +kernel
theorem dX0_unitsOf_8 : decode cX0_unitsOf 8 = .ok (.iconst 5, 1) := by decide +kernel
theorem dX0_unitsOf_9 : decode cX0_unitsOf 9 = .ok (.invokevirtual 40, 3) := by decide +kernel
theorem dX0_unitsOf_12 : decode cX0_unitsOf 12 = .ok (.imul, 1) := by decide +kernel
theorem dX0_unitsOf_13 : decode cX0_unitsOf 13 = .ok (.ireturn, 1) := by decide +kernel
theorem dX0_addressOf_0 : decode cX0_addressOf 0 = .ok (.aload_n 0, 1) := by decide +kernel
theorem dX0_addressOf_1 : decode cX0_addressOf 1 = .ok (.iload_n 1, 1) := by decide +kernel
theorem dX0_addressOf_2 : decode cX0_addressOf 2 = .ok (.iconst 2, 1) := by decide +kernel
theorem dX0_addressOf_3 : decode cX0_addressOf 3 = .ok (.invokevirtual 40, 3) := by decide +kernel
theorem dX0_addressOf_6 : decode cX0_addressOf 6 = .ok (.istore 4, 2) := by decide +kernel
theorem dX0_addressOf_8 : decode cX0_addressOf 8 = .ok (.iload 4, 2) := by decide +kernel
theorem dX0_addressOf_10 : decode cX0_addressOf 10 = .ok (.ifCond .gt 5, 3) := by decide +kernel
theorem dX0_addressOf_13 : decode cX0_addressOf 13 = .ok (.iconst 0, 1) := by decide +kernel
theorem dX0_addressOf_14 : decode cX0_addressOf 14 = .ok (.ireturn, 1) := by decide +kernel
theorem dX0_addressOf_15 : decode cX0_addressOf 15 = .ok (.aload_n 0, 1) := by decide +kernel
theorem dX0_addressOf_16 : decode cX0_addressOf 16 = .ok (.iload_n 1, 1) := by decide +kernel
theorem dX0_addressOf_17 : decode cX0_addressOf 17 = .ok (.iconst 0, 1) := by decide +kernel
theorem dX0_addressOf_18 : decode cX0_addressOf 18 = .ok (.iload_n 3, 1) := by decide +kernel
theorem dX0_addressOf_19 : decode cX0_addressOf 19 = .ok (.iadd, 1) := by decide +kernel
theorem dX0_addressOf_20 : decode cX0_addressOf 20 = .ok (.invokevirtual 40, 3) := by decide +kernel
theorem dX0_addressOf_23 : decode cX0_addressOf 23 = .ok (.istore 5, 2) := by decide +kernel
theorem dX0_addressOf_25 : decode cX0_addressOf 25 = .ok (.iload_n 2, 1) := by decide +kernel
theorem dX0_addressOf_26 : decode cX0_addressOf 26 = .ok (.iload 4, 2) := by decide +kernel
theorem dX0_addressOf_28 : decode cX0_addressOf 28 = .ok (.idiv, 1) := by decide +kernel
theorem dX0_addressOf_29 : decode cX0_addressOf 29 = .ok (.aload_n 0, 1) := by decide +kernel
theorem dX0_addressOf_30 : decode cX0_addressOf 30 = .ok (.iload_n 1, 1) := by decide +kernel
theorem dX0_addressOf_31 : decode cX0_addressOf 31 = .ok (.bipush 6, 2) := by decide +kernel
theorem dX0_addressOf_33 : decode cX0_addressOf 33 = .ok (.iload_n 3, 1) := by decide +kernel
theorem dX0_addressOf_34 : decode cX0_addressOf 34 = .ok (.iadd, 1) := by decide +kernel
theorem dX0_addressOf_35 : decode cX0_addressOf 35 = .ok (.invokevirtual 40, 3) := by decide +kernel
theorem dX0_addressOf_38 : decode cX0_addressOf 38 = .ok (.imul, 1) := by decide +kernel
theorem dX0_addressOf_39 : decode cX0_addressOf 39 = .ok (.istore 6, 2) := by decide +kernel
theorem dX0_addressOf_41 : decode cX0_addressOf 41 = .ok (.iload_n 2, 1) := by decide +kernel
theorem dX0_addressOf_42 : decode cX0_addressOf 42 = .ok (.iload 4, 2) := by decide +kernel
theorem dX0_addressOf_44 : decode cX0_addressOf 44 = .ok (.irem, 1) := by decide +kernel
theorem dX0_addressOf_45 : decode cX0_addressOf 45 = .ok (.aload_n 0, 1) := by decide +kernel
theorem dX0_addressOf_46 : decode cX0_addressOf 46 = .ok (.iload_n 1, 1) := by decide +kernel
theorem dX0_addressOf_47 : decode cX0_addressOf 47 = .ok (.iconst 3, 1) := by decide +kernel
theorem dX0_addressOf_48 : decode cX0_addressOf 48 = .ok (.iload_n 3, 1) := by decide +kernel
theorem dX0_addressOf_49 : decode cX0_addressOf 49 = .ok (.iadd, 1) := by decide +kernel
theorem dX0_addressOf_50 : decode cX0_addressOf 50 = .ok (.invokevirtual 40, 3) := by decide +kernel
theorem dX0_addressOf_53 : decode cX0_addressOf 53 = .ok (.imul, 1) := by decide +kernel
theorem dX0_addressOf_54 : decode cX0_addressOf 54 = .ok (.istore 7, 2) := by decide +kernel
theorem dX0_addressOf_56 : decode cX0_addressOf 56 = .ok (.iload 5, 2) := by decide +kernel
theorem dX0_addressOf_58 : decode cX0_addressOf 58 = .ok (.iload 6, 2) := by decide +kernel
theorem dX0_addressOf_60 : decode cX0_addressOf 60 = .ok (.iadd, 1) := by decide +kernel
theorem dX0_addressOf_61 : decode cX0_addressOf 61 = .ok (.iload 7, 2) := by decide +kernel
theorem dX0_addressOf_63 : decode cX0_addressOf 63 = .ok (.iadd, 1) := by decide +kernel
theorem dX0_addressOf_64 : decode cX0_addressOf 64 = .ok (.bipush 64, 2) := by decide +kernel
theorem dX0_addressOf_66 : decode cX0_addressOf 66 = .ok (.invokestatic 44, 3) := by decide +kernel
theorem dX0_addressOf_69 : decode cX0_addressOf 69 = .ok (.ireturn, 1) := by decide +kernel
theorem dX0_writtenBy_0 : decode cX0_writtenBy 0 = .ok (.lconst 0, 1) := by decide +kernel
theorem dX0_writtenBy_1 : decode cX0_writtenBy 1 = .ok (.lstore_n 2, 1) := by decide +kernel
theorem dX0_writtenBy_2 : decode cX0_writtenBy 2 = .ok (.aload_n 0, 1) := by decide +kernel
theorem dX0_writtenBy_3 : decode cX0_writtenBy 3 = .ok (.iload_n 1, 1) := by decide +kernel
theorem dX0_writtenBy_4 : decode cX0_writtenBy 4 = .ok (.invokevirtual 49, 3) := by decide +kernel
theorem dX0_writtenBy_7 : decode cX0_writtenBy 7 = .ok (.istore 4, 2) := by decide +kernel
theorem dX0_writtenBy_9 : decode cX0_writtenBy 9 = .ok (.iconst 0, 1) := by decide +kernel
theorem dX0_writtenBy_10 : decode cX0_writtenBy 10 = .ok (.istore 5, 2) := by decide +kernel
theorem dX0_writtenBy_12 : decode cX0_writtenBy 12 = .ok (.iload 5, 2) := by decide +kernel
theorem dX0_writtenBy_14 : decode cX0_writtenBy 14 = .ok (.iload 4, 2) := by decide +kernel
theorem dX0_writtenBy_16 : decode cX0_writtenBy 16 = .ok (.if_icmp .ge 22, 3) := by decide +kernel
theorem dX0_writtenBy_19 : decode cX0_writtenBy 19 = .ok (.lload_n 2, 1) := by decide +kernel
theorem dX0_writtenBy_20 : decode cX0_writtenBy 20 = .ok (.lconst 1, 1) := by decide +kernel
theorem dX0_writtenBy_21 : decode cX0_writtenBy 21 = .ok (.aload_n 0, 1) := by decide +kernel
theorem dX0_writtenBy_22 : decode cX0_writtenBy 22 = .ok (.iload_n 1, 1) := by decide +kernel
theorem dX0_writtenBy_23 : decode cX0_writtenBy 23 = .ok (.iload 5, 2) := by decide +kernel
theorem dX0_writtenBy_25 : decode cX0_writtenBy 25 = .ok (.iconst 1, 1) := by decide +kernel
theorem dX0_writtenBy_26 : decode cX0_writtenBy 26 = .ok (.invokevirtual 53, 3) := by decide +kernel
theorem dX0_writtenBy_29 : decode cX0_writtenBy 29 = .ok (.lshl, 1) := by decide +kernel
theorem dX0_writtenBy_30 : decode cX0_writtenBy 30 = .ok (.lor, 1) := by decide +kernel
theorem dX0_writtenBy_31 : decode cX0_writtenBy 31 = .ok (.lstore_n 2, 1) := by decide +kernel
theorem dX0_writtenBy_32 : decode cX0_writtenBy 32 = .ok (.iinc 5 1, 3) := by decide +kernel
theorem dX0_writtenBy_35 : decode cX0_writtenBy 35 = .ok (.goto (-23), 3) := by decide +kernel
theorem dX0_writtenBy_38 : decode cX0_writtenBy 38 = .ok (.lload_n 2, 1) := by decide +kernel
theorem dX0_writtenBy_39 : decode cX0_writtenBy 39 = .ok (.lreturn, 1) := by decide +kernel
theorem dX0_unitsBoundFor_0 : decode cX0_unitsBoundFor 0 = .ok (.iconst 0, 1) := by decide +kernel
theorem dX0_unitsBoundFor_1 : decode cX0_unitsBoundFor 1 = .ok (.istore_n 2, 1) := by decide +kernel
theorem dX0_unitsBoundFor_2 : decode cX0_unitsBoundFor 2 = .ok (.iconst 0, 1) := by decide +kernel
theorem dX0_unitsBoundFor_3 : decode cX0_unitsBoundFor 3 = .ok (.istore_n 3, 1) := by decide +kernel
theorem dX0_unitsBoundFor_4 : decode cX0_unitsBoundFor 4 = .ok (.iload_n 3, 1) := by decide +kernel
theorem dX0_unitsBoundFor_5 : decode cX0_unitsBoundFor 5 = .ok (.bipush 24, 2) := by decide +kernel
theorem dX0_unitsBoundFor_7 : decode cX0_unitsBoundFor 7 = .ok (.if_icmp .ge 26, 3) := by decide +kernel
theorem dX0_unitsBoundFor_10 : decode cX0_unitsBoundFor 10 = .ok (.aload_n 0, 1) := by decide +kernel
theorem dX0_unitsBoundFor_11 : decode cX0_unitsBoundFor 11 = .ok (.iload_n 3, 1) := by decide +kernel
theorem dX0_unitsBoundFor_12 : decode cX0_unitsBoundFor 12 = .ok (.invokevirtual 57, 3) := by decide +kernel
theorem dX0_unitsBoundFor_15 : decode cX0_unitsBoundFor 15 = .ok (.ifCond .eq 12, 3) := by decide +kernel
theorem dX0_unitsBoundFor_18 : decode cX0_unitsBoundFor 18 = .ok (.iload_n 2, 1) := by decide +kernel
theorem dX0_unitsBoundFor_19 : decode cX0_unitsBoundFor 19 = .ok (.aload_n 0, 1) := by decide +kernel
theorem dX0_unitsBoundFor_20 : decode cX0_unitsBoundFor 20 = .ok (.iload_n 3, 1) := by decide +kernel
theorem dX0_unitsBoundFor_21 : decode cX0_unitsBoundFor 21 = .ok (.iload_n 1, 1) := by decide +kernel
theorem dX0_unitsBoundFor_22 : decode cX0_unitsBoundFor 22 = .ok (.invokevirtual 61, 3) := by decide +kernel
theorem dX0_unitsBoundFor_25 : decode cX0_unitsBoundFor 25 = .ok (.iadd, 1) := by decide +kernel
theorem dX0_unitsBoundFor_26 : decode cX0_unitsBoundFor 26 = .ok (.istore_n 2, 1) := by decide +kernel
theorem dX0_unitsBoundFor_27 : decode cX0_unitsBoundFor 27 = .ok (.iinc 3 1, 3) := by decide +kernel
theorem dX0_unitsBoundFor_30 : decode cX0_unitsBoundFor 30 = .ok (.goto (-26), 3) := by decide +kernel
theorem dX0_unitsBoundFor_33 : decode cX0_unitsBoundFor 33 = .ok (.iload_n 2, 1) := by decide +kernel
theorem dX0_unitsBoundFor_34 : decode cX0_unitsBoundFor 34 = .ok (.ireturn, 1) := by decide +kernel
theorem dX0_uncarriedBoundFor_0 : decode cX0_uncarriedBoundFor 0 = .ok (.iconst 0, 1) := by decide +kernel
theorem dX0_uncarriedBoundFor_1 : decode cX0_uncarriedBoundFor 1 = .ok (.istore_n 3, 1) := by decide +kernel
theorem dX0_uncarriedBoundFor_2 : decode cX0_uncarriedBoundFor 2 = .ok (.aload_n 0, 1) := by decide +kernel
theorem dX0_uncarriedBoundFor_3 : decode cX0_uncarriedBoundFor 3 = .ok (.iload_n 1, 1) := by decide +kernel
theorem dX0_uncarriedBoundFor_4 : decode cX0_uncarriedBoundFor 4 = .ok (.invokevirtual 49, 3) := by decide +kernel
theorem dX0_uncarriedBoundFor_7 : decode cX0_uncarriedBoundFor 7 = .ok (.istore 4, 2) := by decide +kernel
theorem dX0_uncarriedBoundFor_9 : decode cX0_uncarriedBoundFor 9 = .ok (.iload 4, 2) := by decide +kernel
theorem dX0_uncarriedBoundFor_11 : decode cX0_uncarriedBoundFor 11 = .ok (.aload_n 0, 1) := by decide +kernel
theorem dX0_uncarriedBoundFor_12 : decode cX0_uncarriedBoundFor 12 = .ok (.iload_n 1, 1) := by decide +kernel
theorem dX0_uncarriedBoundFor_13 : decode cX0_uncarriedBoundFor 13 = .ok (.bipush 11, 2) := by decide +kernel
theorem dX0_uncarriedBoundFor_15 : decode cX0_uncarriedBoundFor 15 = .ok (.invokevirtual 40, 3) := by decide +kernel
theorem dX0_uncarriedBoundFor_18 : decode cX0_uncarriedBoundFor 18 = .ok (.isub, 1) := by decide +kernel
theorem dX0_uncarriedBoundFor_19 : decode cX0_uncarriedBoundFor 19 = .ok (.istore 5, 2) := by decide +kernel
theorem dX0_uncarriedBoundFor_21 : decode cX0_uncarriedBoundFor 21 = .ok (.iload 5, 2) := by decide +kernel
theorem dX0_uncarriedBoundFor_23 : decode cX0_uncarriedBoundFor 23 = .ok (.iload 4, 2) := by decide +kernel
theorem dX0_uncarriedBoundFor_25 : decode cX0_uncarriedBoundFor 25 = .ok (.if_icmp .ge 24, 3) := by decide +kernel
theorem dX0_uncarriedBoundFor_28 : decode cX0_uncarriedBoundFor 28 = .ok (.aload_n 0, 1) := by decide +kernel
theorem dX0_uncarriedBoundFor_29 : decode cX0_uncarriedBoundFor 29 = .ok (.iload_n 1, 1) := by decide +kernel
theorem dX0_uncarriedBoundFor_30 : decode cX0_uncarriedBoundFor 30 = .ok (.iload 5, 2) := by decide +kernel
theorem dX0_uncarriedBoundFor_32 : decode cX0_uncarriedBoundFor 32 = .ok (.iconst 1, 1) := by decide +kernel
theorem dX0_uncarriedBoundFor_33 : decode cX0_uncarriedBoundFor 33 = .ok (.invokevirtual 53, 3) := by decide +kernel
theorem dX0_uncarriedBoundFor_36 : decode cX0_uncarriedBoundFor 36 = .ok (.iload_n 2, 1) := by decide +kernel
theorem dX0_uncarriedBoundFor_37 : decode cX0_uncarriedBoundFor 37 = .ok (.if_icmp .ne 6, 3) := by decide +kernel
theorem dX0_uncarriedBoundFor_40 : decode cX0_uncarriedBoundFor 40 = .ok (.iinc 3 1, 3) := by decide +kernel
theorem dX0_uncarriedBoundFor_43 : decode cX0_uncarriedBoundFor 43 = .ok (.iinc 5 1, 3) := by decide +kernel
theorem dX0_uncarriedBoundFor_46 : decode cX0_uncarriedBoundFor 46 = .ok (.goto (-25), 3) := by decide +kernel
theorem dX0_uncarriedBoundFor_49 : decode cX0_uncarriedBoundFor 49 = .ok (.iload_n 3, 1) := by decide +kernel
theorem dX0_uncarriedBoundFor_50 : decode cX0_uncarriedBoundFor 50 = .ok (.ireturn, 1) := by decide +kernel
theorem dX0_engineLettersOf_0 : decode cX0_engineLettersOf 0 = .ok (.iconst 0, 1) := by decide +kernel
theorem dX0_engineLettersOf_1 : decode cX0_engineLettersOf 1 = .ok (.istore_n 2, 1) := by decide +kernel
theorem dX0_engineLettersOf_2 : decode cX0_engineLettersOf 2 = .ok (.iconst 0, 1) := by decide +kernel
theorem dX0_engineLettersOf_3 : decode cX0_engineLettersOf 3 = .ok (.istore_n 3, 1) := by decide +kernel
theorem dX0_engineLettersOf_4 : decode cX0_engineLettersOf 4 = .ok (.iload_n 3, 1) := by decide +kernel
theorem dX0_engineLettersOf_5 : decode cX0_engineLettersOf 5 = .ok (.bipush 6, 2) := by decide +kernel
theorem dX0_engineLettersOf_7 : decode cX0_engineLettersOf 7 = .ok (.if_icmp .ge 24, 3) := by decide +kernel
theorem dX0_engineLettersOf_10 : decode cX0_engineLettersOf 10 = .ok (.aload_n 0, 1) := by decide +kernel
theorem dX0_engineLettersOf_11 : decode cX0_engineLettersOf 11 = .ok (.iload_n 1, 1) := by decide +kernel
theorem dX0_engineLettersOf_12 : decode cX0_engineLettersOf 12 = .ok (.iload_n 3, 1) := by decide +kernel
theorem dX0_engineLettersOf_13 : decode cX0_engineLettersOf 13 = .ok (.invokestatic 64, 3) := by decide +kernel
theorem dX0_engineLettersOf_16 : decode cX0_engineLettersOf 16 = .ok (.invokevirtual 67, 3) := by decide +kernel
theorem dX0_engineLettersOf_19 : decode cX0_engineLettersOf 19 = .ok (.ifCond .eq 6, 3) := by decide +kernel
theorem dX0_engineLettersOf_22 : decode cX0_engineLettersOf 22 = .ok (.iinc 2 1, 3) := by decide +kernel
theorem dX0_engineLettersOf_25 : decode cX0_engineLettersOf 25 = .ok (.iinc 3 1, 3) := by decide +kernel
theorem dX0_engineLettersOf_28 : decode cX0_engineLettersOf 28 = .ok (.goto (-24), 3) := by decide +kernel
theorem dX0_engineLettersOf_31 : decode cX0_engineLettersOf 31 = .ok (.iload_n 2, 1) := by decide +kernel
theorem dX0_engineLettersOf_32 : decode cX0_engineLettersOf 32 = .ok (.ireturn, 1) := by decide +kernel
theorem dX0_engineLetters_0 : decode cX0_engineLetters 0 = .ok (.iconst 0, 1) := by decide +kernel
theorem dX0_engineLetters_1 : decode cX0_engineLetters 1 = .ok (.istore_n 1, 1) := by decide +kernel
theorem dX0_engineLetters_2 : decode cX0_engineLetters 2 = .ok (.iconst 0, 1) := by decide +kernel
theorem dX0_engineLetters_3 : decode cX0_engineLetters 3 = .ok (.istore_n 2, 1) := by decide +kernel
theorem dX0_engineLetters_4 : decode cX0_engineLetters 4 = .ok (.iload_n 2, 1) := by decide +kernel
theorem dX0_engineLetters_5 : decode cX0_engineLetters 5 = .ok (.iconst 4, 1) := by decide +kernel
theorem dX0_engineLetters_6 : decode cX0_engineLetters 6 = .ok (.if_icmp .ge 17, 3) := by decide +kernel
theorem dX0_engineLetters_9 : decode cX0_engineLetters 9 = .ok (.iload_n 1, 1) := by decide +kernel
theorem dX0_engineLetters_10 : decode cX0_engineLetters 10 = .ok (.aload_n 0, 1) := by decide +kernel
theorem dX0_engineLetters_11 : decode cX0_engineLetters 11 = .ok (.iload_n 2, 1) := by decide +kernel
theorem dX0_engineLetters_12 : decode cX0_engineLetters 12 = .ok (.invokevirtual 70, 3) := by decide +kernel
theorem dX0_engineLetters_15 : decode cX0_engineLetters 15 = .ok (.iadd, 1) := by decide +kernel
theorem dX0_engineLetters_16 : decode cX0_engineLetters 16 = .ok (.istore_n 1, 1) := by decide +kernel
theorem dX0_engineLetters_17 : decode cX0_engineLetters 17 = .ok (.iinc 2 1, 3) := by decide +kernel
theorem dX0_engineLetters_20 : decode cX0_engineLetters 20 = .ok (.goto (-16), 3) := by decide +kernel
theorem dX0_engineLetters_23 : decode cX0_engineLetters 23 = .ok (.iload_n 1, 1) := by decide +kernel
theorem dX0_engineLetters_24 : decode cX0_engineLetters 24 = .ok (.ireturn, 1) := by decide +kernel
theorem dX0_presentOf_0 : decode cX0_presentOf 0 = .ok (.iload_n 1, 1) := by decide +kernel
theorem dX0_presentOf_1 : decode cX0_presentOf 1 = .ok (.aload_n 0, 1) := by decide +kernel
theorem dX0_presentOf_2 : decode cX0_presentOf 2 = .ok (.iload_n 1, 1) := by decide +kernel
theorem dX0_presentOf_3 : decode cX0_presentOf 3 = .ok (.iconst 4, 1) := by decide +kernel
theorem dX0_presentOf_4 : decode cX0_presentOf 4 = .ok (.invokevirtual 73, 3) := by decide +kernel
theorem dX0_presentOf_7 : decode cX0_presentOf 7 = .ok (.invokestatic 64, 3) := by decide +kernel
theorem dX0_presentOf_10 : decode cX0_presentOf 10 = .ok (.istore_n 2, 1) := by decide +kernel
theorem dX0_presentOf_11 : decode cX0_presentOf 11 = .ok (.aload_n 0, 1) := by decide +kernel
theorem dX0_presentOf_12 : decode cX0_presentOf 12 = .ok (.iload_n 2, 1) := by decide +kernel
theorem dX0_presentOf_13 : decode cX0_presentOf 13 = .ok (.invokevirtual 57, 3) := by decide +kernel
theorem dX0_presentOf_16 : decode cX0_presentOf 16 = .ok (.ifCond .eq 7, 3) := by decide +kernel
theorem dX0_presentOf_19 : decode cX0_presentOf 19 = .ok (.iload_n 2, 1) := by decide +kernel
theorem dX0_presentOf_20 : decode cX0_presentOf 20 = .ok (.goto 5, 3) := by decide +kernel
theorem dX0_presentOf_23 : decode cX0_presentOf 23 = .ok (.bipush (-9), 2) := by decide +kernel
theorem dX0_presentOf_25 : decode cX0_presentOf 25 = .ok (.ireturn, 1) := by decide +kernel
theorem dX0_isReady_0 : decode cX0_isReady 0 = .ok (.aload_n 0, 1) := by decide +kernel
theorem dX0_isReady_1 : decode cX0_isReady 1 = .ok (.iload_n 1, 1) := by decide +kernel
theorem dX0_isReady_2 : decode cX0_isReady 2 = .ok (.invokevirtual 76, 3) := by decide +kernel
theorem dX0_isReady_5 : decode cX0_isReady 5 = .ok (.istore_n 2, 1) := by decide +kernel
theorem dX0_isReady_6 : decode cX0_isReady 6 = .ok (.iload_n 2, 1) := by decide +kernel
theorem dX0_isReady_7 : decode cX0_isReady 7 = .ok (.bipush (-9), 2) := by decide +kernel
theorem dX0_isReady_9 : decode cX0_isReady 9 = .ok (.if_icmp .eq 12, 3) := by decide +kernel
theorem dX0_isReady_12 : decode cX0_isReady 12 = .ok (.aload_n 0, 1) := by decide +kernel
theorem dX0_isReady_13 : decode cX0_isReady 13 = .ok (.iload_n 1, 1) := by decide +kernel
theorem dX0_isReady_14 : decode cX0_isReady 14 = .ok (.iconst 0, 1) := by decide +kernel
theorem dX0_isReady_15 : decode cX0_isReady 15 = .ok (.invokevirtual 73, 3) := by decide +kernel
theorem dX0_isReady_18 : decode cX0_isReady 18 = .ok (.ifCond .ne 5, 3) := by decide +kernel
theorem dX0_isReady_21 : decode cX0_isReady 21 = .ok (.iconst 0, 1) := by decide +kernel
theorem dX0_isReady_22 : decode cX0_isReady 22 = .ok (.ireturn, 1) := by decide +kernel
theorem dX0_isReady_23 : decode cX0_isReady 23 = .ok (.aload_n 0, 1) := by decide +kernel
theorem dX0_isReady_24 : decode cX0_isReady 24 = .ok (.getfield 24, 3) := by decide +kernel
theorem dX0_isReady_27 : decode cX0_isReady 27 = .ok (.iconst 4, 1) := by decide +kernel
theorem dX0_isReady_28 : decode cX0_isReady 28 = .ok (.if_icmp .lt 19, 3) := by decide +kernel
theorem dX0_isReady_31 : decode cX0_isReady 31 = .ok (.aload_n 0, 1) := by decide +kernel
theorem dX0_isReady_32 : decode cX0_isReady 32 = .ok (.iload_n 2, 1) := by decide +kernel
theorem dX0_isReady_33 : decode cX0_isReady 33 = .ok (.bipush 11, 2) := by decide +kernel
theorem dX0_isReady_35 : decode cX0_isReady 35 = .ok (.invokevirtual 40, 3) := by decide +kernel
theorem dX0_isReady_38 : decode cX0_isReady 38 = .ok (.aload_n 0, 1) := by decide +kernel
theorem dX0_isReady_39 : decode cX0_isReady 39 = .ok (.iload_n 1, 1) := by decide +kernel
theorem dX0_isReady_40 : decode cX0_isReady 40 = .ok (.iconst 2, 1) := by decide +kernel
theorem dX0_isReady_41 : decode cX0_isReady 41 = .ok (.invokevirtual 73, 3) := by decide +kernel
theorem dX0_isReady_44 : decode cX0_isReady 44 = .ok (.if_icmp .le 7, 3) := by decide +kernel
theorem dX0_isReady_47 : decode cX0_isReady 47 = .ok (.iconst 1, 1) := by decide +kernel
theorem dX0_isReady_48 : decode cX0_isReady 48 = .ok (.goto 4, 3) := by decide +kernel
theorem dX0_isReady_51 : decode cX0_isReady 51 = .ok (.iconst 0, 1) := by decide +kernel
theorem dX0_isReady_52 : decode cX0_isReady 52 = .ok (.ireturn, 1) := by decide +kernel
theorem dX0_take_0 : decode cX0_take 0 = .ok (.aload_n 1, 1) := by decide +kernel
theorem dX0_take_1 : decode cX0_take 1 = .ok (.iload_n 2, 1) := by decide +kernel
theorem dX0_take_2 : decode cX0_take 2 = .ok (.iconst 0, 1) := by decide +kernel
theorem dX0_take_3 : decode cX0_take 3 = .ok (.invokevirtual 79, 3) := by decide +kernel
theorem dX0_take_6 : decode cX0_take 6 = .ok (.istore_n 3, 1) := by decide +kernel
theorem dX0_take_7 : decode cX0_take 7 = .ok (.aload_n 1, 1) := by decide +kernel
theorem dX0_take_8 : decode cX0_take 8 = .ok (.iload_n 2, 1) := by decide +kernel
theorem dX0_take_9 : decode cX0_take 9 = .ok (.invokevirtual 84, 3) := by decide +kernel
theorem dX0_take_12 : decode cX0_take 12 = .ok (.lookupswitch 50 #[(102, 36), (108, 28)], 28) := by decide +kernel
theorem dX0_take_40 : decode cX0_take 40 = .ok (.aload_n 0, 1) := by decide +kernel
theorem dX0_take_41 : decode cX0_take 41 = .ok (.iload_n 3, 1) := by decide +kernel
theorem dX0_take_42 : decode cX0_take 42 = .ok (.aload_n 1, 1) := by decide +kernel
theorem dX0_take_43 : decode cX0_take 43 = .ok (.iload_n 2, 1) := by decide +kernel
theorem dX0_take_44 : decode cX0_take 44 = .ok (.invokevirtual 87, 3) := by decide +kernel
theorem dX0_take_47 : decode cX0_take 47 = .ok (.ireturn, 1) := by decide +kernel
theorem dX0_take_48 : decode cX0_take 48 = .ok (.aload_n 0, 1) := by decide +kernel
theorem dX0_take_49 : decode cX0_take 49 = .ok (.getfield 9, 3) := by decide +kernel
theorem dX0_take_52 : decode cX0_take 52 = .ok (.iload_n 3, 1) := by decide +kernel
theorem dX0_take_53 : decode cX0_take 53 = .ok (.aload_n 1, 1) := by decide +kernel
theorem dX0_take_54 : decode cX0_take 54 = .ok (.iload_n 2, 1) := by decide +kernel
theorem dX0_take_55 : decode cX0_take 55 = .ok (.iconst 1, 1) := by decide +kernel
theorem dX0_take_56 : decode cX0_take 56 = .ok (.invokevirtual 79, 3) := by decide +kernel
theorem dX0_take_59 : decode cX0_take 59 = .ok (.iastore, 1) := by decide +kernel
theorem dX0_take_60 : decode cX0_take 60 = .ok (.iconst 1, 1) := by decide +kernel
theorem dX0_take_61 : decode cX0_take 61 = .ok (.ireturn, 1) := by decide +kernel
theorem dX0_take_62 : decode cX0_take 62 = .ok (.aload_n 0, 1) := by decide +kernel
theorem dX0_take_63 : decode cX0_take 63 = .ok (.iload_n 3, 1) := by decide +kernel
theorem dX0_take_64 : decode cX0_take 64 = .ok (.iconst 1, 1) := by decide +kernel
theorem dX0_take_65 : decode cX0_take 65 = .ok (.aload_n 1, 1) := by decide +kernel
theorem dX0_take_66 : decode cX0_take 66 = .ok (.iload_n 2, 1) := by decide +kernel
theorem dX0_take_67 : decode cX0_take 67 = .ok (.iconst 1, 1) := by decide +kernel
theorem dX0_take_68 : decode cX0_take 68 = .ok (.invokevirtual 79, 3) := by decide +kernel
theorem dX0_take_71 : decode cX0_take 71 = .ok (.invokevirtual 91, 3) := by decide +kernel
theorem dX0_take_74 : decode cX0_take 74 = .ok (.aload_n 0, 1) := by decide +kernel
theorem dX0_take_75 : decode cX0_take 75 = .ok (.iload_n 3, 1) := by decide +kernel
theorem dX0_take_76 : decode cX0_take 76 = .ok (.iconst 2, 1) := by decide +kernel
theorem dX0_take_77 : decode cX0_take 77 = .ok (.aload_n 1, 1) := by decide +kernel
theorem dX0_take_78 : decode cX0_take 78 = .ok (.iload_n 2, 1) := by decide +kernel
theorem dX0_take_79 : decode cX0_take 79 = .ok (.iconst 2, 1) := by decide +kernel
theorem dX0_take_80 : decode cX0_take 80 = .ok (.invokevirtual 79, 3) := by decide +kernel
theorem dX0_take_83 : decode cX0_take 83 = .ok (.invokevirtual 91, 3) := by decide +kernel
theorem dX0_take_86 : decode cX0_take 86 = .ok (.iconst 1, 1) := by decide +kernel
theorem dX0_take_87 : decode cX0_take 87 = .ok (.ireturn, 1) := by decide +kernel
theorem dX0_post_0 : decode cX0_post 0 = .ok (.aload_n 0, 1) := by decide +kernel
theorem dX0_post_1 : decode cX0_post 1 = .ok (.iload_n 1, 1) := by decide +kernel
theorem dX0_post_2 : decode cX0_post 2 = .ok (.iconst 3, 1) := by decide +kernel
theorem dX0_post_3 : decode cX0_post 3 = .ok (.invokevirtual 73, 3) := by decide +kernel
theorem dX0_post_6 : decode cX0_post 6 = .ok (.istore 4, 2) := by decide +kernel
theorem dX0_post_8 : decode cX0_post 8 = .ok (.iload_n 1, 1) := by decide +kernel
theorem dX0_post_9 : decode cX0_post 9 = .ok (.iload 4, 2) := by decide +kernel
theorem dX0_post_11 : decode cX0_post 11 = .ok (.invokestatic 64, 3) := by decide +kernel
theorem dX0_post_14 : decode cX0_post 14 = .ok (.istore 5, 2) := by decide +kernel
theorem dX0_post_16 : decode cX0_post 16 = .ok (.aload_n 0, 1) := by decide +kernel
theorem dX0_post_17 : decode cX0_post 17 = .ok (.iload 5, 2) := by decide +kernel
theorem dX0_post_19 : decode cX0_post 19 = .ok (.invokevirtual 67, 3) := by decide +kernel
theorem dX0_post_22 : decode cX0_post 22 = .ok (.ifCond .eq 5, 3) := by decide +kernel
theorem dX0_post_25 : decode cX0_post 25 = .ok (.iconst 0, 1) := by decide +kernel
theorem dX0_post_26 : decode cX0_post 26 = .ok (.ireturn, 1) := by decide +kernel
theorem dX0_post_27 : decode cX0_post 27 = .ok (.iconst 0, 1) := by decide +kernel
theorem dX0_post_28 : decode cX0_post 28 = .ok (.istore 6, 2) := by decide +kernel
theorem dX0_post_30 : decode cX0_post 30 = .ok (.iload 6, 2) := by decide +kernel
theorem dX0_post_32 : decode cX0_post 32 = .ok (.bipush 9, 2) := by decide +kernel
theorem dX0_post_34 : decode cX0_post 34 = .ok (.if_icmp .ge 26, 3) := by decide +kernel
theorem dX0_post_37 : decode cX0_post 37 = .ok (.aload_n 0, 1) := by decide +kernel
theorem dX0_post_38 : decode cX0_post 38 = .ok (.iload 5, 2) := by decide +kernel
theorem dX0_post_40 : decode cX0_post 40 = .ok (.iload 6, 2) := by decide +kernel
theorem dX0_post_42 : decode cX0_post 42 = .ok (.aload_n 2, 1) := by decide +kernel
theorem dX0_post_43 : decode cX0_post 43 = .ok (.iload_n 3, 1) := by decide +kernel
theorem dX0_post_44 : decode cX0_post 44 = .ok (.iconst 1, 1) := by decide +kernel
theorem dX0_post_45 : decode cX0_post 45 = .ok (.iload 6, 2) := by decide +kernel
theorem dX0_post_47 : decode cX0_post 47 = .ok (.iadd, 1) := by decide +kernel
theorem dX0_post_48 : decode cX0_post 48 = .ok (.invokevirtual 79, 3) := by decide +kernel
theorem dX0_post_51 : decode cX0_post 51 = .ok (.invokevirtual 95, 3) := by decide +kernel
theorem dX0_post_54 : decode cX0_post 54 = .ok (.iinc 6 1, 3) := by decide +kernel
theorem dX0_post_57 : decode cX0_post 57 = .ok (.goto (-27), 3) := by decide +kernel
theorem dX0_post_60 : decode cX0_post 60 = .ok (.aload_n 0, 1) := by decide +kernel
theorem dX0_post_61 : decode cX0_post 61 = .ok (.iload 5, 2) := by decide +kernel
theorem dX0_post_63 : decode cX0_post 63 = .ok (.bipush 9, 2) := by decide +kernel
theorem dX0_post_65 : decode cX0_post 65 = .ok (.iconst 1, 1) := by decide +kernel
theorem dX0_post_66 : decode cX0_post 66 = .ok (.invokevirtual 95, 3) := by decide +kernel
theorem dX0_post_69 : decode cX0_post 69 = .ok (.aload_n 0, 1) := by decide +kernel
theorem dX0_post_70 : decode cX0_post 70 = .ok (.iload 5, 2) := by decide +kernel
theorem dX0_post_72 : decode cX0_post 72 = .ok (.bipush 10, 2) := by decide +kernel
theorem dX0_post_74 : decode cX0_post 74 = .ok (.iconst 0, 1) := by decide +kernel
theorem dX0_post_75 : decode cX0_post 75 = .ok (.invokevirtual 95, 3) := by decide +kernel
theorem dX0_post_78 : decode cX0_post 78 = .ok (.aload_n 0, 1) := by decide +kernel
theorem dX0_post_79 : decode cX0_post 79 = .ok (.iload 5, 2) := by decide +kernel
theorem dX0_post_81 : decode cX0_post 81 = .ok (.bipush 11, 2) := by decide +kernel
theorem dX0_post_83 : decode cX0_post 83 = .ok (.aload_n 0, 1) := by decide +kernel
theorem dX0_post_84 : decode cX0_post 84 = .ok (.iload 5, 2) := by decide +kernel
theorem dX0_post_86 : decode cX0_post 86 = .ok (.invokevirtual 49, 3) := by decide +kernel
theorem dX0_post_89 : decode cX0_post 89 = .ok (.invokevirtual 95, 3) := by decide +kernel
theorem dX0_post_92 : decode cX0_post 92 = .ok (.aload_n 0, 1) := by decide +kernel
theorem dX0_post_93 : decode cX0_post 93 = .ok (.iload 5, 2) := by decide +kernel
theorem dX0_post_95 : decode cX0_post 95 = .ok (.bipush 12, 2) := by decide +kernel
theorem dX0_post_97 : decode cX0_post 97 = .ok (.iconst 0, 1) := by decide +kernel
theorem dX0_post_98 : decode cX0_post 98 = .ok (.invokevirtual 95, 3) := by decide +kernel
theorem dX0_post_101 : decode cX0_post 101 = .ok (.aload_n 0, 1) := by decide +kernel
theorem dX0_post_102 : decode cX0_post 102 = .ok (.iload_n 1, 1) := by decide +kernel
theorem dX0_post_103 : decode cX0_post 103 = .ok (.iconst 3, 1) := by decide +kernel
theorem dX0_post_104 : decode cX0_post 104 = .ok (.iload 4, 2) := by decide +kernel
theorem dX0_post_106 : decode cX0_post 106 = .ok (.invokestatic 98, 3) := by decide +kernel
theorem dX0_post_109 : decode cX0_post 109 = .ok (.invokevirtual 91, 3) := by decide +kernel
theorem dX0_post_112 : decode cX0_post 112 = .ok (.iconst 1, 1) := by decide +kernel
theorem dX0_post_113 : decode cX0_post 113 = .ok (.ireturn, 1) := by decide +kernel
theorem dX0_tick_0 : decode cX0_tick 0 = .ok (.aload_n 0, 1) := by decide +kernel
theorem dX0_tick_1 : decode cX0_tick 1 = .ok (.dup, 1) := by decide +kernel
theorem dX0_tick_2 : decode cX0_tick 2 = .ok (.getfield 31, 3) := by decide +kernel
theorem dX0_tick_5 : decode cX0_tick 5 = .ok (.iconst 1, 1) := by decide +kernel
theorem dX0_tick_6 : decode cX0_tick 6 = .ok (.iadd, 1) := by decide +kernel
theorem dX0_tick_7 : decode cX0_tick 7 = .ok (.putfield 31, 3) := by decide +kernel
theorem dX0_tick_10 : decode cX0_tick 10 = .ok (.aload_n 0, 1) := by decide +kernel
theorem dX0_tick_11 : decode cX0_tick 11 = .ok (.getfield 24, 3) := by decide +kernel
theorem dX0_tick_14 : decode cX0_tick 14 = .ok (.ifCond .le 8, 3) := by decide +kernel
theorem dX0_tick_17 : decode cX0_tick 17 = .ok (.aload_n 0, 1) := by decide +kernel
theorem dX0_tick_18 : decode cX0_tick 18 = .ok (.iconst 0, 1) := by decide +kernel
theorem dX0_tick_19 : decode cX0_tick 19 = .ok (.invokevirtual 101, 3) := by decide +kernel
theorem dX0_tick_22 : decode cX0_tick 22 = .ok (.aload_n 0, 1) := by decide +kernel
theorem dX0_tick_23 : decode cX0_tick 23 = .ok (.invokevirtual 105, 3) := by decide +kernel
theorem dX0_tick_26 : decode cX0_tick 26 = .ok (.istore_n 2, 1) := by decide +kernel
theorem dX0_tick_27 : decode cX0_tick 27 = .ok (.iload_n 2, 1) := by decide +kernel
theorem dX0_tick_28 : decode cX0_tick 28 = .ok (.bipush (-9), 2) := by decide +kernel
theorem dX0_tick_30 : decode cX0_tick 30 = .ok (.if_icmp .eq 9, 3) := by decide +kernel
theorem dX0_tick_33 : decode cX0_tick 33 = .ok (.aload_n 0, 1) := by decide +kernel
theorem dX0_tick_34 : decode cX0_tick 34 = .ok (.iload_n 2, 1) := by decide +kernel
theorem dX0_tick_35 : decode cX0_tick 35 = .ok (.iload_n 1, 1) := by decide +kernel
theorem dX0_tick_36 : decode cX0_tick 36 = .ok (.invokevirtual 109, 3) := by decide +kernel
theorem dX0_tick_39 : decode cX0_tick 39 = .ok (.iload_n 2, 1) := by decide +kernel
theorem dX0_tick_40 : decode cX0_tick 40 = .ok (.ireturn, 1) := by decide +kernel
theorem dX0_writeBack_0 : decode cX0_writeBack 0 = .ok (.aload_n 0, 1) := by decide +kernel
theorem dX0_writeBack_1 : decode cX0_writeBack 1 = .ok (.getfield 21, 3) := by decide +kernel
theorem dX0_writeBack_4 : decode cX0_writeBack 4 = .ok (.iload_n 1, 1) := by decide +kernel
theorem dX0_writeBack_5 : decode cX0_writeBack 5 = .ok (.iaload, 1) := by decide +kernel
theorem dX0_writeBack_6 : decode cX0_writeBack 6 = .ok (.istore_n 2, 1) := by decide +kernel
theorem dX0_writeBack_7 : decode cX0_writeBack 7 = .ok (.aload_n 0, 1) := by decide +kernel
theorem dX0_writeBack_8 : decode cX0_writeBack 8 = .ok (.iload_n 2, 1) := by decide +kernel
theorem dX0_writeBack_9 : decode cX0_writeBack 9 = .ok (.bipush 9, 2) := by decide +kernel
theorem dX0_writeBack_11 : decode cX0_writeBack 11 = .ok (.iconst 0, 1) := by decide +kernel
theorem dX0_writeBack_12 : decode cX0_writeBack 12 = .ok (.invokevirtual 95, 3) := by decide +kernel
theorem dX0_writeBack_15 : decode cX0_writeBack 15 = .ok (.aload_n 0, 1) := by decide +kernel
theorem dX0_writeBack_16 : decode cX0_writeBack 16 = .ok (.iload_n 2, 1) := by decide +kernel
theorem dX0_writeBack_17 : decode cX0_writeBack 17 = .ok (.bipush 10, 2) := by decide +kernel
theorem dX0_writeBack_19 : decode cX0_writeBack 19 = .ok (.iconst 1, 1) := by decide +kernel
theorem dX0_writeBack_20 : decode cX0_writeBack 20 = .ok (.invokevirtual 95, 3) := by decide +kernel
theorem dX0_writeBack_23 : decode cX0_writeBack 23 = .ok (.aload_n 0, 1) := by decide +kernel
theorem dX0_writeBack_24 : decode cX0_writeBack 24 = .ok (.iload_n 2, 1) := by decide +kernel
theorem dX0_writeBack_25 : decode cX0_writeBack 25 = .ok (.bipush 12, 2) := by decide +kernel
theorem dX0_writeBack_27 : decode cX0_writeBack 27 = .ok (.iconst 0, 1) := by decide +kernel
theorem dX0_writeBack_28 : decode cX0_writeBack 28 = .ok (.invokevirtual 95, 3) := by decide +kernel
theorem dX0_writeBack_31 : decode cX0_writeBack 31 = .ok (.aload_n 0, 1) := by decide +kernel
theorem dX0_writeBack_32 : decode cX0_writeBack 32 = .ok (.iload_n 2, 1) := by decide +kernel
theorem dX0_writeBack_33 : decode cX0_writeBack 33 = .ok (.bipush 8, 2) := by decide +kernel
theorem dX0_writeBack_35 : decode cX0_writeBack 35 = .ok (.invokevirtual 40, 3) := by decide +kernel
theorem dX0_writeBack_38 : decode cX0_writeBack 38 = .ok (.ifCond .ne 12, 3) := by decide +kernel
theorem dX0_writeBack_41 : decode cX0_writeBack 41 = .ok (.aload_n 0, 1) := by decide +kernel
theorem dX0_writeBack_42 : decode cX0_writeBack 42 = .ok (.iload_n 2, 1) := by decide +kernel
theorem dX0_writeBack_43 : decode cX0_writeBack 43 = .ok (.bipush 6, 2) := by decide +kernel
theorem dX0_writeBack_45 : decode cX0_writeBack 45 = .ok (.idiv, 1) := by decide +kernel
theorem dX0_writeBack_46 : decode cX0_writeBack 46 = .ok (.iconst 5, 1) := by decide +kernel
theorem dX0_writeBack_47 : decode cX0_writeBack 47 = .ok (.invokevirtual 113, 3) := by decide +kernel
theorem dX0_writeBack_50 : decode cX0_writeBack 50 = .ok (.aload_n 0, 1) := by decide +kernel
theorem dX0_writeBack_51 : decode cX0_writeBack 51 = .ok (.dup, 1) := by decide +kernel
theorem dX0_writeBack_52 : decode cX0_writeBack 52 = .ok (.getfield 24, 3) := by decide +kernel
theorem dX0_writeBack_55 : decode cX0_writeBack 55 = .ok (.iconst 1, 1) := by decide +kernel
theorem dX0_writeBack_56 : decode cX0_writeBack 56 = .ok (.isub, 1) := by decide +kernel
theorem dX0_writeBack_57 : decode cX0_writeBack 57 = .ok (.putfield 24, 3) := by decide +kernel
theorem dX0_writeBack_60 : decode cX0_writeBack 60 = .ok (.iload_n 1, 1) := by decide +kernel
theorem dX0_writeBack_61 : decode cX0_writeBack 61 = .ok (.istore_n 3, 1) := by decide +kernel
theorem dX0_writeBack_62 : decode cX0_writeBack 62 = .ok (.iload_n 3, 1) := by decide +kernel
theorem dX0_writeBack_63 : decode cX0_writeBack 63 = .ok (.aload_n 0, 1) := by decide +kernel
theorem dX0_writeBack_64 : decode cX0_writeBack 64 = .ok (.getfield 24, 3) := by decide +kernel
theorem dX0_writeBack_67 : decode cX0_writeBack 67 = .ok (.if_icmp .ge 23, 3) := by decide +kernel
theorem dX0_writeBack_70 : decode cX0_writeBack 70 = .ok (.aload_n 0, 1) := by decide +kernel
theorem dX0_writeBack_71 : decode cX0_writeBack 71 = .ok (.getfield 21, 3) := by decide +kernel
theorem dX0_writeBack_74 : decode cX0_writeBack 74 = .ok (.iload_n 3, 1) := by decide +kernel
theorem dX0_writeBack_75 : decode cX0_writeBack 75 = .ok (.aload_n 0, 1) := by decide +kernel
theorem dX0_writeBack_76 : decode cX0_writeBack 76 = .ok (.getfield 21, 3) := by decide +kernel
theorem dX0_writeBack_79 : decode cX0_writeBack 79 = .ok (.iload_n 3, 1) := by decide +kernel
theorem dX0_writeBack_80 : decode cX0_writeBack 80 = .ok (.iconst 1, 1) := by decide +kernel
theorem dX0_writeBack_81 : decode cX0_writeBack 81 = .ok (.iadd, 1) := by decide +kernel
theorem dX0_writeBack_82 : decode cX0_writeBack 82 = .ok (.iaload, 1) := by decide +kernel
theorem dX0_writeBack_83 : decode cX0_writeBack 83 = .ok (.iastore, 1) := by decide +kernel
theorem dX0_writeBack_84 : decode cX0_writeBack 84 = .ok (.iinc 3 1, 3) := by decide +kernel
theorem dX0_writeBack_87 : decode cX0_writeBack 87 = .ok (.goto (-25), 3) := by decide +kernel
theorem dX0_writeBack_90 : decode cX0_writeBack 90 = .ok (.return_, 1) := by decide +kernel
theorem dX0_nextToGrant_0 : decode cX0_nextToGrant 0 = .ok (.bipush (-9), 2) := by decide +kernel
theorem dX0_nextToGrant_2 : decode cX0_nextToGrant 2 = .ok (.istore_n 1, 1) := by decide +kernel
theorem dX0_nextToGrant_3 : decode cX0_nextToGrant 3 = .ok (.iconst 1, 1) := by decide +kernel
theorem dX0_nextToGrant_4 : decode cX0_nextToGrant 4 = .ok (.istore_n 2, 1) := by decide +kernel
theorem dX0_nextToGrant_5 : decode cX0_nextToGrant 5 = .ok (.iload_n 2, 1) := by decide +kernel
theorem dX0_nextToGrant_6 : decode cX0_nextToGrant 6 = .ok (.iconst 4, 1) := by decide +kernel
theorem dX0_nextToGrant_7 : decode cX0_nextToGrant 7 = .ok (.if_icmp .gt 49, 3) := by decide +kernel
theorem dX0_nextToGrant_10 : decode cX0_nextToGrant 10 = .ok (.aload_n 0, 1) := by decide +kernel
theorem dX0_nextToGrant_11 : decode cX0_nextToGrant 11 = .ok (.getfield 28, 3) := by decide +kernel
theorem dX0_nextToGrant_14 : decode cX0_nextToGrant 14 = .ok (.iload_n 2, 1) := by decide +kernel
theorem dX0_nextToGrant_15 : decode cX0_nextToGrant 15 = .ok (.iadd, 1) := by decide +kernel
theorem dX0_nextToGrant_16 : decode cX0_nextToGrant 16 = .ok (.iconst 4, 1) := by decide +kernel
theorem dX0_nextToGrant_17 : decode cX0_nextToGrant 17 = .ok (.irem, 1) := by decide +kernel
theorem dX0_nextToGrant_18 : decode cX0_nextToGrant 18 = .ok (.istore_n 3, 1) := by decide +kernel
theorem dX0_nextToGrant_19 : decode cX0_nextToGrant 19 = .ok (.aload_n 0, 1) := by decide +kernel
theorem dX0_nextToGrant_20 : decode cX0_nextToGrant 20 = .ok (.iload_n 3, 1) := by decide +kernel
theorem dX0_nextToGrant_21 : decode cX0_nextToGrant 21 = .ok (.invokevirtual 117, 3) := by decide +kernel
theorem dX0_nextToGrant_24 : decode cX0_nextToGrant 24 = .ok (.ifCond .eq 26, 3) := by decide +kernel
theorem dX0_nextToGrant_27 : decode cX0_nextToGrant 27 = .ok (.iload_n 1, 1) := by decide +kernel
theorem dX0_nextToGrant_28 : decode cX0_nextToGrant 28 = .ok (.bipush (-9), 2) := by decide +kernel
theorem dX0_nextToGrant_30 : decode cX0_nextToGrant 30 = .ok (.if_icmp .eq 18, 3) := by decide +kernel
theorem dX0_nextToGrant_33 : decode cX0_nextToGrant 33 = .ok (.aload_n 0, 1) := by decide +kernel
theorem dX0_nextToGrant_34 : decode cX0_nextToGrant 34 = .ok (.iload_n 3, 1) := by decide +kernel
theorem dX0_nextToGrant_35 : decode cX0_nextToGrant 35 = .ok (.iconst 1, 1) := by decide +kernel
theorem dX0_nextToGrant_36 : decode cX0_nextToGrant 36 = .ok (.invokevirtual 73, 3) := by decide +kernel
theorem dX0_nextToGrant_39 : decode cX0_nextToGrant 39 = .ok (.aload_n 0, 1) := by decide +kernel
theorem dX0_nextToGrant_40 : decode cX0_nextToGrant 40 = .ok (.iload_n 1, 1) := by decide +kernel
theorem dX0_nextToGrant_41 : decode cX0_nextToGrant 41 = .ok (.iconst 1, 1) := by decide +kernel
theorem dX0_nextToGrant_42 : decode cX0_nextToGrant 42 = .ok (.invokevirtual 73, 3) := by decide +kernel
theorem dX0_nextToGrant_45 : decode cX0_nextToGrant 45 = .ok (.if_icmp .le 5, 3) := by decide +kernel
theorem dX0_nextToGrant_48 : decode cX0_nextToGrant 48 = .ok (.iload_n 3, 1) := by decide +kernel
theorem dX0_nextToGrant_49 : decode cX0_nextToGrant 49 = .ok (.istore_n 1, 1) := by decide +kernel
theorem dX0_nextToGrant_50 : decode cX0_nextToGrant 50 = .ok (.iinc 2 1, 3) := by decide +kernel
theorem dX0_nextToGrant_53 : decode cX0_nextToGrant 53 = .ok (.goto (-48), 3) := by decide +kernel
theorem dX0_nextToGrant_56 : decode cX0_nextToGrant 56 = .ok (.iload_n 1, 1) := by decide +kernel
theorem dX0_nextToGrant_57 : decode cX0_nextToGrant 57 = .ok (.ireturn, 1) := by decide +kernel
theorem dX0_grant_0 : decode cX0_grant 0 = .ok (.aload_n 0, 1) := by decide +kernel
theorem dX0_grant_1 : decode cX0_grant 1 = .ok (.iload_n 1, 1) := by decide +kernel
theorem dX0_grant_2 : decode cX0_grant 2 = .ok (.invokevirtual 76, 3) := by decide +kernel
theorem dX0_grant_5 : decode cX0_grant 5 = .ok (.istore_n 3, 1) := by decide +kernel
theorem dX0_grant_6 : decode cX0_grant 6 = .ok (.iload_n 3, 1) := by decide +kernel
theorem dX0_grant_7 : decode cX0_grant 7 = .ok (.bipush (-9), 2) := by decide +kernel
theorem dX0_grant_9 : decode cX0_grant 9 = .ok (.if_icmp .ne 4, 3) := by decide +kernel
theorem dX0_grant_12 : decode cX0_grant 12 = .ok (.return_, 1) := by decide +kernel
theorem dX0_grant_13 : decode cX0_grant 13 = .ok (.aload_n 0, 1) := by decide +kernel
theorem dX0_grant_14 : decode cX0_grant 14 = .ok (.iload_n 1, 1) := by decide +kernel
theorem dX0_grant_15 : decode cX0_grant 15 = .ok (.putfield 28, 3) := by decide +kernel
theorem dX0_grant_18 : decode cX0_grant 18 = .ok (.aload_n 0, 1) := by decide +kernel
theorem dX0_grant_19 : decode cX0_grant 19 = .ok (.iload_n 1, 1) := by decide +kernel
theorem dX0_grant_20 : decode cX0_grant 20 = .ok (.bipush 6, 2) := by decide +kernel
theorem dX0_grant_22 : decode cX0_grant 22 = .ok (.invokevirtual 113, 3) := by decide +kernel
theorem dX0_grant_25 : decode cX0_grant 25 = .ok (.aload_n 0, 1) := by decide +kernel
theorem dX0_grant_26 : decode cX0_grant 26 = .ok (.iload_n 3, 1) := by decide +kernel
theorem dX0_grant_27 : decode cX0_grant 27 = .ok (.bipush 11, 2) := by decide +kernel
theorem dX0_grant_29 : decode cX0_grant 29 = .ok (.invokevirtual 40, 3) := by decide +kernel
theorem dX0_grant_32 : decode cX0_grant 32 = .ok (.istore 4, 2) := by decide +kernel
theorem dX0_grant_34 : decode cX0_grant 34 = .ok (.aload_n 0, 1) := by decide +kernel
theorem dX0_grant_35 : decode cX0_grant 35 = .ok (.iload_n 1, 1) := by decide +kernel
theorem dX0_grant_36 : decode cX0_grant 36 = .ok (.iconst 2, 1) := by decide +kernel
theorem dX0_grant_37 : decode cX0_grant 37 = .ok (.invokevirtual 73, 3) := by decide +kernel
theorem dX0_grant_40 : decode cX0_grant 40 = .ok (.iload 4, 2) := by decide +kernel
theorem dX0_grant_42 : decode cX0_grant 42 = .ok (.invokestatic 120, 3) := by decide +kernel
theorem dX0_grant_45 : decode cX0_grant 45 = .ok (.istore 5, 2) := by decide +kernel
theorem dX0_grant_47 : decode cX0_grant 47 = .ok (.iload_n 2, 1) := by decide +kernel
theorem dX0_grant_48 : decode cX0_grant 48 = .ok (.ifCond .eq 18, 3) := by decide +kernel
theorem dX0_grant_51 : decode cX0_grant 51 = .ok (.aload_n 0, 1) := by decide +kernel
theorem dX0_grant_52 : decode cX0_grant 52 = .ok (.iload_n 3, 1) := by decide +kernel
theorem dX0_grant_53 : decode cX0_grant 53 = .ok (.aload_n 0, 1) := by decide +kernel
theorem dX0_grant_54 : decode cX0_grant 54 = .ok (.iload_n 3, 1) := by decide +kernel
theorem dX0_grant_55 : decode cX0_grant 55 = .ok (.invokevirtual 49, 3) := by decide +kernel
theorem dX0_grant_58 : decode cX0_grant 58 = .ok (.iload 4, 2) := by decide +kernel
theorem dX0_grant_60 : decode cX0_grant 60 = .ok (.isub, 1) := by decide +kernel
theorem dX0_grant_61 : decode cX0_grant 61 = .ok (.iload 5, 2) := by decide +kernel
theorem dX0_grant_63 : decode cX0_grant 63 = .ok (.invokevirtual 123, 3) := by decide +kernel
theorem dX0_grant_66 : decode cX0_grant 66 = .ok (.aload_n 0, 1) := by decide +kernel
theorem dX0_grant_67 : decode cX0_grant 67 = .ok (.iload_n 3, 1) := by decide +kernel
theorem dX0_grant_68 : decode cX0_grant 68 = .ok (.bipush 11, 2) := by decide +kernel
theorem dX0_grant_70 : decode cX0_grant 70 = .ok (.iload 4, 2) := by decide +kernel
theorem dX0_grant_72 : decode cX0_grant 72 = .ok (.iload 5, 2) := by decide +kernel
theorem dX0_grant_74 : decode cX0_grant 74 = .ok (.isub, 1) := by decide +kernel
theorem dX0_grant_75 : decode cX0_grant 75 = .ok (.invokevirtual 95, 3) := by decide +kernel
theorem dX0_grant_78 : decode cX0_grant 78 = .ok (.iload 4, 2) := by decide +kernel
theorem dX0_grant_80 : decode cX0_grant 80 = .ok (.iload 5, 2) := by decide +kernel
theorem dX0_grant_82 : decode cX0_grant 82 = .ok (.if_icmp .ne 9, 3) := by decide +kernel
theorem dX0_grant_85 : decode cX0_grant 85 = .ok (.aload_n 0, 1) := by decide +kernel
theorem dX0_grant_86 : decode cX0_grant 86 = .ok (.iload_n 1, 1) := by decide +kernel
theorem dX0_grant_87 : decode cX0_grant 87 = .ok (.iload_n 3, 1) := by decide +kernel
theorem dX0_grant_88 : decode cX0_grant 88 = .ok (.invokevirtual 126, 3) := by decide +kernel
theorem dX0_grant_91 : decode cX0_grant 91 = .ok (.return_, 1) := by decide +kernel
theorem dX0_carry_0 : decode cX0_carry 0 = .ok (.iload_n 2, 1) := by decide +kernel
theorem dX0_carry_1 : decode cX0_carry 1 = .ok (.istore 4, 2) := by decide +kernel
theorem dX0_carry_3 : decode cX0_carry 3 = .ok (.iload 4, 2) := by decide +kernel
theorem dX0_carry_5 : decode cX0_carry 5 = .ok (.iload_n 2, 1) := by decide +kernel
theorem dX0_carry_6 : decode cX0_carry 6 = .ok (.iload_n 3, 1) := by decide +kernel
theorem dX0_carry_7 : decode cX0_carry 7 = .ok (.iadd, 1) := by decide +kernel
theorem dX0_carry_8 : decode cX0_carry 8 = .ok (.if_icmp .ge 35, 3) := by decide +kernel
theorem dX0_carry_11 : decode cX0_carry 11 = .ok (.aload_n 0, 1) := by decide +kernel
theorem dX0_carry_12 : decode cX0_carry 12 = .ok (.getfield 9, 3) := by decide +kernel
theorem dX0_carry_15 : decode cX0_carry 15 = .ok (.aload_n 0, 1) := by decide +kernel
theorem dX0_carry_16 : decode cX0_carry 16 = .ok (.iload_n 1, 1) := by decide +kernel
theorem dX0_carry_17 : decode cX0_carry 17 = .ok (.iload 4, 2) := by decide +kernel
theorem dX0_carry_19 : decode cX0_carry 19 = .ok (.iconst 1, 1) := by decide +kernel
theorem dX0_carry_20 : decode cX0_carry 20 = .ok (.invokevirtual 53, 3) := by decide +kernel
theorem dX0_carry_23 : decode cX0_carry 23 = .ok (.aload_n 0, 1) := by decide +kernel
theorem dX0_carry_24 : decode cX0_carry 24 = .ok (.getfield 9, 3) := by decide +kernel
theorem dX0_carry_27 : decode cX0_carry 27 = .ok (.aload_n 0, 1) := by decide +kernel
theorem dX0_carry_28 : decode cX0_carry 28 = .ok (.iload_n 1, 1) := by decide +kernel
theorem dX0_carry_29 : decode cX0_carry 29 = .ok (.iload 4, 2) := by decide +kernel
theorem dX0_carry_31 : decode cX0_carry 31 = .ok (.iconst 0, 1) := by decide +kernel
theorem dX0_carry_32 : decode cX0_carry 32 = .ok (.invokevirtual 53, 3) := by decide +kernel
theorem dX0_carry_35 : decode cX0_carry 35 = .ok (.iaload, 1) := by decide +kernel
theorem dX0_carry_36 : decode cX0_carry 36 = .ok (.iastore, 1) := by decide +kernel
theorem dX0_carry_37 : decode cX0_carry 37 = .ok (.iinc 4 1, 3) := by decide +kernel
theorem dX0_carry_40 : decode cX0_carry 40 = .ok (.goto (-37), 3) := by decide +kernel
theorem dX0_carry_43 : decode cX0_carry 43 = .ok (.return_, 1) := by decide +kernel
theorem dX0_letWait_0 : decode cX0_letWait 0 = .ok (.aload_n 0, 1) := by decide +kernel
theorem dX0_letWait_1 : decode cX0_letWait 1 = .ok (.iload_n 2, 1) := by decide +kernel
theorem dX0_letWait_2 : decode cX0_letWait 2 = .ok (.bipush 12, 2) := by decide +kernel
theorem dX0_letWait_4 : decode cX0_letWait 4 = .ok (.iconst 1, 1) := by decide +kernel
theorem dX0_letWait_5 : decode cX0_letWait 5 = .ok (.invokevirtual 95, 3) := by decide +kernel
theorem dX0_letWait_8 : decode cX0_letWait 8 = .ok (.aload_n 0, 1) := by decide +kernel
theorem dX0_letWait_9 : decode cX0_letWait 9 = .ok (.getfield 24, 3) := by decide +kernel
theorem dX0_letWait_12 : decode cX0_letWait 12 = .ok (.bipush 24, 2) := by decide +kernel
theorem dX0_letWait_14 : decode cX0_letWait 14 = .ok (.if_icmp .ge 23, 3) := by decide +kernel
theorem dX0_letWait_17 : decode cX0_letWait 17 = .ok (.aload_n 0, 1) := by decide +kernel
theorem dX0_letWait_18 : decode cX0_letWait 18 = .ok (.getfield 21, 3) := by decide +kernel
theorem dX0_letWait_21 : decode cX0_letWait 21 = .ok (.aload_n 0, 1) := by decide +kernel
theorem dX0_letWait_22 : decode cX0_letWait 22 = .ok (.getfield 24, 3) := by decide +kernel
theorem dX0_letWait_25 : decode cX0_letWait 25 = .ok (.iload_n 2, 1) := by decide +kernel
theorem dX0_letWait_26 : decode cX0_letWait 26 = .ok (.iastore, 1) := by decide +kernel
theorem dX0_letWait_27 : decode cX0_letWait 27 = .ok (.aload_n 0, 1) := by decide +kernel
theorem dX0_letWait_28 : decode cX0_letWait 28 = .ok (.dup, 1) := by decide +kernel
theorem dX0_letWait_29 : decode cX0_letWait 29 = .ok (.getfield 24, 3) := by decide +kernel
theorem dX0_letWait_32 : decode cX0_letWait 32 = .ok (.iconst 1, 1) := by decide +kernel
theorem dX0_letWait_33 : decode cX0_letWait 33 = .ok (.iadd, 1) := by decide +kernel
theorem dX0_letWait_34 : decode cX0_letWait 34 = .ok (.putfield 24, 3) := by decide +kernel
theorem dX0_letWait_37 : decode cX0_letWait 37 = .ok (.aload_n 0, 1) := by decide +kernel
theorem dX0_letWait_38 : decode cX0_letWait 38 = .ok (.iload_n 1, 1) := by decide +kernel
theorem dX0_letWait_39 : decode cX0_letWait 39 = .ok (.iconst 4, 1) := by decide +kernel
theorem dX0_letWait_40 : decode cX0_letWait 40 = .ok (.aload_n 0, 1) := by decide +kernel
theorem dX0_letWait_41 : decode cX0_letWait 41 = .ok (.iload_n 1, 1) := by decide +kernel
theorem dX0_letWait_42 : decode cX0_letWait 42 = .ok (.iconst 4, 1) := by decide +kernel
theorem dX0_letWait_43 : decode cX0_letWait 43 = .ok (.invokevirtual 73, 3) := by decide +kernel
theorem dX0_letWait_46 : decode cX0_letWait 46 = .ok (.invokestatic 98, 3) := by decide +kernel
theorem dX0_letWait_49 : decode cX0_letWait 49 = .ok (.invokevirtual 91, 3) := by decide +kernel
theorem dX0_letWait_52 : decode cX0_letWait 52 = .ok (.return_, 1) := by decide +kernel
theorem dX0_cancel_0 : decode cX0_cancel 0 = .ok (.aload_n 0, 1) := by decide +kernel
theorem dX0_cancel_1 : decode cX0_cancel 1 = .ok (.iload_n 1, 1) := by decide +kernel
theorem dX0_cancel_2 : decode cX0_cancel 2 = .ok (.invokevirtual 129, 3) := by decide +kernel
theorem dX0_cancel_5 : decode cX0_cancel 5 = .ok (.aload_n 0, 1) := by decide +kernel
theorem dX0_cancel_6 : decode cX0_cancel 6 = .ok (.iload_n 1, 1) := by decide +kernel
theorem dX0_cancel_7 : decode cX0_cancel 7 = .ok (.iconst 4, 1) := by decide +kernel
theorem dX0_cancel_8 : decode cX0_cancel 8 = .ok (.invokevirtual 73, 3) := by decide +kernel
theorem dX0_cancel_11 : decode cX0_cancel 11 = .ok (.istore_n 2, 1) := by decide +kernel
theorem dX0_cancel_12 : decode cX0_cancel 12 = .ok (.iconst 0, 1) := by decide +kernel
theorem dX0_cancel_13 : decode cX0_cancel 13 = .ok (.istore_n 3, 1) := by decide +kernel
theorem dX0_cancel_14 : decode cX0_cancel 14 = .ok (.iconst 1, 1) := by decide +kernel
theorem dX0_cancel_15 : decode cX0_cancel 15 = .ok (.istore 4, 2) := by decide +kernel
theorem dX0_cancel_17 : decode cX0_cancel 17 = .ok (.iconst 0, 1) := by decide +kernel
theorem dX0_cancel_18 : decode cX0_cancel 18 = .ok (.istore 5, 2) := by decide +kernel
theorem dX0_cancel_20 : decode cX0_cancel 20 = .ok (.iload 5, 2) := by decide +kernel
theorem dX0_cancel_22 : decode cX0_cancel 22 = .ok (.bipush 6, 2) := by decide +kernel
theorem dX0_cancel_24 : decode cX0_cancel 24 = .ok (.if_icmp .ge 86, 3) := by decide +kernel
theorem dX0_cancel_27 : decode cX0_cancel 27 = .ok (.iload 4, 2) := by decide +kernel
theorem dX0_cancel_29 : decode cX0_cancel 29 = .ok (.ifCond .eq 81, 3) := by decide +kernel
theorem dX0_cancel_32 : decode cX0_cancel 32 = .ok (.iload_n 1, 1) := by decide +kernel
theorem dX0_cancel_33 : decode cX0_cancel 33 = .ok (.iload_n 2, 1) := by decide +kernel
theorem dX0_cancel_34 : decode cX0_cancel 34 = .ok (.invokestatic 64, 3) := by decide +kernel
theorem dX0_cancel_37 : decode cX0_cancel 37 = .ok (.istore 6, 2) := by decide +kernel
theorem dX0_cancel_39 : decode cX0_cancel 39 = .ok (.iload_n 3, 1) := by decide +kernel
theorem dX0_cancel_40 : decode cX0_cancel 40 = .ok (.aload_n 0, 1) := by decide +kernel
theorem dX0_cancel_41 : decode cX0_cancel 41 = .ok (.iload 6, 2) := by decide +kernel
theorem dX0_cancel_43 : decode cX0_cancel 43 = .ok (.bipush 11, 2) := by decide +kernel
theorem dX0_cancel_45 : decode cX0_cancel 45 = .ok (.invokevirtual 40, 3) := by decide +kernel
theorem dX0_cancel_48 : decode cX0_cancel 48 = .ok (.iadd, 1) := by decide +kernel
theorem dX0_cancel_49 : decode cX0_cancel 49 = .ok (.istore_n 3, 1) := by decide +kernel
theorem dX0_cancel_50 : decode cX0_cancel 50 = .ok (.aload_n 0, 1) := by decide +kernel
theorem dX0_cancel_51 : decode cX0_cancel 51 = .ok (.iload 6, 2) := by decide +kernel
theorem dX0_cancel_53 : decode cX0_cancel 53 = .ok (.bipush 9, 2) := by decide +kernel
theorem dX0_cancel_55 : decode cX0_cancel 55 = .ok (.iconst 0, 1) := by decide +kernel
theorem dX0_cancel_56 : decode cX0_cancel 56 = .ok (.invokevirtual 95, 3) := by decide +kernel
theorem dX0_cancel_59 : decode cX0_cancel 59 = .ok (.aload_n 0, 1) := by decide +kernel
theorem dX0_cancel_60 : decode cX0_cancel 60 = .ok (.iload 6, 2) := by decide +kernel
theorem dX0_cancel_62 : decode cX0_cancel 62 = .ok (.bipush 10, 2) := by decide +kernel
theorem dX0_cancel_64 : decode cX0_cancel 64 = .ok (.iconst 2, 1) := by decide +kernel
theorem dX0_cancel_65 : decode cX0_cancel 65 = .ok (.invokevirtual 95, 3) := by decide +kernel
theorem dX0_cancel_68 : decode cX0_cancel 68 = .ok (.iload_n 2, 1) := by decide +kernel
theorem dX0_cancel_69 : decode cX0_cancel 69 = .ok (.invokestatic 98, 3) := by decide +kernel
theorem dX0_cancel_72 : decode cX0_cancel 72 = .ok (.istore_n 2, 1) := by decide +kernel
theorem dX0_cancel_73 : decode cX0_cancel 73 = .ok (.aload_n 0, 1) := by decide +kernel
theorem dX0_cancel_74 : decode cX0_cancel 74 = .ok (.iload 6, 2) := by decide +kernel
theorem dX0_cancel_76 : decode cX0_cancel 76 = .ok (.bipush 8, 2) := by decide +kernel
theorem dX0_cancel_78 : decode cX0_cancel 78 = .ok (.invokevirtual 40, 3) := by decide +kernel
theorem dX0_cancel_81 : decode cX0_cancel 81 = .ok (.iconst 1, 1) := by decide +kernel
theorem dX0_cancel_82 : decode cX0_cancel 82 = .ok (.if_icmp .ne 19, 3) := by decide +kernel
theorem dX0_cancel_85 : decode cX0_cancel 85 = .ok (.aload_n 0, 1) := by decide +kernel
theorem dX0_cancel_86 : decode cX0_cancel 86 = .ok (.iload_n 1, 1) := by decide +kernel
theorem dX0_cancel_87 : decode cX0_cancel 87 = .ok (.iload_n 2, 1) := by decide +kernel
theorem dX0_cancel_88 : decode cX0_cancel 88 = .ok (.invokestatic 64, 3) := by decide +kernel
theorem dX0_cancel_91 : decode cX0_cancel 91 = .ok (.invokevirtual 67, 3) := by decide +kernel
theorem dX0_cancel_94 : decode cX0_cancel 94 = .ok (.ifCond .eq 7, 3) := by decide +kernel
theorem dX0_cancel_97 : decode cX0_cancel 97 = .ok (.iconst 1, 1) := by decide +kernel
theorem dX0_cancel_98 : decode cX0_cancel 98 = .ok (.goto 4, 3) := by decide +kernel
theorem dX0_cancel_101 : decode cX0_cancel 101 = .ok (.iconst 0, 1) := by decide +kernel
theorem dX0_cancel_102 : decode cX0_cancel 102 = .ok (.istore 4, 2) := by decide +kernel
theorem dX0_cancel_104 : decode cX0_cancel 104 = .ok (.iinc 5 1, 3) := by decide +kernel
theorem dX0_cancel_107 : decode cX0_cancel 107 = .ok (.goto (-87), 3) := by decide +kernel
theorem dX0_cancel_110 : decode cX0_cancel 110 = .ok (.aload_n 0, 1) := by decide +kernel
theorem dX0_cancel_111 : decode cX0_cancel 111 = .ok (.iload_n 1, 1) := by decide +kernel
theorem dX0_cancel_112 : decode cX0_cancel 112 = .ok (.iconst 4, 1) := by decide +kernel
theorem dX0_cancel_113 : decode cX0_cancel 113 = .ok (.iload_n 2, 1) := by decide +kernel
theorem dX0_cancel_114 : decode cX0_cancel 114 = .ok (.invokevirtual 91, 3) := by decide +kernel
theorem dX0_cancel_117 : decode cX0_cancel 117 = .ok (.iload_n 3, 1) := by decide +kernel
theorem dX0_cancel_118 : decode cX0_cancel 118 = .ok (.ireturn, 1) := by decide +kernel
theorem dX0_writeBackAllOf_0 : decode cX0_writeBackAllOf 0 = .ok (.iconst 0, 1) := by decide +kernel
theorem dX0_writeBackAllOf_1 : decode cX0_writeBackAllOf 1 = .ok (.istore_n 2, 1) := by decide +kernel
theorem dX0_writeBackAllOf_2 : decode cX0_writeBackAllOf 2 = .ok (.aload_n 0, 1) := by decide +kernel
theorem dX0_writeBackAllOf_3 : decode cX0_writeBackAllOf 3 = .ok (.getfield 24, 3) := by decide +kernel
theorem dX0_writeBackAllOf_6 : decode cX0_writeBackAllOf 6 = .ok (.istore_n 3, 1) := by decide +kernel
theorem dX0_writeBackAllOf_7 : decode cX0_writeBackAllOf 7 = .ok (.iload_n 3, 1) := by decide +kernel
theorem dX0_writeBackAllOf_8 : decode cX0_writeBackAllOf 8 = .ok (.ifCond .le 33, 3) := by decide +kernel
theorem dX0_writeBackAllOf_11 : decode cX0_writeBackAllOf 11 = .ok (.aload_n 0, 1) := by decide +kernel
theorem dX0_writeBackAllOf_12 : decode cX0_writeBackAllOf 12 = .ok (.getfield 21, 3) := by decide +kernel
theorem dX0_writeBackAllOf_15 : decode cX0_writeBackAllOf 15 = .ok (.iload_n 2, 1) := by decide +kernel
theorem dX0_writeBackAllOf_16 : decode cX0_writeBackAllOf 16 = .ok (.iaload, 1) := by decide +kernel
theorem dX0_writeBackAllOf_17 : decode cX0_writeBackAllOf 17 = .ok (.bipush 6, 2) := by decide +kernel
theorem dX0_writeBackAllOf_19 : decode cX0_writeBackAllOf 19 = .ok (.idiv, 1) := by decide +kernel
theorem dX0_writeBackAllOf_20 : decode cX0_writeBackAllOf 20 = .ok (.iload_n 1, 1) := by decide +kernel
theorem dX0_writeBackAllOf_21 : decode cX0_writeBackAllOf 21 = .ok (.if_icmp .ne 11, 3) := by decide +kernel
theorem dX0_writeBackAllOf_24 : decode cX0_writeBackAllOf 24 = .ok (.aload_n 0, 1) := by decide +kernel
theorem dX0_writeBackAllOf_25 : decode cX0_writeBackAllOf 25 = .ok (.iload_n 2, 1) := by decide +kernel
theorem dX0_writeBackAllOf_26 : decode cX0_writeBackAllOf 26 = .ok (.invokevirtual 101, 3) := by decide +kernel
theorem dX0_writeBackAllOf_29 : decode cX0_writeBackAllOf 29 = .ok (.goto 6, 3) := by decide +kernel
theorem dX0_writeBackAllOf_32 : decode cX0_writeBackAllOf 32 = .ok (.iinc 2 1, 3) := by decide +kernel
theorem dX0_writeBackAllOf_35 : decode cX0_writeBackAllOf 35 = .ok (.iinc 3 (-1), 3) := by decide +kernel
theorem dX0_writeBackAllOf_38 : decode cX0_writeBackAllOf 38 = .ok (.goto (-31), 3) := by decide +kernel
theorem dX0_writeBackAllOf_41 : decode cX0_writeBackAllOf 41 = .ok (.return_, 1) := by decide +kernel
theorem dX1_init_0 : decode cX1_init 0 = .ok (.aload_n 0, 1) := by decide +kernel
theorem dX1_init_1 : decode cX1_init 1 = .ok (.invokespecial 1, 3) := by decide +kernel
theorem dX1_init_4 : decode cX1_init 4 = .ok (.aload_n 0, 1) := by decide +kernel
theorem dX1_init_5 : decode cX1_init 5 = .ok (.bipush 6, 2) := by decide +kernel
theorem dX1_init_7 : decode cX1_init 7 = .ok (.anewarray 9, 3) := by decide +kernel
theorem dX1_init_10 : decode cX1_init 10 = .ok (.putfield 11, 3) := by decide +kernel
theorem dX1_init_13 : decode cX1_init 13 = .ok (.iconst 0, 1) := by decide +kernel
theorem dX1_init_14 : decode cX1_init 14 = .ok (.istore_n 1, 1) := by decide +kernel
theorem dX1_init_15 : decode cX1_init 15 = .ok (.iload_n 1, 1) := by decide +kernel
theorem dX1_init_16 : decode cX1_init 16 = .ok (.bipush 6, 2) := by decide +kernel
theorem dX1_init_18 : decode cX1_init 18 = .ok (.if_icmp .ge 22, 3) := by decide +kernel
theorem dX1_init_21 : decode cX1_init 21 = .ok (.aload_n 0, 1) := by decide +kernel
theorem dX1_init_22 : decode cX1_init 22 = .ok (.getfield 11, 3) := by decide +kernel
theorem dX1_init_25 : decode cX1_init 25 = .ok (.iload_n 1, 1) := by decide +kernel
theorem dX1_init_26 : decode cX1_init 26 = .ok (.new 9, 3) := by decide +kernel
theorem dX1_init_29 : decode cX1_init 29 = .ok (.dup, 1) := by decide +kernel
theorem dX1_init_30 : decode cX1_init 30 = .ok (.invokespecial 15, 3) := by decide +kernel
theorem dX1_init_33 : decode cX1_init 33 = .ok (.aastore, 1) := by decide +kernel
theorem dX1_init_34 : decode cX1_init 34 = .ok (.iinc 1 1, 3) := by decide +kernel
theorem dX1_init_37 : decode cX1_init 37 = .ok (.goto (-22), 3) := by decide +kernel
theorem dX1_init_40 : decode cX1_init 40 = .ok (.aload_n 0, 1) := by decide +kernel
theorem dX1_init_41 : decode cX1_init 41 = .ok (.iconst 5, 1) := by decide +kernel
theorem dX1_init_42 : decode cX1_init 42 = .ok (.putfield 16, 3) := by decide +kernel
theorem dX1_init_45 : decode cX1_init 45 = .ok (.aload_n 0, 1) := by decide +kernel
theorem dX1_init_46 : decode cX1_init 46 = .ok (.iconst 0, 1) := by decide +kernel
theorem dX1_init_47 : decode cX1_init 47 = .ok (.putfield 20, 3) := by decide +kernel
theorem dX1_init_50 : decode cX1_init 50 = .ok (.return_, 1) := by decide +kernel
theorem dX1_remember_0 : decode cX1_remember 0 = .ok (.aload_n 0, 1) := by decide +kernel
theorem dX1_remember_1 : decode cX1_remember 1 = .ok (.aload_n 0, 1) := by decide +kernel
theorem dX1_remember_2 : decode cX1_remember 2 = .ok (.getfield 16, 3) := by decide +kernel
theorem dX1_remember_5 : decode cX1_remember 5 = .ok (.iconst 5, 1) := by decide +kernel
theorem dX1_remember_6 : decode cX1_remember 6 = .ok (.if_icmp .lt 7, 3) := by decide +kernel
theorem dX1_remember_9 : decode cX1_remember 9 = .ok (.iconst 0, 1) := by decide +kernel
theorem dX1_remember_10 : decode cX1_remember 10 = .ok (.goto 9, 3) := by decide +kernel
theorem dX1_remember_13 : decode cX1_remember 13 = .ok (.aload_n 0, 1) := by decide +kernel
theorem dX1_remember_14 : decode cX1_remember 14 = .ok (.getfield 16, 3) := by decide +kernel
theorem dX1_remember_17 : decode cX1_remember 17 = .ok (.iconst 1, 1) := by decide +kernel
theorem dX1_remember_18 : decode cX1_remember 18 = .ok (.iadd, 1) := by decide +kernel
theorem dX1_remember_19 : decode cX1_remember 19 = .ok (.putfield 16, 3) := by decide +kernel
theorem dX1_remember_22 : decode cX1_remember 22 = .ok (.aload_n 0, 1) := by decide +kernel
theorem dX1_remember_23 : decode cX1_remember 23 = .ok (.getfield 11, 3) := by decide +kernel
theorem dX1_remember_26 : decode cX1_remember 26 = .ok (.aload_n 0, 1) := by decide +kernel
theorem dX1_remember_27 : decode cX1_remember 27 = .ok (.getfield 16, 3) := by decide +kernel
theorem dX1_remember_30 : decode cX1_remember 30 = .ok (.aaload, 1) := by decide +kernel
theorem dX1_remember_31 : decode cX1_remember 31 = .ok (.aload_n 1, 1) := by decide +kernel
theorem dX1_remember_32 : decode cX1_remember 32 = .ok (.invokevirtual 23, 3) := by decide +kernel
theorem dX1_remember_35 : decode cX1_remember 35 = .ok (.aload_n 0, 1) := by decide +kernel
theorem dX1_remember_36 : decode cX1_remember 36 = .ok (.aload_n 0, 1) := by decide +kernel
theorem dX1_remember_37 : decode cX1_remember 37 = .ok (.getfield 20, 3) := by decide +kernel
theorem dX1_remember_40 : decode cX1_remember 40 = .ok (.iconst 1, 1) := by decide +kernel
theorem dX1_remember_41 : decode cX1_remember 41 = .ok (.iadd, 1) := by decide +kernel
theorem dX1_remember_42 : decode cX1_remember 42 = .ok (.bipush 6, 2) := by decide +kernel
theorem dX1_remember_44 : decode cX1_remember 44 = .ok (.invokestatic 27, 3) := by decide +kernel
theorem dX1_remember_47 : decode cX1_remember 47 = .ok (.putfield 20, 3) := by decide +kernel
theorem dX1_remember_50 : decode cX1_remember 50 = .ok (.return_, 1) := by decide +kernel
theorem dX1_restore_0 : decode cX1_restore 0 = .ok (.aload_n 0, 1) := by decide +kernel
theorem dX1_restore_1 : decode cX1_restore 1 = .ok (.getfield 20, 3) := by decide +kernel
theorem dX1_restore_4 : decode cX1_restore 4 = .ok (.ifCond .ne 5, 3) := by decide +kernel
theorem dX1_restore_7 : decode cX1_restore 7 = .ok (.iconst 0, 1) := by decide +kernel
theorem dX1_restore_8 : decode cX1_restore 8 = .ok (.ireturn, 1) := by decide +kernel
theorem dX1_restore_9 : decode cX1_restore 9 = .ok (.aload_n 1, 1) := by decide +kernel
theorem dX1_restore_10 : decode cX1_restore 10 = .ok (.aload_n 0, 1) := by decide +kernel
theorem dX1_restore_11 : decode cX1_restore 11 = .ok (.getfield 11, 3) := by decide +kernel
theorem dX1_restore_14 : decode cX1_restore 14 = .ok (.aload_n 0, 1) := by decide +kernel
theorem dX1_restore_15 : decode cX1_restore 15 = .ok (.getfield 16, 3) := by decide +kernel
theorem dX1_restore_18 : decode cX1_restore 18 = .ok (.aaload, 1) := by decide +kernel
theorem dX1_restore_19 : decode cX1_restore 19 = .ok (.invokevirtual 23, 3) := by decide +kernel
theorem dX1_restore_22 : decode cX1_restore 22 = .ok (.aload_n 0, 1) := by decide +kernel
theorem dX1_restore_23 : decode cX1_restore 23 = .ok (.aload_n 0, 1) := by decide +kernel
theorem dX1_restore_24 : decode cX1_restore 24 = .ok (.getfield 16, 3) := by decide +kernel
theorem dX1_restore_27 : decode cX1_restore 27 = .ok (.ifCond .gt 7, 3) := by decide +kernel
theorem dX1_restore_30 : decode cX1_restore 30 = .ok (.iconst 5, 1) := by decide +kernel
theorem dX1_restore_31 : decode cX1_restore 31 = .ok (.goto 9, 3) := by decide +kernel
theorem dX1_restore_34 : decode cX1_restore 34 = .ok (.aload_n 0, 1) := by decide +kernel
theorem dX1_restore_35 : decode cX1_restore 35 = .ok (.getfield 16, 3) := by decide +kernel
theorem dX1_restore_38 : decode cX1_restore 38 = .ok (.iconst 1, 1) := by decide +kernel
theorem dX1_restore_39 : decode cX1_restore 39 = .ok (.isub, 1) := by decide +kernel
theorem dX1_restore_40 : decode cX1_restore 40 = .ok (.putfield 16, 3) := by decide +kernel
theorem dX1_restore_43 : decode cX1_restore 43 = .ok (.aload_n 0, 1) := by decide +kernel
theorem dX1_restore_44 : decode cX1_restore 44 = .ok (.dup, 1) := by decide +kernel
theorem dX1_restore_45 : decode cX1_restore 45 = .ok (.getfield 20, 3) := by decide +kernel
theorem dX1_restore_48 : decode cX1_restore 48 = .ok (.iconst 1, 1) := by decide +kernel
theorem dX1_restore_49 : decode cX1_restore 49 = .ok (.isub, 1) := by decide +kernel
theorem dX1_restore_50 : decode cX1_restore 50 = .ok (.putfield 20, 3) := by decide +kernel
theorem dX1_restore_53 : decode cX1_restore 53 = .ok (.iconst 1, 1) := by decide +kernel
theorem dX1_restore_54 : decode cX1_restore 54 = .ok (.ireturn, 1) := by decide +kernel
theorem dX1_lose_0 : decode cX1_lose 0 = .ok (.aload_n 0, 1) := by decide +kernel
theorem dX1_lose_1 : decode cX1_lose 1 = .ok (.iconst 0, 1) := by decide +kernel
theorem dX1_lose_2 : decode cX1_lose 2 = .ok (.putfield 20, 3) := by decide +kernel
theorem dX1_lose_5 : decode cX1_lose 5 = .ok (.return_, 1) := by decide +kernel
theorem dX2_init_0 : decode cX2_init 0 = .ok (.aload_n 0, 1) := by decide +kernel
theorem dX2_init_1 : decode cX2_init 1 = .ok (.invokespecial 1, 3) := by decide +kernel
theorem dX2_init_4 : decode cX2_init 4 = .ok (.aload_n 0, 1) := by decide +kernel
theorem dX2_init_5 : decode cX2_init 5 = .ok (.bipush 6, 2) := by decide +kernel
theorem dX2_init_7 : decode cX2_init 7 = .ok (.newarray .int, 2) := by decide +kernel
theorem dX2_init_9 : decode cX2_init 9 = .ok (.putfield 9, 3) := by decide +kernel
theorem dX2_init_12 : decode cX2_init 12 = .ok (.aload_n 0, 1) := by decide +kernel
theorem dX2_init_13 : decode cX2_init 13 = .ok (.bipush 6, 2) := by decide +kernel
theorem dX2_init_15 : decode cX2_init 15 = .ok (.newarray .int, 2) := by decide +kernel
theorem dX2_init_17 : decode cX2_init 17 = .ok (.putfield 13, 3) := by decide +kernel
theorem dX2_init_20 : decode cX2_init 20 = .ok (.aload_n 0, 1) := by decide +kernel
theorem dX2_init_21 : decode cX2_init 21 = .ok (.iconst 0, 1) := by decide +kernel
theorem dX2_init_22 : decode cX2_init 22 = .ok (.putfield 16, 3) := by decide +kernel
theorem dX2_init_25 : decode cX2_init 25 = .ok (.return_, 1) := by decide +kernel
theorem dX2_note_0 : decode cX2_note 0 = .ok (.aload_n 0, 1) := by decide +kernel
theorem dX2_note_1 : decode cX2_note 1 = .ok (.getfield 16, 3) := by decide +kernel
theorem dX2_note_4 : decode cX2_note 4 = .ok (.bipush 6, 2) := by decide +kernel
theorem dX2_note_6 : decode cX2_note 6 = .ok (.if_icmp .lt 5, 3) := by decide +kernel
theorem dX2_note_9 : decode cX2_note 9 = .ok (.iconst 0, 1) := by decide +kernel
theorem dX2_note_10 : decode cX2_note 10 = .ok (.ireturn, 1) := by decide +kernel
theorem dX2_note_11 : decode cX2_note 11 = .ok (.aload_n 0, 1) := by decide +kernel
theorem dX2_note_12 : decode cX2_note 12 = .ok (.getfield 9, 3) := by decide +kernel
theorem dX2_note_15 : decode cX2_note 15 = .ok (.aload_n 0, 1) := by decide +kernel
theorem dX2_note_16 : decode cX2_note 16 = .ok (.getfield 16, 3) := by decide +kernel
theorem dX2_note_19 : decode cX2_note 19 = .ok (.iload_n 1, 1) := by decide +kernel
theorem dX2_note_20 : decode cX2_note 20 = .ok (.iastore, 1) := by decide +kernel
theorem dX2_note_21 : decode cX2_note 21 = .ok (.aload_n 0, 1) := by decide +kernel
theorem dX2_note_22 : decode cX2_note 22 = .ok (.getfield 13, 3) := by decide +kernel
theorem dX2_note_25 : decode cX2_note 25 = .ok (.aload_n 0, 1) := by decide +kernel
theorem dX2_note_26 : decode cX2_note 26 = .ok (.getfield 16, 3) := by decide +kernel
theorem dX2_note_29 : decode cX2_note 29 = .ok (.iload_n 2, 1) := by decide +kernel
theorem dX2_note_30 : decode cX2_note 30 = .ok (.iastore, 1) := by decide +kernel
theorem dX2_note_31 : decode cX2_note 31 = .ok (.aload_n 0, 1) := by decide +kernel
theorem dX2_note_32 : decode cX2_note 32 = .ok (.dup, 1) := by decide +kernel
theorem dX2_note_33 : decode cX2_note 33 = .ok (.getfield 16, 3) := by decide +kernel
theorem dX2_note_36 : decode cX2_note 36 = .ok (.iconst 1, 1) := by decide +kernel
theorem dX2_note_37 : decode cX2_note 37 = .ok (.iadd, 1) := by decide +kernel
theorem dX2_note_38 : decode cX2_note 38 = .ok (.putfield 16, 3) := by decide +kernel
theorem dX2_note_41 : decode cX2_note 41 = .ok (.iconst 1, 1) := by decide +kernel
theorem dX2_note_42 : decode cX2_note 42 = .ok (.ireturn, 1) := by decide +kernel
theorem dX2_drop_0 : decode cX2_drop 0 = .ok (.aload_n 0, 1) := by decide +kernel
theorem dX2_drop_1 : decode cX2_drop 1 = .ok (.iconst 0, 1) := by decide +kernel
theorem dX2_drop_2 : decode cX2_drop 2 = .ok (.putfield 16, 3) := by decide +kernel
theorem dX2_drop_5 : decode cX2_drop 5 = .ok (.return_, 1) := by decide +kernel
theorem dX2_comeTrue_0 : decode cX2_comeTrue 0 = .ok (.aload_n 0, 1) := by decide +kernel
theorem dX2_comeTrue_1 : decode cX2_comeTrue 1 = .ok (.invokevirtual 20, 3) := by decide +kernel
theorem dX2_comeTrue_4 : decode cX2_comeTrue 4 = .ok (.istore_n 2, 1) := by decide +kernel
theorem dX2_comeTrue_5 : decode cX2_comeTrue 5 = .ok (.iconst 1, 1) := by decide +kernel
theorem dX2_comeTrue_6 : decode cX2_comeTrue 6 = .ok (.istore_n 3, 1) := by decide +kernel
theorem dX2_comeTrue_7 : decode cX2_comeTrue 7 = .ok (.iload_n 3, 1) := by decide +kernel
theorem dX2_comeTrue_8 : decode cX2_comeTrue 8 = .ok (.iload_n 2, 1) := by decide +kernel
theorem dX2_comeTrue_9 : decode cX2_comeTrue 9 = .ok (.if_icmp .gt 24, 3) := by decide +kernel
theorem dX2_comeTrue_12 : decode cX2_comeTrue 12 = .ok (.aload_n 0, 1) := by decide +kernel
theorem dX2_comeTrue_13 : decode cX2_comeTrue 13 = .ok (.iload_n 3, 1) := by decide +kernel
theorem dX2_comeTrue_14 : decode cX2_comeTrue 14 = .ok (.aload_n 1, 1) := by decide +kernel
theorem dX2_comeTrue_15 : decode cX2_comeTrue 15 = .ok (.iconst 0, 1) := by decide +kernel
theorem dX2_comeTrue_16 : decode cX2_comeTrue 16 = .ok (.invokevirtual 24, 3) := by decide +kernel
theorem dX2_comeTrue_19 : decode cX2_comeTrue 19 = .ok (.invokevirtual 30, 3) := by decide +kernel
theorem dX2_comeTrue_22 : decode cX2_comeTrue 22 = .ok (.ifCond .ne 5, 3) := by decide +kernel
theorem dX2_comeTrue_25 : decode cX2_comeTrue 25 = .ok (.iconst 0, 1) := by decide +kernel
theorem dX2_comeTrue_26 : decode cX2_comeTrue 26 = .ok (.ireturn, 1) := by decide +kernel
theorem dX2_comeTrue_27 : decode cX2_comeTrue 27 = .ok (.iinc 3 1, 3) := by decide +kernel
theorem dX2_comeTrue_30 : decode cX2_comeTrue 30 = .ok (.goto (-23), 3) := by decide +kernel
theorem dX2_comeTrue_33 : decode cX2_comeTrue 33 = .ok (.iconst 1, 1) := by decide +kernel
theorem dX2_comeTrue_34 : decode cX2_comeTrue 34 = .ok (.ireturn, 1) := by decide +kernel
theorem dX2_lastTick_0 : decode cX2_lastTick 0 = .ok (.iconst 0, 1) := by decide +kernel
theorem dX2_lastTick_1 : decode cX2_lastTick 1 = .ok (.istore_n 1, 1) := by decide +kernel
theorem dX2_lastTick_2 : decode cX2_lastTick 2 = .ok (.iconst 0, 1) := by decide +kernel
theorem dX2_lastTick_3 : decode cX2_lastTick 3 = .ok (.istore_n 2, 1) := by decide +kernel
theorem dX2_lastTick_4 : decode cX2_lastTick 4 = .ok (.iload_n 2, 1) := by decide +kernel
theorem dX2_lastTick_5 : decode cX2_lastTick 5 = .ok (.aload_n 0, 1) := by decide +kernel
theorem dX2_lastTick_6 : decode cX2_lastTick 6 = .ok (.getfield 16, 3) := by decide +kernel
theorem dX2_lastTick_9 : decode cX2_lastTick 9 = .ok (.if_icmp .ge 20, 3) := by decide +kernel
theorem dX2_lastTick_12 : decode cX2_lastTick 12 = .ok (.iload_n 1, 1) := by decide +kernel
theorem dX2_lastTick_13 : decode cX2_lastTick 13 = .ok (.aload_n 0, 1) := by decide +kernel
theorem dX2_lastTick_14 : decode cX2_lastTick 14 = .ok (.getfield 9, 3) := by decide +kernel
theorem dX2_lastTick_17 : decode cX2_lastTick 17 = .ok (.iload_n 2, 1) := by decide +kernel
theorem dX2_lastTick_18 : decode cX2_lastTick 18 = .ok (.iaload, 1) := by decide +kernel
theorem dX2_lastTick_19 : decode cX2_lastTick 19 = .ok (.invokestatic 34, 3) := by decide +kernel
theorem dX2_lastTick_22 : decode cX2_lastTick 22 = .ok (.istore_n 1, 1) := by decide +kernel
theorem dX2_lastTick_23 : decode cX2_lastTick 23 = .ok (.iinc 2 1, 3) := by decide +kernel
theorem dX2_lastTick_26 : decode cX2_lastTick 26 = .ok (.goto (-22), 3) := by decide +kernel
theorem dX2_lastTick_29 : decode cX2_lastTick 29 = .ok (.iload_n 1, 1) := by decide +kernel
theorem dX2_lastTick_30 : decode cX2_lastTick 30 = .ok (.ireturn, 1) := by decide +kernel
theorem dX2_allowsInTick_0 : decode cX2_allowsInTick 0 = .ok (.iconst 0, 1) := by decide +kernel
theorem dX2_allowsInTick_1 : decode cX2_allowsInTick 1 = .ok (.istore_n 3, 1) := by decide +kernel
theorem dX2_allowsInTick_2 : decode cX2_allowsInTick 2 = .ok (.iload_n 3, 1) := by decide +kernel
theorem dX2_allowsInTick_3 : decode cX2_allowsInTick 3 = .ok (.aload_n 0, 1) := by decide +kernel
theorem dX2_allowsInTick_4 : decode cX2_allowsInTick 4 = .ok (.getfield 16, 3) := by decide +kernel
theorem dX2_allowsInTick_7 : decode cX2_allowsInTick 7 = .ok (.if_icmp .ge 31, 3) := by decide +kernel
theorem dX2_allowsInTick_10 : decode cX2_allowsInTick 10 = .ok (.aload_n 0, 1) := by decide +kernel
theorem dX2_allowsInTick_11 : decode cX2_allowsInTick 11 = .ok (.getfield 9, 3) := by decide +kernel
theorem dX2_allowsInTick_14 : decode cX2_allowsInTick 14 = .ok (.iload_n 3, 1) := by decide +kernel
theorem dX2_allowsInTick_15 : decode cX2_allowsInTick 15 = .ok (.iaload, 1) := by decide +kernel
theorem dX2_allowsInTick_16 : decode cX2_allowsInTick 16 = .ok (.iload_n 1, 1) := by decide +kernel
theorem dX2_allowsInTick_17 : decode cX2_allowsInTick 17 = .ok (.if_icmp .ne 15, 3) := by decide +kernel
theorem dX2_allowsInTick_20 : decode cX2_allowsInTick 20 = .ok (.aload_n 0, 1) := by decide +kernel
theorem dX2_allowsInTick_21 : decode cX2_allowsInTick 21 = .ok (.getfield 13, 3) := by decide +kernel
theorem dX2_allowsInTick_24 : decode cX2_allowsInTick 24 = .ok (.iload_n 3, 1) := by decide +kernel
theorem dX2_allowsInTick_25 : decode cX2_allowsInTick 25 = .ok (.iaload, 1) := by decide +kernel
theorem dX2_allowsInTick_26 : decode cX2_allowsInTick 26 = .ok (.iload_n 2, 1) := by decide +kernel
theorem dX2_allowsInTick_27 : decode cX2_allowsInTick 27 = .ok (.if_icmp .eq 5, 3) := by decide +kernel
theorem dX2_allowsInTick_30 : decode cX2_allowsInTick 30 = .ok (.iconst 0, 1) := by decide +kernel
theorem dX2_allowsInTick_31 : decode cX2_allowsInTick 31 = .ok (.ireturn, 1) := by decide +kernel
theorem dX2_allowsInTick_32 : decode cX2_allowsInTick 32 = .ok (.iinc 3 1, 3) := by decide +kernel
theorem dX2_allowsInTick_35 : decode cX2_allowsInTick 35 = .ok (.goto (-33), 3) := by decide +kernel
theorem dX2_allowsInTick_38 : decode cX2_allowsInTick 38 = .ok (.iconst 1, 1) := by decide +kernel
theorem dX2_allowsInTick_39 : decode cX2_allowsInTick 39 = .ok (.ireturn, 1) := by decide +kernel
theorem dJ13_bitCount_95d88_0 : decode cJ13_bitCount_95d88 0 = .ok (.lload_n 0, 1) := by decide +kernel
theorem dJ13_bitCount_95d88_1 : decode cJ13_bitCount_95d88 1 = .ok (.lload_n 0, 1) := by decide +kernel
theorem dJ13_bitCount_95d88_2 : decode cJ13_bitCount_95d88 2 = .ok (.iconst 1, 1) := by decide +kernel
theorem dJ13_bitCount_95d88_3 : decode cJ13_bitCount_95d88 3 = .ok (.lushr, 1) := by decide +kernel
theorem dJ13_bitCount_95d88_4 : decode cJ13_bitCount_95d88 4 = .ok (.ldc2_w 314, 3) := by decide +kernel
theorem dJ13_bitCount_95d88_7 : decode cJ13_bitCount_95d88 7 = .ok (.land, 1) := by decide +kernel
theorem dJ13_bitCount_95d88_8 : decode cJ13_bitCount_95d88 8 = .ok (.lsub, 1) := by decide +kernel
theorem dJ13_bitCount_95d88_9 : decode cJ13_bitCount_95d88 9 = .ok (.lstore_n 0, 1) := by decide +kernel
theorem dJ13_bitCount_95d88_10 : decode cJ13_bitCount_95d88 10 = .ok (.lload_n 0, 1) := by decide +kernel
theorem dJ13_bitCount_95d88_11 : decode cJ13_bitCount_95d88 11 = .ok (.ldc2_w 316, 3) := by decide +kernel
theorem dJ13_bitCount_95d88_14 : decode cJ13_bitCount_95d88 14 = .ok (.land, 1) := by decide +kernel
theorem dJ13_bitCount_95d88_15 : decode cJ13_bitCount_95d88 15 = .ok (.lload_n 0, 1) := by decide +kernel
theorem dJ13_bitCount_95d88_16 : decode cJ13_bitCount_95d88 16 = .ok (.iconst 2, 1) := by decide +kernel
theorem dJ13_bitCount_95d88_17 : decode cJ13_bitCount_95d88 17 = .ok (.lushr, 1) := by decide +kernel
theorem dJ13_bitCount_95d88_18 : decode cJ13_bitCount_95d88 18 = .ok (.ldc2_w 316, 3) := by decide +kernel
theorem dJ13_bitCount_95d88_21 : decode cJ13_bitCount_95d88 21 = .ok (.land, 1) := by decide +kernel
theorem dJ13_bitCount_95d88_22 : decode cJ13_bitCount_95d88 22 = .ok (.ladd, 1) := by decide +kernel
theorem dJ13_bitCount_95d88_23 : decode cJ13_bitCount_95d88 23 = .ok (.lstore_n 0, 1) := by decide +kernel
theorem dJ13_bitCount_95d88_24 : decode cJ13_bitCount_95d88 24 = .ok (.lload_n 0, 1) := by decide +kernel
theorem dJ13_bitCount_95d88_25 : decode cJ13_bitCount_95d88 25 = .ok (.lload_n 0, 1) := by decide +kernel
theorem dJ13_bitCount_95d88_26 : decode cJ13_bitCount_95d88 26 = .ok (.iconst 4, 1) := by decide +kernel
theorem dJ13_bitCount_95d88_27 : decode cJ13_bitCount_95d88 27 = .ok (.lushr, 1) := by decide +kernel
theorem dJ13_bitCount_95d88_28 : decode cJ13_bitCount_95d88 28 = .ok (.ladd, 1) := by decide +kernel
theorem dJ13_bitCount_95d88_29 : decode cJ13_bitCount_95d88 29 = .ok (.ldc2_w 318, 3) := by decide +kernel
theorem dJ13_bitCount_95d88_32 : decode cJ13_bitCount_95d88 32 = .ok (.land, 1) := by decide +kernel
theorem dJ13_bitCount_95d88_33 : decode cJ13_bitCount_95d88 33 = .ok (.lstore_n 0, 1) := by decide +kernel
theorem dJ13_bitCount_95d88_34 : decode cJ13_bitCount_95d88 34 = .ok (.lload_n 0, 1) := by decide +kernel
theorem dJ13_bitCount_95d88_35 : decode cJ13_bitCount_95d88 35 = .ok (.lload_n 0, 1) := by decide +kernel
theorem dJ13_bitCount_95d88_36 : decode cJ13_bitCount_95d88 36 = .ok (.bipush 8, 2) := by decide +kernel
theorem dJ13_bitCount_95d88_38 : decode cJ13_bitCount_95d88 38 = .ok (.lushr, 1) := by decide +kernel
theorem dJ13_bitCount_95d88_39 : decode cJ13_bitCount_95d88 39 = .ok (.ladd, 1) := by decide +kernel
theorem dJ13_bitCount_95d88_40 : decode cJ13_bitCount_95d88 40 = .ok (.lstore_n 0, 1) := by decide +kernel
theorem dJ13_bitCount_95d88_41 : decode cJ13_bitCount_95d88 41 = .ok (.lload_n 0, 1) := by decide +kernel
theorem dJ13_bitCount_95d88_42 : decode cJ13_bitCount_95d88 42 = .ok (.lload_n 0, 1) := by decide +kernel
theorem dJ13_bitCount_95d88_43 : decode cJ13_bitCount_95d88 43 = .ok (.bipush 16, 2) := by decide +kernel
theorem dJ13_bitCount_95d88_45 : decode cJ13_bitCount_95d88 45 = .ok (.lushr, 1) := by decide +kernel
theorem dJ13_bitCount_95d88_46 : decode cJ13_bitCount_95d88 46 = .ok (.ladd, 1) := by decide +kernel
theorem dJ13_bitCount_95d88_47 : decode cJ13_bitCount_95d88 47 = .ok (.lstore_n 0, 1) := by decide +kernel
theorem dJ13_bitCount_95d88_48 : decode cJ13_bitCount_95d88 48 = .ok (.lload_n 0, 1) := by decide +kernel
theorem dJ13_bitCount_95d88_49 : decode cJ13_bitCount_95d88 49 = .ok (.lload_n 0, 1) := by decide +kernel
theorem dJ13_bitCount_95d88_50 : decode cJ13_bitCount_95d88 50 = .ok (.bipush 32, 2) := by decide +kernel
theorem dJ13_bitCount_95d88_52 : decode cJ13_bitCount_95d88 52 = .ok (.lushr, 1) := by decide +kernel
theorem dJ13_bitCount_95d88_53 : decode cJ13_bitCount_95d88 53 = .ok (.ladd, 1) := by decide +kernel
theorem dJ13_bitCount_95d88_54 : decode cJ13_bitCount_95d88 54 = .ok (.lstore_n 0, 1) := by decide +kernel
theorem dJ13_bitCount_95d88_55 : decode cJ13_bitCount_95d88 55 = .ok (.lload_n 0, 1) := by decide +kernel
theorem dJ13_bitCount_95d88_56 : decode cJ13_bitCount_95d88 56 = .ok (.l2i, 1) := by decide +kernel
theorem dJ13_bitCount_95d88_57 : decode cJ13_bitCount_95d88 57 = .ok (.bipush 127, 2) := by decide +kernel
theorem dJ13_bitCount_95d88_59 : decode cJ13_bitCount_95d88 59 = .ok (.iand, 1) := by decide +kernel
theorem dJ13_bitCount_95d88_60 : decode cJ13_bitCount_95d88 60 = .ok (.ireturn, 1) := by decide +kernel
theorem dJ9_floorMod_7cf53_0 : decode cJ9_floorMod_7cf53 0 = .ok (.iload_n 0, 1) := by decide +kernel
theorem dJ9_floorMod_7cf53_1 : decode cJ9_floorMod_7cf53 1 = .ok (.iload_n 1, 1) := by decide +kernel
theorem dJ9_floorMod_7cf53_2 : decode cJ9_floorMod_7cf53 2 = .ok (.irem, 1) := by decide +kernel
theorem dJ9_floorMod_7cf53_3 : decode cJ9_floorMod_7cf53 3 = .ok (.istore_n 2, 1) := by decide +kernel
theorem dJ9_floorMod_7cf53_4 : decode cJ9_floorMod_7cf53 4 = .ok (.iload_n 0, 1) := by decide +kernel
theorem dJ9_floorMod_7cf53_5 : decode cJ9_floorMod_7cf53 5 = .ok (.iload_n 1, 1) := by decide +kernel
theorem dJ9_floorMod_7cf53_6 : decode cJ9_floorMod_7cf53 6 = .ok (.ixor, 1) := by decide +kernel
theorem dJ9_floorMod_7cf53_7 : decode cJ9_floorMod_7cf53 7 = .ok (.ifCond .ge 11, 3) := by decide +kernel
theorem dJ9_floorMod_7cf53_10 : decode cJ9_floorMod_7cf53 10 = .ok (.iload_n 2, 1) := by decide +kernel
theorem dJ9_floorMod_7cf53_11 : decode cJ9_floorMod_7cf53 11 = .ok (.ifCond .eq 7, 3) := by decide +kernel
theorem dJ9_floorMod_7cf53_14 : decode cJ9_floorMod_7cf53 14 = .ok (.iload_n 2, 1) := by decide +kernel
theorem dJ9_floorMod_7cf53_15 : decode cJ9_floorMod_7cf53 15 = .ok (.iload_n 1, 1) := by decide +kernel
theorem dJ9_floorMod_7cf53_16 : decode cJ9_floorMod_7cf53 16 = .ok (.iadd, 1) := by decide +kernel
theorem dJ9_floorMod_7cf53_17 : decode cJ9_floorMod_7cf53 17 = .ok (.ireturn, 1) := by decide +kernel
theorem dJ9_floorMod_7cf53_18 : decode cJ9_floorMod_7cf53 18 = .ok (.iload_n 2, 1) := by decide +kernel
theorem dJ9_floorMod_7cf53_19 : decode cJ9_floorMod_7cf53 19 = .ok (.ireturn, 1) := by decide +kernel
theorem dJ9_max_7cf53_0 : decode cJ9_max_7cf53 0 = .ok (.iload_n 0, 1) := by decide +kernel
theorem dJ9_max_7cf53_1 : decode cJ9_max_7cf53 1 = .ok (.iload_n 1, 1) := by decide +kernel
theorem dJ9_max_7cf53_2 : decode cJ9_max_7cf53 2 = .ok (.if_icmp .lt 7, 3) := by decide +kernel
theorem dJ9_max_7cf53_5 : decode cJ9_max_7cf53 5 = .ok (.iload_n 0, 1) := by decide +kernel
theorem dJ9_max_7cf53_6 : decode cJ9_max_7cf53 6 = .ok (.goto 4, 3) := by decide +kernel
theorem dJ9_max_7cf53_9 : decode cJ9_max_7cf53 9 = .ok (.iload_n 1, 1) := by decide +kernel
theorem dJ9_max_7cf53_10 : decode cJ9_max_7cf53 10 = .ok (.ireturn, 1) := by decide +kernel
theorem dJ9_min_7cf53_0 : decode cJ9_min_7cf53 0 = .ok (.iload_n 0, 1) := by decide +kernel
theorem dJ9_min_7cf53_1 : decode cJ9_min_7cf53 1 = .ok (.iload_n 1, 1) := by decide +kernel
theorem dJ9_min_7cf53_2 : decode cJ9_min_7cf53 2 = .ok (.if_icmp .gt 7, 3) := by decide +kernel
theorem dJ9_min_7cf53_5 : decode cJ9_min_7cf53 5 = .ok (.iload_n 0, 1) := by decide +kernel
theorem dJ9_min_7cf53_6 : decode cJ9_min_7cf53 6 = .ok (.goto 4, 3) := by decide +kernel
theorem dJ9_min_7cf53_9 : decode cJ9_min_7cf53 9 = .ok (.iload_n 1, 1) := by decide +kernel
theorem dJ9_min_7cf53_10 : decode cJ9_min_7cf53 10 = .ok (.ireturn, 1) := by decide +kernel
