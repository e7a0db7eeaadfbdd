theorem dX3_init_0 : decode cX3_init 0 = .ok (.aload_n 0, 1) := by decide +kernel
theorem dX3_init_1 : decode cX3_init 1 = .ok (.invokespecial 3, 3) := by decide +kernel
theorem dX3_init_4 : decode cX3_init 4 = .ok (.aload_n 0, 1) := by decide +kernel
theorem dX3_init_5 : decode cX3_init 5 = .ok (.bipush 120, 2) := by decide +kernel
theorem dX3_init_7 : decode cX3_init 7 = .ok (.newarray .int, 2) := by decide +kernel
theorem dX3_init_9 : decode cX3_init 9 = .ok (.putfield 9, 3) := by decide +kernel
theorem dX3_init_12 : decode cX3_init 12 = .ok (.aload_n 0, 1) := by decide +kernel
theorem dX3_init_13 : decode cX3_init 13 = .ok (.bipush 24, 2) := by decide +kernel
theorem dX3_init_15 : decode cX3_init 15 = .ok (.newarray .int, 2) := by decide +kernel
theorem dX3_init_17 : decode cX3_init 17 = .ok (.putfield 13, 3) := by decide +kernel
theorem dX3_init_20 : decode cX3_init 20 = .ok (.aload_n 0, 1) := by decide +kernel
theorem dX3_init_21 : decode cX3_init 21 = .ok (.sipush 240, 3) := by decide +kernel
theorem dX3_init_24 : decode cX3_init 24 = .ok (.newarray .int, 2) := by decide +kernel
theorem dX3_init_26 : decode cX3_init 26 = .ok (.putfield 16, 3) := by decide +kernel
theorem dX3_init_29 : decode cX3_init 29 = .ok (.aload_n 0, 1) := by decide +kernel
theorem dX3_init_30 : decode cX3_init 30 = .ok (.iconst 0, 1) := by decide +kernel
theorem dX3_init_31 : decode cX3_init 31 = .ok (.putfield 19, 3) := by decide +kernel
theorem dX3_init_34 : decode cX3_init 34 = .ok (.aload_n 0, 1) := by decide +kernel
theorem dX3_init_35 : decode cX3_init 35 = .ok (.iconst 0, 1) := by decide +kernel
theorem dX3_init_36 : decode cX3_init 36 = .ok (.putfield 23, 3) := by decide +kernel
theorem dX3_init_39 : decode cX3_init 39 = .ok (.aload_n 0, 1) := by decide +kernel
theorem dX3_init_40 : decode cX3_init 40 = .ok (.iconst 0, 1) := by decide +kernel
theorem dX3_init_41 : decode cX3_init 41 = .ok (.putfield 26, 3) := by decide +kernel
theorem dX3_init_44 : decode cX3_init 44 = .ok (.return_, 1) := by decide +kernel
theorem dX3_append_0 : decode cX3_append 0 = .ok (.aload_n 0, 1) := by decide +kernel
theorem dX3_append_1 : decode cX3_append 1 = .ok (.getfield 23, 3) := by decide +kernel
theorem dX3_append_4 : decode cX3_append 4 = .ok (.bipush 120, 2) := by decide +kernel
theorem dX3_append_6 : decode cX3_append 6 = .ok (.if_icmp .lt 5, 3) := by decide +kernel
theorem dX3_append_9 : decode cX3_append 9 = .ok (.iconst 0, 1) := by decide +kernel
theorem dX3_append_10 : decode cX3_append 10 = .ok (.ireturn, 1) := by decide +kernel
theorem dX3_append_11 : decode cX3_append 11 = .ok (.aload_n 0, 1) := by decide +kernel
theorem dX3_append_12 : decode cX3_append 12 = .ok (.getfield 9, 3) := by decide +kernel
theorem dX3_append_15 : decode cX3_append 15 = .ok (.aload_n 0, 1) := by decide +kernel
theorem dX3_append_16 : decode cX3_append 16 = .ok (.getfield 23, 3) := by decide +kernel
theorem dX3_append_19 : decode cX3_append 19 = .ok (.iload_n 1, 1) := by decide +kernel
theorem dX3_append_20 : decode cX3_append 20 = .ok (.iastore, 1) := by decide +kernel
theorem dX3_append_21 : decode cX3_append 21 = .ok (.aload_n 0, 1) := by decide +kernel
theorem dX3_append_22 : decode cX3_append 22 = .ok (.dup, 1) := by decide +kernel
theorem dX3_append_23 : decode cX3_append 23 = .ok (.getfield 23, 3) := by decide +kernel
theorem dX3_append_26 : decode cX3_append 26 = .ok (.iconst 1, 1) := by decide +kernel
theorem dX3_append_27 : decode cX3_append 27 = .ok (.iadd, 1) := by decide +kernel
theorem dX3_append_28 : decode cX3_append 28 = .ok (.putfield 23, 3) := by decide +kernel
theorem dX3_append_31 : decode cX3_append 31 = .ok (.iconst 1, 1) := by decide +kernel
theorem dX3_append_32 : decode cX3_append 32 = .ok (.ireturn, 1) := by decide +kernel
theorem dX3_wipe_0 : decode cX3_wipe 0 = .ok (.aload_n 0, 1) := by decide +kernel
theorem dX3_wipe_1 : decode cX3_wipe 1 = .ok (.iconst 0, 1) := by decide +kernel
theorem dX3_wipe_2 : decode cX3_wipe 2 = .ok (.putfield 23, 3) := by decide +kernel
theorem dX3_wipe_5 : decode cX3_wipe 5 = .ok (.return_, 1) := by decide +kernel
theorem dX3_kind_0 : decode cX3_kind 0 = .ok (.aload_n 0, 1) := by decide +kernel
theorem dX3_kind_1 : decode cX3_kind 1 = .ok (.getfield 13, 3) := by decide +kernel
theorem dX3_kind_4 : decode cX3_kind 4 = .ok (.iload_n 1, 1) := by decide +kernel
theorem dX3_kind_5 : decode cX3_kind 5 = .ok (.iaload, 1) := by decide +kernel
theorem dX3_kind_6 : decode cX3_kind 6 = .ok (.ireturn, 1) := by decide +kernel
theorem dX3_number_0 : decode cX3_number 0 = .ok (.aload_n 0, 1) := by decide +kernel
theorem dX3_number_1 : decode cX3_number 1 = .ok (.getfield 16, 3) := by decide +kernel
theorem dX3_number_4 : decode cX3_number 4 = .ok (.iload_n 1, 1) := by decide +kernel
theorem dX3_number_5 : decode cX3_number 5 = .ok (.bipush 10, 2) := by decide +kernel
theorem dX3_number_7 : decode cX3_number 7 = .ok (.imul, 1) := by decide +kernel
theorem dX3_number_8 : decode cX3_number 8 = .ok (.iload_n 2, 1) := by decide +kernel
theorem dX3_number_9 : decode cX3_number 9 = .ok (.iadd, 1) := by decide +kernel
theorem dX3_number_10 : decode cX3_number 10 = .ok (.iaload, 1) := by decide +kernel
theorem dX3_number_11 : decode cX3_number 11 = .ok (.ireturn, 1) := by decide +kernel
theorem dX3_read_0 : decode cX3_read 0 = .ok (.aload_n 0, 1) := by decide +kernel
theorem dX3_read_1 : decode cX3_read 1 = .ok (.iconst 0, 1) := by decide +kernel
theorem dX3_read_2 : decode cX3_read 2 = .ok (.putfield 19, 3) := by decide +kernel
theorem dX3_read_5 : decode cX3_read 5 = .ok (.aload_n 0, 1) := by decide +kernel
theorem dX3_read_6 : decode cX3_read 6 = .ok (.iconst 0, 1) := by decide +kernel
theorem dX3_read_7 : decode cX3_read 7 = .ok (.putfield 26, 3) := by decide +kernel
theorem dX3_read_10 : decode cX3_read 10 = .ok (.aload_n 0, 1) := by decide +kernel
theorem dX3_read_11 : decode cX3_read 11 = .ok (.invokevirtual 29, 3) := by decide +kernel
theorem dX3_read_14 : decode cX3_read 14 = .ok (.aload_n 0, 1) := by decide +kernel
theorem dX3_read_15 : decode cX3_read 15 = .ok (.getfield 19, 3) := by decide +kernel
theorem dX3_read_18 : decode cX3_read 18 = .ok (.aload_n 0, 1) := by decide +kernel
theorem dX3_read_19 : decode cX3_read 19 = .ok (.getfield 23, 3) := by decide +kernel
theorem dX3_read_22 : decode cX3_read 22 = .ok (.if_icmp .ge 41, 3) := by decide +kernel
theorem dX3_read_25 : decode cX3_read 25 = .ok (.aload_n 0, 1) := by decide +kernel
theorem dX3_read_26 : decode cX3_read 26 = .ok (.getfield 26, 3) := by decide +kernel
theorem dX3_read_29 : decode cX3_read 29 = .ok (.bipush 24, 2) := by decide +kernel
theorem dX3_read_31 : decode cX3_read 31 = .ok (.if_icmp .ge 32, 3) := by decide +kernel
theorem dX3_read_34 : decode cX3_read 34 = .ok (.aload_n 0, 1) := by decide +kernel
theorem dX3_read_35 : decode cX3_read 35 = .ok (.invokevirtual 32, 3) := by decide +kernel
theorem dX3_read_38 : decode cX3_read 38 = .ok (.ifCond .ne 8, 3) := by decide +kernel
theorem dX3_read_41 : decode cX3_read 41 = .ok (.aload_n 0, 1) := by decide +kernel
theorem dX3_read_42 : decode cX3_read 42 = .ok (.getfield 19, 3) := by decide +kernel
theorem dX3_read_45 : decode cX3_read 45 = .ok (.ireturn, 1) := by decide +kernel
theorem dX3_read_46 : decode cX3_read 46 = .ok (.aload_n 0, 1) := by decide +kernel
theorem dX3_read_47 : decode cX3_read 47 = .ok (.dup, 1) := by decide +kernel
theorem dX3_read_48 : decode cX3_read 48 = .ok (.getfield 26, 3) := by decide +kernel
theorem dX3_read_51 : decode cX3_read 51 = .ok (.iconst 1, 1) := by decide +kernel
theorem dX3_read_52 : decode cX3_read 52 = .ok (.iadd, 1) := by decide +kernel
theorem dX3_read_53 : decode cX3_read 53 = .ok (.putfield 26, 3) := by decide +kernel
theorem dX3_read_56 : decode cX3_read 56 = .ok (.aload_n 0, 1) := by decide +kernel
theorem dX3_read_57 : decode cX3_read 57 = .ok (.invokevirtual 29, 3) := by decide +kernel
theorem dX3_read_60 : decode cX3_read 60 = .ok (.goto (-46), 3) := by decide +kernel
theorem dX3_read_63 : decode cX3_read 63 = .ok (.aload_n 0, 1) := by decide +kernel
theorem dX3_read_64 : decode cX3_read 64 = .ok (.getfield 19, 3) := by decide +kernel
theorem dX3_read_67 : decode cX3_read 67 = .ok (.aload_n 0, 1) := by decide +kernel
theorem dX3_read_68 : decode cX3_read 68 = .ok (.getfield 23, 3) := by decide +kernel
theorem dX3_read_71 : decode cX3_read 71 = .ok (.if_icmp .ge 10, 3) := by decide +kernel
theorem dX3_read_74 : decode cX3_read 74 = .ok (.aload_n 0, 1) := by decide +kernel
theorem dX3_read_75 : decode cX3_read 75 = .ok (.getfield 19, 3) := by decide +kernel
theorem dX3_read_78 : decode cX3_read 78 = .ok (.goto 4, 3) := by decide +kernel
theorem dX3_read_81 : decode cX3_read 81 = .ok (.iconst (-1), 1) := by decide +kernel
theorem dX3_read_82 : decode cX3_read 82 = .ok (.ireturn, 1) := by decide +kernel
theorem dX3_readItem_0 : decode cX3_readItem 0 = .ok (.aload_n 0, 1) := by decide +kernel
theorem dX3_readItem_1 : decode cX3_readItem 1 = .ok (.getfield 9, 3) := by decide +kernel
theorem dX3_readItem_4 : decode cX3_readItem 4 = .ok (.aload_n 0, 1) := by decide +kernel
theorem dX3_readItem_5 : decode cX3_readItem 5 = .ok (.getfield 19, 3) := by decide +kernel
theorem dX3_readItem_8 : decode cX3_readItem 8 = .ok (.iaload, 1) := by decide +kernel
theorem dX3_readItem_9 : decode cX3_readItem 9 = .ok (.istore_n 1, 1) := by decide +kernel
theorem dX3_readItem_10 : decode cX3_readItem 10 = .ok (.iload_n 1, 1) := by decide +kernel
theorem dX3_readItem_11 : decode cX3_readItem 11 = .ok (.lookupswitch 69 #[(99, 57), (102, 45), (108, 33)], 33) := by decide +kernel
theorem dX3_readItem_44 : decode cX3_readItem 44 = .ok (.aload_n 0, 1) := by decide +kernel
theorem dX3_readItem_45 : decode cX3_readItem 45 = .ok (.iload_n 1, 1) := by decide +kernel
theorem dX3_readItem_46 : decode cX3_readItem 46 = .ok (.getstatic 36, 3) := by decide +kernel
theorem dX3_readItem_49 : decode cX3_readItem 49 = .ok (.getstatic 39, 3) := by decide +kernel
theorem dX3_readItem_52 : decode cX3_readItem 52 = .ok (.invokevirtual 42, 3) := by decide +kernel
theorem dX3_readItem_55 : decode cX3_readItem 55 = .ok (.ireturn, 1) := by decide +kernel
theorem dX3_readItem_56 : decode cX3_readItem 56 = .ok (.aload_n 0, 1) := by decide +kernel
theorem dX3_readItem_57 : decode cX3_readItem 57 = .ok (.iload_n 1, 1) := by decide +kernel
theorem dX3_readItem_58 : decode cX3_readItem 58 = .ok (.getstatic 46, 3) := by decide +kernel
theorem dX3_readItem_61 : decode cX3_readItem 61 = .ok (.getstatic 49, 3) := by decide +kernel
theorem dX3_readItem_64 : decode cX3_readItem 64 = .ok (.invokevirtual 42, 3) := by decide +kernel
theorem dX3_readItem_67 : decode cX3_readItem 67 = .ok (.ireturn, 1) := by decide +kernel
theorem dX3_readItem_68 : decode cX3_readItem 68 = .ok (.aload_n 0, 1) := by decide +kernel
theorem dX3_readItem_69 : decode cX3_readItem 69 = .ok (.iload_n 1, 1) := by decide +kernel
theorem dX3_readItem_70 : decode cX3_readItem 70 = .ok (.getstatic 52, 3) := by decide +kernel
theorem dX3_readItem_73 : decode cX3_readItem 73 = .ok (.getstatic 55, 3) := by decide +kernel
theorem dX3_readItem_76 : decode cX3_readItem 76 = .ok (.invokevirtual 42, 3) := by decide +kernel
theorem dX3_readItem_79 : decode cX3_readItem 79 = .ok (.ireturn, 1) := by decide +kernel
theorem dX3_readItem_80 : decode cX3_readItem 80 = .ok (.iconst 0, 1) := by decide +kernel
theorem dX3_readItem_81 : decode cX3_readItem 81 = .ok (.ireturn, 1) := by decide +kernel
theorem dX3_readForm_0 : decode cX3_readForm 0 = .ok (.aload_n 0, 1) := by decide +kernel
theorem dX3_readForm_1 : decode cX3_readForm 1 = .ok (.getfield 13, 3) := by decide +kernel
theorem dX3_readForm_4 : decode cX3_readForm 4 = .ok (.aload_n 0, 1) := by decide +kernel
theorem dX3_readForm_5 : decode cX3_readForm 5 = .ok (.getfield 26, 3) := by decide +kernel
theorem dX3_readForm_8 : decode cX3_readForm 8 = .ok (.iload_n 1, 1) := by decide +kernel
theorem dX3_readForm_9 : decode cX3_readForm 9 = .ok (.iastore, 1) := by decide +kernel
theorem dX3_readForm_10 : decode cX3_readForm 10 = .ok (.aload_n 0, 1) := by decide +kernel
theorem dX3_readForm_11 : decode cX3_readForm 11 = .ok (.dup, 1) := by decide +kernel
theorem dX3_readForm_12 : decode cX3_readForm 12 = .ok (.getfield 19, 3) := by decide +kernel
theorem dX3_readForm_15 : decode cX3_readForm 15 = .ok (.iconst 1, 1) := by decide +kernel
theorem dX3_readForm_16 : decode cX3_readForm 16 = .ok (.iadd, 1) := by decide +kernel
theorem dX3_readForm_17 : decode cX3_readForm 17 = .ok (.putfield 19, 3) := by decide +kernel
theorem dX3_readForm_20 : decode cX3_readForm 20 = .ok (.iconst 0, 1) := by decide +kernel
theorem dX3_readForm_21 : decode cX3_readForm 21 = .ok (.istore 4, 2) := by decide +kernel
theorem dX3_readForm_23 : decode cX3_readForm 23 = .ok (.iload 4, 2) := by decide +kernel
theorem dX3_readForm_25 : decode cX3_readForm 25 = .ok (.aload_n 2, 1) := by decide +kernel
theorem dX3_readForm_26 : decode cX3_readForm 26 = .ok (.arraylength, 1) := by decide +kernel
theorem dX3_readForm_27 : decode cX3_readForm 27 = .ok (.if_icmp .ge 40, 3) := by decide +kernel
theorem dX3_readForm_30 : decode cX3_readForm 30 = .ok (.aload_n 0, 1) := by decide +kernel
theorem dX3_readForm_31 : decode cX3_readForm 31 = .ok (.invokevirtual 29, 3) := by decide +kernel
theorem dX3_readForm_34 : decode cX3_readForm 34 = .ok (.aload_n 0, 1) := by decide +kernel
theorem dX3_readForm_35 : decode cX3_readForm 35 = .ok (.aload_n 0, 1) := by decide +kernel
theorem dX3_readForm_36 : decode cX3_readForm 36 = .ok (.getfield 26, 3) := by decide +kernel
theorem dX3_readForm_39 : decode cX3_readForm 39 = .ok (.bipush 10, 2) := by decide +kernel
theorem dX3_readForm_41 : decode cX3_readForm 41 = .ok (.imul, 1) := by decide +kernel
theorem dX3_readForm_42 : decode cX3_readForm 42 = .ok (.iload 4, 2) := by decide +kernel
theorem dX3_readForm_44 : decode cX3_readForm 44 = .ok (.iadd, 1) := by decide +kernel
theorem dX3_readForm_45 : decode cX3_readForm 45 = .ok (.aload_n 2, 1) := by decide +kernel
theorem dX3_readForm_46 : decode cX3_readForm 46 = .ok (.iload 4, 2) := by decide +kernel
theorem dX3_readForm_48 : decode cX3_readForm 48 = .ok (.iaload, 1) := by decide +kernel
theorem dX3_readForm_49 : decode cX3_readForm 49 = .ok (.aload_n 3, 1) := by decide +kernel
theorem dX3_readForm_50 : decode cX3_readForm 50 = .ok (.iload 4, 2) := by decide +kernel
theorem dX3_readForm_52 : decode cX3_readForm 52 = .ok (.iaload, 1) := by decide +kernel
theorem dX3_readForm_53 : decode cX3_readForm 53 = .ok (.invokevirtual 58, 3) := by decide +kernel
theorem dX3_readForm_56 : decode cX3_readForm 56 = .ok (.ifCond .ne 5, 3) := by decide +kernel
theorem dX3_readForm_59 : decode cX3_readForm 59 = .ok (.iconst 0, 1) := by decide +kernel
theorem dX3_readForm_60 : decode cX3_readForm 60 = .ok (.ireturn, 1) := by decide +kernel
theorem dX3_readForm_61 : decode cX3_readForm 61 = .ok (.iinc 4 1, 3) := by decide +kernel
theorem dX3_readForm_64 : decode cX3_readForm 64 = .ok (.goto (-41), 3) := by decide +kernel
theorem dX3_readForm_67 : decode cX3_readForm 67 = .ok (.aload_n 0, 1) := by decide +kernel
theorem dX3_readForm_68 : decode cX3_readForm 68 = .ok (.invokevirtual 29, 3) := by decide +kernel
theorem dX3_readForm_71 : decode cX3_readForm 71 = .ok (.aload_n 0, 1) := by decide +kernel
theorem dX3_readForm_72 : decode cX3_readForm 72 = .ok (.getfield 19, 3) := by decide +kernel
theorem dX3_readForm_75 : decode cX3_readForm 75 = .ok (.aload_n 0, 1) := by decide +kernel
theorem dX3_readForm_76 : decode cX3_readForm 76 = .ok (.getfield 23, 3) := by decide +kernel
theorem dX3_readForm_79 : decode cX3_readForm 79 = .ok (.if_icmp .ge 17, 3) := by decide +kernel
theorem dX3_readForm_82 : decode cX3_readForm 82 = .ok (.aload_n 0, 1) := by decide +kernel
theorem dX3_readForm_83 : decode cX3_readForm 83 = .ok (.getfield 9, 3) := by decide +kernel
theorem dX3_readForm_86 : decode cX3_readForm 86 = .ok (.aload_n 0, 1) := by decide +kernel
theorem dX3_readForm_87 : decode cX3_readForm 87 = .ok (.getfield 19, 3) := by decide +kernel
theorem dX3_readForm_90 : decode cX3_readForm 90 = .ok (.iaload, 1) := by decide +kernel
theorem dX3_readForm_91 : decode cX3_readForm 91 = .ok (.bipush 59, 2) := by decide +kernel
theorem dX3_readForm_93 : decode cX3_readForm 93 = .ok (.if_icmp .eq 5, 3) := by decide +kernel
theorem dX3_readForm_96 : decode cX3_readForm 96 = .ok (.iconst 0, 1) := by decide +kernel
theorem dX3_readForm_97 : decode cX3_readForm 97 = .ok (.ireturn, 1) := by decide +kernel
theorem dX3_readForm_98 : decode cX3_readForm 98 = .ok (.aload_n 0, 1) := by decide +kernel
theorem dX3_readForm_99 : decode cX3_readForm 99 = .ok (.dup, 1) := by decide +kernel
theorem dX3_readForm_100 : decode cX3_readForm 100 = .ok (.getfield 19, 3) := by decide +kernel
theorem dX3_readForm_103 : decode cX3_readForm 103 = .ok (.iconst 1, 1) := by decide +kernel
theorem dX3_readForm_104 : decode cX3_readForm 104 = .ok (.iadd, 1) := by decide +kernel
theorem dX3_readForm_105 : decode cX3_readForm 105 = .ok (.putfield 19, 3) := by decide +kernel
theorem dX3_readForm_108 : decode cX3_readForm 108 = .ok (.iconst 1, 1) := by decide +kernel
theorem dX3_readForm_109 : decode cX3_readForm 109 = .ok (.ireturn, 1) := by decide +kernel
theorem dX3_readNumber_0 : decode cX3_readNumber 0 = .ok (.aload_n 0, 1) := by decide +kernel
theorem dX3_readNumber_1 : decode cX3_readNumber 1 = .ok (.getfield 19, 3) := by decide +kernel
theorem dX3_readNumber_4 : decode cX3_readNumber 4 = .ok (.aload_n 0, 1) := by decide +kernel
theorem dX3_readNumber_5 : decode cX3_readNumber 5 = .ok (.getfield 23, 3) := by decide +kernel
theorem dX3_readNumber_8 : decode cX3_readNumber 8 = .ok (.if_icmp .ge 21, 3) := by decide +kernel
theorem dX3_readNumber_11 : decode cX3_readNumber 11 = .ok (.aload_n 0, 1) := by decide +kernel
theorem dX3_readNumber_12 : decode cX3_readNumber 12 = .ok (.getfield 9, 3) := by decide +kernel
theorem dX3_readNumber_15 : decode cX3_readNumber 15 = .ok (.aload_n 0, 1) := by decide +kernel
theorem dX3_readNumber_16 : decode cX3_readNumber 16 = .ok (.getfield 19, 3) := by decide +kernel
theorem dX3_readNumber_19 : decode cX3_readNumber 19 = .ok (.iaload, 1) := by decide +kernel
theorem dX3_readNumber_20 : decode cX3_readNumber 20 = .ok (.bipush 45, 2) := by decide +kernel
theorem dX3_readNumber_22 : decode cX3_readNumber 22 = .ok (.if_icmp .ne 7, 3) := by decide +kernel
theorem dX3_readNumber_25 : decode cX3_readNumber 25 = .ok (.iconst 1, 1) := by decide +kernel
theorem dX3_readNumber_26 : decode cX3_readNumber 26 = .ok (.goto 4, 3) := by decide +kernel
theorem dX3_readNumber_29 : decode cX3_readNumber 29 = .ok (.iconst 0, 1) := by decide +kernel
theorem dX3_readNumber_30 : decode cX3_readNumber 30 = .ok (.istore 4, 2) := by decide +kernel
theorem dX3_readNumber_32 : decode cX3_readNumber 32 = .ok (.iload 4, 2) := by decide +kernel
theorem dX3_readNumber_34 : decode cX3_readNumber 34 = .ok (.ifCond .eq 12, 3) := by decide +kernel
theorem dX3_readNumber_37 : decode cX3_readNumber 37 = .ok (.aload_n 0, 1) := by decide +kernel
theorem dX3_readNumber_38 : decode cX3_readNumber 38 = .ok (.getfield 19, 3) := by decide +kernel
theorem dX3_readNumber_41 : decode cX3_readNumber 41 = .ok (.iconst 1, 1) := by decide +kernel
theorem dX3_readNumber_42 : decode cX3_readNumber 42 = .ok (.iadd, 1) := by decide +kernel
theorem dX3_readNumber_43 : decode cX3_readNumber 43 = .ok (.goto 7, 3) := by decide +kernel
theorem dX3_readNumber_46 : decode cX3_readNumber 46 = .ok (.aload_n 0, 1) := by decide +kernel
theorem dX3_readNumber_47 : decode cX3_readNumber 47 = .ok (.getfield 19, 3) := by decide +kernel
theorem dX3_readNumber_50 : decode cX3_readNumber 50 = .ok (.istore 5, 2) := by decide +kernel
theorem dX3_readNumber_52 : decode cX3_readNumber 52 = .ok (.iconst 0, 1) := by decide +kernel
theorem dX3_readNumber_53 : decode cX3_readNumber 53 = .ok (.istore 6, 2) := by decide +kernel
theorem dX3_readNumber_55 : decode cX3_readNumber 55 = .ok (.iconst 0, 1) := by decide +kernel
theorem dX3_readNumber_56 : decode cX3_readNumber 56 = .ok (.istore 7, 2) := by decide +kernel
theorem dX3_readNumber_58 : decode cX3_readNumber 58 = .ok (.iload 5, 2) := by decide +kernel
theorem dX3_readNumber_60 : decode cX3_readNumber 60 = .ok (.iload 6, 2) := by decide +kernel
theorem dX3_readNumber_62 : decode cX3_readNumber 62 = .ok (.iadd, 1) := by decide +kernel
theorem dX3_readNumber_63 : decode cX3_readNumber 63 = .ok (.aload_n 0, 1) := by decide +kernel
theorem dX3_readNumber_64 : decode cX3_readNumber 64 = .ok (.getfield 23, 3) := by decide +kernel
theorem dX3_readNumber_67 : decode cX3_readNumber 67 = .ok (.if_icmp .ge 52, 3) := by decide +kernel
theorem dX3_readNumber_70 : decode cX3_readNumber 70 = .ok (.aload_n 0, 1) := by decide +kernel
theorem dX3_readNumber_71 : decode cX3_readNumber 71 = .ok (.getfield 9, 3) := by decide +kernel
theorem dX3_readNumber_74 : decode cX3_readNumber 74 = .ok (.iload 5, 2) := by decide +kernel
theorem dX3_readNumber_76 : decode cX3_readNumber 76 = .ok (.iload 6, 2) := by decide +kernel
theorem dX3_readNumber_78 : decode cX3_readNumber 78 = .ok (.iadd, 1) := by decide +kernel
theorem dX3_readNumber_79 : decode cX3_readNumber 79 = .ok (.iaload, 1) := by decide +kernel
theorem dX3_readNumber_80 : decode cX3_readNumber 80 = .ok (.invokestatic 62, 3) := by decide +kernel
theorem dX3_readNumber_83 : decode cX3_readNumber 83 = .ok (.ifCond .eq 36, 3) := by decide +kernel
theorem dX3_readNumber_86 : decode cX3_readNumber 86 = .ok (.iload 6, 2) := by decide +kernel
theorem dX3_readNumber_88 : decode cX3_readNumber 88 = .ok (.iconst 3, 1) := by decide +kernel
theorem dX3_readNumber_89 : decode cX3_readNumber 89 = .ok (.if_icmp .ge 24, 3) := by decide +kernel
theorem dX3_readNumber_92 : decode cX3_readNumber 92 = .ok (.iload 7, 2) := by decide +kernel
theorem dX3_readNumber_94 : decode cX3_readNumber 94 = .ok (.bipush 10, 2) := by decide +kernel
theorem dX3_readNumber_96 : decode cX3_readNumber 96 = .ok (.imul, 1) := by decide +kernel
theorem dX3_readNumber_97 : decode cX3_readNumber 97 = .ok (.aload_n 0, 1) := by decide +kernel
theorem dX3_readNumber_98 : decode cX3_readNumber 98 = .ok (.getfield 9, 3) := by decide +kernel
theorem dX3_readNumber_101 : decode cX3_readNumber 101 = .ok (.iload 5, 2) := by decide +kernel
theorem dX3_readNumber_103 : decode cX3_readNumber 103 = .ok (.iload 6, 2) := by decide +kernel
theorem dX3_readNumber_105 : decode cX3_readNumber 105 = .ok (.iadd, 1) := by decide +kernel
theorem dX3_readNumber_106 : decode cX3_readNumber 106 = .ok (.iaload, 1) := by decide +kernel
theorem dX3_readNumber_107 : decode cX3_readNumber 107 = .ok (.iadd, 1) := by decide +kernel
theorem dX3_readNumber_108 : decode cX3_readNumber 108 = .ok (.bipush 48, 2) := by decide +kernel
theorem dX3_readNumber_110 : decode cX3_readNumber 110 = .ok (.isub, 1) := by decide +kernel
theorem dX3_readNumber_111 : decode cX3_readNumber 111 = .ok (.istore 7, 2) := by decide +kernel
theorem dX3_readNumber_113 : decode cX3_readNumber 113 = .ok (.iinc 6 1, 3) := by decide +kernel
theorem dX3_readNumber_116 : decode cX3_readNumber 116 = .ok (.goto (-58), 3) := by decide +kernel
theorem dX3_readNumber_119 : decode cX3_readNumber 119 = .ok (.iload 6, 2) := by decide +kernel
theorem dX3_readNumber_121 : decode cX3_readNumber 121 = .ok (.ifCond .eq 9, 3) := by decide +kernel
theorem dX3_readNumber_124 : decode cX3_readNumber 124 = .ok (.iload 6, 2) := by decide +kernel
theorem dX3_readNumber_126 : decode cX3_readNumber 126 = .ok (.iconst 3, 1) := by decide +kernel
theorem dX3_readNumber_127 : decode cX3_readNumber 127 = .ok (.if_icmp .le 5, 3) := by decide +kernel
theorem dX3_readNumber_130 : decode cX3_readNumber 130 = .ok (.iconst 0, 1) := by decide +kernel
theorem dX3_readNumber_131 : decode cX3_readNumber 131 = .ok (.ireturn, 1) := by decide +kernel
theorem dX3_readNumber_132 : decode cX3_readNumber 132 = .ok (.aload_n 0, 1) := by decide +kernel
theorem dX3_readNumber_133 : decode cX3_readNumber 133 = .ok (.getfield 9, 3) := by decide +kernel
theorem dX3_readNumber_136 : decode cX3_readNumber 136 = .ok (.iload 5, 2) := by decide +kernel
theorem dX3_readNumber_138 : decode cX3_readNumber 138 = .ok (.iaload, 1) := by decide +kernel
theorem dX3_readNumber_139 : decode cX3_readNumber 139 = .ok (.bipush 48, 2) := by decide +kernel
theorem dX3_readNumber_141 : decode cX3_readNumber 141 = .ok (.if_icmp .ne 16, 3) := by decide +kernel
theorem dX3_readNumber_144 : decode cX3_readNumber 144 = .ok (.iload 6, 2) := by decide +kernel
theorem dX3_readNumber_146 : decode cX3_readNumber 146 = .ok (.iconst 1, 1) := by decide +kernel
theorem dX3_readNumber_147 : decode cX3_readNumber 147 = .ok (.if_icmp .gt 8, 3) := by decide +kernel
theorem dX3_readNumber_150 : decode cX3_readNumber 150 = .ok (.iload 4, 2) := by decide +kernel
theorem dX3_readNumber_152 : decode cX3_readNumber 152 = .ok (.ifCond .eq 5, 3) := by decide +kernel
theorem dX3_readNumber_155 : decode cX3_readNumber 155 = .ok (.iconst 0, 1) := by decide +kernel
theorem dX3_readNumber_156 : decode cX3_readNumber 156 = .ok (.ireturn, 1) := by decide +kernel
theorem dX3_readNumber_157 : decode cX3_readNumber 157 = .ok (.iload 4, 2) := by decide +kernel
theorem dX3_readNumber_159 : decode cX3_readNumber 159 = .ok (.ifCond .eq 9, 3) := by decide +kernel
theorem dX3_readNumber_162 : decode cX3_readNumber 162 = .ok (.iload 7, 2) := by decide +kernel
theorem dX3_readNumber_164 : decode cX3_readNumber 164 = .ok (.ineg, 1) := by decide +kernel
theorem dX3_readNumber_165 : decode cX3_readNumber 165 = .ok (.goto 5, 3) := by decide +kernel
theorem dX3_readNumber_168 : decode cX3_readNumber 168 = .ok (.iload 7, 2) := by decide +kernel
theorem dX3_readNumber_170 : decode cX3_readNumber 170 = .ok (.istore 7, 2) := by decide +kernel
theorem dX3_readNumber_172 : decode cX3_readNumber 172 = .ok (.iload 7, 2) := by decide +kernel
theorem dX3_readNumber_174 : decode cX3_readNumber 174 = .ok (.iload_n 2, 1) := by decide +kernel
theorem dX3_readNumber_175 : decode cX3_readNumber 175 = .ok (.iload_n 3, 1) := by decide +kernel
theorem dX3_readNumber_176 : decode cX3_readNumber 176 = .ok (.invokestatic 66, 3) := by decide +kernel
theorem dX3_readNumber_179 : decode cX3_readNumber 179 = .ok (.ifCond .ne 5, 3) := by decide +kernel
theorem dX3_readNumber_182 : decode cX3_readNumber 182 = .ok (.iconst 0, 1) := by decide +kernel
theorem dX3_readNumber_183 : decode cX3_readNumber 183 = .ok (.ireturn, 1) := by decide +kernel
theorem dX3_readNumber_184 : decode cX3_readNumber 184 = .ok (.aload_n 0, 1) := by decide +kernel
theorem dX3_readNumber_185 : decode cX3_readNumber 185 = .ok (.getfield 16, 3) := by decide +kernel
theorem dX3_readNumber_188 : decode cX3_readNumber 188 = .ok (.iload_n 1, 1) := by decide +kernel
theorem dX3_readNumber_189 : decode cX3_readNumber 189 = .ok (.iload 7, 2) := by decide +kernel
theorem dX3_readNumber_191 : decode cX3_readNumber 191 = .ok (.iastore, 1) := by decide +kernel
theorem dX3_readNumber_192 : decode cX3_readNumber 192 = .ok (.aload_n 0, 1) := by decide +kernel
theorem dX3_readNumber_193 : decode cX3_readNumber 193 = .ok (.iload 5, 2) := by decide +kernel
theorem dX3_readNumber_195 : decode cX3_readNumber 195 = .ok (.iload 6, 2) := by decide +kernel
theorem dX3_readNumber_197 : decode cX3_readNumber 197 = .ok (.iadd, 1) := by decide +kernel
theorem dX3_readNumber_198 : decode cX3_readNumber 198 = .ok (.putfield 19, 3) := by decide +kernel
theorem dX3_readNumber_201 : decode cX3_readNumber 201 = .ok (.iconst 1, 1) := by decide +kernel
theorem dX3_readNumber_202 : decode cX3_readNumber 202 = .ok (.ireturn, 1) := by decide +kernel
theorem dX3_isFigure_0 : decode cX3_isFigure 0 = .ok (.iload_n 0, 1) := by decide +kernel
theorem dX3_isFigure_1 : decode cX3_isFigure 1 = .ok (.bipush 48, 2) := by decide +kernel
theorem dX3_isFigure_3 : decode cX3_isFigure 3 = .ok (.bipush 57, 2) := by decide +kernel
theorem dX3_isFigure_5 : decode cX3_isFigure 5 = .ok (.invokestatic 66, 3) := by decide +kernel
theorem dX3_isFigure_8 : decode cX3_isFigure 8 = .ok (.ireturn, 1) := by decide +kernel
theorem dX3_skipBlanks_0 : decode cX3_skipBlanks 0 = .ok (.aload_n 0, 1) := by decide +kernel
theorem dX3_skipBlanks_1 : decode cX3_skipBlanks 1 = .ok (.getfield 19, 3) := by decide +kernel
theorem dX3_skipBlanks_4 : decode cX3_skipBlanks 4 = .ok (.aload_n 0, 1) := by decide +kernel
theorem dX3_skipBlanks_5 : decode cX3_skipBlanks 5 = .ok (.getfield 23, 3) := by decide +kernel
theorem dX3_skipBlanks_8 : decode cX3_skipBlanks 8 = .ok (.if_icmp .ge 30, 3) := by decide +kernel
theorem dX3_skipBlanks_11 : decode cX3_skipBlanks 11 = .ok (.aload_n 0, 1) := by decide +kernel
theorem dX3_skipBlanks_12 : decode cX3_skipBlanks 12 = .ok (.getfield 9, 3) := by decide +kernel
theorem dX3_skipBlanks_15 : decode cX3_skipBlanks 15 = .ok (.aload_n 0, 1) := by decide +kernel
theorem dX3_skipBlanks_16 : decode cX3_skipBlanks 16 = .ok (.getfield 19, 3) := by decide +kernel
theorem dX3_skipBlanks_19 : decode cX3_skipBlanks 19 = .ok (.iaload, 1) := by decide +kernel
theorem dX3_skipBlanks_20 : decode cX3_skipBlanks 20 = .ok (.bipush 32, 2) := by decide +kernel
theorem dX3_skipBlanks_22 : decode cX3_skipBlanks 22 = .ok (.if_icmp .ne 16, 3) := by decide +kernel
theorem dX3_skipBlanks_25 : decode cX3_skipBlanks 25 = .ok (.aload_n 0, 1) := by decide +kernel
theorem dX3_skipBlanks_26 : decode cX3_skipBlanks 26 = .ok (.dup, 1) := by decide +kernel
theorem dX3_skipBlanks_27 : decode cX3_skipBlanks 27 = .ok (.getfield 19, 3) := by decide +kernel
theorem dX3_skipBlanks_30 : decode cX3_skipBlanks 30 = .ok (.iconst 1, 1) := by decide +kernel
theorem dX3_skipBlanks_31 : decode cX3_skipBlanks 31 = .ok (.iadd, 1) := by decide +kernel
theorem dX3_skipBlanks_32 : decode cX3_skipBlanks 32 = .ok (.putfield 19, 3) := by decide +kernel
theorem dX3_skipBlanks_35 : decode cX3_skipBlanks 35 = .ok (.goto (-35), 3) := by decide +kernel
theorem dX3_skipBlanks_38 : decode cX3_skipBlanks 38 = .ok (.return_, 1) := by decide +kernel
theorem dX4_init_0 : decode cX4_init 0 = .ok (.aload_n 0, 1) := by decide +kernel
theorem dX4_init_1 : decode cX4_init 1 = .ok (.invokespecial 1, 3) := by decide +kernel
theorem dX4_init_4 : decode cX4_init 4 = .ok (.aload_n 0, 1) := by decide +kernel
theorem dX4_init_5 : decode cX4_init 5 = .ok (.new 7, 3) := by decide +kernel
theorem dX4_init_8 : decode cX4_init 8 = .ok (.dup, 1) := by decide +kernel
theorem dX4_init_9 : decode cX4_init 9 = .ok (.invokespecial 9, 3) := by decide +kernel
theorem dX4_init_12 : decode cX4_init 12 = .ok (.putfield 10, 3) := by decide +kernel
theorem dX4_init_15 : decode cX4_init 15 = .ok (.aload_n 0, 1) := by decide +kernel
theorem dX4_init_16 : decode cX4_init 16 = .ok (.new 16, 3) := by decide +kernel
theorem dX4_init_19 : decode cX4_init 19 = .ok (.dup, 1) := by decide +kernel
theorem dX4_init_20 : decode cX4_init 20 = .ok (.invokespecial 18, 3) := by decide +kernel
theorem dX4_init_23 : decode cX4_init 23 = .ok (.putfield 19, 3) := by decide +kernel
theorem dX4_init_26 : decode cX4_init 26 = .ok (.aload_n 0, 1) := by decide +kernel
theorem dX4_init_27 : decode cX4_init 27 = .ok (.new 16, 3) := by decide +kernel
theorem dX4_init_30 : decode cX4_init 30 = .ok (.dup, 1) := by decide +kernel
theorem dX4_init_31 : decode cX4_init 31 = .ok (.invokespecial 18, 3) := by decide +kernel
theorem dX4_init_34 : decode cX4_init 34 = .ok (.putfield 23, 3) := by decide +kernel
theorem dX4_init_37 : decode cX4_init 37 = .ok (.aload_n 0, 1) := by decide +kernel
theorem dX4_init_38 : decode cX4_init 38 = .ok (.new 26, 3) := by decide +kernel
theorem dX4_init_41 : decode cX4_init 41 = .ok (.dup, 1) := by decide +kernel
theorem dX4_init_42 : decode cX4_init 42 = .ok (.invokespecial 28, 3) := by decide +kernel
theorem dX4_init_45 : decode cX4_init 45 = .ok (.putfield 29, 3) := by decide +kernel
theorem dX4_init_48 : decode cX4_init 48 = .ok (.aload_n 0, 1) := by decide +kernel
theorem dX4_init_49 : decode cX4_init 49 = .ok (.new 33, 3) := by decide +kernel
theorem dX4_init_52 : decode cX4_init 52 = .ok (.dup, 1) := by decide +kernel
theorem dX4_init_53 : decode cX4_init 53 = .ok (.invokespecial 35, 3) := by decide +kernel
theorem dX4_init_56 : decode cX4_init 56 = .ok (.putfield 36, 3) := by decide +kernel
theorem dX4_init_59 : decode cX4_init 59 = .ok (.aload_n 0, 1) := by decide +kernel
theorem dX4_init_60 : decode cX4_init 60 = .ok (.iconst 2, 1) := by decide +kernel
theorem dX4_init_61 : decode cX4_init 61 = .ok (.anewarray 16, 3) := by decide +kernel
theorem dX4_init_64 : decode cX4_init 64 = .ok (.putfield 40, 3) := by decide +kernel
theorem dX4_init_67 : decode cX4_init 67 = .ok (.iconst 0, 1) := by decide +kernel
theorem dX4_init_68 : decode cX4_init 68 = .ok (.istore_n 1, 1) := by decide +kernel
theorem dX4_init_69 : decode cX4_init 69 = .ok (.iload_n 1, 1) := by decide +kernel
theorem dX4_init_70 : decode cX4_init 70 = .ok (.iconst 2, 1) := by decide +kernel
theorem dX4_init_71 : decode cX4_init 71 = .ok (.if_icmp .ge 22, 3) := by decide +kernel
theorem dX4_init_74 : decode cX4_init 74 = .ok (.aload_n 0, 1) := by decide +kernel
theorem dX4_init_75 : decode cX4_init 75 = .ok (.getfield 40, 3) := by decide +kernel
theorem dX4_init_78 : decode cX4_init 78 = .ok (.iload_n 1, 1) := by decide +kernel
theorem dX4_init_79 : decode cX4_init 79 = .ok (.new 16, 3) := by decide +kernel
theorem dX4_init_82 : decode cX4_init 82 = .ok (.dup, 1) := by decide +kernel
theorem dX4_init_83 : decode cX4_init 83 = .ok (.invokespecial 18, 3) := by decide +kernel
theorem dX4_init_86 : decode cX4_init 86 = .ok (.aastore, 1) := by decide +kernel
theorem dX4_init_87 : decode cX4_init 87 = .ok (.iinc 1 1, 3) := by decide +kernel
theorem dX4_init_90 : decode cX4_init 90 = .ok (.goto (-21), 3) := by decide +kernel
theorem dX4_init_93 : decode cX4_init 93 = .ok (.aload_n 0, 1) := by decide +kernel
theorem dX4_init_94 : decode cX4_init 94 = .ok (.iconst 2, 1) := by decide +kernel
theorem dX4_init_95 : decode cX4_init 95 = .ok (.newarray .boolean, 2) := by decide +kernel
theorem dX4_init_97 : decode cX4_init 97 = .ok (.putfield 44, 3) := by decide +kernel
theorem dX4_init_100 : decode cX4_init 100 = .ok (.return_, 1) := by decide +kernel
theorem dX4_type_0 : decode cX4_type 0 = .ok (.iload_n 1, 1) := by decide +kernel
theorem dX4_type_1 : decode cX4_type 1 = .ok (.iconst 0, 1) := by decide +kernel
theorem dX4_type_2 : decode cX4_type 2 = .ok (.sipush 255, 3) := by decide +kernel
theorem dX4_type_5 : decode cX4_type 5 = .ok (.invokestatic 48, 3) := by decide +kernel
theorem dX4_type_8 : decode cX4_type 8 = .ok (.ifCond .ne 5, 3) := by decide +kernel
theorem dX4_type_11 : decode cX4_type 11 = .ok (.iconst (-1), 1) := by decide +kernel
theorem dX4_type_12 : decode cX4_type 12 = .ok (.ireturn, 1) := by decide +kernel
theorem dX4_type_13 : decode cX4_type 13 = .ok (.aload_n 0, 1) := by decide +kernel
theorem dX4_type_14 : decode cX4_type 14 = .ok (.getfield 10, 3) := by decide +kernel
theorem dX4_type_17 : decode cX4_type 17 = .ok (.iload_n 1, 1) := by decide +kernel
theorem dX4_type_18 : decode cX4_type 18 = .ok (.invokevirtual 52, 3) := by decide +kernel
theorem dX4_type_21 : decode cX4_type 21 = .ok (.ifCond .eq 13, 3) := by decide +kernel
theorem dX4_type_24 : decode cX4_type 24 = .ok (.aload_n 0, 1) := by decide +kernel
theorem dX4_type_25 : decode cX4_type 25 = .ok (.getfield 10, 3) := by decide +kernel
theorem dX4_type_28 : decode cX4_type 28 = .ok (.getfield 56, 3) := by decide +kernel
theorem dX4_type_31 : decode cX4_type 31 = .ok (.goto 5, 3) := by decide +kernel
theorem dX4_type_34 : decode cX4_type 34 = .ok (.bipush (-3), 2) := by decide +kernel
theorem dX4_type_36 : decode cX4_type 36 = .ok (.ireturn, 1) := by decide +kernel
theorem dX4_clear_0 : decode cX4_clear 0 = .ok (.aload_n 0, 1) := by decide +kernel
theorem dX4_clear_1 : decode cX4_clear 1 = .ok (.getfield 10, 3) := by decide +kernel
theorem dX4_clear_4 : decode cX4_clear 4 = .ok (.getfield 56, 3) := by decide +kernel
theorem dX4_clear_7 : decode cX4_clear 7 = .ok (.istore_n 1, 1) := by decide +kernel
theorem dX4_clear_8 : decode cX4_clear 8 = .ok (.aload_n 0, 1) := by decide +kernel
theorem dX4_clear_9 : decode cX4_clear 9 = .ok (.getfield 10, 3) := by decide +kernel
theorem dX4_clear_12 : decode cX4_clear 12 = .ok (.invokevirtual 60, 3) := by decide +kernel
theorem dX4_clear_15 : decode cX4_clear 15 = .ok (.iload_n 1, 1) := by decide +kernel
theorem dX4_clear_16 : decode cX4_clear 16 = .ok (.ireturn, 1) := by decide +kernel
theorem dX4_posts_0 : decode cX4_posts 0 = .ok (.aload_n 0, 1) := by decide +kernel
theorem dX4_posts_1 : decode cX4_posts 1 = .ok (.getfield 10, 3) := by decide +kernel
theorem dX4_posts_4 : decode cX4_posts 4 = .ok (.invokevirtual 63, 3) := by decide +kernel
theorem dX4_posts_7 : decode cX4_posts 7 = .ok (.istore_n 1, 1) := by decide +kernel
theorem dX4_posts_8 : decode cX4_posts 8 = .ok (.iload_n 1, 1) := by decide +kernel
theorem dX4_posts_9 : decode cX4_posts 9 = .ok (.iconst (-1), 1) := by decide +kernel
theorem dX4_posts_10 : decode cX4_posts 10 = .ok (.if_icmp .eq 8, 3) := by decide +kernel
theorem dX4_posts_13 : decode cX4_posts 13 = .ok (.bipush (-10), 2) := by decide +kernel
theorem dX4_posts_15 : decode cX4_posts 15 = .ok (.iload_n 1, 1) := by decide +kernel
theorem dX4_posts_16 : decode cX4_posts 16 = .ok (.isub, 1) := by decide +kernel
theorem dX4_posts_17 : decode cX4_posts 17 = .ok (.ireturn, 1) := by decide +kernel
theorem dX4_posts_18 : decode cX4_posts 18 = .ok (.aload_n 0, 1) := by decide +kernel
theorem dX4_posts_19 : decode cX4_posts 19 = .ok (.getfield 23, 3) := by decide +kernel
theorem dX4_posts_22 : decode cX4_posts 22 = .ok (.aload_n 0, 1) := by decide +kernel
theorem dX4_posts_23 : decode cX4_posts 23 = .ok (.getfield 19, 3) := by decide +kernel
theorem dX4_posts_26 : decode cX4_posts 26 = .ok (.invokevirtual 67, 3) := by decide +kernel
theorem dX4_posts_29 : decode cX4_posts 29 = .ok (.iconst 0, 1) := by decide +kernel
theorem dX4_posts_30 : decode cX4_posts 30 = .ok (.istore_n 2, 1) := by decide +kernel
theorem dX4_posts_31 : decode cX4_posts 31 = .ok (.iload_n 2, 1) := by decide +kernel
theorem dX4_posts_32 : decode cX4_posts 32 = .ok (.aload_n 0, 1) := by decide +kernel
theorem dX4_posts_33 : decode cX4_posts 33 = .ok (.getfield 10, 3) := by decide +kernel
theorem dX4_posts_36 : decode cX4_posts 36 = .ok (.getfield 71, 3) := by decide +kernel
theorem dX4_posts_39 : decode cX4_posts 39 = .ok (.if_icmp .ge 27, 3) := by decide +kernel
theorem dX4_posts_42 : decode cX4_posts 42 = .ok (.aload_n 0, 1) := by decide +kernel
theorem dX4_posts_43 : decode cX4_posts 43 = .ok (.getfield 23, 3) := by decide +kernel
theorem dX4_posts_46 : decode cX4_posts 46 = .ok (.aload_n 0, 1) := by decide +kernel
theorem dX4_posts_47 : decode cX4_posts 47 = .ok (.getfield 10, 3) := by decide +kernel
theorem dX4_posts_50 : decode cX4_posts 50 = .ok (.iload_n 2, 1) := by decide +kernel
theorem dX4_posts_51 : decode cX4_posts 51 = .ok (.invokevirtual 74, 3) := by decide +kernel
theorem dX4_posts_54 : decode cX4_posts 54 = .ok (.ifCond .ne 6, 3) := by decide +kernel
theorem dX4_posts_57 : decode cX4_posts 57 = .ok (.bipush (-3), 2) := by decide +kernel
theorem dX4_posts_59 : decode cX4_posts 59 = .ok (.ireturn, 1) := by decide +kernel
theorem dX4_posts_60 : decode cX4_posts 60 = .ok (.iinc 2 1, 3) := by decide +kernel
theorem dX4_posts_63 : decode cX4_posts 63 = .ok (.goto (-32), 3) := by decide +kernel
theorem dX4_posts_66 : decode cX4_posts 66 = .ok (.aload_n 0, 1) := by decide +kernel
theorem dX4_posts_67 : decode cX4_posts 67 = .ok (.getfield 29, 3) := by decide +kernel
theorem dX4_posts_70 : decode cX4_posts 70 = .ok (.aload_n 0, 1) := by decide +kernel
theorem dX4_posts_71 : decode cX4_posts 71 = .ok (.getfield 19, 3) := by decide +kernel
theorem dX4_posts_74 : decode cX4_posts 74 = .ok (.invokevirtual 78, 3) := by decide +kernel
theorem dX4_posts_77 : decode cX4_posts 77 = .ok (.aload_n 0, 1) := by decide +kernel
theorem dX4_posts_78 : decode cX4_posts 78 = .ok (.getfield 19, 3) := by decide +kernel
theorem dX4_posts_81 : decode cX4_posts 81 = .ok (.aload_n 0, 1) := by decide +kernel
theorem dX4_posts_82 : decode cX4_posts 82 = .ok (.getfield 23, 3) := by decide +kernel
theorem dX4_posts_85 : decode cX4_posts 85 = .ok (.invokevirtual 67, 3) := by decide +kernel
theorem dX4_posts_88 : decode cX4_posts 88 = .ok (.aload_n 0, 1) := by decide +kernel
theorem dX4_posts_89 : decode cX4_posts 89 = .ok (.getfield 10, 3) := by decide +kernel
theorem dX4_posts_92 : decode cX4_posts 92 = .ok (.invokevirtual 60, 3) := by decide +kernel
theorem dX4_posts_95 : decode cX4_posts 95 = .ok (.aload_n 0, 1) := by decide +kernel
theorem dX4_posts_96 : decode cX4_posts 96 = .ok (.getfield 10, 3) := by decide +kernel
theorem dX4_posts_99 : decode cX4_posts 99 = .ok (.getfield 71, 3) := by decide +kernel
theorem dX4_posts_102 : decode cX4_posts 102 = .ok (.ireturn, 1) := by decide +kernel
theorem dX4_ticks_0 : decode cX4_ticks 0 = .ok (.iload_n 1, 1) := by decide +kernel
theorem dX4_ticks_1 : decode cX4_ticks 1 = .ok (.iconst 1, 1) := by decide +kernel
theorem dX4_ticks_2 : decode cX4_ticks 2 = .ok (.bipush 40, 2) := by decide +kernel
theorem dX4_ticks_4 : decode cX4_ticks 4 = .ok (.invokestatic 48, 3) := by decide +kernel
theorem dX4_ticks_7 : decode cX4_ticks 7 = .ok (.ifCond .ne 5, 3) := by decide +kernel
theorem dX4_ticks_10 : decode cX4_ticks 10 = .ok (.iconst (-1), 1) := by decide +kernel
theorem dX4_ticks_11 : decode cX4_ticks 11 = .ok (.ireturn, 1) := by decide +kernel
theorem dX4_ticks_12 : decode cX4_ticks 12 = .ok (.aload_n 0, 1) := by decide +kernel
theorem dX4_ticks_13 : decode cX4_ticks 13 = .ok (.getfield 29, 3) := by decide +kernel
theorem dX4_ticks_16 : decode cX4_ticks 16 = .ok (.aload_n 0, 1) := by decide +kernel
theorem dX4_ticks_17 : decode cX4_ticks 17 = .ok (.getfield 19, 3) := by decide +kernel
theorem dX4_ticks_20 : decode cX4_ticks 20 = .ok (.invokevirtual 78, 3) := by decide +kernel
theorem dX4_ticks_23 : decode cX4_ticks 23 = .ok (.iconst 0, 1) := by decide +kernel
theorem dX4_ticks_24 : decode cX4_ticks 24 = .ok (.istore_n 2, 1) := by decide +kernel
theorem dX4_ticks_25 : decode cX4_ticks 25 = .ok (.iconst 0, 1) := by decide +kernel
theorem dX4_ticks_26 : decode cX4_ticks 26 = .ok (.istore_n 3, 1) := by decide +kernel
theorem dX4_ticks_27 : decode cX4_ticks 27 = .ok (.iload_n 3, 1) := by decide +kernel
theorem dX4_ticks_28 : decode cX4_ticks 28 = .ok (.iload_n 1, 1) := by decide +kernel
theorem dX4_ticks_29 : decode cX4_ticks 29 = .ok (.if_icmp .ge 25, 3) := by decide +kernel
theorem dX4_ticks_32 : decode cX4_ticks 32 = .ok (.aload_n 0, 1) := by decide +kernel
theorem dX4_ticks_33 : decode cX4_ticks 33 = .ok (.getfield 19, 3) := by decide +kernel
theorem dX4_ticks_36 : decode cX4_ticks 36 = .ok (.iconst 1, 1) := by decide +kernel
theorem dX4_ticks_37 : decode cX4_ticks 37 = .ok (.invokevirtual 81, 3) := by decide +kernel
theorem dX4_ticks_40 : decode cX4_ticks 40 = .ok (.bipush (-9), 2) := by decide +kernel
theorem dX4_ticks_42 : decode cX4_ticks 42 = .ok (.if_icmp .eq 6, 3) := by decide +kernel
theorem dX4_ticks_45 : decode cX4_ticks 45 = .ok (.iinc 2 1, 3) := by decide +kernel
theorem dX4_ticks_48 : decode cX4_ticks 48 = .ok (.iinc 3 1, 3) := by decide +kernel
theorem dX4_ticks_51 : decode cX4_ticks 51 = .ok (.goto (-24), 3) := by decide +kernel
theorem dX4_ticks_54 : decode cX4_ticks 54 = .ok (.iload_n 2, 1) := by decide +kernel
theorem dX4_ticks_55 : decode cX4_ticks 55 = .ok (.ireturn, 1) := by decide +kernel
theorem dX4_cancels_0 : decode cX4_cancels 0 = .ok (.iload_n 1, 1) := by decide +kernel
theorem dX4_cancels_1 : decode cX4_cancels 1 = .ok (.invokestatic 85, 3) := by decide +kernel
theorem dX4_cancels_4 : decode cX4_cancels 4 = .ok (.ifCond .ne 5, 3) := by decide +kernel
theorem dX4_cancels_7 : decode cX4_cancels 7 = .ok (.iconst (-1), 1) := by decide +kernel
theorem dX4_cancels_8 : decode cX4_cancels 8 = .ok (.ireturn, 1) := by decide +kernel
theorem dX4_cancels_9 : decode cX4_cancels 9 = .ok (.aload_n 0, 1) := by decide +kernel
theorem dX4_cancels_10 : decode cX4_cancels 10 = .ok (.getfield 19, 3) := by decide +kernel
theorem dX4_cancels_13 : decode cX4_cancels 13 = .ok (.iload_n 1, 1) := by decide +kernel
theorem dX4_cancels_14 : decode cX4_cancels 14 = .ok (.invokevirtual 88, 3) := by decide +kernel
theorem dX4_cancels_17 : decode cX4_cancels 17 = .ok (.bipush (-9), 2) := by decide +kernel
theorem dX4_cancels_19 : decode cX4_cancels 19 = .ok (.if_icmp .ne 6, 3) := by decide +kernel
theorem dX4_cancels_22 : decode cX4_cancels 22 = .ok (.bipush (-2), 2) := by decide +kernel
theorem dX4_cancels_24 : decode cX4_cancels 24 = .ok (.ireturn, 1) := by decide +kernel
theorem dX4_cancels_25 : decode cX4_cancels 25 = .ok (.aload_n 0, 1) := by decide +kernel
theorem dX4_cancels_26 : decode cX4_cancels 26 = .ok (.getfield 29, 3) := by decide +kernel
theorem dX4_cancels_29 : decode cX4_cancels 29 = .ok (.aload_n 0, 1) := by decide +kernel
theorem dX4_cancels_30 : decode cX4_cancels 30 = .ok (.getfield 19, 3) := by decide +kernel
theorem dX4_cancels_33 : decode cX4_cancels 33 = .ok (.invokevirtual 78, 3) := by decide +kernel
theorem dX4_cancels_36 : decode cX4_cancels 36 = .ok (.aload_n 0, 1) := by decide +kernel
theorem dX4_cancels_37 : decode cX4_cancels 37 = .ok (.getfield 19, 3) := by decide +kernel
theorem dX4_cancels_40 : decode cX4_cancels 40 = .ok (.iload_n 1, 1) := by decide +kernel
theorem dX4_cancels_41 : decode cX4_cancels 41 = .ok (.invokevirtual 92, 3) := by decide +kernel
theorem dX4_cancels_44 : decode cX4_cancels 44 = .ok (.ireturn, 1) := by decide +kernel
theorem dX4_switches_0 : decode cX4_switches 0 = .ok (.iload_n 1, 1) := by decide +kernel
theorem dX4_switches_1 : decode cX4_switches 1 = .ok (.invokestatic 85, 3) := by decide +kernel
theorem dX4_switches_4 : decode cX4_switches 4 = .ok (.ifCond .ne 5, 3) := by decide +kernel
theorem dX4_switches_7 : decode cX4_switches 7 = .ok (.iconst (-1), 1) := by decide +kernel
theorem dX4_switches_8 : decode cX4_switches 8 = .ok (.ireturn, 1) := by decide +kernel
theorem dX4_switches_9 : decode cX4_switches 9 = .ok (.aload_n 0, 1) := by decide +kernel
theorem dX4_switches_10 : decode cX4_switches 10 = .ok (.getfield 29, 3) := by decide +kernel
theorem dX4_switches_13 : decode cX4_switches 13 = .ok (.aload_n 0, 1) := by decide +kernel
theorem dX4_switches_14 : decode cX4_switches 14 = .ok (.getfield 19, 3) := by decide +kernel
theorem dX4_switches_17 : decode cX4_switches 17 = .ok (.invokevirtual 78, 3) := by decide +kernel
theorem dX4_switches_20 : decode cX4_switches 20 = .ok (.iconst 1, 1) := by decide +kernel
theorem dX4_switches_21 : decode cX4_switches 21 = .ok (.aload_n 0, 1) := by decide +kernel
theorem dX4_switches_22 : decode cX4_switches 22 = .ok (.getfield 19, 3) := by decide +kernel
theorem dX4_switches_25 : decode cX4_switches 25 = .ok (.iload_n 1, 1) := by decide +kernel
theorem dX4_switches_26 : decode cX4_switches 26 = .ok (.iconst 0, 1) := by decide +kernel
theorem dX4_switches_27 : decode cX4_switches 27 = .ok (.invokevirtual 95, 3) := by decide +kernel
theorem dX4_switches_30 : decode cX4_switches 30 = .ok (.isub, 1) := by decide +kernel
theorem dX4_switches_31 : decode cX4_switches 31 = .ok (.istore_n 2, 1) := by decide +kernel
theorem dX4_switches_32 : decode cX4_switches 32 = .ok (.aload_n 0, 1) := by decide +kernel
theorem dX4_switches_33 : decode cX4_switches 33 = .ok (.getfield 19, 3) := by decide +kernel
theorem dX4_switches_36 : decode cX4_switches 36 = .ok (.iload_n 1, 1) := by decide +kernel
theorem dX4_switches_37 : decode cX4_switches 37 = .ok (.iconst 0, 1) := by decide +kernel
theorem dX4_switches_38 : decode cX4_switches 38 = .ok (.iload_n 2, 1) := by decide +kernel
theorem dX4_switches_39 : decode cX4_switches 39 = .ok (.invokevirtual 99, 3) := by decide +kernel
theorem dX4_switches_42 : decode cX4_switches 42 = .ok (.iload_n 2, 1) := by decide +kernel
theorem dX4_switches_43 : decode cX4_switches 43 = .ok (.ireturn, 1) := by decide +kernel
theorem dX4_tunes_0 : decode cX4_tunes 0 = .ok (.iload_n 1, 1) := by decide +kernel
theorem dX4_tunes_1 : decode cX4_tunes 1 = .ok (.invokestatic 85, 3) := by decide +kernel
theorem dX4_tunes_4 : decode cX4_tunes 4 = .ok (.ifCond .eq 22, 3) := by decide +kernel
theorem dX4_tunes_7 : decode cX4_tunes 7 = .ok (.iload_n 2, 1) := by decide +kernel
theorem dX4_tunes_8 : decode cX4_tunes 8 = .ok (.iconst 0, 1) := by decide +kernel
theorem dX4_tunes_9 : decode cX4_tunes 9 = .ok (.iconst 3, 1) := by decide +kernel
theorem dX4_tunes_10 : decode cX4_tunes 10 = .ok (.invokestatic 48, 3) := by decide +kernel
theorem dX4_tunes_13 : decode cX4_tunes 13 = .ok (.ifCond .eq 13, 3) := by decide +kernel
theorem dX4_tunes_16 : decode cX4_tunes 16 = .ok (.iload_n 3, 1) := by decide +kernel
theorem dX4_tunes_17 : decode cX4_tunes 17 = .ok (.iconst 1, 1) := by decide +kernel
theorem dX4_tunes_18 : decode cX4_tunes 18 = .ok (.bipush 8, 2) := by decide +kernel
theorem dX4_tunes_20 : decode cX4_tunes 20 = .ok (.invokestatic 48, 3) := by decide +kernel
theorem dX4_tunes_23 : decode cX4_tunes 23 = .ok (.ifCond .ne 5, 3) := by decide +kernel
theorem dX4_tunes_26 : decode cX4_tunes 26 = .ok (.iconst (-1), 1) := by decide +kernel
theorem dX4_tunes_27 : decode cX4_tunes 27 = .ok (.ireturn, 1) := by decide +kernel
theorem dX4_tunes_28 : decode cX4_tunes 28 = .ok (.aload_n 0, 1) := by decide +kernel
theorem dX4_tunes_29 : decode cX4_tunes 29 = .ok (.getfield 19, 3) := by decide +kernel
theorem dX4_tunes_32 : decode cX4_tunes 32 = .ok (.iload_n 1, 1) := by decide +kernel
theorem dX4_tunes_33 : decode cX4_tunes 33 = .ok (.iconst 1, 1) := by decide +kernel
theorem dX4_tunes_34 : decode cX4_tunes 34 = .ok (.invokevirtual 95, 3) := by decide +kernel
theorem dX4_tunes_37 : decode cX4_tunes 37 = .ok (.iload_n 2, 1) := by decide +kernel
theorem dX4_tunes_38 : decode cX4_tunes 38 = .ok (.if_icmp .ne 19, 3) := by decide +kernel
theorem dX4_tunes_41 : decode cX4_tunes 41 = .ok (.aload_n 0, 1) := by decide +kernel
theorem dX4_tunes_42 : decode cX4_tunes 42 = .ok (.getfield 19, 3) := by decide +kernel
theorem dX4_tunes_45 : decode cX4_tunes 45 = .ok (.iload_n 1, 1) := by decide +kernel
theorem dX4_tunes_46 : decode cX4_tunes 46 = .ok (.iconst 2, 1) := by decide +kernel
theorem dX4_tunes_47 : decode cX4_tunes 47 = .ok (.invokevirtual 95, 3) := by decide +kernel
theorem dX4_tunes_50 : decode cX4_tunes 50 = .ok (.iload_n 3, 1) := by decide +kernel
theorem dX4_tunes_51 : decode cX4_tunes 51 = .ok (.if_icmp .ne 6, 3) := by decide +kernel
theorem dX4_tunes_54 : decode cX4_tunes 54 = .ok (.bipush (-2), 2) := by decide +kernel
theorem dX4_tunes_56 : decode cX4_tunes 56 = .ok (.ireturn, 1) := by decide +kernel
theorem dX4_tunes_57 : decode cX4_tunes 57 = .ok (.aload_n 0, 1) := by decide +kernel
theorem dX4_tunes_58 : decode cX4_tunes 58 = .ok (.getfield 29, 3) := by decide +kernel
theorem dX4_tunes_61 : decode cX4_tunes 61 = .ok (.aload_n 0, 1) := by decide +kernel
theorem dX4_tunes_62 : decode cX4_tunes 62 = .ok (.getfield 19, 3) := by decide +kernel
theorem dX4_tunes_65 : decode cX4_tunes 65 = .ok (.invokevirtual 78, 3) := by decide +kernel
theorem dX4_tunes_68 : decode cX4_tunes 68 = .ok (.aload_n 0, 1) := by decide +kernel
theorem dX4_tunes_69 : decode cX4_tunes 69 = .ok (.getfield 19, 3) := by decide +kernel
theorem dX4_tunes_72 : decode cX4_tunes 72 = .ok (.iload_n 1, 1) := by decide +kernel
theorem dX4_tunes_73 : decode cX4_tunes 73 = .ok (.iconst 1, 1) := by decide +kernel
theorem dX4_tunes_74 : decode cX4_tunes 74 = .ok (.iload_n 2, 1) := by decide +kernel
theorem dX4_tunes_75 : decode cX4_tunes 75 = .ok (.invokevirtual 99, 3) := by decide +kernel
theorem dX4_tunes_78 : decode cX4_tunes 78 = .ok (.aload_n 0, 1) := by decide +kernel
theorem dX4_tunes_79 : decode cX4_tunes 79 = .ok (.getfield 19, 3) := by decide +kernel
theorem dX4_tunes_82 : decode cX4_tunes 82 = .ok (.iload_n 1, 1) := by decide +kernel
theorem dX4_tunes_83 : decode cX4_tunes 83 = .ok (.iconst 2, 1) := by decide +kernel
theorem dX4_tunes_84 : decode cX4_tunes 84 = .ok (.iload_n 3, 1) := by decide +kernel
theorem dX4_tunes_85 : decode cX4_tunes 85 = .ok (.invokevirtual 99, 3) := by decide +kernel
theorem dX4_tunes_88 : decode cX4_tunes 88 = .ok (.iconst 1, 1) := by decide +kernel
theorem dX4_tunes_89 : decode cX4_tunes 89 = .ok (.ireturn, 1) := by decide +kernel
theorem dX4_undo_0 : decode cX4_undo 0 = .ok (.aload_n 0, 1) := by decide +kernel
theorem dX4_undo_1 : decode cX4_undo 1 = .ok (.getfield 29, 3) := by decide +kernel
theorem dX4_undo_4 : decode cX4_undo 4 = .ok (.aload_n 0, 1) := by decide +kernel
theorem dX4_undo_5 : decode cX4_undo 5 = .ok (.getfield 19, 3) := by decide +kernel
theorem dX4_undo_8 : decode cX4_undo 8 = .ok (.invokevirtual 103, 3) := by decide +kernel
theorem dX4_undo_11 : decode cX4_undo 11 = .ok (.ifCond .eq 13, 3) := by decide +kernel
theorem dX4_undo_14 : decode cX4_undo 14 = .ok (.aload_n 0, 1) := by decide +kernel
theorem dX4_undo_15 : decode cX4_undo 15 = .ok (.getfield 29, 3) := by decide +kernel
theorem dX4_undo_18 : decode cX4_undo 18 = .ok (.getfield 107, 3) := by decide +kernel
theorem dX4_undo_21 : decode cX4_undo 21 = .ok (.goto 5, 3) := by decide +kernel
theorem dX4_undo_24 : decode cX4_undo 24 = .ok (.bipush (-2), 2) := by decide +kernel
theorem dX4_undo_26 : decode cX4_undo 26 = .ok (.ireturn, 1) := by decide +kernel
theorem dX4_at_0 : decode cX4_at 0 = .ok (.iload_n 1, 1) := by decide +kernel
theorem dX4_at_1 : decode cX4_at 1 = .ok (.iconst 0, 1) := by decide +kernel
theorem dX4_at_2 : decode cX4_at 2 = .ok (.bipush 63, 2) := by decide +kernel
theorem dX4_at_4 : decode cX4_at 4 = .ok (.invokestatic 48, 3) := by decide +kernel
theorem dX4_at_7 : decode cX4_at 7 = .ok (.ifCond .eq 15, 3) := by decide +kernel
theorem dX4_at_10 : decode cX4_at 10 = .ok (.aload_n 0, 1) := by decide +kernel
theorem dX4_at_11 : decode cX4_at 11 = .ok (.getfield 19, 3) := by decide +kernel
theorem dX4_at_14 : decode cX4_at 14 = .ok (.getfield 110, 3) := by decide +kernel
theorem dX4_at_17 : decode cX4_at 17 = .ok (.iload_n 1, 1) := by decide +kernel
theorem dX4_at_18 : decode cX4_at 18 = .ok (.iaload, 1) := by decide +kernel
theorem dX4_at_19 : decode cX4_at 19 = .ok (.goto 4, 3) := by decide +kernel
theorem dX4_at_22 : decode cX4_at 22 = .ok (.iconst (-1), 1) := by decide +kernel
theorem dX4_at_23 : decode cX4_at 23 = .ok (.ireturn, 1) := by decide +kernel
theorem dX4_channel_0 : decode cX4_channel 0 = .ok (.iload_n 1, 1) := by decide +kernel
theorem dX4_channel_1 : decode cX4_channel 1 = .ok (.invokestatic 85, 3) := by decide +kernel
theorem dX4_channel_4 : decode cX4_channel 4 = .ok (.ifCond .ne 5, 3) := by decide +kernel
theorem dX4_channel_7 : decode cX4_channel 7 = .ok (.iconst (-1), 1) := by decide +kernel
theorem dX4_channel_8 : decode cX4_channel 8 = .ok (.ireturn, 1) := by decide +kernel
theorem dX4_channel_9 : decode cX4_channel 9 = .ok (.iload_n 2, 1) := by decide +kernel
theorem dX4_channel_10 : decode cX4_channel 10 = .ok (.tableswitch 144 0 8 #[50, 60, 70, 80, 90, 100, 106, 116, 127], 50) := by decide +kernel
theorem dX4_channel_60 : decode cX4_channel 60 = .ok (.aload_n 0, 1) := by decide +kernel
theorem dX4_channel_61 : decode cX4_channel 61 = .ok (.getfield 19, 3) := by decide +kernel
theorem dX4_channel_64 : decode cX4_channel 64 = .ok (.iload_n 1, 1) := by decide +kernel
theorem dX4_channel_65 : decode cX4_channel 65 = .ok (.iconst 0, 1) := by decide +kernel
theorem dX4_channel_66 : decode cX4_channel 66 = .ok (.invokevirtual 95, 3) := by decide +kernel
theorem dX4_channel_69 : decode cX4_channel 69 = .ok (.ireturn, 1) := by decide +kernel
theorem dX4_channel_70 : decode cX4_channel 70 = .ok (.aload_n 0, 1) := by decide +kernel
theorem dX4_channel_71 : decode cX4_channel 71 = .ok (.getfield 19, 3) := by decide +kernel
theorem dX4_channel_74 : decode cX4_channel 74 = .ok (.iload_n 1, 1) := by decide +kernel
theorem dX4_channel_75 : decode cX4_channel 75 = .ok (.iconst 1, 1) := by decide +kernel
theorem dX4_channel_76 : decode cX4_channel 76 = .ok (.invokevirtual 95, 3) := by decide +kernel
theorem dX4_channel_79 : decode cX4_channel 79 = .ok (.ireturn, 1) := by decide +kernel
theorem dX4_channel_80 : decode cX4_channel 80 = .ok (.aload_n 0, 1) := by decide +kernel
theorem dX4_channel_81 : decode cX4_channel 81 = .ok (.getfield 19, 3) := by decide +kernel
theorem dX4_channel_84 : decode cX4_channel 84 = .ok (.iload_n 1, 1) := by decide +kernel
theorem dX4_channel_85 : decode cX4_channel 85 = .ok (.iconst 2, 1) := by decide +kernel
theorem dX4_channel_86 : decode cX4_channel 86 = .ok (.invokevirtual 95, 3) := by decide +kernel
theorem dX4_channel_89 : decode cX4_channel 89 = .ok (.ireturn, 1) := by decide +kernel
theorem dX4_channel_90 : decode cX4_channel 90 = .ok (.aload_n 0, 1) := by decide +kernel
theorem dX4_channel_91 : decode cX4_channel 91 = .ok (.getfield 19, 3) := by decide +kernel
theorem dX4_channel_94 : decode cX4_channel 94 = .ok (.iload_n 1, 1) := by decide +kernel
theorem dX4_channel_95 : decode cX4_channel 95 = .ok (.iconst 3, 1) := by decide +kernel
theorem dX4_channel_96 : decode cX4_channel 96 = .ok (.invokevirtual 95, 3) := by decide +kernel
theorem dX4_channel_99 : decode cX4_channel 99 = .ok (.ireturn, 1) := by decide +kernel
theorem dX4_channel_100 : decode cX4_channel 100 = .ok (.aload_n 0, 1) := by decide +kernel
theorem dX4_channel_101 : decode cX4_channel 101 = .ok (.getfield 19, 3) := by decide +kernel
theorem dX4_channel_104 : decode cX4_channel 104 = .ok (.iload_n 1, 1) := by decide +kernel
theorem dX4_channel_105 : decode cX4_channel 105 = .ok (.iconst 4, 1) := by decide +kernel
theorem dX4_channel_106 : decode cX4_channel 106 = .ok (.invokevirtual 95, 3) := by decide +kernel
theorem dX4_channel_109 : decode cX4_channel 109 = .ok (.ireturn, 1) := by decide +kernel
theorem dX4_channel_110 : decode cX4_channel 110 = .ok (.aload_n 0, 1) := by decide +kernel
theorem dX4_channel_111 : decode cX4_channel 111 = .ok (.iload_n 1, 1) := by decide +kernel
theorem dX4_channel_112 : decode cX4_channel 112 = .ok (.invokevirtual 114, 3) := by decide +kernel
theorem dX4_channel_115 : decode cX4_channel 115 = .ok (.ireturn, 1) := by decide +kernel
theorem dX4_channel_116 : decode cX4_channel 116 = .ok (.aload_n 0, 1) := by decide +kernel
theorem dX4_channel_117 : decode cX4_channel 117 = .ok (.getfield 19, 3) := by decide +kernel
theorem dX4_channel_120 : decode cX4_channel 120 = .ok (.iload_n 1, 1) := by decide +kernel
theorem dX4_channel_121 : decode cX4_channel 121 = .ok (.iconst 5, 1) := by decide +kernel
theorem dX4_channel_122 : decode cX4_channel 122 = .ok (.invokevirtual 95, 3) := by decide +kernel
theorem dX4_channel_125 : decode cX4_channel 125 = .ok (.ireturn, 1) := by decide +kernel
theorem dX4_channel_126 : decode cX4_channel 126 = .ok (.aload_n 0, 1) := by decide +kernel
theorem dX4_channel_127 : decode cX4_channel 127 = .ok (.getfield 19, 3) := by decide +kernel
theorem dX4_channel_130 : decode cX4_channel 130 = .ok (.iload_n 1, 1) := by decide +kernel
theorem dX4_channel_131 : decode cX4_channel 131 = .ok (.bipush 6, 2) := by decide +kernel
theorem dX4_channel_133 : decode cX4_channel 133 = .ok (.invokevirtual 95, 3) := by decide +kernel
theorem dX4_channel_136 : decode cX4_channel 136 = .ok (.ireturn, 1) := by decide +kernel
theorem dX4_channel_137 : decode cX4_channel 137 = .ok (.aload_n 0, 1) := by decide +kernel
theorem dX4_channel_138 : decode cX4_channel 138 = .ok (.getfield 19, 3) := by decide +kernel
theorem dX4_channel_141 : decode cX4_channel 141 = .ok (.iload_n 1, 1) := by decide +kernel
theorem dX4_channel_142 : decode cX4_channel 142 = .ok (.invokevirtual 117, 3) := by decide +kernel
theorem dX4_channel_145 : decode cX4_channel 145 = .ok (.ifCond .eq 7, 3) := by decide +kernel
theorem dX4_channel_148 : decode cX4_channel 148 = .ok (.iconst 1, 1) := by decide +kernel
theorem dX4_channel_149 : decode cX4_channel 149 = .ok (.goto 4, 3) := by decide +kernel
theorem dX4_channel_152 : decode cX4_channel 152 = .ok (.iconst 0, 1) := by decide +kernel
theorem dX4_channel_153 : decode cX4_channel 153 = .ok (.ireturn, 1) := by decide +kernel
theorem dX4_channel_154 : decode cX4_channel 154 = .ok (.iconst (-1), 1) := by decide +kernel
theorem dX4_channel_155 : decode cX4_channel 155 = .ok (.ireturn, 1) := by decide +kernel
theorem dX4_slot_0 : decode cX4_slot 0 = .ok (.iload_n 1, 1) := by decide +kernel
theorem dX4_slot_1 : decode cX4_slot 1 = .ok (.iload_n 2, 1) := by decide +kernel
theorem dX4_slot_2 : decode cX4_slot 2 = .ok (.invokestatic 120, 3) := by decide +kernel
theorem dX4_slot_5 : decode cX4_slot 5 = .ok (.ifCond .eq 12, 3) := by decide +kernel
theorem dX4_slot_8 : decode cX4_slot 8 = .ok (.iload_n 3, 1) := by decide +kernel
theorem dX4_slot_9 : decode cX4_slot 9 = .ok (.iconst 0, 1) := by decide +kernel
theorem dX4_slot_10 : decode cX4_slot 10 = .ok (.iconst 5, 1) := by decide +kernel
theorem dX4_slot_11 : decode cX4_slot 11 = .ok (.invokestatic 48, 3) := by decide +kernel
theorem dX4_slot_14 : decode cX4_slot 14 = .ok (.ifCond .ne 5, 3) := by decide +kernel
theorem dX4_slot_17 : decode cX4_slot 17 = .ok (.iconst (-1), 1) := by decide +kernel
theorem dX4_slot_18 : decode cX4_slot 18 = .ok (.ireturn, 1) := by decide +kernel
theorem dX4_slot_19 : decode cX4_slot 19 = .ok (.iload_n 1, 1) := by decide +kernel
theorem dX4_slot_20 : decode cX4_slot 20 = .ok (.iload_n 2, 1) := by decide +kernel
theorem dX4_slot_21 : decode cX4_slot 21 = .ok (.invokestatic 124, 3) := by decide +kernel
theorem dX4_slot_24 : decode cX4_slot 24 = .ok (.istore 4, 2) := by decide +kernel
theorem dX4_slot_26 : decode cX4_slot 26 = .ok (.aload_n 0, 1) := by decide +kernel
theorem dX4_slot_27 : decode cX4_slot 27 = .ok (.getfield 19, 3) := by decide +kernel
theorem dX4_slot_30 : decode cX4_slot 30 = .ok (.iload 4, 2) := by decide +kernel
theorem dX4_slot_32 : decode cX4_slot 32 = .ok (.invokevirtual 127, 3) := by decide +kernel
theorem dX4_slot_35 : decode cX4_slot 35 = .ok (.ifCond .ne 6, 3) := by decide +kernel
theorem dX4_slot_38 : decode cX4_slot 38 = .ok (.bipush (-9), 2) := by decide +kernel
theorem dX4_slot_40 : decode cX4_slot 40 = .ok (.ireturn, 1) := by decide +kernel
theorem dX4_slot_41 : decode cX4_slot 41 = .ok (.iload_n 3, 1) := by decide +kernel
theorem dX4_slot_42 : decode cX4_slot 42 = .ok (.tableswitch 92 0 4 #[34, 46, 58, 70, 80], 34) := by decide +kernel
theorem dX4_slot_76 : decode cX4_slot 76 = .ok (.aload_n 0, 1) := by decide +kernel
theorem dX4_slot_77 : decode cX4_slot 77 = .ok (.getfield 19, 3) := by decide +kernel
theorem dX4_slot_80 : decode cX4_slot 80 = .ok (.iload 4, 2) := by decide +kernel
theorem dX4_slot_82 : decode cX4_slot 82 = .ok (.bipush 9, 2) := by decide +kernel
theorem dX4_slot_84 : decode cX4_slot 84 = .ok (.invokevirtual 130, 3) := by decide +kernel
theorem dX4_slot_87 : decode cX4_slot 87 = .ok (.ireturn, 1) := by decide +kernel
theorem dX4_slot_88 : decode cX4_slot 88 = .ok (.aload_n 0, 1) := by decide +kernel
theorem dX4_slot_89 : decode cX4_slot 89 = .ok (.getfield 19, 3) := by decide +kernel
theorem dX4_slot_92 : decode cX4_slot 92 = .ok (.iload 4, 2) := by decide +kernel
theorem dX4_slot_94 : decode cX4_slot 94 = .ok (.bipush 10, 2) := by decide +kernel
theorem dX4_slot_96 : decode cX4_slot 96 = .ok (.invokevirtual 130, 3) := by decide +kernel
theorem dX4_slot_99 : decode cX4_slot 99 = .ok (.ireturn, 1) := by decide +kernel
theorem dX4_slot_100 : decode cX4_slot 100 = .ok (.aload_n 0, 1) := by decide +kernel
theorem dX4_slot_101 : decode cX4_slot 101 = .ok (.getfield 19, 3) := by decide +kernel
theorem dX4_slot_104 : decode cX4_slot 104 = .ok (.iload 4, 2) := by decide +kernel
theorem dX4_slot_106 : decode cX4_slot 106 = .ok (.bipush 11, 2) := by decide +kernel
theorem dX4_slot_108 : decode cX4_slot 108 = .ok (.invokevirtual 130, 3) := by decide +kernel
theorem dX4_slot_111 : decode cX4_slot 111 = .ok (.ireturn, 1) := by decide +kernel
theorem dX4_slot_112 : decode cX4_slot 112 = .ok (.aload_n 0, 1) := by decide +kernel
theorem dX4_slot_113 : decode cX4_slot 113 = .ok (.getfield 19, 3) := by decide +kernel
theorem dX4_slot_116 : decode cX4_slot 116 = .ok (.iload 4, 2) := by decide +kernel
theorem dX4_slot_118 : decode cX4_slot 118 = .ok (.invokevirtual 133, 3) := by decide +kernel
theorem dX4_slot_121 : decode cX4_slot 121 = .ok (.ireturn, 1) := by decide +kernel
theorem dX4_slot_122 : decode cX4_slot 122 = .ok (.aload_n 0, 1) := by decide +kernel
theorem dX4_slot_123 : decode cX4_slot 123 = .ok (.getfield 19, 3) := by decide +kernel
theorem dX4_slot_126 : decode cX4_slot 126 = .ok (.iload 4, 2) := by decide +kernel
theorem dX4_slot_128 : decode cX4_slot 128 = .ok (.bipush 8, 2) := by decide +kernel
theorem dX4_slot_130 : decode cX4_slot 130 = .ok (.invokevirtual 130, 3) := by decide +kernel
theorem dX4_slot_133 : decode cX4_slot 133 = .ok (.ireturn, 1) := by decide +kernel
theorem dX4_slot_134 : decode cX4_slot 134 = .ok (.aload_n 0, 1) := by decide +kernel
theorem dX4_slot_135 : decode cX4_slot 135 = .ok (.getfield 19, 3) := by decide +kernel
theorem dX4_slot_138 : decode cX4_slot 138 = .ok (.iload 4, 2) := by decide +kernel
theorem dX4_slot_140 : decode cX4_slot 140 = .ok (.bipush 12, 2) := by decide +kernel
theorem dX4_slot_142 : decode cX4_slot 142 = .ok (.invokevirtual 130, 3) := by decide +kernel
theorem dX4_slot_145 : decode cX4_slot 145 = .ok (.ireturn, 1) := by decide +kernel
theorem dX4_unit_0 : decode cX4_unit 0 = .ok (.iload_n 1, 1) := by decide +kernel
theorem dX4_unit_1 : decode cX4_unit 1 = .ok (.iload_n 2, 1) := by decide +kernel
theorem dX4_unit_2 : decode cX4_unit 2 = .ok (.invokestatic 120, 3) := by decide +kernel
theorem dX4_unit_5 : decode cX4_unit 5 = .ok (.ifCond .eq 17, 3) := by decide +kernel
theorem dX4_unit_8 : decode cX4_unit 8 = .ok (.iload_n 3, 1) := by decide +kernel
theorem dX4_unit_9 : decode cX4_unit 9 = .ok (.ifCond .lt 13, 3) := by decide +kernel
theorem dX4_unit_12 : decode cX4_unit 12 = .ok (.iload 4, 2) := by decide +kernel
theorem dX4_unit_14 : decode cX4_unit 14 = .ok (.iconst 0, 1) := by decide +kernel
theorem dX4_unit_15 : decode cX4_unit 15 = .ok (.iconst 1, 1) := by decide +kernel
theorem dX4_unit_16 : decode cX4_unit 16 = .ok (.invokestatic 48, 3) := by decide +kernel
theorem dX4_unit_19 : decode cX4_unit 19 = .ok (.ifCond .ne 5, 3) := by decide +kernel
theorem dX4_unit_22 : decode cX4_unit 22 = .ok (.iconst (-1), 1) := by decide +kernel
theorem dX4_unit_23 : decode cX4_unit 23 = .ok (.ireturn, 1) := by decide +kernel
theorem dX4_unit_24 : decode cX4_unit 24 = .ok (.iload_n 1, 1) := by decide +kernel
theorem dX4_unit_25 : decode cX4_unit 25 = .ok (.iload_n 2, 1) := by decide +kernel
theorem dX4_unit_26 : decode cX4_unit 26 = .ok (.invokestatic 124, 3) := by decide +kernel
theorem dX4_unit_29 : decode cX4_unit 29 = .ok (.istore 5, 2) := by decide +kernel
theorem dX4_unit_31 : decode cX4_unit 31 = .ok (.aload_n 0, 1) := by decide +kernel
theorem dX4_unit_32 : decode cX4_unit 32 = .ok (.getfield 19, 3) := by decide +kernel
theorem dX4_unit_35 : decode cX4_unit 35 = .ok (.iload 5, 2) := by decide +kernel
theorem dX4_unit_37 : decode cX4_unit 37 = .ok (.invokevirtual 127, 3) := by decide +kernel
theorem dX4_unit_40 : decode cX4_unit 40 = .ok (.ifCond .eq 16, 3) := by decide +kernel
theorem dX4_unit_43 : decode cX4_unit 43 = .ok (.iload_n 3, 1) := by decide +kernel
theorem dX4_unit_44 : decode cX4_unit 44 = .ok (.aload_n 0, 1) := by decide +kernel
theorem dX4_unit_45 : decode cX4_unit 45 = .ok (.getfield 19, 3) := by decide +kernel
theorem dX4_unit_48 : decode cX4_unit 48 = .ok (.iload 5, 2) := by decide +kernel
theorem dX4_unit_50 : decode cX4_unit 50 = .ok (.invokevirtual 133, 3) := by decide +kernel
theorem dX4_unit_53 : decode cX4_unit 53 = .ok (.if_icmp .lt 6, 3) := by decide +kernel
theorem dX4_unit_56 : decode cX4_unit 56 = .ok (.bipush (-9), 2) := by decide +kernel
theorem dX4_unit_58 : decode cX4_unit 58 = .ok (.ireturn, 1) := by decide +kernel
theorem dX4_unit_59 : decode cX4_unit 59 = .ok (.aload_n 0, 1) := by decide +kernel
theorem dX4_unit_60 : decode cX4_unit 60 = .ok (.getfield 19, 3) := by decide +kernel
theorem dX4_unit_63 : decode cX4_unit 63 = .ok (.iload 5, 2) := by decide +kernel
theorem dX4_unit_65 : decode cX4_unit 65 = .ok (.iload_n 3, 1) := by decide +kernel
theorem dX4_unit_66 : decode cX4_unit 66 = .ok (.iload 4, 2) := by decide +kernel
theorem dX4_unit_68 : decode cX4_unit 68 = .ok (.invokevirtual 136, 3) := by decide +kernel
theorem dX4_unit_71 : decode cX4_unit 71 = .ok (.ireturn, 1) := by decide +kernel
theorem dX4_waiting_0 : decode cX4_waiting 0 = .ok (.iload_n 1, 1) := by decide +kernel
theorem dX4_waiting_1 : decode cX4_waiting 1 = .ok (.ifCond .ge 5, 3) := by decide +kernel
theorem dX4_waiting_4 : decode cX4_waiting 4 = .ok (.iconst (-1), 1) := by decide +kernel
theorem dX4_waiting_5 : decode cX4_waiting 5 = .ok (.ireturn, 1) := by decide +kernel
theorem dX4_waiting_6 : decode cX4_waiting 6 = .ok (.iload_n 1, 1) := by decide +kernel
theorem dX4_waiting_7 : decode cX4_waiting 7 = .ok (.aload_n 0, 1) := by decide +kernel
theorem dX4_waiting_8 : decode cX4_waiting 8 = .ok (.getfield 19, 3) := by decide +kernel
theorem dX4_waiting_11 : decode cX4_waiting 11 = .ok (.getfield 140, 3) := by decide +kernel
theorem dX4_waiting_14 : decode cX4_waiting 14 = .ok (.if_icmp .lt 6, 3) := by decide +kernel
theorem dX4_waiting_17 : decode cX4_waiting 17 = .ok (.bipush (-9), 2) := by decide +kernel
theorem dX4_waiting_19 : decode cX4_waiting 19 = .ok (.ireturn, 1) := by decide +kernel
theorem dX4_waiting_20 : decode cX4_waiting 20 = .ok (.aload_n 0, 1) := by decide +kernel
theorem dX4_waiting_21 : decode cX4_waiting 21 = .ok (.getfield 19, 3) := by decide +kernel
theorem dX4_waiting_24 : decode cX4_waiting 24 = .ok (.getfield 143, 3) := by decide +kernel
theorem dX4_waiting_27 : decode cX4_waiting 27 = .ok (.iload_n 1, 1) := by decide +kernel
theorem dX4_waiting_28 : decode cX4_waiting 28 = .ok (.iaload, 1) := by decide +kernel
theorem dX4_waiting_29 : decode cX4_waiting 29 = .ok (.istore_n 2, 1) := by decide +kernel
theorem dX4_waiting_30 : decode cX4_waiting 30 = .ok (.bipush 8, 2) := by decide +kernel
theorem dX4_waiting_32 : decode cX4_waiting 32 = .ok (.iload_n 2, 1) := by decide +kernel
theorem dX4_waiting_33 : decode cX4_waiting 33 = .ok (.bipush 6, 2) := by decide +kernel
theorem dX4_waiting_35 : decode cX4_waiting 35 = .ok (.idiv, 1) := by decide +kernel
theorem dX4_waiting_36 : decode cX4_waiting 36 = .ok (.imul, 1) := by decide +kernel
theorem dX4_waiting_37 : decode cX4_waiting 37 = .ok (.iload_n 2, 1) := by decide +kernel
theorem dX4_waiting_38 : decode cX4_waiting 38 = .ok (.bipush 6, 2) := by decide +kernel
theorem dX4_waiting_40 : decode cX4_waiting 40 = .ok (.irem, 1) := by decide +kernel
theorem dX4_waiting_41 : decode cX4_waiting 41 = .ok (.iadd, 1) := by decide +kernel
theorem dX4_waiting_42 : decode cX4_waiting 42 = .ok (.ireturn, 1) := by decide +kernel
theorem dX4_both_0 : decode cX4_both 0 = .ok (.iload_n 1, 1) := by decide +kernel
theorem dX4_both_1 : decode cX4_both 1 = .ok (.iload_n 2, 1) := by decide +kernel
theorem dX4_both_2 : decode cX4_both 2 = .ok (.invokestatic 120, 3) := by decide +kernel
theorem dX4_both_5 : decode cX4_both 5 = .ok (.ifCond .eq 12, 3) := by decide +kernel
theorem dX4_both_8 : decode cX4_both 8 = .ok (.iload_n 3, 1) := by decide +kernel
theorem dX4_both_9 : decode cX4_both 9 = .ok (.iload 4, 2) := by decide +kernel
theorem dX4_both_11 : decode cX4_both 11 = .ok (.invokestatic 120, 3) := by decide +kernel
theorem dX4_both_14 : decode cX4_both 14 = .ok (.ifCond .ne 5, 3) := by decide +kernel
theorem dX4_both_17 : decode cX4_both 17 = .ok (.iconst (-1), 1) := by decide +kernel
theorem dX4_both_18 : decode cX4_both 18 = .ok (.ireturn, 1) := by decide +kernel
theorem dX4_both_19 : decode cX4_both 19 = .ok (.iload_n 1, 1) := by decide +kernel
theorem dX4_both_20 : decode cX4_both 20 = .ok (.iload_n 2, 1) := by decide +kernel
theorem dX4_both_21 : decode cX4_both 21 = .ok (.invokestatic 124, 3) := by decide +kernel
theorem dX4_both_24 : decode cX4_both 24 = .ok (.istore 5, 2) := by decide +kernel
theorem dX4_both_26 : decode cX4_both 26 = .ok (.iload_n 3, 1) := by decide +kernel
theorem dX4_both_27 : decode cX4_both 27 = .ok (.iload 4, 2) := by decide +kernel
theorem dX4_both_29 : decode cX4_both 29 = .ok (.invokestatic 124, 3) := by decide +kernel
theorem dX4_both_32 : decode cX4_both 32 = .ok (.istore 6, 2) := by decide +kernel
theorem dX4_both_34 : decode cX4_both 34 = .ok (.aload_n 0, 1) := by decide +kernel
theorem dX4_both_35 : decode cX4_both 35 = .ok (.getfield 19, 3) := by decide +kernel
theorem dX4_both_38 : decode cX4_both 38 = .ok (.iload 5, 2) := by decide +kernel
theorem dX4_both_40 : decode cX4_both 40 = .ok (.invokevirtual 127, 3) := by decide +kernel
theorem dX4_both_43 : decode cX4_both 43 = .ok (.ifCond .eq 15, 3) := by decide +kernel
theorem dX4_both_46 : decode cX4_both 46 = .ok (.aload_n 0, 1) := by decide +kernel
theorem dX4_both_47 : decode cX4_both 47 = .ok (.getfield 19, 3) := by decide +kernel
theorem dX4_both_50 : decode cX4_both 50 = .ok (.iload 6, 2) := by decide +kernel
theorem dX4_both_52 : decode cX4_both 52 = .ok (.invokevirtual 127, 3) := by decide +kernel
theorem dX4_both_55 : decode cX4_both 55 = .ok (.ifCond .ne 6, 3) := by decide +kernel
theorem dX4_both_58 : decode cX4_both 58 = .ok (.bipush (-9), 2) := by decide +kernel
theorem dX4_both_60 : decode cX4_both 60 = .ok (.ireturn, 1) := by decide +kernel
theorem dX4_both_61 : decode cX4_both 61 = .ok (.aload_n 0, 1) := by decide +kernel
theorem dX4_both_62 : decode cX4_both 62 = .ok (.getfield 19, 3) := by decide +kernel
theorem dX4_both_65 : decode cX4_both 65 = .ok (.iload 5, 2) := by decide +kernel
theorem dX4_both_67 : decode cX4_both 67 = .ok (.invokevirtual 146, 3) := by decide +kernel
theorem dX4_both_70 : decode cX4_both 70 = .ok (.aload_n 0, 1) := by decide +kernel
theorem dX4_both_71 : decode cX4_both 71 = .ok (.getfield 19, 3) := by decide +kernel
theorem dX4_both_74 : decode cX4_both 74 = .ok (.iload 6, 2) := by decide +kernel
theorem dX4_both_76 : decode cX4_both 76 = .ok (.invokevirtual 146, 3) := by decide +kernel
theorem dX4_both_79 : decode cX4_both 79 = .ok (.land, 1) := by decide +kernel
theorem dX4_both_80 : decode cX4_both 80 = .ok (.invokestatic 150, 3) := by decide +kernel
theorem dX4_both_83 : decode cX4_both 83 = .ok (.ireturn, 1) := by decide +kernel
theorem dX4_over_0 : decode cX4_over 0 = .ok (.iload_n 1, 1) := by decide +kernel
theorem dX4_over_1 : decode cX4_over 1 = .ok (.invokestatic 85, 3) := by decide +kernel
theorem dX4_over_4 : decode cX4_over 4 = .ok (.ifCond .ne 5, 3) := by decide +kernel
theorem dX4_over_7 : decode cX4_over 7 = .ok (.iconst (-1), 1) := by decide +kernel
theorem dX4_over_8 : decode cX4_over 8 = .ok (.ireturn, 1) := by decide +kernel
theorem dX4_over_9 : decode cX4_over 9 = .ok (.aload_n 0, 1) := by decide +kernel
theorem dX4_over_10 : decode cX4_over 10 = .ok (.getfield 23, 3) := by decide +kernel
theorem dX4_over_13 : decode cX4_over 13 = .ok (.aload_n 0, 1) := by decide +kernel
theorem dX4_over_14 : decode cX4_over 14 = .ok (.getfield 19, 3) := by decide +kernel
theorem dX4_over_17 : decode cX4_over 17 = .ok (.invokevirtual 67, 3) := by decide +kernel
theorem dX4_over_20 : decode cX4_over 20 = .ok (.aload_n 0, 1) := by decide +kernel
theorem dX4_over_21 : decode cX4_over 21 = .ok (.iload_n 1, 1) := by decide +kernel
theorem dX4_over_22 : decode cX4_over 22 = .ok (.sipush 200, 3) := by decide +kernel
theorem dX4_over_25 : decode cX4_over 25 = .ok (.invokevirtual 156, 3) := by decide +kernel
theorem dX4_over_28 : decode cX4_over 28 = .ok (.ireturn, 1) := by decide +kernel
theorem dX4_lands_0 : decode cX4_lands 0 = .ok (.iload_n 1, 1) := by decide +kernel
theorem dX4_lands_1 : decode cX4_lands 1 = .ok (.iconst 0, 1) := by decide +kernel
theorem dX4_lands_2 : decode cX4_lands 2 = .ok (.bipush 63, 2) := by decide +kernel
theorem dX4_lands_4 : decode cX4_lands 4 = .ok (.invokestatic 48, 3) := by decide +kernel
theorem dX4_lands_7 : decode cX4_lands 7 = .ok (.ifCond .eq 14, 3) := by decide +kernel
theorem dX4_lands_10 : decode cX4_lands 10 = .ok (.aload_n 0, 1) := by decide +kernel
theorem dX4_lands_11 : decode cX4_lands 11 = .ok (.getfield 19, 3) := by decide +kernel
theorem dX4_lands_14 : decode cX4_lands 14 = .ok (.iload_n 1, 1) := by decide +kernel
theorem dX4_lands_15 : decode cX4_lands 15 = .ok (.invokevirtual 159, 3) := by decide +kernel
theorem dX4_lands_18 : decode cX4_lands 18 = .ok (.goto 4, 3) := by decide +kernel
theorem dX4_lands_21 : decode cX4_lands 21 = .ok (.iconst (-1), 1) := by decide +kernel
theorem dX4_lands_22 : decode cX4_lands 22 = .ok (.ireturn, 1) := by decide +kernel
theorem dX4_enough_0 : decode cX4_enough 0 = .ok (.iload_n 1, 1) := by decide +kernel
theorem dX4_enough_1 : decode cX4_enough 1 = .ok (.invokestatic 85, 3) := by decide +kernel
theorem dX4_enough_4 : decode cX4_enough 4 = .ok (.ifCond .eq 14, 3) := by decide +kernel
theorem dX4_enough_7 : decode cX4_enough 7 = .ok (.iload_n 2, 1) := by decide +kernel
theorem dX4_enough_8 : decode cX4_enough 8 = .ok (.iconst 0, 1) := by decide +kernel
theorem dX4_enough_9 : decode cX4_enough 9 = .ok (.sipush 200, 3) := by decide +kernel
theorem dX4_enough_12 : decode cX4_enough 12 = .ok (.invokestatic 48, 3) := by decide +kernel
theorem dX4_enough_15 : decode cX4_enough 15 = .ok (.ifCond .ne 5, 3) := by decide +kernel
theorem dX4_enough_18 : decode cX4_enough 18 = .ok (.iconst (-1), 1) := by decide +kernel
theorem dX4_enough_19 : decode cX4_enough 19 = .ok (.ireturn, 1) := by decide +kernel
theorem dX4_enough_20 : decode cX4_enough 20 = .ok (.iconst 1, 1) := by decide +kernel
theorem dX4_enough_21 : decode cX4_enough 21 = .ok (.istore_n 3, 1) := by decide +kernel
theorem dX4_enough_22 : decode cX4_enough 22 = .ok (.iload_n 3, 1) := by decide +kernel
theorem dX4_enough_23 : decode cX4_enough 23 = .ok (.bipush 8, 2) := by decide +kernel
theorem dX4_enough_25 : decode cX4_enough 25 = .ok (.if_icmp .gt 43, 3) := by decide +kernel
theorem dX4_enough_28 : decode cX4_enough 28 = .ok (.aload_n 0, 1) := by decide +kernel
theorem dX4_enough_29 : decode cX4_enough 29 = .ok (.getfield 23, 3) := by decide +kernel
theorem dX4_enough_32 : decode cX4_enough 32 = .ok (.aload_n 0, 1) := by decide +kernel
theorem dX4_enough_33 : decode cX4_enough 33 = .ok (.getfield 19, 3) := by decide +kernel
theorem dX4_enough_36 : decode cX4_enough 36 = .ok (.invokevirtual 67, 3) := by decide +kernel
theorem dX4_enough_39 : decode cX4_enough 39 = .ok (.aload_n 0, 1) := by decide +kernel
theorem dX4_enough_40 : decode cX4_enough 40 = .ok (.getfield 23, 3) := by decide +kernel
theorem dX4_enough_43 : decode cX4_enough 43 = .ok (.iload_n 1, 1) := by decide +kernel
theorem dX4_enough_44 : decode cX4_enough 44 = .ok (.iconst 2, 1) := by decide +kernel
theorem dX4_enough_45 : decode cX4_enough 45 = .ok (.iload_n 3, 1) := by decide +kernel
theorem dX4_enough_46 : decode cX4_enough 46 = .ok (.invokevirtual 99, 3) := by decide +kernel
theorem dX4_enough_49 : decode cX4_enough 49 = .ok (.aload_n 0, 1) := by decide +kernel
theorem dX4_enough_50 : decode cX4_enough 50 = .ok (.iload_n 1, 1) := by decide +kernel
theorem dX4_enough_51 : decode cX4_enough 51 = .ok (.iload_n 2, 1) := by decide +kernel
theorem dX4_enough_52 : decode cX4_enough 52 = .ok (.invokevirtual 156, 3) := by decide +kernel
theorem dX4_enough_55 : decode cX4_enough 55 = .ok (.bipush (-9), 2) := by decide +kernel
theorem dX4_enough_57 : decode cX4_enough 57 = .ok (.if_icmp .eq 5, 3) := by decide +kernel
theorem dX4_enough_60 : decode cX4_enough 60 = .ok (.iload_n 3, 1) := by decide +kernel
theorem dX4_enough_61 : decode cX4_enough 61 = .ok (.ireturn, 1) := by decide +kernel
theorem dX4_enough_62 : decode cX4_enough 62 = .ok (.iinc 3 1, 3) := by decide +kernel
theorem dX4_enough_65 : decode cX4_enough 65 = .ok (.goto (-43), 3) := by decide +kernel
theorem dX4_enough_68 : decode cX4_enough 68 = .ok (.bipush (-9), 2) := by decide +kernel
theorem dX4_enough_70 : decode cX4_enough 70 = .ok (.ireturn, 1) := by decide +kernel
theorem dX4_granted_0 : decode cX4_granted 0 = .ok (.iload_n 1, 1) := by decide +kernel
theorem dX4_granted_1 : decode cX4_granted 1 = .ok (.iconst 1, 1) := by decide +kernel
theorem dX4_granted_2 : decode cX4_granted 2 = .ok (.bipush 40, 2) := by decide +kernel
theorem dX4_granted_4 : decode cX4_granted 4 = .ok (.invokestatic 48, 3) := by decide +kernel
theorem dX4_granted_7 : decode cX4_granted 7 = .ok (.ifCond .ne 5, 3) := by decide +kernel
theorem dX4_granted_10 : decode cX4_granted 10 = .ok (.iconst (-1), 1) := by decide +kernel
theorem dX4_granted_11 : decode cX4_granted 11 = .ok (.ireturn, 1) := by decide +kernel
theorem dX4_granted_12 : decode cX4_granted 12 = .ok (.aload_n 0, 1) := by decide +kernel
theorem dX4_granted_13 : decode cX4_granted 13 = .ok (.getfield 23, 3) := by decide +kernel
theorem dX4_granted_16 : decode cX4_granted 16 = .ok (.aload_n 0, 1) := by decide +kernel
theorem dX4_granted_17 : decode cX4_granted 17 = .ok (.getfield 19, 3) := by decide +kernel
theorem dX4_granted_20 : decode cX4_granted 20 = .ok (.invokevirtual 67, 3) := by decide +kernel
theorem dX4_granted_23 : decode cX4_granted 23 = .ok (.iconst 1, 1) := by decide +kernel
theorem dX4_granted_24 : decode cX4_granted 24 = .ok (.istore_n 2, 1) := by decide +kernel
theorem dX4_granted_25 : decode cX4_granted 25 = .ok (.iload_n 2, 1) := by decide +kernel
theorem dX4_granted_26 : decode cX4_granted 26 = .ok (.iload_n 1, 1) := by decide +kernel
theorem dX4_granted_27 : decode cX4_granted 27 = .ok (.if_icmp .ge 18, 3) := by decide +kernel
theorem dX4_granted_30 : decode cX4_granted 30 = .ok (.aload_n 0, 1) := by decide +kernel
theorem dX4_granted_31 : decode cX4_granted 31 = .ok (.getfield 23, 3) := by decide +kernel
theorem dX4_granted_34 : decode cX4_granted 34 = .ok (.iconst 0, 1) := by decide +kernel
theorem dX4_granted_35 : decode cX4_granted 35 = .ok (.invokevirtual 81, 3) := by decide +kernel
theorem dX4_granted_38 : decode cX4_granted 38 = .ok (.pop, 1) := by decide +kernel
theorem dX4_granted_39 : decode cX4_granted 39 = .ok (.iinc 2 1, 3) := by decide +kernel
theorem dX4_granted_42 : decode cX4_granted 42 = .ok (.goto (-17), 3) := by decide +kernel
theorem dX4_granted_45 : decode cX4_granted 45 = .ok (.aload_n 0, 1) := by decide +kernel
theorem dX4_granted_46 : decode cX4_granted 46 = .ok (.getfield 23, 3) := by decide +kernel
theorem dX4_granted_49 : decode cX4_granted 49 = .ok (.iconst 0, 1) := by decide +kernel
theorem dX4_granted_50 : decode cX4_granted 50 = .ok (.invokevirtual 81, 3) := by decide +kernel
theorem dX4_granted_53 : decode cX4_granted 53 = .ok (.ireturn, 1) := by decide +kernel
theorem dX4_sees_0 : decode cX4_sees 0 = .ok (.iload_n 1, 1) := by decide +kernel
theorem dX4_sees_1 : decode cX4_sees 1 = .ok (.iconst 1, 1) := by decide +kernel
theorem dX4_sees_2 : decode cX4_sees 2 = .ok (.bipush 40, 2) := by decide +kernel
theorem dX4_sees_4 : decode cX4_sees 4 = .ok (.invokestatic 48, 3) := by decide +kernel
theorem dX4_sees_7 : decode cX4_sees 7 = .ok (.ifCond .eq 16, 3) := by decide +kernel
theorem dX4_sees_10 : decode cX4_sees 10 = .ok (.iload_n 2, 1) := by decide +kernel
theorem dX4_sees_11 : decode cX4_sees 11 = .ok (.invokestatic 85, 3) := by decide +kernel
theorem dX4_sees_14 : decode cX4_sees 14 = .ok (.ifCond .ne 11, 3) := by decide +kernel
theorem dX4_sees_17 : decode cX4_sees 17 = .ok (.iload_n 2, 1) := by decide +kernel
theorem dX4_sees_18 : decode cX4_sees 18 = .ok (.bipush (-9), 2) := by decide +kernel
theorem dX4_sees_20 : decode cX4_sees 20 = .ok (.if_icmp .eq 5, 3) := by decide +kernel
theorem dX4_sees_23 : decode cX4_sees 23 = .ok (.iconst (-1), 1) := by decide +kernel
theorem dX4_sees_24 : decode cX4_sees 24 = .ok (.ireturn, 1) := by decide +kernel
theorem dX4_sees_25 : decode cX4_sees 25 = .ok (.aload_n 0, 1) := by decide +kernel
theorem dX4_sees_26 : decode cX4_sees 26 = .ok (.getfield 36, 3) := by decide +kernel
theorem dX4_sees_29 : decode cX4_sees 29 = .ok (.iload_n 1, 1) := by decide +kernel
theorem dX4_sees_30 : decode cX4_sees 30 = .ok (.iload_n 2, 1) := by decide +kernel
theorem dX4_sees_31 : decode cX4_sees 31 = .ok (.invokevirtual 162, 3) := by decide +kernel
theorem dX4_sees_34 : decode cX4_sees 34 = .ok (.ifCond .eq 13, 3) := by decide +kernel
theorem dX4_sees_37 : decode cX4_sees 37 = .ok (.aload_n 0, 1) := by decide +kernel
theorem dX4_sees_38 : decode cX4_sees 38 = .ok (.getfield 36, 3) := by decide +kernel
theorem dX4_sees_41 : decode cX4_sees 41 = .ok (.getfield 165, 3) := by decide +kernel
theorem dX4_sees_44 : decode cX4_sees 44 = .ok (.goto 5, 3) := by decide +kernel
theorem dX4_sees_47 : decode cX4_sees 47 = .ok (.bipush (-3), 2) := by decide +kernel
theorem dX4_sees_49 : decode cX4_sees 49 = .ok (.ireturn, 1) := by decide +kernel
theorem dX4_forget_0 : decode cX4_forget 0 = .ok (.aload_n 0, 1) := by decide +kernel
theorem dX4_forget_1 : decode cX4_forget 1 = .ok (.getfield 36, 3) := by decide +kernel
theorem dX4_forget_4 : decode cX4_forget 4 = .ok (.getfield 165, 3) := by decide +kernel
theorem dX4_forget_7 : decode cX4_forget 7 = .ok (.istore_n 1, 1) := by decide +kernel
theorem dX4_forget_8 : decode cX4_forget 8 = .ok (.aload_n 0, 1) := by decide +kernel
theorem dX4_forget_9 : decode cX4_forget 9 = .ok (.getfield 36, 3) := by decide +kernel
theorem dX4_forget_12 : decode cX4_forget 12 = .ok (.invokevirtual 168, 3) := by decide +kernel
theorem dX4_forget_15 : decode cX4_forget 15 = .ok (.iload_n 1, 1) := by decide +kernel
theorem dX4_forget_16 : decode cX4_forget 16 = .ok (.ireturn, 1) := by decide +kernel
theorem dX4_ranks_0 : decode cX4_ranks 0 = .ok (.iload_n 1, 1) := by decide +kernel
theorem dX4_ranks_1 : decode cX4_ranks 1 = .ok (.invokestatic 85, 3) := by decide +kernel
theorem dX4_ranks_4 : decode cX4_ranks 4 = .ok (.ifCond .ne 5, 3) := by decide +kernel
theorem dX4_ranks_7 : decode cX4_ranks 7 = .ok (.iconst (-1), 1) := by decide +kernel
theorem dX4_ranks_8 : decode cX4_ranks 8 = .ok (.ireturn, 1) := by decide +kernel
theorem dX4_ranks_9 : decode cX4_ranks 9 = .ok (.iconst 0, 1) := by decide +kernel
theorem dX4_ranks_10 : decode cX4_ranks 10 = .ok (.istore_n 2, 1) := by decide +kernel
theorem dX4_ranks_11 : decode cX4_ranks 11 = .ok (.iconst 0, 1) := by decide +kernel
theorem dX4_ranks_12 : decode cX4_ranks 12 = .ok (.istore_n 3, 1) := by decide +kernel
theorem dX4_ranks_13 : decode cX4_ranks 13 = .ok (.iload_n 3, 1) := by decide +kernel
theorem dX4_ranks_14 : decode cX4_ranks 14 = .ok (.iconst 3, 1) := by decide +kernel
theorem dX4_ranks_15 : decode cX4_ranks 15 = .ok (.if_icmp .gt 50, 3) := by decide +kernel
theorem dX4_ranks_18 : decode cX4_ranks 18 = .ok (.aload_n 0, 1) := by decide +kernel
theorem dX4_ranks_19 : decode cX4_ranks 19 = .ok (.getfield 23, 3) := by decide +kernel
theorem dX4_ranks_22 : decode cX4_ranks 22 = .ok (.aload_n 0, 1) := by decide +kernel
theorem dX4_ranks_23 : decode cX4_ranks 23 = .ok (.getfield 19, 3) := by decide +kernel
theorem dX4_ranks_26 : decode cX4_ranks 26 = .ok (.invokevirtual 67, 3) := by decide +kernel
theorem dX4_ranks_29 : decode cX4_ranks 29 = .ok (.aload_n 0, 1) := by decide +kernel
theorem dX4_ranks_30 : decode cX4_ranks 30 = .ok (.getfield 23, 3) := by decide +kernel
theorem dX4_ranks_33 : decode cX4_ranks 33 = .ok (.iload_n 1, 1) := by decide +kernel
theorem dX4_ranks_34 : decode cX4_ranks 34 = .ok (.iconst 1, 1) := by decide +kernel
theorem dX4_ranks_35 : decode cX4_ranks 35 = .ok (.iload_n 3, 1) := by decide +kernel
theorem dX4_ranks_36 : decode cX4_ranks 36 = .ok (.invokevirtual 99, 3) := by decide +kernel
theorem dX4_ranks_39 : decode cX4_ranks 39 = .ok (.aload_n 0, 1) := by decide +kernel
theorem dX4_ranks_40 : decode cX4_ranks 40 = .ok (.getfield 36, 3) := by decide +kernel
theorem dX4_ranks_43 : decode cX4_ranks 43 = .ok (.aload_n 0, 1) := by decide +kernel
theorem dX4_ranks_44 : decode cX4_ranks 44 = .ok (.getfield 23, 3) := by decide +kernel
theorem dX4_ranks_47 : decode cX4_ranks 47 = .ok (.invokevirtual 171, 3) := by decide +kernel
theorem dX4_ranks_50 : decode cX4_ranks 50 = .ok (.ifCond .eq 9, 3) := by decide +kernel
theorem dX4_ranks_53 : decode cX4_ranks 53 = .ok (.iload_n 2, 1) := by decide +kernel
theorem dX4_ranks_54 : decode cX4_ranks 54 = .ok (.iconst 1, 1) := by decide +kernel
theorem dX4_ranks_55 : decode cX4_ranks 55 = .ok (.iload_n 3, 1) := by decide +kernel
theorem dX4_ranks_56 : decode cX4_ranks 56 = .ok (.ishl, 1) := by decide +kernel
theorem dX4_ranks_57 : decode cX4_ranks 57 = .ok (.ior, 1) := by decide +kernel
theorem dX4_ranks_58 : decode cX4_ranks 58 = .ok (.istore_n 2, 1) := by decide +kernel
theorem dX4_ranks_59 : decode cX4_ranks 59 = .ok (.iinc 3 1, 3) := by decide +kernel
theorem dX4_ranks_62 : decode cX4_ranks 62 = .ok (.goto (-49), 3) := by decide +kernel
theorem dX4_ranks_65 : decode cX4_ranks 65 = .ok (.iload_n 2, 1) := by decide +kernel
theorem dX4_ranks_66 : decode cX4_ranks 66 = .ok (.ireturn, 1) := by decide +kernel
theorem dX4_keep_0 : decode cX4_keep 0 = .ok (.iload_n 1, 1) := by decide +kernel
theorem dX4_keep_1 : decode cX4_keep 1 = .ok (.iconst 0, 1) := by decide +kernel
theorem dX4_keep_2 : decode cX4_keep 2 = .ok (.iconst 1, 1) := by decide +kernel
theorem dX4_keep_3 : decode cX4_keep 3 = .ok (.invokestatic 48, 3) := by decide +kernel
theorem dX4_keep_6 : decode cX4_keep 6 = .ok (.ifCond .ne 5, 3) := by decide +kernel
theorem dX4_keep_9 : decode cX4_keep 9 = .ok (.iconst (-1), 1) := by decide +kernel
theorem dX4_keep_10 : decode cX4_keep 10 = .ok (.ireturn, 1) := by decide +kernel
theorem dX4_keep_11 : decode cX4_keep 11 = .ok (.aload_n 0, 1) := by decide +kernel
theorem dX4_keep_12 : decode cX4_keep 12 = .ok (.getfield 40, 3) := by decide +kernel
theorem dX4_keep_15 : decode cX4_keep 15 = .ok (.iload_n 1, 1) := by decide +kernel
theorem dX4_keep_16 : decode cX4_keep 16 = .ok (.aaload, 1) := by decide +kernel
theorem dX4_keep_17 : decode cX4_keep 17 = .ok (.aload_n 0, 1) := by decide +kernel
theorem dX4_keep_18 : decode cX4_keep 18 = .ok (.getfield 19, 3) := by decide +kernel
theorem dX4_keep_21 : decode cX4_keep 21 = .ok (.invokevirtual 67, 3) := by decide +kernel
theorem dX4_keep_24 : decode cX4_keep 24 = .ok (.aload_n 0, 1) := by decide +kernel
theorem dX4_keep_25 : decode cX4_keep 25 = .ok (.getfield 44, 3) := by decide +kernel
theorem dX4_keep_28 : decode cX4_keep 28 = .ok (.iload_n 1, 1) := by decide +kernel
theorem dX4_keep_29 : decode cX4_keep 29 = .ok (.iconst 1, 1) := by decide +kernel
theorem dX4_keep_30 : decode cX4_keep 30 = .ok (.bastore, 1) := by decide +kernel
theorem dX4_keep_31 : decode cX4_keep 31 = .ok (.aload_n 0, 1) := by decide +kernel
theorem dX4_keep_32 : decode cX4_keep 32 = .ok (.getfield 19, 3) := by decide +kernel
theorem dX4_keep_35 : decode cX4_keep 35 = .ok (.invokevirtual 174, 3) := by decide +kernel
theorem dX4_keep_38 : decode cX4_keep 38 = .ok (.ireturn, 1) := by decide +kernel
theorem dX4_back_0 : decode cX4_back 0 = .ok (.iload_n 1, 1) := by decide +kernel
theorem dX4_back_1 : decode cX4_back 1 = .ok (.iconst 0, 1) := by decide +kernel
theorem dX4_back_2 : decode cX4_back 2 = .ok (.iconst 1, 1) := by decide +kernel
theorem dX4_back_3 : decode cX4_back 3 = .ok (.invokestatic 48, 3) := by decide +kernel
theorem dX4_back_6 : decode cX4_back 6 = .ok (.ifCond .ne 5, 3) := by decide +kernel
theorem dX4_back_9 : decode cX4_back 9 = .ok (.iconst (-1), 1) := by decide +kernel
theorem dX4_back_10 : decode cX4_back 10 = .ok (.ireturn, 1) := by decide +kernel
theorem dX4_back_11 : decode cX4_back 11 = .ok (.aload_n 0, 1) := by decide +kernel
theorem dX4_back_12 : decode cX4_back 12 = .ok (.getfield 44, 3) := by decide +kernel
theorem dX4_back_15 : decode cX4_back 15 = .ok (.iload_n 1, 1) := by decide +kernel
theorem dX4_back_16 : decode cX4_back 16 = .ok (.baload, 1) := by decide +kernel
theorem dX4_back_17 : decode cX4_back 17 = .ok (.ifCond .ne 6, 3) := by decide +kernel
theorem dX4_back_20 : decode cX4_back 20 = .ok (.bipush (-2), 2) := by decide +kernel
theorem dX4_back_22 : decode cX4_back 22 = .ok (.ireturn, 1) := by decide +kernel
theorem dX4_back_23 : decode cX4_back 23 = .ok (.aload_n 0, 1) := by decide +kernel
theorem dX4_back_24 : decode cX4_back 24 = .ok (.getfield 19, 3) := by decide +kernel
theorem dX4_back_27 : decode cX4_back 27 = .ok (.aload_n 0, 1) := by decide +kernel
theorem dX4_back_28 : decode cX4_back 28 = .ok (.getfield 40, 3) := by decide +kernel
theorem dX4_back_31 : decode cX4_back 31 = .ok (.iload_n 1, 1) := by decide +kernel
theorem dX4_back_32 : decode cX4_back 32 = .ok (.aaload, 1) := by decide +kernel
theorem dX4_back_33 : decode cX4_back 33 = .ok (.invokevirtual 67, 3) := by decide +kernel
theorem dX4_back_36 : decode cX4_back 36 = .ok (.aload_n 0, 1) := by decide +kernel
theorem dX4_back_37 : decode cX4_back 37 = .ok (.getfield 29, 3) := by decide +kernel
theorem dX4_back_40 : decode cX4_back 40 = .ok (.invokevirtual 177, 3) := by decide +kernel
theorem dX4_back_43 : decode cX4_back 43 = .ok (.aload_n 0, 1) := by decide +kernel
theorem dX4_back_44 : decode cX4_back 44 = .ok (.getfield 19, 3) := by decide +kernel
theorem dX4_back_47 : decode cX4_back 47 = .ok (.invokevirtual 174, 3) := by decide +kernel
theorem dX4_back_50 : decode cX4_back 50 = .ok (.ireturn, 1) := by decide +kernel
theorem dX4_count_0 : decode cX4_count 0 = .ok (.iload_n 1, 1) := by decide +kernel
theorem dX4_count_1 : decode cX4_count 1 = .ok (.tableswitch 99 0 6 #[43, 51, 59, 67, 75, 83, 91], 43) := by decide +kernel
theorem dX4_count_44 : decode cX4_count 44 = .ok (.aload_n 0, 1) := by decide +kernel
theorem dX4_count_45 : decode cX4_count 45 = .ok (.getfield 19, 3) := by decide +kernel
theorem dX4_count_48 : decode cX4_count 48 = .ok (.invokevirtual 174, 3) := by decide +kernel
theorem dX4_count_51 : decode cX4_count 51 = .ok (.ireturn, 1) := by decide +kernel
theorem dX4_count_52 : decode cX4_count 52 = .ok (.aload_n 0, 1) := by decide +kernel
theorem dX4_count_53 : decode cX4_count 53 = .ok (.getfield 19, 3) := by decide +kernel
theorem dX4_count_56 : decode cX4_count 56 = .ok (.getfield 140, 3) := by decide +kernel
theorem dX4_count_59 : decode cX4_count 59 = .ok (.ireturn, 1) := by decide +kernel
theorem dX4_count_60 : decode cX4_count 60 = .ok (.aload_n 0, 1) := by decide +kernel
theorem dX4_count_61 : decode cX4_count 61 = .ok (.getfield 19, 3) := by decide +kernel
theorem dX4_count_64 : decode cX4_count 64 = .ok (.getfield 180, 3) := by decide +kernel
theorem dX4_count_67 : decode cX4_count 67 = .ok (.ireturn, 1) := by decide +kernel
theorem dX4_count_68 : decode cX4_count 68 = .ok (.aload_n 0, 1) := by decide +kernel
theorem dX4_count_69 : decode cX4_count 69 = .ok (.getfield 36, 3) := by decide +kernel
theorem dX4_count_72 : decode cX4_count 72 = .ok (.getfield 165, 3) := by decide +kernel
theorem dX4_count_75 : decode cX4_count 75 = .ok (.ireturn, 1) := by decide +kernel
theorem dX4_count_76 : decode cX4_count 76 = .ok (.aload_n 0, 1) := by decide +kernel
theorem dX4_count_77 : decode cX4_count 77 = .ok (.getfield 10, 3) := by decide +kernel
theorem dX4_count_80 : decode cX4_count 80 = .ok (.getfield 56, 3) := by decide +kernel
theorem dX4_count_83 : decode cX4_count 83 = .ok (.ireturn, 1) := by decide +kernel
theorem dX4_count_84 : decode cX4_count 84 = .ok (.aload_n 0, 1) := by decide +kernel
theorem dX4_count_85 : decode cX4_count 85 = .ok (.getfield 29, 3) := by decide +kernel
theorem dX4_count_88 : decode cX4_count 88 = .ok (.getfield 107, 3) := by decide +kernel
theorem dX4_count_91 : decode cX4_count 91 = .ok (.ireturn, 1) := by decide +kernel
theorem dX4_count_92 : decode cX4_count 92 = .ok (.aload_n 0, 1) := by decide +kernel
theorem dX4_count_93 : decode cX4_count 93 = .ok (.getfield 19, 3) := by decide +kernel
theorem dX4_count_96 : decode cX4_count 96 = .ok (.getfield 183, 3) := by decide +kernel
theorem dX4_count_99 : decode cX4_count 99 = .ok (.ireturn, 1) := by decide +kernel
theorem dX4_count_100 : decode cX4_count 100 = .ok (.iconst (-1), 1) := by decide +kernel
theorem dX4_count_101 : decode cX4_count 101 = .ok (.ireturn, 1) := by decide +kernel
theorem dX4_within_0 : decode cX4_within 0 = .ok (.iload_n 0, 1) := by decide +kernel
theorem dX4_within_1 : decode cX4_within 1 = .ok (.iload_n 1, 1) := by decide +kernel
theorem dX4_within_2 : decode cX4_within 2 = .ok (.if_icmp .lt 12, 3) := by decide +kernel
theorem dX4_within_5 : decode cX4_within 5 = .ok (.iload_n 0, 1) := by decide +kernel
theorem dX4_within_6 : decode cX4_within 6 = .ok (.iload_n 2, 1) := by decide +kernel
theorem dX4_within_7 : decode cX4_within 7 = .ok (.if_icmp .gt 7, 3) := by decide +kernel
theorem dX4_within_10 : decode cX4_within 10 = .ok (.iconst 1, 1) := by decide +kernel
theorem dX4_within_11 : decode cX4_within 11 = .ok (.goto 4, 3) := by decide +kernel
theorem dX4_within_14 : decode cX4_within 14 = .ok (.iconst 0, 1) := by decide +kernel
theorem dX4_within_15 : decode cX4_within 15 = .ok (.ireturn, 1) := by decide +kernel
theorem dX4_isChannel_0 : decode cX4_isChannel 0 = .ok (.iload_n 0, 1) := by decide +kernel
theorem dX4_isChannel_1 : decode cX4_isChannel 1 = .ok (.iconst 0, 1) := by decide +kernel
theorem dX4_isChannel_2 : decode cX4_isChannel 2 = .ok (.iconst 3, 1) := by decide +kernel
theorem dX4_isChannel_3 : decode cX4_isChannel 3 = .ok (.invokestatic 48, 3) := by decide +kernel
theorem dX4_isChannel_6 : decode cX4_isChannel 6 = .ok (.ireturn, 1) := by decide +kernel
theorem dX4_isSlot_0 : decode cX4_isSlot 0 = .ok (.iload_n 0, 1) := by decide +kernel
theorem dX4_isSlot_1 : decode cX4_isSlot 1 = .ok (.invokestatic 85, 3) := by decide +kernel
theorem dX4_isSlot_4 : decode cX4_isSlot 4 = .ok (.ifCond .eq 16, 3) := by decide +kernel
theorem dX4_isSlot_7 : decode cX4_isSlot 7 = .ok (.iload_n 1, 1) := by decide +kernel
theorem dX4_isSlot_8 : decode cX4_isSlot 8 = .ok (.iconst 0, 1) := by decide +kernel
theorem dX4_isSlot_9 : decode cX4_isSlot 9 = .ok (.iconst 5, 1) := by decide +kernel
theorem dX4_isSlot_10 : decode cX4_isSlot 10 = .ok (.invokestatic 48, 3) := by decide +kernel
theorem dX4_isSlot_13 : decode cX4_isSlot 13 = .ok (.ifCond .eq 7, 3) := by decide +kernel
theorem dX4_isSlot_16 : decode cX4_isSlot 16 = .ok (.iconst 1, 1) := by decide +kernel
theorem dX4_isSlot_17 : decode cX4_isSlot 17 = .ok (.goto 4, 3) := by decide +kernel
theorem dX4_isSlot_20 : decode cX4_isSlot 20 = .ok (.iconst 0, 1) := by decide +kernel
theorem dX4_isSlot_21 : decode cX4_isSlot 21 = .ok (.ireturn, 1) := by decide +kernel
theorem dX4_presentResidue_0 : decode cX4_presentResidue 0 = .ok (.aload_n 0, 1) := by decide +kernel
theorem dX4_presentResidue_1 : decode cX4_presentResidue 1 = .ok (.getfield 19, 3) := by decide +kernel
theorem dX4_presentResidue_4 : decode cX4_presentResidue 4 = .ok (.iload_n 1, 1) := by decide +kernel
theorem dX4_presentResidue_5 : decode cX4_presentResidue 5 = .ok (.invokevirtual 88, 3) := by decide +kernel
theorem dX4_presentResidue_8 : decode cX4_presentResidue 8 = .ok (.istore_n 2, 1) := by decide +kernel
theorem dX4_presentResidue_9 : decode cX4_presentResidue 9 = .ok (.iload_n 2, 1) := by decide +kernel
theorem dX4_presentResidue_10 : decode cX4_presentResidue 10 = .ok (.bipush (-9), 2) := by decide +kernel
theorem dX4_presentResidue_12 : decode cX4_presentResidue 12 = .ok (.if_icmp .ne 7, 3) := by decide +kernel
theorem dX4_presentResidue_15 : decode cX4_presentResidue 15 = .ok (.iconst 0, 1) := by decide +kernel
theorem dX4_presentResidue_16 : decode cX4_presentResidue 16 = .ok (.goto 13, 3) := by decide +kernel
theorem dX4_presentResidue_19 : decode cX4_presentResidue 19 = .ok (.aload_n 0, 1) := by decide +kernel
theorem dX4_presentResidue_20 : decode cX4_presentResidue 20 = .ok (.getfield 19, 3) := by decide +kernel
theorem dX4_presentResidue_23 : decode cX4_presentResidue 23 = .ok (.iload_n 2, 1) := by decide +kernel
theorem dX4_presentResidue_24 : decode cX4_presentResidue 24 = .ok (.bipush 11, 2) := by decide +kernel
theorem dX4_presentResidue_26 : decode cX4_presentResidue 26 = .ok (.invokevirtual 130, 3) := by decide +kernel
theorem dX4_presentResidue_29 : decode cX4_presentResidue 29 = .ok (.ireturn, 1) := by decide +kernel
theorem dX4_ticksUntilOver_0 : decode cX4_ticksUntilOver 0 = .ok (.iconst 0, 1) := by decide +kernel
theorem dX4_ticksUntilOver_1 : decode cX4_ticksUntilOver 1 = .ok (.istore_n 3, 1) := by decide +kernel
theorem dX4_ticksUntilOver_2 : decode cX4_ticksUntilOver 2 = .ok (.iload_n 3, 1) := by decide +kernel
theorem dX4_ticksUntilOver_3 : decode cX4_ticksUntilOver 3 = .ok (.iload_n 2, 1) := by decide +kernel
theorem dX4_ticksUntilOver_4 : decode cX4_ticksUntilOver 4 = .ok (.if_icmp .gt 72, 3) := by decide +kernel
theorem dX4_ticksUntilOver_7 : decode cX4_ticksUntilOver 7 = .ok (.aload_n 0, 1) := by decide +kernel
theorem dX4_ticksUntilOver_8 : decode cX4_ticksUntilOver 8 = .ok (.getfield 23, 3) := by decide +kernel
theorem dX4_ticksUntilOver_11 : decode cX4_ticksUntilOver 11 = .ok (.iload_n 1, 1) := by decide +kernel
theorem dX4_ticksUntilOver_12 : decode cX4_ticksUntilOver 12 = .ok (.invokevirtual 186, 3) := by decide +kernel
theorem dX4_ticksUntilOver_15 : decode cX4_ticksUntilOver 15 = .ok (.ifCond .ne 5, 3) := by decide +kernel
theorem dX4_ticksUntilOver_18 : decode cX4_ticksUntilOver 18 = .ok (.iload_n 3, 1) := by decide +kernel
theorem dX4_ticksUntilOver_19 : decode cX4_ticksUntilOver 19 = .ok (.ireturn, 1) := by decide +kernel
theorem dX4_ticksUntilOver_20 : decode cX4_ticksUntilOver 20 = .ok (.aload_n 0, 1) := by decide +kernel
theorem dX4_ticksUntilOver_21 : decode cX4_ticksUntilOver 21 = .ok (.getfield 23, 3) := by decide +kernel
theorem dX4_ticksUntilOver_24 : decode cX4_ticksUntilOver 24 = .ok (.getfield 140, 3) := by decide +kernel
theorem dX4_ticksUntilOver_27 : decode cX4_ticksUntilOver 27 = .ok (.ifCond .ne 7, 3) := by decide +kernel
theorem dX4_ticksUntilOver_30 : decode cX4_ticksUntilOver 30 = .ok (.iconst 1, 1) := by decide +kernel
theorem dX4_ticksUntilOver_31 : decode cX4_ticksUntilOver 31 = .ok (.goto 4, 3) := by decide +kernel
theorem dX4_ticksUntilOver_34 : decode cX4_ticksUntilOver 34 = .ok (.iconst 0, 1) := by decide +kernel
theorem dX4_ticksUntilOver_35 : decode cX4_ticksUntilOver 35 = .ok (.istore 4, 2) := by decide +kernel
theorem dX4_ticksUntilOver_37 : decode cX4_ticksUntilOver 37 = .ok (.aload_n 0, 1) := by decide +kernel
theorem dX4_ticksUntilOver_38 : decode cX4_ticksUntilOver 38 = .ok (.getfield 23, 3) := by decide +kernel
theorem dX4_ticksUntilOver_41 : decode cX4_ticksUntilOver 41 = .ok (.iconst 0, 1) := by decide +kernel
theorem dX4_ticksUntilOver_42 : decode cX4_ticksUntilOver 42 = .ok (.invokevirtual 81, 3) := by decide +kernel
theorem dX4_ticksUntilOver_45 : decode cX4_ticksUntilOver 45 = .ok (.bipush (-9), 2) := by decide +kernel
theorem dX4_ticksUntilOver_47 : decode cX4_ticksUntilOver 47 = .ok (.if_icmp .ne 7, 3) := by decide +kernel
theorem dX4_ticksUntilOver_50 : decode cX4_ticksUntilOver 50 = .ok (.iconst 1, 1) := by decide +kernel
theorem dX4_ticksUntilOver_51 : decode cX4_ticksUntilOver 51 = .ok (.goto 4, 3) := by decide +kernel
theorem dX4_ticksUntilOver_54 : decode cX4_ticksUntilOver 54 = .ok (.iconst 0, 1) := by decide +kernel
theorem dX4_ticksUntilOver_55 : decode cX4_ticksUntilOver 55 = .ok (.istore 5, 2) := by decide +kernel
theorem dX4_ticksUntilOver_57 : decode cX4_ticksUntilOver 57 = .ok (.iload 4, 2) := by decide +kernel
theorem dX4_ticksUntilOver_59 : decode cX4_ticksUntilOver 59 = .ok (.ifCond .eq 11, 3) := by decide +kernel
theorem dX4_ticksUntilOver_62 : decode cX4_ticksUntilOver 62 = .ok (.iload 5, 2) := by decide +kernel
theorem dX4_ticksUntilOver_64 : decode cX4_ticksUntilOver 64 = .ok (.ifCond .eq 6, 3) := by decide +kernel
theorem dX4_ticksUntilOver_67 : decode cX4_ticksUntilOver 67 = .ok (.bipush (-9), 2) := by decide +kernel
theorem dX4_ticksUntilOver_69 : decode cX4_ticksUntilOver 69 = .ok (.ireturn, 1) := by decide +kernel
theorem dX4_ticksUntilOver_70 : decode cX4_ticksUntilOver 70 = .ok (.iinc 3 1, 3) := by decide +kernel
theorem dX4_ticksUntilOver_73 : decode cX4_ticksUntilOver 73 = .ok (.goto (-71), 3) := by decide +kernel
theorem dX4_ticksUntilOver_76 : decode cX4_ticksUntilOver 76 = .ok (.bipush (-9), 2) := by decide +kernel
theorem dX4_ticksUntilOver_78 : decode cX4_ticksUntilOver 78 = .ok (.ireturn, 1) := by decide +kernel
