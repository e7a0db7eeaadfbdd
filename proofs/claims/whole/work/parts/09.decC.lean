theorem dX5_in_0 : decode cX5_in 0 = .ok (.iload_n 0, 1) := by decide +kernel
theorem dX5_in_1 : decode cX5_in 1 = .ok (.iload_n 1, 1) := by decide +kernel
theorem dX5_in_2 : decode cX5_in 2 = .ok (.if_icmp .lt 12, 3) := by decide +kernel
theorem dX5_in_5 : decode cX5_in 5 = .ok (.iload_n 0, 1) := by decide +kernel
theorem dX5_in_6 : decode cX5_in 6 = .ok (.iload_n 2, 1) := by decide +kernel
theorem dX5_in_7 : decode cX5_in 7 = .ok (.if_icmp .gt 7, 3) := by decide +kernel
theorem dX5_in_10 : decode cX5_in 10 = .ok (.iconst 1, 1) := by decide +kernel
theorem dX5_in_11 : decode cX5_in 11 = .ok (.goto 4, 3) := by decide +kernel
theorem dX5_in_14 : decode cX5_in 14 = .ok (.iconst 0, 1) := by decide +kernel
theorem dX5_in_15 : decode cX5_in 15 = .ok (.ireturn, 1) := by decide +kernel
theorem dX5_init_0 : decode cX5_init 0 = .ok (.aload_n 0, 1) := by decide +kernel
theorem dX5_init_1 : decode cX5_init 1 = .ok (.invokespecial 1, 3) := by decide +kernel
theorem dX5_init_4 : decode cX5_init 4 = .ok (.aload_n 0, 1) := by decide +kernel
theorem dX5_init_5 : decode cX5_init 5 = .ok (.sipush 455, 3) := by decide +kernel
theorem dX5_init_8 : decode cX5_init 8 = .ok (.newarray .int, 2) := by decide +kernel
theorem dX5_init_10 : decode cX5_init 10 = .ok (.putfield 7, 3) := by decide +kernel
theorem dX5_init_13 : decode cX5_init 13 = .ok (.aload_n 0, 1) := by decide +kernel
theorem dX5_init_14 : decode cX5_init 14 = .ok (.sipush 2730, 3) := by decide +kernel
theorem dX5_init_17 : decode cX5_init 17 = .ok (.newarray .int, 2) := by decide +kernel
theorem dX5_init_19 : decode cX5_init 19 = .ok (.putfield 13, 3) := by decide +kernel
theorem dX5_init_22 : decode cX5_init 22 = .ok (.aload_n 0, 1) := by decide +kernel
theorem dX5_init_23 : decode cX5_init 23 = .ok (.iconst 2, 1) := by decide +kernel
theorem dX5_init_24 : decode cX5_init 24 = .ok (.newarray .boolean, 2) := by decide +kernel
theorem dX5_init_26 : decode cX5_init 26 = .ok (.putfield 16, 3) := by decide +kernel
theorem dX5_init_29 : decode cX5_init 29 = .ok (.aload_n 0, 1) := by decide +kernel
theorem dX5_init_30 : decode cX5_init 30 = .ok (.sipush 910, 3) := by decide +kernel
theorem dX5_init_33 : decode cX5_init 33 = .ok (.newarray .int, 2) := by decide +kernel
theorem dX5_init_35 : decode cX5_init 35 = .ok (.putfield 20, 3) := by decide +kernel
theorem dX5_init_38 : decode cX5_init 38 = .ok (.aload_n 0, 1) := by decide +kernel
theorem dX5_init_39 : decode cX5_init 39 = .ok (.sipush 455, 3) := by decide +kernel
theorem dX5_init_42 : decode cX5_init 42 = .ok (.newarray .int, 2) := by decide +kernel
theorem dX5_init_44 : decode cX5_init 44 = .ok (.putfield 23, 3) := by decide +kernel
theorem dX5_init_47 : decode cX5_init 47 = .ok (.aload_n 0, 1) := by decide +kernel
theorem dX5_init_48 : decode cX5_init 48 = .ok (.bipush 6, 2) := by decide +kernel
theorem dX5_init_50 : decode cX5_init 50 = .ok (.newarray .int, 2) := by decide +kernel
theorem dX5_init_52 : decode cX5_init 52 = .ok (.putfield 26, 3) := by decide +kernel
theorem dX5_init_55 : decode cX5_init 55 = .ok (.aload_n 0, 1) := by decide +kernel
theorem dX5_init_56 : decode cX5_init 56 = .ok (.bipush 6, 2) := by decide +kernel
theorem dX5_init_58 : decode cX5_init 58 = .ok (.newarray .int, 2) := by decide +kernel
theorem dX5_init_60 : decode cX5_init 60 = .ok (.putfield 29, 3) := by decide +kernel
theorem dX5_init_63 : decode cX5_init 63 = .ok (.aload_n 0, 1) := by decide +kernel
theorem dX5_init_64 : decode cX5_init 64 = .ok (.bipush 120, 2) := by decide +kernel
theorem dX5_init_66 : decode cX5_init 66 = .ok (.newarray .int, 2) := by decide +kernel
theorem dX5_init_68 : decode cX5_init 68 = .ok (.putfield 32, 3) := by decide +kernel
theorem dX5_init_71 : decode cX5_init 71 = .ok (.aload_n 0, 1) := by decide +kernel
theorem dX5_init_72 : decode cX5_init 72 = .ok (.bipush 10, 2) := by decide +kernel
theorem dX5_init_74 : decode cX5_init 74 = .ok (.newarray .int, 2) := by decide +kernel
theorem dX5_init_76 : decode cX5_init 76 = .ok (.putfield 35, 3) := by decide +kernel
theorem dX5_init_79 : decode cX5_init 79 = .ok (.iconst 0, 1) := by decide +kernel
theorem dX5_init_80 : decode cX5_init 80 = .ok (.istore_n 1, 1) := by decide +kernel
theorem dX5_init_81 : decode cX5_init 81 = .ok (.iload_n 1, 1) := by decide +kernel
theorem dX5_init_82 : decode cX5_init 82 = .ok (.bipush 64, 2) := by decide +kernel
theorem dX5_init_84 : decode cX5_init 84 = .ok (.if_icmp .ge 16, 3) := by decide +kernel
theorem dX5_init_87 : decode cX5_init 87 = .ok (.aload_n 0, 1) := by decide +kernel
theorem dX5_init_88 : decode cX5_init 88 = .ok (.getfield 7, 3) := by decide +kernel
theorem dX5_init_91 : decode cX5_init 91 = .ok (.iload_n 1, 1) := by decide +kernel
theorem dX5_init_92 : decode cX5_init 92 = .ok (.iload_n 1, 1) := by decide +kernel
theorem dX5_init_93 : decode cX5_init 93 = .ok (.iastore, 1) := by decide +kernel
theorem dX5_init_94 : decode cX5_init 94 = .ok (.iinc 1 1, 3) := by decide +kernel
theorem dX5_init_97 : decode cX5_init 97 = .ok (.goto (-16), 3) := by decide +kernel
theorem dX5_init_100 : decode cX5_init 100 = .ok (.iconst 0, 1) := by decide +kernel
theorem dX5_init_101 : decode cX5_init 101 = .ok (.istore_n 1, 1) := by decide +kernel
theorem dX5_init_102 : decode cX5_init 102 = .ok (.iload_n 1, 1) := by decide +kernel
theorem dX5_init_103 : decode cX5_init 103 = .ok (.iconst 4, 1) := by decide +kernel
theorem dX5_init_104 : decode cX5_init 104 = .ok (.if_icmp .ge 39, 3) := by decide +kernel
theorem dX5_init_107 : decode cX5_init 107 = .ok (.aload_n 0, 1) := by decide +kernel
theorem dX5_init_108 : decode cX5_init 108 = .ok (.getfield 7, 3) := by decide +kernel
theorem dX5_init_111 : decode cX5_init 111 = .ok (.bipush 64, 2) := by decide +kernel
theorem dX5_init_113 : decode cX5_init 113 = .ok (.bipush 7, 2) := by decide +kernel
theorem dX5_init_115 : decode cX5_init 115 = .ok (.iload_n 1, 1) := by decide +kernel
theorem dX5_init_116 : decode cX5_init 116 = .ok (.imul, 1) := by decide +kernel
theorem dX5_init_117 : decode cX5_init 117 = .ok (.iadd, 1) := by decide +kernel
theorem dX5_init_118 : decode cX5_init 118 = .ok (.iconst 0, 1) := by decide +kernel
theorem dX5_init_119 : decode cX5_init 119 = .ok (.iadd, 1) := by decide +kernel
theorem dX5_init_120 : decode cX5_init 120 = .ok (.iconst 1, 1) := by decide +kernel
theorem dX5_init_121 : decode cX5_init 121 = .ok (.iastore, 1) := by decide +kernel
theorem dX5_init_122 : decode cX5_init 122 = .ok (.aload_n 0, 1) := by decide +kernel
theorem dX5_init_123 : decode cX5_init 123 = .ok (.getfield 7, 3) := by decide +kernel
theorem dX5_init_126 : decode cX5_init 126 = .ok (.bipush 64, 2) := by decide +kernel
theorem dX5_init_128 : decode cX5_init 128 = .ok (.bipush 7, 2) := by decide +kernel
theorem dX5_init_130 : decode cX5_init 130 = .ok (.iload_n 1, 1) := by decide +kernel
theorem dX5_init_131 : decode cX5_init 131 = .ok (.imul, 1) := by decide +kernel
theorem dX5_init_132 : decode cX5_init 132 = .ok (.iadd, 1) := by decide +kernel
theorem dX5_init_133 : decode cX5_init 133 = .ok (.iconst 2, 1) := by decide +kernel
theorem dX5_init_134 : decode cX5_init 134 = .ok (.iadd, 1) := by decide +kernel
theorem dX5_init_135 : decode cX5_init 135 = .ok (.iconst 4, 1) := by decide +kernel
theorem dX5_init_136 : decode cX5_init 136 = .ok (.iastore, 1) := by decide +kernel
theorem dX5_init_137 : decode cX5_init 137 = .ok (.iinc 1 1, 3) := by decide +kernel
theorem dX5_init_140 : decode cX5_init 140 = .ok (.goto (-38), 3) := by decide +kernel
theorem dX5_init_143 : decode cX5_init 143 = .ok (.aload_n 0, 1) := by decide +kernel
theorem dX5_init_144 : decode cX5_init 144 = .ok (.getfield 7, 3) := by decide +kernel
theorem dX5_init_147 : decode cX5_init 147 = .ok (.sipush 453, 3) := by decide +kernel
theorem dX5_init_150 : decode cX5_init 150 = .ok (.iconst 3, 1) := by decide +kernel
theorem dX5_init_151 : decode cX5_init 151 = .ok (.iastore, 1) := by decide +kernel
theorem dX5_init_152 : decode cX5_init 152 = .ok (.return_, 1) := by decide +kernel
theorem dX5_type_0 : decode cX5_type 0 = .ok (.iload_n 1, 1) := by decide +kernel
theorem dX5_type_1 : decode cX5_type 1 = .ok (.iconst 0, 1) := by decide +kernel
theorem dX5_type_2 : decode cX5_type 2 = .ok (.sipush 255, 3) := by decide +kernel
theorem dX5_type_5 : decode cX5_type 5 = .ok (.invokestatic 38, 3) := by decide +kernel
theorem dX5_type_8 : decode cX5_type 8 = .ok (.ifCond .ne 5, 3) := by decide +kernel
theorem dX5_type_11 : decode cX5_type 11 = .ok (.iconst (-1), 1) := by decide +kernel
theorem dX5_type_12 : decode cX5_type 12 = .ok (.ireturn, 1) := by decide +kernel
theorem dX5_type_13 : decode cX5_type 13 = .ok (.aload_n 0, 1) := by decide +kernel
theorem dX5_type_14 : decode cX5_type 14 = .ok (.getfield 42, 3) := by decide +kernel
theorem dX5_type_17 : decode cX5_type 17 = .ok (.bipush 120, 2) := by decide +kernel
theorem dX5_type_19 : decode cX5_type 19 = .ok (.if_icmp .ne 6, 3) := by decide +kernel
theorem dX5_type_22 : decode cX5_type 22 = .ok (.bipush (-3), 2) := by decide +kernel
theorem dX5_type_24 : decode cX5_type 24 = .ok (.ireturn, 1) := by decide +kernel
theorem dX5_type_25 : decode cX5_type 25 = .ok (.aload_n 0, 1) := by decide +kernel
theorem dX5_type_26 : decode cX5_type 26 = .ok (.getfield 32, 3) := by decide +kernel
theorem dX5_type_29 : decode cX5_type 29 = .ok (.aload_n 0, 1) := by decide +kernel
theorem dX5_type_30 : decode cX5_type 30 = .ok (.getfield 42, 3) := by decide +kernel
theorem dX5_type_33 : decode cX5_type 33 = .ok (.iload_n 1, 1) := by decide +kernel
theorem dX5_type_34 : decode cX5_type 34 = .ok (.iastore, 1) := by decide +kernel
theorem dX5_type_35 : decode cX5_type 35 = .ok (.aload_n 0, 1) := by decide +kernel
theorem dX5_type_36 : decode cX5_type 36 = .ok (.dup, 1) := by decide +kernel
theorem dX5_type_37 : decode cX5_type 37 = .ok (.getfield 42, 3) := by decide +kernel
theorem dX5_type_40 : decode cX5_type 40 = .ok (.iconst 1, 1) := by decide +kernel
theorem dX5_type_41 : decode cX5_type 41 = .ok (.iadd, 1) := by decide +kernel
theorem dX5_type_42 : decode cX5_type 42 = .ok (.putfield 42, 3) := by decide +kernel
theorem dX5_type_45 : decode cX5_type 45 = .ok (.aload_n 0, 1) := by decide +kernel
theorem dX5_type_46 : decode cX5_type 46 = .ok (.getfield 42, 3) := by decide +kernel
theorem dX5_type_49 : decode cX5_type 49 = .ok (.ireturn, 1) := by decide +kernel
theorem dX5_clear_0 : decode cX5_clear 0 = .ok (.aload_n 0, 1) := by decide +kernel
theorem dX5_clear_1 : decode cX5_clear 1 = .ok (.getfield 42, 3) := by decide +kernel
theorem dX5_clear_4 : decode cX5_clear 4 = .ok (.istore_n 1, 1) := by decide +kernel
theorem dX5_clear_5 : decode cX5_clear 5 = .ok (.aload_n 0, 1) := by decide +kernel
theorem dX5_clear_6 : decode cX5_clear 6 = .ok (.iconst 0, 1) := by decide +kernel
theorem dX5_clear_7 : decode cX5_clear 7 = .ok (.putfield 42, 3) := by decide +kernel
theorem dX5_clear_10 : decode cX5_clear 10 = .ok (.iload_n 1, 1) := by decide +kernel
theorem dX5_clear_11 : decode cX5_clear 11 = .ok (.ireturn, 1) := by decide +kernel
theorem dX5_isFigure_0 : decode cX5_isFigure 0 = .ok (.iload_n 1, 1) := by decide +kernel
theorem dX5_isFigure_1 : decode cX5_isFigure 1 = .ok (.aload_n 0, 1) := by decide +kernel
theorem dX5_isFigure_2 : decode cX5_isFigure 2 = .ok (.getfield 42, 3) := by decide +kernel
theorem dX5_isFigure_5 : decode cX5_isFigure 5 = .ok (.if_icmp .ge 23, 3) := by decide +kernel
theorem dX5_isFigure_8 : decode cX5_isFigure 8 = .ok (.aload_n 0, 1) := by decide +kernel
theorem dX5_isFigure_9 : decode cX5_isFigure 9 = .ok (.getfield 32, 3) := by decide +kernel
theorem dX5_isFigure_12 : decode cX5_isFigure 12 = .ok (.iload_n 1, 1) := by decide +kernel
theorem dX5_isFigure_13 : decode cX5_isFigure 13 = .ok (.iaload, 1) := by decide +kernel
theorem dX5_isFigure_14 : decode cX5_isFigure 14 = .ok (.bipush 48, 2) := by decide +kernel
theorem dX5_isFigure_16 : decode cX5_isFigure 16 = .ok (.bipush 57, 2) := by decide +kernel
theorem dX5_isFigure_18 : decode cX5_isFigure 18 = .ok (.invokestatic 38, 3) := by decide +kernel
theorem dX5_isFigure_21 : decode cX5_isFigure 21 = .ok (.ifCond .eq 7, 3) := by decide +kernel
theorem dX5_isFigure_24 : decode cX5_isFigure 24 = .ok (.iconst 1, 1) := by decide +kernel
theorem dX5_isFigure_25 : decode cX5_isFigure 25 = .ok (.goto 4, 3) := by decide +kernel
theorem dX5_isFigure_28 : decode cX5_isFigure 28 = .ok (.iconst 0, 1) := by decide +kernel
theorem dX5_isFigure_29 : decode cX5_isFigure 29 = .ok (.ireturn, 1) := by decide +kernel
theorem dX5_takesNumber_0 : decode cX5_takesNumber 0 = .ok (.aload_n 0, 1) := by decide +kernel
theorem dX5_takesNumber_1 : decode cX5_takesNumber 1 = .ok (.getfield 32, 3) := by decide +kernel
theorem dX5_takesNumber_4 : decode cX5_takesNumber 4 = .ok (.aload_n 0, 1) := by decide +kernel
theorem dX5_takesNumber_5 : decode cX5_takesNumber 5 = .ok (.getfield 46, 3) := by decide +kernel
theorem dX5_takesNumber_8 : decode cX5_takesNumber 8 = .ok (.iaload, 1) := by decide +kernel
theorem dX5_takesNumber_9 : decode cX5_takesNumber 9 = .ok (.bipush 45, 2) := by decide +kernel
theorem dX5_takesNumber_11 : decode cX5_takesNumber 11 = .ok (.if_icmp .ne 7, 3) := by decide +kernel
theorem dX5_takesNumber_14 : decode cX5_takesNumber 14 = .ok (.iconst 1, 1) := by decide +kernel
theorem dX5_takesNumber_15 : decode cX5_takesNumber 15 = .ok (.goto 4, 3) := by decide +kernel
theorem dX5_takesNumber_18 : decode cX5_takesNumber 18 = .ok (.iconst 0, 1) := by decide +kernel
theorem dX5_takesNumber_19 : decode cX5_takesNumber 19 = .ok (.istore_n 1, 1) := by decide +kernel
theorem dX5_takesNumber_20 : decode cX5_takesNumber 20 = .ok (.aload_n 0, 1) := by decide +kernel
theorem dX5_takesNumber_21 : decode cX5_takesNumber 21 = .ok (.dup, 1) := by decide +kernel
theorem dX5_takesNumber_22 : decode cX5_takesNumber 22 = .ok (.getfield 46, 3) := by decide +kernel
theorem dX5_takesNumber_25 : decode cX5_takesNumber 25 = .ok (.iload_n 1, 1) := by decide +kernel
theorem dX5_takesNumber_26 : decode cX5_takesNumber 26 = .ok (.ifCond .eq 7, 3) := by decide +kernel
theorem dX5_takesNumber_29 : decode cX5_takesNumber 29 = .ok (.iconst 1, 1) := by decide +kernel
theorem dX5_takesNumber_30 : decode cX5_takesNumber 30 = .ok (.goto 4, 3) := by decide +kernel
theorem dX5_takesNumber_33 : decode cX5_takesNumber 33 = .ok (.iconst 0, 1) := by decide +kernel
theorem dX5_takesNumber_34 : decode cX5_takesNumber 34 = .ok (.iadd, 1) := by decide +kernel
theorem dX5_takesNumber_35 : decode cX5_takesNumber 35 = .ok (.putfield 46, 3) := by decide +kernel
theorem dX5_takesNumber_38 : decode cX5_takesNumber 38 = .ok (.aload_n 0, 1) := by decide +kernel
theorem dX5_takesNumber_39 : decode cX5_takesNumber 39 = .ok (.getfield 46, 3) := by decide +kernel
theorem dX5_takesNumber_42 : decode cX5_takesNumber 42 = .ok (.istore_n 2, 1) := by decide +kernel
theorem dX5_takesNumber_43 : decode cX5_takesNumber 43 = .ok (.iconst 0, 1) := by decide +kernel
theorem dX5_takesNumber_44 : decode cX5_takesNumber 44 = .ok (.istore_n 3, 1) := by decide +kernel
theorem dX5_takesNumber_45 : decode cX5_takesNumber 45 = .ok (.aload_n 0, 1) := by decide +kernel
theorem dX5_takesNumber_46 : decode cX5_takesNumber 46 = .ok (.aload_n 0, 1) := by decide +kernel
theorem dX5_takesNumber_47 : decode cX5_takesNumber 47 = .ok (.getfield 46, 3) := by decide +kernel
theorem dX5_takesNumber_50 : decode cX5_takesNumber 50 = .ok (.invokevirtual 49, 3) := by decide +kernel
theorem dX5_takesNumber_53 : decode cX5_takesNumber 53 = .ok (.ifCond .eq 45, 3) := by decide +kernel
theorem dX5_takesNumber_56 : decode cX5_takesNumber 56 = .ok (.iload_n 3, 1) := by decide +kernel
theorem dX5_takesNumber_57 : decode cX5_takesNumber 57 = .ok (.sipush 9999, 3) := by decide +kernel
theorem dX5_takesNumber_60 : decode cX5_takesNumber 60 = .ok (.if_icmp .le 7, 3) := by decide +kernel
theorem dX5_takesNumber_63 : decode cX5_takesNumber 63 = .ok (.iload_n 3, 1) := by decide +kernel
theorem dX5_takesNumber_64 : decode cX5_takesNumber 64 = .ok (.goto 20, 3) := by decide +kernel
theorem dX5_takesNumber_67 : decode cX5_takesNumber 67 = .ok (.bipush 10, 2) := by decide +kernel
theorem dX5_takesNumber_69 : decode cX5_takesNumber 69 = .ok (.iload_n 3, 1) := by decide +kernel
theorem dX5_takesNumber_70 : decode cX5_takesNumber 70 = .ok (.imul, 1) := by decide +kernel
theorem dX5_takesNumber_71 : decode cX5_takesNumber 71 = .ok (.aload_n 0, 1) := by decide +kernel
theorem dX5_takesNumber_72 : decode cX5_takesNumber 72 = .ok (.getfield 32, 3) := by decide +kernel
theorem dX5_takesNumber_75 : decode cX5_takesNumber 75 = .ok (.aload_n 0, 1) := by decide +kernel
theorem dX5_takesNumber_76 : decode cX5_takesNumber 76 = .ok (.getfield 46, 3) := by decide +kernel
theorem dX5_takesNumber_79 : decode cX5_takesNumber 79 = .ok (.iaload, 1) := by decide +kernel
theorem dX5_takesNumber_80 : decode cX5_takesNumber 80 = .ok (.iadd, 1) := by decide +kernel
theorem dX5_takesNumber_81 : decode cX5_takesNumber 81 = .ok (.bipush 48, 2) := by decide +kernel
theorem dX5_takesNumber_83 : decode cX5_takesNumber 83 = .ok (.isub, 1) := by decide +kernel
theorem dX5_takesNumber_84 : decode cX5_takesNumber 84 = .ok (.istore_n 3, 1) := by decide +kernel
theorem dX5_takesNumber_85 : decode cX5_takesNumber 85 = .ok (.aload_n 0, 1) := by decide +kernel
theorem dX5_takesNumber_86 : decode cX5_takesNumber 86 = .ok (.dup, 1) := by decide +kernel
theorem dX5_takesNumber_87 : decode cX5_takesNumber 87 = .ok (.getfield 46, 3) := by decide +kernel
theorem dX5_takesNumber_90 : decode cX5_takesNumber 90 = .ok (.iconst 1, 1) := by decide +kernel
theorem dX5_takesNumber_91 : decode cX5_takesNumber 91 = .ok (.iadd, 1) := by decide +kernel
theorem dX5_takesNumber_92 : decode cX5_takesNumber 92 = .ok (.putfield 46, 3) := by decide +kernel
theorem dX5_takesNumber_95 : decode cX5_takesNumber 95 = .ok (.goto (-50), 3) := by decide +kernel
theorem dX5_takesNumber_98 : decode cX5_takesNumber 98 = .ok (.aload_n 0, 1) := by decide +kernel
theorem dX5_takesNumber_99 : decode cX5_takesNumber 99 = .ok (.getfield 46, 3) := by decide +kernel
theorem dX5_takesNumber_102 : decode cX5_takesNumber 102 = .ok (.iload_n 2, 1) := by decide +kernel
theorem dX5_takesNumber_103 : decode cX5_takesNumber 103 = .ok (.isub, 1) := by decide +kernel
theorem dX5_takesNumber_104 : decode cX5_takesNumber 104 = .ok (.istore 4, 2) := by decide +kernel
theorem dX5_takesNumber_106 : decode cX5_takesNumber 106 = .ok (.iload 4, 2) := by decide +kernel
theorem dX5_takesNumber_108 : decode cX5_takesNumber 108 = .ok (.iconst 1, 1) := by decide +kernel
theorem dX5_takesNumber_109 : decode cX5_takesNumber 109 = .ok (.iconst 3, 1) := by decide +kernel
theorem dX5_takesNumber_110 : decode cX5_takesNumber 110 = .ok (.invokestatic 38, 3) := by decide +kernel
theorem dX5_takesNumber_113 : decode cX5_takesNumber 113 = .ok (.ifCond .eq 28, 3) := by decide +kernel
theorem dX5_takesNumber_116 : decode cX5_takesNumber 116 = .ok (.aload_n 0, 1) := by decide +kernel
theorem dX5_takesNumber_117 : decode cX5_takesNumber 117 = .ok (.getfield 32, 3) := by decide +kernel
theorem dX5_takesNumber_120 : decode cX5_takesNumber 120 = .ok (.iload_n 2, 1) := by decide +kernel
theorem dX5_takesNumber_121 : decode cX5_takesNumber 121 = .ok (.iaload, 1) := by decide +kernel
theorem dX5_takesNumber_122 : decode cX5_takesNumber 122 = .ok (.bipush 48, 2) := by decide +kernel
theorem dX5_takesNumber_124 : decode cX5_takesNumber 124 = .ok (.if_icmp .ne 13, 3) := by decide +kernel
theorem dX5_takesNumber_127 : decode cX5_takesNumber 127 = .ok (.iload 4, 2) := by decide +kernel
theorem dX5_takesNumber_129 : decode cX5_takesNumber 129 = .ok (.iconst 1, 1) := by decide +kernel
theorem dX5_takesNumber_130 : decode cX5_takesNumber 130 = .ok (.if_icmp .ne 11, 3) := by decide +kernel
theorem dX5_takesNumber_133 : decode cX5_takesNumber 133 = .ok (.iload_n 1, 1) := by decide +kernel
theorem dX5_takesNumber_134 : decode cX5_takesNumber 134 = .ok (.ifCond .ne 7, 3) := by decide +kernel
theorem dX5_takesNumber_137 : decode cX5_takesNumber 137 = .ok (.iconst 1, 1) := by decide +kernel
theorem dX5_takesNumber_138 : decode cX5_takesNumber 138 = .ok (.goto 4, 3) := by decide +kernel
theorem dX5_takesNumber_141 : decode cX5_takesNumber 141 = .ok (.iconst 0, 1) := by decide +kernel
theorem dX5_takesNumber_142 : decode cX5_takesNumber 142 = .ok (.istore 5, 2) := by decide +kernel
theorem dX5_takesNumber_144 : decode cX5_takesNumber 144 = .ok (.aload_n 0, 1) := by decide +kernel
theorem dX5_takesNumber_145 : decode cX5_takesNumber 145 = .ok (.iload 5, 2) := by decide +kernel
theorem dX5_takesNumber_147 : decode cX5_takesNumber 147 = .ok (.ifCond .eq 9, 3) := by decide +kernel
theorem dX5_takesNumber_150 : decode cX5_takesNumber 150 = .ok (.sipush 1000, 3) := by decide +kernel
theorem dX5_takesNumber_153 : decode cX5_takesNumber 153 = .ok (.goto 6, 3) := by decide +kernel
theorem dX5_takesNumber_156 : decode cX5_takesNumber 156 = .ok (.sipush 1001, 3) := by decide +kernel
theorem dX5_takesNumber_159 : decode cX5_takesNumber 159 = .ok (.putfield 53, 3) := by decide +kernel
theorem dX5_takesNumber_162 : decode cX5_takesNumber 162 = .ok (.aload_n 0, 1) := by decide +kernel
theorem dX5_takesNumber_163 : decode cX5_takesNumber 163 = .ok (.iload_n 1, 1) := by decide +kernel
theorem dX5_takesNumber_164 : decode cX5_takesNumber 164 = .ok (.ifCond .eq 8, 3) := by decide +kernel
theorem dX5_takesNumber_167 : decode cX5_takesNumber 167 = .ok (.iload_n 3, 1) := by decide +kernel
theorem dX5_takesNumber_168 : decode cX5_takesNumber 168 = .ok (.ineg, 1) := by decide +kernel
theorem dX5_takesNumber_169 : decode cX5_takesNumber 169 = .ok (.goto 4, 3) := by decide +kernel
theorem dX5_takesNumber_172 : decode cX5_takesNumber 172 = .ok (.iload_n 3, 1) := by decide +kernel
theorem dX5_takesNumber_173 : decode cX5_takesNumber 173 = .ok (.putfield 56, 3) := by decide +kernel
theorem dX5_takesNumber_176 : decode cX5_takesNumber 176 = .ok (.return_, 1) := by decide +kernel
theorem dX5_takes_0 : decode cX5_takes 0 = .ok (.aload_n 0, 1) := by decide +kernel
theorem dX5_takes_1 : decode cX5_takes 1 = .ok (.getfield 46, 3) := by decide +kernel
theorem dX5_takes_4 : decode cX5_takes 4 = .ok (.aload_n 0, 1) := by decide +kernel
theorem dX5_takes_5 : decode cX5_takes 5 = .ok (.getfield 42, 3) := by decide +kernel
theorem dX5_takes_8 : decode cX5_takes 8 = .ok (.if_icmp .ge 30, 3) := by decide +kernel
theorem dX5_takes_11 : decode cX5_takes 11 = .ok (.aload_n 0, 1) := by decide +kernel
theorem dX5_takes_12 : decode cX5_takes 12 = .ok (.getfield 32, 3) := by decide +kernel
theorem dX5_takes_15 : decode cX5_takes 15 = .ok (.aload_n 0, 1) := by decide +kernel
theorem dX5_takes_16 : decode cX5_takes 16 = .ok (.getfield 46, 3) := by decide +kernel
theorem dX5_takes_19 : decode cX5_takes 19 = .ok (.iaload, 1) := by decide +kernel
theorem dX5_takes_20 : decode cX5_takes 20 = .ok (.bipush 32, 2) := by decide +kernel
theorem dX5_takes_22 : decode cX5_takes 22 = .ok (.if_icmp .ne 16, 3) := by decide +kernel
theorem dX5_takes_25 : decode cX5_takes 25 = .ok (.aload_n 0, 1) := by decide +kernel
theorem dX5_takes_26 : decode cX5_takes 26 = .ok (.dup, 1) := by decide +kernel
theorem dX5_takes_27 : decode cX5_takes 27 = .ok (.getfield 46, 3) := by decide +kernel
theorem dX5_takes_30 : decode cX5_takes 30 = .ok (.iconst 1, 1) := by decide +kernel
theorem dX5_takes_31 : decode cX5_takes 31 = .ok (.iadd, 1) := by decide +kernel
theorem dX5_takes_32 : decode cX5_takes 32 = .ok (.putfield 46, 3) := by decide +kernel
theorem dX5_takes_35 : decode cX5_takes 35 = .ok (.goto (-35), 3) := by decide +kernel
theorem dX5_takes_38 : decode cX5_takes 38 = .ok (.aload_n 0, 1) := by decide +kernel
theorem dX5_takes_39 : decode cX5_takes 39 = .ok (.aload_n 0, 1) := by decide +kernel
theorem dX5_takes_40 : decode cX5_takes 40 = .ok (.getfield 46, 3) := by decide +kernel
theorem dX5_takes_43 : decode cX5_takes 43 = .ok (.putfield 59, 3) := by decide +kernel
theorem dX5_takes_46 : decode cX5_takes 46 = .ok (.aload_n 0, 1) := by decide +kernel
theorem dX5_takes_47 : decode cX5_takes 47 = .ok (.getfield 46, 3) := by decide +kernel
theorem dX5_takes_50 : decode cX5_takes 50 = .ok (.aload_n 0, 1) := by decide +kernel
theorem dX5_takes_51 : decode cX5_takes 51 = .ok (.getfield 42, 3) := by decide +kernel
theorem dX5_takes_54 : decode cX5_takes 54 = .ok (.if_icmp .ne 11, 3) := by decide +kernel
theorem dX5_takes_57 : decode cX5_takes 57 = .ok (.aload_n 0, 1) := by decide +kernel
theorem dX5_takes_58 : decode cX5_takes 58 = .ok (.iconst (-1), 1) := by decide +kernel
theorem dX5_takes_59 : decode cX5_takes 59 = .ok (.putfield 53, 3) := by decide +kernel
theorem dX5_takes_62 : decode cX5_takes 62 = .ok (.goto 58, 3) := by decide +kernel
theorem dX5_takes_65 : decode cX5_takes 65 = .ok (.aload_n 0, 1) := by decide +kernel
theorem dX5_takes_66 : decode cX5_takes 66 = .ok (.aload_n 0, 1) := by decide +kernel
theorem dX5_takes_67 : decode cX5_takes 67 = .ok (.getfield 46, 3) := by decide +kernel
theorem dX5_takes_70 : decode cX5_takes 70 = .ok (.invokevirtual 49, 3) := by decide +kernel
theorem dX5_takes_73 : decode cX5_takes 73 = .ok (.ifCond .ne 17, 3) := by decide +kernel
theorem dX5_takes_76 : decode cX5_takes 76 = .ok (.aload_n 0, 1) := by decide +kernel
theorem dX5_takes_77 : decode cX5_takes 77 = .ok (.getfield 32, 3) := by decide +kernel
theorem dX5_takes_80 : decode cX5_takes 80 = .ok (.aload_n 0, 1) := by decide +kernel
theorem dX5_takes_81 : decode cX5_takes 81 = .ok (.getfield 46, 3) := by decide +kernel
theorem dX5_takes_84 : decode cX5_takes 84 = .ok (.iaload, 1) := by decide +kernel
theorem dX5_takes_85 : decode cX5_takes 85 = .ok (.bipush 45, 2) := by decide +kernel
theorem dX5_takes_87 : decode cX5_takes 87 = .ok (.if_icmp .ne 10, 3) := by decide +kernel
theorem dX5_takes_90 : decode cX5_takes 90 = .ok (.aload_n 0, 1) := by decide +kernel
theorem dX5_takes_91 : decode cX5_takes 91 = .ok (.invokevirtual 62, 3) := by decide +kernel
theorem dX5_takes_94 : decode cX5_takes 94 = .ok (.goto 26, 3) := by decide +kernel
theorem dX5_takes_97 : decode cX5_takes 97 = .ok (.aload_n 0, 1) := by decide +kernel
theorem dX5_takes_98 : decode cX5_takes 98 = .ok (.aload_n 0, 1) := by decide +kernel
theorem dX5_takes_99 : decode cX5_takes 99 = .ok (.getfield 32, 3) := by decide +kernel
theorem dX5_takes_102 : decode cX5_takes 102 = .ok (.aload_n 0, 1) := by decide +kernel
theorem dX5_takes_103 : decode cX5_takes 103 = .ok (.getfield 46, 3) := by decide +kernel
theorem dX5_takes_106 : decode cX5_takes 106 = .ok (.iaload, 1) := by decide +kernel
theorem dX5_takes_107 : decode cX5_takes 107 = .ok (.putfield 53, 3) := by decide +kernel
theorem dX5_takes_110 : decode cX5_takes 110 = .ok (.aload_n 0, 1) := by decide +kernel
theorem dX5_takes_111 : decode cX5_takes 111 = .ok (.dup, 1) := by decide +kernel
theorem dX5_takes_112 : decode cX5_takes 112 = .ok (.getfield 46, 3) := by decide +kernel
theorem dX5_takes_115 : decode cX5_takes 115 = .ok (.iconst 1, 1) := by decide +kernel
theorem dX5_takes_116 : decode cX5_takes 116 = .ok (.iadd, 1) := by decide +kernel
theorem dX5_takes_117 : decode cX5_takes 117 = .ok (.putfield 46, 3) := by decide +kernel
theorem dX5_takes_120 : decode cX5_takes 120 = .ok (.return_, 1) := by decide +kernel
theorem dX5_reads_0 : decode cX5_reads 0 = .ok (.aload_n 0, 1) := by decide +kernel
theorem dX5_reads_1 : decode cX5_reads 1 = .ok (.getfield 53, 3) := by decide +kernel
theorem dX5_reads_4 : decode cX5_reads 4 = .ok (.sipush 1000, 3) := by decide +kernel
theorem dX5_reads_7 : decode cX5_reads 7 = .ok (.if_icmp .ne 15, 3) := by decide +kernel
theorem dX5_reads_10 : decode cX5_reads 10 = .ok (.aload_n 0, 1) := by decide +kernel
theorem dX5_reads_11 : decode cX5_reads 11 = .ok (.getfield 56, 3) := by decide +kernel
theorem dX5_reads_14 : decode cX5_reads 14 = .ok (.iload_n 2, 1) := by decide +kernel
theorem dX5_reads_15 : decode cX5_reads 15 = .ok (.iload_n 3, 1) := by decide +kernel
theorem dX5_reads_16 : decode cX5_reads 16 = .ok (.invokestatic 38, 3) := by decide +kernel
theorem dX5_reads_19 : decode cX5_reads 19 = .ok (.ifCond .ne 5, 3) := by decide +kernel
theorem dX5_reads_22 : decode cX5_reads 22 = .ok (.iconst 0, 1) := by decide +kernel
theorem dX5_reads_23 : decode cX5_reads 23 = .ok (.ireturn, 1) := by decide +kernel
theorem dX5_reads_24 : decode cX5_reads 24 = .ok (.aload_n 0, 1) := by decide +kernel
theorem dX5_reads_25 : decode cX5_reads 25 = .ok (.getfield 35, 3) := by decide +kernel
theorem dX5_reads_28 : decode cX5_reads 28 = .ok (.iload_n 1, 1) := by decide +kernel
theorem dX5_reads_29 : decode cX5_reads 29 = .ok (.aload_n 0, 1) := by decide +kernel
theorem dX5_reads_30 : decode cX5_reads 30 = .ok (.getfield 56, 3) := by decide +kernel
theorem dX5_reads_33 : decode cX5_reads 33 = .ok (.iastore, 1) := by decide +kernel
theorem dX5_reads_34 : decode cX5_reads 34 = .ok (.aload_n 0, 1) := by decide +kernel
theorem dX5_reads_35 : decode cX5_reads 35 = .ok (.invokevirtual 65, 3) := by decide +kernel
theorem dX5_reads_38 : decode cX5_reads 38 = .ok (.iconst 1, 1) := by decide +kernel
theorem dX5_reads_39 : decode cX5_reads 39 = .ok (.ireturn, 1) := by decide +kernel
theorem dX5_readsLetter_0 : decode cX5_readsLetter 0 = .ok (.aload_n 0, 1) := by decide +kernel
theorem dX5_readsLetter_1 : decode cX5_readsLetter 1 = .ok (.iconst 0, 1) := by decide +kernel
theorem dX5_readsLetter_2 : decode cX5_readsLetter 2 = .ok (.iconst 0, 1) := by decide +kernel
theorem dX5_readsLetter_3 : decode cX5_readsLetter 3 = .ok (.iconst 3, 1) := by decide +kernel
theorem dX5_readsLetter_4 : decode cX5_readsLetter 4 = .ok (.invokevirtual 68, 3) := by decide +kernel
theorem dX5_readsLetter_7 : decode cX5_readsLetter 7 = .ok (.ifCond .eq 40, 3) := by decide +kernel
theorem dX5_readsLetter_10 : decode cX5_readsLetter 10 = .ok (.aload_n 0, 1) := by decide +kernel
theorem dX5_readsLetter_11 : decode cX5_readsLetter 11 = .ok (.iconst 1, 1) := by decide +kernel
theorem dX5_readsLetter_12 : decode cX5_readsLetter 12 = .ok (.iconst 0, 1) := by decide +kernel
theorem dX5_readsLetter_13 : decode cX5_readsLetter 13 = .ok (.bipush 63, 2) := by decide +kernel
theorem dX5_readsLetter_15 : decode cX5_readsLetter 15 = .ok (.invokevirtual 68, 3) := by decide +kernel
theorem dX5_readsLetter_18 : decode cX5_readsLetter 18 = .ok (.ifCond .eq 29, 3) := by decide +kernel
theorem dX5_readsLetter_21 : decode cX5_readsLetter 21 = .ok (.aload_n 0, 1) := by decide +kernel
theorem dX5_readsLetter_22 : decode cX5_readsLetter 22 = .ok (.iconst 2, 1) := by decide +kernel
theorem dX5_readsLetter_23 : decode cX5_readsLetter 23 = .ok (.iconst 0, 1) := by decide +kernel
theorem dX5_readsLetter_24 : decode cX5_readsLetter 24 = .ok (.bipush 63, 2) := by decide +kernel
theorem dX5_readsLetter_26 : decode cX5_readsLetter 26 = .ok (.invokevirtual 68, 3) := by decide +kernel
theorem dX5_readsLetter_29 : decode cX5_readsLetter 29 = .ok (.ifCond .eq 18, 3) := by decide +kernel
theorem dX5_readsLetter_32 : decode cX5_readsLetter 32 = .ok (.aload_n 0, 1) := by decide +kernel
theorem dX5_readsLetter_33 : decode cX5_readsLetter 33 = .ok (.iconst 3, 1) := by decide +kernel
theorem dX5_readsLetter_34 : decode cX5_readsLetter 34 = .ok (.iconst 1, 1) := by decide +kernel
theorem dX5_readsLetter_35 : decode cX5_readsLetter 35 = .ok (.bipush 16, 2) := by decide +kernel
theorem dX5_readsLetter_37 : decode cX5_readsLetter 37 = .ok (.invokevirtual 68, 3) := by decide +kernel
theorem dX5_readsLetter_40 : decode cX5_readsLetter 40 = .ok (.ifCond .eq 7, 3) := by decide +kernel
theorem dX5_readsLetter_43 : decode cX5_readsLetter 43 = .ok (.iconst 1, 1) := by decide +kernel
theorem dX5_readsLetter_44 : decode cX5_readsLetter 44 = .ok (.goto 4, 3) := by decide +kernel
theorem dX5_readsLetter_47 : decode cX5_readsLetter 47 = .ok (.iconst 0, 1) := by decide +kernel
theorem dX5_readsLetter_48 : decode cX5_readsLetter 48 = .ok (.istore_n 1, 1) := by decide +kernel
theorem dX5_readsLetter_49 : decode cX5_readsLetter 49 = .ok (.iload_n 1, 1) := by decide +kernel
theorem dX5_readsLetter_50 : decode cX5_readsLetter 50 = .ok (.ifCond .eq 42, 3) := by decide +kernel
theorem dX5_readsLetter_53 : decode cX5_readsLetter 53 = .ok (.aload_n 0, 1) := by decide +kernel
theorem dX5_readsLetter_54 : decode cX5_readsLetter 54 = .ok (.iconst 4, 1) := by decide +kernel
theorem dX5_readsLetter_55 : decode cX5_readsLetter 55 = .ok (.bipush (-9), 2) := by decide +kernel
theorem dX5_readsLetter_57 : decode cX5_readsLetter 57 = .ok (.bipush 9, 2) := by decide +kernel
theorem dX5_readsLetter_59 : decode cX5_readsLetter 59 = .ok (.invokevirtual 68, 3) := by decide +kernel
theorem dX5_readsLetter_62 : decode cX5_readsLetter 62 = .ok (.ifCond .eq 30, 3) := by decide +kernel
theorem dX5_readsLetter_65 : decode cX5_readsLetter 65 = .ok (.aload_n 0, 1) := by decide +kernel
theorem dX5_readsLetter_66 : decode cX5_readsLetter 66 = .ok (.iconst 5, 1) := by decide +kernel
theorem dX5_readsLetter_67 : decode cX5_readsLetter 67 = .ok (.bipush (-9), 2) := by decide +kernel
theorem dX5_readsLetter_69 : decode cX5_readsLetter 69 = .ok (.bipush 9, 2) := by decide +kernel
theorem dX5_readsLetter_71 : decode cX5_readsLetter 71 = .ok (.invokevirtual 68, 3) := by decide +kernel
theorem dX5_readsLetter_74 : decode cX5_readsLetter 74 = .ok (.ifCond .eq 18, 3) := by decide +kernel
theorem dX5_readsLetter_77 : decode cX5_readsLetter 77 = .ok (.aload_n 0, 1) := by decide +kernel
theorem dX5_readsLetter_78 : decode cX5_readsLetter 78 = .ok (.bipush 6, 2) := by decide +kernel
theorem dX5_readsLetter_80 : decode cX5_readsLetter 80 = .ok (.iconst 1, 1) := by decide +kernel
theorem dX5_readsLetter_81 : decode cX5_readsLetter 81 = .ok (.iconst 4, 1) := by decide +kernel
theorem dX5_readsLetter_82 : decode cX5_readsLetter 82 = .ok (.invokevirtual 68, 3) := by decide +kernel
theorem dX5_readsLetter_85 : decode cX5_readsLetter 85 = .ok (.ifCond .eq 7, 3) := by decide +kernel
theorem dX5_readsLetter_88 : decode cX5_readsLetter 88 = .ok (.iconst 1, 1) := by decide +kernel
theorem dX5_readsLetter_89 : decode cX5_readsLetter 89 = .ok (.goto 4, 3) := by decide +kernel
theorem dX5_readsLetter_92 : decode cX5_readsLetter 92 = .ok (.iconst 0, 1) := by decide +kernel
theorem dX5_readsLetter_93 : decode cX5_readsLetter 93 = .ok (.istore_n 1, 1) := by decide +kernel
theorem dX5_readsLetter_94 : decode cX5_readsLetter 94 = .ok (.iload_n 1, 1) := by decide +kernel
theorem dX5_readsLetter_95 : decode cX5_readsLetter 95 = .ok (.ifCond .eq 44, 3) := by decide +kernel
theorem dX5_readsLetter_98 : decode cX5_readsLetter 98 = .ok (.aload_n 0, 1) := by decide +kernel
theorem dX5_readsLetter_99 : decode cX5_readsLetter 99 = .ok (.bipush 7, 2) := by decide +kernel
theorem dX5_readsLetter_101 : decode cX5_readsLetter 101 = .ok (.bipush (-20), 2) := by decide +kernel
theorem dX5_readsLetter_103 : decode cX5_readsLetter 103 = .ok (.bipush 20, 2) := by decide +kernel
theorem dX5_readsLetter_105 : decode cX5_readsLetter 105 = .ok (.invokevirtual 68, 3) := by decide +kernel
theorem dX5_readsLetter_108 : decode cX5_readsLetter 108 = .ok (.ifCond .eq 31, 3) := by decide +kernel
theorem dX5_readsLetter_111 : decode cX5_readsLetter 111 = .ok (.aload_n 0, 1) := by decide +kernel
theorem dX5_readsLetter_112 : decode cX5_readsLetter 112 = .ok (.bipush 8, 2) := by decide +kernel
theorem dX5_readsLetter_114 : decode cX5_readsLetter 114 = .ok (.bipush (-20), 2) := by decide +kernel
theorem dX5_readsLetter_116 : decode cX5_readsLetter 116 = .ok (.bipush 20, 2) := by decide +kernel
theorem dX5_readsLetter_118 : decode cX5_readsLetter 118 = .ok (.invokevirtual 68, 3) := by decide +kernel
theorem dX5_readsLetter_121 : decode cX5_readsLetter 121 = .ok (.ifCond .eq 18, 3) := by decide +kernel
theorem dX5_readsLetter_124 : decode cX5_readsLetter 124 = .ok (.aload_n 0, 1) := by decide +kernel
theorem dX5_readsLetter_125 : decode cX5_readsLetter 125 = .ok (.bipush 9, 2) := by decide +kernel
theorem dX5_readsLetter_127 : decode cX5_readsLetter 127 = .ok (.iconst 0, 1) := by decide +kernel
theorem dX5_readsLetter_128 : decode cX5_readsLetter 128 = .ok (.iconst 1, 1) := by decide +kernel
theorem dX5_readsLetter_129 : decode cX5_readsLetter 129 = .ok (.invokevirtual 68, 3) := by decide +kernel
theorem dX5_readsLetter_132 : decode cX5_readsLetter 132 = .ok (.ifCond .eq 7, 3) := by decide +kernel
theorem dX5_readsLetter_135 : decode cX5_readsLetter 135 = .ok (.iconst 1, 1) := by decide +kernel
theorem dX5_readsLetter_136 : decode cX5_readsLetter 136 = .ok (.goto 4, 3) := by decide +kernel
theorem dX5_readsLetter_139 : decode cX5_readsLetter 139 = .ok (.iconst 0, 1) := by decide +kernel
theorem dX5_readsLetter_140 : decode cX5_readsLetter 140 = .ok (.ireturn, 1) := by decide +kernel
theorem dX5_readsItem_0 : decode cX5_readsItem 0 = .ok (.aload_n 0, 1) := by decide +kernel
theorem dX5_readsItem_1 : decode cX5_readsItem 1 = .ok (.invokevirtual 65, 3) := by decide +kernel
theorem dX5_readsItem_4 : decode cX5_readsItem 4 = .ok (.iconst 0, 1) := by decide +kernel
theorem dX5_readsItem_5 : decode cX5_readsItem 5 = .ok (.istore_n 2, 1) := by decide +kernel
theorem dX5_readsItem_6 : decode cX5_readsItem 6 = .ok (.iload_n 1, 1) := by decide +kernel
theorem dX5_readsItem_7 : decode cX5_readsItem 7 = .ok (.bipush 108, 2) := by decide +kernel
theorem dX5_readsItem_9 : decode cX5_readsItem 9 = .ok (.if_icmp .ne 11, 3) := by decide +kernel
theorem dX5_readsItem_12 : decode cX5_readsItem 12 = .ok (.aload_n 0, 1) := by decide +kernel
theorem dX5_readsItem_13 : decode cX5_readsItem 13 = .ok (.invokevirtual 71, 3) := by decide +kernel
theorem dX5_readsItem_16 : decode cX5_readsItem 16 = .ok (.istore_n 2, 1) := by decide +kernel
theorem dX5_readsItem_17 : decode cX5_readsItem 17 = .ok (.goto 78, 3) := by decide +kernel
theorem dX5_readsItem_20 : decode cX5_readsItem 20 = .ok (.iload_n 1, 1) := by decide +kernel
theorem dX5_readsItem_21 : decode cX5_readsItem 21 = .ok (.bipush 102, 2) := by decide +kernel
theorem dX5_readsItem_23 : decode cX5_readsItem 23 = .ok (.if_icmp .ne 35, 3) := by decide +kernel
theorem dX5_readsItem_26 : decode cX5_readsItem 26 = .ok (.aload_n 0, 1) := by decide +kernel
theorem dX5_readsItem_27 : decode cX5_readsItem 27 = .ok (.iconst 0, 1) := by decide +kernel
theorem dX5_readsItem_28 : decode cX5_readsItem 28 = .ok (.iconst 0, 1) := by decide +kernel
theorem dX5_readsItem_29 : decode cX5_readsItem 29 = .ok (.bipush 63, 2) := by decide +kernel
theorem dX5_readsItem_31 : decode cX5_readsItem 31 = .ok (.invokevirtual 68, 3) := by decide +kernel
theorem dX5_readsItem_34 : decode cX5_readsItem 34 = .ok (.ifCond .eq 19, 3) := by decide +kernel
theorem dX5_readsItem_37 : decode cX5_readsItem 37 = .ok (.aload_n 0, 1) := by decide +kernel
theorem dX5_readsItem_38 : decode cX5_readsItem 38 = .ok (.iconst 1, 1) := by decide +kernel
theorem dX5_readsItem_39 : decode cX5_readsItem 39 = .ok (.iconst 0, 1) := by decide +kernel
theorem dX5_readsItem_40 : decode cX5_readsItem 40 = .ok (.sipush 255, 3) := by decide +kernel
theorem dX5_readsItem_43 : decode cX5_readsItem 43 = .ok (.invokevirtual 68, 3) := by decide +kernel
theorem dX5_readsItem_46 : decode cX5_readsItem 46 = .ok (.ifCond .eq 7, 3) := by decide +kernel
theorem dX5_readsItem_49 : decode cX5_readsItem 49 = .ok (.iconst 1, 1) := by decide +kernel
theorem dX5_readsItem_50 : decode cX5_readsItem 50 = .ok (.goto 4, 3) := by decide +kernel
theorem dX5_readsItem_53 : decode cX5_readsItem 53 = .ok (.iconst 0, 1) := by decide +kernel
theorem dX5_readsItem_54 : decode cX5_readsItem 54 = .ok (.istore_n 2, 1) := by decide +kernel
theorem dX5_readsItem_55 : decode cX5_readsItem 55 = .ok (.goto 40, 3) := by decide +kernel
theorem dX5_readsItem_58 : decode cX5_readsItem 58 = .ok (.aload_n 0, 1) := by decide +kernel
theorem dX5_readsItem_59 : decode cX5_readsItem 59 = .ok (.iconst 0, 1) := by decide +kernel
theorem dX5_readsItem_60 : decode cX5_readsItem 60 = .ok (.iconst 0, 1) := by decide +kernel
theorem dX5_readsItem_61 : decode cX5_readsItem 61 = .ok (.iconst 3, 1) := by decide +kernel
theorem dX5_readsItem_62 : decode cX5_readsItem 62 = .ok (.invokevirtual 68, 3) := by decide +kernel
theorem dX5_readsItem_65 : decode cX5_readsItem 65 = .ok (.ifCond .eq 28, 3) := by decide +kernel
theorem dX5_readsItem_68 : decode cX5_readsItem 68 = .ok (.aload_n 0, 1) := by decide +kernel
theorem dX5_readsItem_69 : decode cX5_readsItem 69 = .ok (.iconst 1, 1) := by decide +kernel
theorem dX5_readsItem_70 : decode cX5_readsItem 70 = .ok (.iconst 0, 1) := by decide +kernel
theorem dX5_readsItem_71 : decode cX5_readsItem 71 = .ok (.iconst 3, 1) := by decide +kernel
theorem dX5_readsItem_72 : decode cX5_readsItem 72 = .ok (.invokevirtual 68, 3) := by decide +kernel
theorem dX5_readsItem_75 : decode cX5_readsItem 75 = .ok (.ifCond .eq 18, 3) := by decide +kernel
theorem dX5_readsItem_78 : decode cX5_readsItem 78 = .ok (.aload_n 0, 1) := by decide +kernel
theorem dX5_readsItem_79 : decode cX5_readsItem 79 = .ok (.iconst 2, 1) := by decide +kernel
theorem dX5_readsItem_80 : decode cX5_readsItem 80 = .ok (.iconst 1, 1) := by decide +kernel
theorem dX5_readsItem_81 : decode cX5_readsItem 81 = .ok (.bipush 8, 2) := by decide +kernel
theorem dX5_readsItem_83 : decode cX5_readsItem 83 = .ok (.invokevirtual 68, 3) := by decide +kernel
theorem dX5_readsItem_86 : decode cX5_readsItem 86 = .ok (.ifCond .eq 7, 3) := by decide +kernel
theorem dX5_readsItem_89 : decode cX5_readsItem 89 = .ok (.iconst 1, 1) := by decide +kernel
theorem dX5_readsItem_90 : decode cX5_readsItem 90 = .ok (.goto 4, 3) := by decide +kernel
theorem dX5_readsItem_93 : decode cX5_readsItem 93 = .ok (.iconst 0, 1) := by decide +kernel
theorem dX5_readsItem_94 : decode cX5_readsItem 94 = .ok (.istore_n 2, 1) := by decide +kernel
theorem dX5_readsItem_95 : decode cX5_readsItem 95 = .ok (.iload_n 2, 1) := by decide +kernel
theorem dX5_readsItem_96 : decode cX5_readsItem 96 = .ok (.ifCond .eq 16, 3) := by decide +kernel
theorem dX5_readsItem_99 : decode cX5_readsItem 99 = .ok (.aload_n 0, 1) := by decide +kernel
theorem dX5_readsItem_100 : decode cX5_readsItem 100 = .ok (.getfield 53, 3) := by decide +kernel
theorem dX5_readsItem_103 : decode cX5_readsItem 103 = .ok (.bipush 59, 2) := by decide +kernel
theorem dX5_readsItem_105 : decode cX5_readsItem 105 = .ok (.if_icmp .ne 7, 3) := by decide +kernel
theorem dX5_readsItem_108 : decode cX5_readsItem 108 = .ok (.iconst 1, 1) := by decide +kernel
theorem dX5_readsItem_109 : decode cX5_readsItem 109 = .ok (.goto 4, 3) := by decide +kernel
theorem dX5_readsItem_112 : decode cX5_readsItem 112 = .ok (.iconst 0, 1) := by decide +kernel
theorem dX5_readsItem_113 : decode cX5_readsItem 113 = .ok (.ireturn, 1) := by decide +kernel
theorem dX5_slotAt_0 : decode cX5_slotAt 0 = .ok (.bipush 92, 2) := by decide +kernel
theorem dX5_slotAt_2 : decode cX5_slotAt 2 = .ok (.bipush 14, 2) := by decide +kernel
theorem dX5_slotAt_4 : decode cX5_slotAt 4 = .ok (.bipush 6, 2) := by decide +kernel
theorem dX5_slotAt_6 : decode cX5_slotAt 6 = .ok (.iload_n 0, 1) := by decide +kernel
theorem dX5_slotAt_7 : decode cX5_slotAt 7 = .ok (.imul, 1) := by decide +kernel
theorem dX5_slotAt_8 : decode cX5_slotAt 8 = .ok (.iload_n 1, 1) := by decide +kernel
theorem dX5_slotAt_9 : decode cX5_slotAt 9 = .ok (.iadd, 1) := by decide +kernel
theorem dX5_slotAt_10 : decode cX5_slotAt 10 = .ok (.imul, 1) := by decide +kernel
theorem dX5_slotAt_11 : decode cX5_slotAt 11 = .ok (.iadd, 1) := by decide +kernel
theorem dX5_slotAt_12 : decode cX5_slotAt 12 = .ok (.ireturn, 1) := by decide +kernel
theorem dX5_channelAt_0 : decode cX5_channelAt 0 = .ok (.bipush 64, 2) := by decide +kernel
theorem dX5_channelAt_2 : decode cX5_channelAt 2 = .ok (.bipush 7, 2) := by decide +kernel
theorem dX5_channelAt_4 : decode cX5_channelAt 4 = .ok (.iload_n 0, 1) := by decide +kernel
theorem dX5_channelAt_5 : decode cX5_channelAt 5 = .ok (.imul, 1) := by decide +kernel
theorem dX5_channelAt_6 : decode cX5_channelAt 6 = .ok (.iadd, 1) := by decide +kernel
theorem dX5_channelAt_7 : decode cX5_channelAt 7 = .ok (.ireturn, 1) := by decide +kernel
theorem dX5_isEngines_0 : decode cX5_isEngines 0 = .ok (.aload_n 0, 1) := by decide +kernel
theorem dX5_isEngines_1 : decode cX5_isEngines 1 = .ok (.getfield 7, 3) := by decide +kernel
theorem dX5_isEngines_4 : decode cX5_isEngines 4 = .ok (.iload_n 1, 1) := by decide +kernel
theorem dX5_isEngines_5 : decode cX5_isEngines 5 = .ok (.iconst 0, 1) := by decide +kernel
theorem dX5_isEngines_6 : decode cX5_isEngines 6 = .ok (.iadd, 1) := by decide +kernel
theorem dX5_isEngines_7 : decode cX5_isEngines 7 = .ok (.iaload, 1) := by decide +kernel
theorem dX5_isEngines_8 : decode cX5_isEngines 8 = .ok (.iconst 1, 1) := by decide +kernel
theorem dX5_isEngines_9 : decode cX5_isEngines 9 = .ok (.if_icmp .ne 20, 3) := by decide +kernel
theorem dX5_isEngines_12 : decode cX5_isEngines 12 = .ok (.aload_n 0, 1) := by decide +kernel
theorem dX5_isEngines_13 : decode cX5_isEngines 13 = .ok (.getfield 7, 3) := by decide +kernel
theorem dX5_isEngines_16 : decode cX5_isEngines 16 = .ok (.iload_n 1, 1) := by decide +kernel
theorem dX5_isEngines_17 : decode cX5_isEngines 17 = .ok (.bipush 10, 2) := by decide +kernel
theorem dX5_isEngines_19 : decode cX5_isEngines 19 = .ok (.iadd, 1) := by decide +kernel
theorem dX5_isEngines_20 : decode cX5_isEngines 20 = .ok (.iaload, 1) := by decide +kernel
theorem dX5_isEngines_21 : decode cX5_isEngines 21 = .ok (.iconst 1, 1) := by decide +kernel
theorem dX5_isEngines_22 : decode cX5_isEngines 22 = .ok (.if_icmp .ne 7, 3) := by decide +kernel
theorem dX5_isEngines_25 : decode cX5_isEngines 25 = .ok (.iconst 1, 1) := by decide +kernel
theorem dX5_isEngines_26 : decode cX5_isEngines 26 = .ok (.goto 4, 3) := by decide +kernel
theorem dX5_isEngines_29 : decode cX5_isEngines 29 = .ok (.iconst 0, 1) := by decide +kernel
theorem dX5_isEngines_30 : decode cX5_isEngines 30 = .ok (.ireturn, 1) := by decide +kernel
theorem dX5_comes_0 : decode cX5_comes 0 = .ok (.aload_n 0, 1) := by decide +kernel
theorem dX5_comes_1 : decode cX5_comes 1 = .ok (.getfield 35, 3) := by decide +kernel
theorem dX5_comes_4 : decode cX5_comes 4 = .ok (.iconst 0, 1) := by decide +kernel
theorem dX5_comes_5 : decode cX5_comes 5 = .ok (.iaload, 1) := by decide +kernel
theorem dX5_comes_6 : decode cX5_comes 6 = .ok (.invokestatic 75, 3) := by decide +kernel
theorem dX5_comes_9 : decode cX5_comes 9 = .ok (.istore_n 1, 1) := by decide +kernel
theorem dX5_comes_10 : decode cX5_comes 10 = .ok (.aload_n 0, 1) := by decide +kernel
theorem dX5_comes_11 : decode cX5_comes 11 = .ok (.getfield 35, 3) := by decide +kernel
theorem dX5_comes_14 : decode cX5_comes 14 = .ok (.iconst 0, 1) := by decide +kernel
theorem dX5_comes_15 : decode cX5_comes 15 = .ok (.iaload, 1) := by decide +kernel
theorem dX5_comes_16 : decode cX5_comes 16 = .ok (.aload_n 0, 1) := by decide +kernel
theorem dX5_comes_17 : decode cX5_comes 17 = .ok (.getfield 7, 3) := by decide +kernel
theorem dX5_comes_20 : decode cX5_comes 20 = .ok (.iload_n 1, 1) := by decide +kernel
theorem dX5_comes_21 : decode cX5_comes 21 = .ok (.iconst 3, 1) := by decide +kernel
theorem dX5_comes_22 : decode cX5_comes 22 = .ok (.iadd, 1) := by decide +kernel
theorem dX5_comes_23 : decode cX5_comes 23 = .ok (.iaload, 1) := by decide +kernel
theorem dX5_comes_24 : decode cX5_comes 24 = .ok (.invokestatic 79, 3) := by decide +kernel
theorem dX5_comes_27 : decode cX5_comes 27 = .ok (.istore_n 2, 1) := by decide +kernel
theorem dX5_comes_28 : decode cX5_comes 28 = .ok (.aload_n 0, 1) := by decide +kernel
theorem dX5_comes_29 : decode cX5_comes 29 = .ok (.iload_n 2, 1) := by decide +kernel
theorem dX5_comes_30 : decode cX5_comes 30 = .ok (.invokevirtual 83, 3) := by decide +kernel
theorem dX5_comes_33 : decode cX5_comes 33 = .ok (.ifCond .eq 5, 3) := by decide +kernel
theorem dX5_comes_36 : decode cX5_comes 36 = .ok (.iconst 0, 1) := by decide +kernel
theorem dX5_comes_37 : decode cX5_comes 37 = .ok (.ireturn, 1) := by decide +kernel
theorem dX5_comes_38 : decode cX5_comes 38 = .ok (.aload_n 0, 1) := by decide +kernel
theorem dX5_comes_39 : decode cX5_comes 39 = .ok (.getfield 7, 3) := by decide +kernel
theorem dX5_comes_42 : decode cX5_comes 42 = .ok (.iload_n 2, 1) := by decide +kernel
theorem dX5_comes_43 : decode cX5_comes 43 = .ok (.iconst 0, 1) := by decide +kernel
theorem dX5_comes_44 : decode cX5_comes 44 = .ok (.iadd, 1) := by decide +kernel
theorem dX5_comes_45 : decode cX5_comes 45 = .ok (.iconst 1, 1) := by decide +kernel
theorem dX5_comes_46 : decode cX5_comes 46 = .ok (.iastore, 1) := by decide +kernel
theorem dX5_comes_47 : decode cX5_comes 47 = .ok (.iconst 1, 1) := by decide +kernel
theorem dX5_comes_48 : decode cX5_comes 48 = .ok (.istore_n 3, 1) := by decide +kernel
theorem dX5_comes_49 : decode cX5_comes 49 = .ok (.iload_n 3, 1) := by decide +kernel
theorem dX5_comes_50 : decode cX5_comes 50 = .ok (.bipush 10, 2) := by decide +kernel
theorem dX5_comes_52 : decode cX5_comes 52 = .ok (.if_icmp .ge 23, 3) := by decide +kernel
theorem dX5_comes_55 : decode cX5_comes 55 = .ok (.aload_n 0, 1) := by decide +kernel
theorem dX5_comes_56 : decode cX5_comes 56 = .ok (.getfield 7, 3) := by decide +kernel
theorem dX5_comes_59 : decode cX5_comes 59 = .ok (.iload_n 2, 1) := by decide +kernel
theorem dX5_comes_60 : decode cX5_comes 60 = .ok (.iload_n 3, 1) := by decide +kernel
theorem dX5_comes_61 : decode cX5_comes 61 = .ok (.iadd, 1) := by decide +kernel
theorem dX5_comes_62 : decode cX5_comes 62 = .ok (.aload_n 0, 1) := by decide +kernel
theorem dX5_comes_63 : decode cX5_comes 63 = .ok (.getfield 35, 3) := by decide +kernel
theorem dX5_comes_66 : decode cX5_comes 66 = .ok (.iload_n 3, 1) := by decide +kernel
theorem dX5_comes_67 : decode cX5_comes 67 = .ok (.iaload, 1) := by decide +kernel
theorem dX5_comes_68 : decode cX5_comes 68 = .ok (.iastore, 1) := by decide +kernel
theorem dX5_comes_69 : decode cX5_comes 69 = .ok (.iinc 3 1, 3) := by decide +kernel
theorem dX5_comes_72 : decode cX5_comes 72 = .ok (.goto (-23), 3) := by decide +kernel
theorem dX5_comes_75 : decode cX5_comes 75 = .ok (.aload_n 0, 1) := by decide +kernel
theorem dX5_comes_76 : decode cX5_comes 76 = .ok (.getfield 7, 3) := by decide +kernel
theorem dX5_comes_79 : decode cX5_comes 79 = .ok (.iload_n 2, 1) := by decide +kernel
theorem dX5_comes_80 : decode cX5_comes 80 = .ok (.bipush 10, 2) := by decide +kernel
theorem dX5_comes_82 : decode cX5_comes 82 = .ok (.iadd, 1) := by decide +kernel
theorem dX5_comes_83 : decode cX5_comes 83 = .ok (.iconst 1, 1) := by decide +kernel
theorem dX5_comes_84 : decode cX5_comes 84 = .ok (.iastore, 1) := by decide +kernel
theorem dX5_comes_85 : decode cX5_comes 85 = .ok (.aload_n 0, 1) := by decide +kernel
theorem dX5_comes_86 : decode cX5_comes 86 = .ok (.getfield 7, 3) := by decide +kernel
theorem dX5_comes_89 : decode cX5_comes 89 = .ok (.iload_n 2, 1) := by decide +kernel
theorem dX5_comes_90 : decode cX5_comes 90 = .ok (.bipush 11, 2) := by decide +kernel
theorem dX5_comes_92 : decode cX5_comes 92 = .ok (.iadd, 1) := by decide +kernel
theorem dX5_comes_93 : decode cX5_comes 93 = .ok (.iconst 0, 1) := by decide +kernel
theorem dX5_comes_94 : decode cX5_comes 94 = .ok (.iastore, 1) := by decide +kernel
theorem dX5_comes_95 : decode cX5_comes 95 = .ok (.aload_n 0, 1) := by decide +kernel
theorem dX5_comes_96 : decode cX5_comes 96 = .ok (.getfield 7, 3) := by decide +kernel
theorem dX5_comes_99 : decode cX5_comes 99 = .ok (.iload_n 2, 1) := by decide +kernel
theorem dX5_comes_100 : decode cX5_comes 100 = .ok (.bipush 12, 2) := by decide +kernel
theorem dX5_comes_102 : decode cX5_comes 102 = .ok (.iadd, 1) := by decide +kernel
theorem dX5_comes_103 : decode cX5_comes 103 = .ok (.aload_n 0, 1) := by decide +kernel
theorem dX5_comes_104 : decode cX5_comes 104 = .ok (.getfield 7, 3) := by decide +kernel
theorem dX5_comes_107 : decode cX5_comes 107 = .ok (.iload_n 2, 1) := by decide +kernel
theorem dX5_comes_108 : decode cX5_comes 108 = .ok (.iconst 3, 1) := by decide +kernel
theorem dX5_comes_109 : decode cX5_comes 109 = .ok (.iadd, 1) := by decide +kernel
theorem dX5_comes_110 : decode cX5_comes 110 = .ok (.iaload, 1) := by decide +kernel
theorem dX5_comes_111 : decode cX5_comes 111 = .ok (.aload_n 0, 1) := by decide +kernel
theorem dX5_comes_112 : decode cX5_comes 112 = .ok (.getfield 7, 3) := by decide +kernel
theorem dX5_comes_115 : decode cX5_comes 115 = .ok (.iload_n 2, 1) := by decide +kernel
theorem dX5_comes_116 : decode cX5_comes 116 = .ok (.bipush 6, 2) := by decide +kernel
theorem dX5_comes_118 : decode cX5_comes 118 = .ok (.iadd, 1) := by decide +kernel
theorem dX5_comes_119 : decode cX5_comes 119 = .ok (.iaload, 1) := by decide +kernel
theorem dX5_comes_120 : decode cX5_comes 120 = .ok (.imul, 1) := by decide +kernel
theorem dX5_comes_121 : decode cX5_comes 121 = .ok (.iastore, 1) := by decide +kernel
theorem dX5_comes_122 : decode cX5_comes 122 = .ok (.aload_n 0, 1) := by decide +kernel
theorem dX5_comes_123 : decode cX5_comes 123 = .ok (.getfield 7, 3) := by decide +kernel
theorem dX5_comes_126 : decode cX5_comes 126 = .ok (.iload_n 2, 1) := by decide +kernel
theorem dX5_comes_127 : decode cX5_comes 127 = .ok (.bipush 13, 2) := by decide +kernel
theorem dX5_comes_129 : decode cX5_comes 129 = .ok (.iadd, 1) := by decide +kernel
theorem dX5_comes_130 : decode cX5_comes 130 = .ok (.iconst 0, 1) := by decide +kernel
theorem dX5_comes_131 : decode cX5_comes 131 = .ok (.iastore, 1) := by decide +kernel
theorem dX5_comes_132 : decode cX5_comes 132 = .ok (.aload_n 0, 1) := by decide +kernel
theorem dX5_comes_133 : decode cX5_comes 133 = .ok (.getfield 7, 3) := by decide +kernel
theorem dX5_comes_136 : decode cX5_comes 136 = .ok (.iload_n 1, 1) := by decide +kernel
theorem dX5_comes_137 : decode cX5_comes 137 = .ok (.iconst 3, 1) := by decide +kernel
theorem dX5_comes_138 : decode cX5_comes 138 = .ok (.iadd, 1) := by decide +kernel
theorem dX5_comes_139 : decode cX5_comes 139 = .ok (.aload_n 0, 1) := by decide +kernel
theorem dX5_comes_140 : decode cX5_comes 140 = .ok (.getfield 7, 3) := by decide +kernel
theorem dX5_comes_143 : decode cX5_comes 143 = .ok (.iload_n 1, 1) := by decide +kernel
theorem dX5_comes_144 : decode cX5_comes 144 = .ok (.iconst 3, 1) := by decide +kernel
theorem dX5_comes_145 : decode cX5_comes 145 = .ok (.iadd, 1) := by decide +kernel
theorem dX5_comes_146 : decode cX5_comes 146 = .ok (.iaload, 1) := by decide +kernel
theorem dX5_comes_147 : decode cX5_comes 147 = .ok (.iconst 1, 1) := by decide +kernel
theorem dX5_comes_148 : decode cX5_comes 148 = .ok (.iadd, 1) := by decide +kernel
theorem dX5_comes_149 : decode cX5_comes 149 = .ok (.bipush 6, 2) := by decide +kernel
theorem dX5_comes_151 : decode cX5_comes 151 = .ok (.irem, 1) := by decide +kernel
theorem dX5_comes_152 : decode cX5_comes 152 = .ok (.iastore, 1) := by decide +kernel
theorem dX5_comes_153 : decode cX5_comes 153 = .ok (.iconst 1, 1) := by decide +kernel
theorem dX5_comes_154 : decode cX5_comes 154 = .ok (.ireturn, 1) := by decide +kernel
theorem dX5_doesItem_0 : decode cX5_doesItem 0 = .ok (.iload_n 1, 1) := by decide +kernel
theorem dX5_doesItem_1 : decode cX5_doesItem 1 = .ok (.bipush 108, 2) := by decide +kernel
theorem dX5_doesItem_3 : decode cX5_doesItem 3 = .ok (.if_icmp .ne 8, 3) := by decide +kernel
theorem dX5_doesItem_6 : decode cX5_doesItem 6 = .ok (.aload_n 0, 1) := by decide +kernel
theorem dX5_doesItem_7 : decode cX5_doesItem 7 = .ok (.invokevirtual 86, 3) := by decide +kernel
theorem dX5_doesItem_10 : decode cX5_doesItem 10 = .ok (.ireturn, 1) := by decide +kernel
theorem dX5_doesItem_11 : decode cX5_doesItem 11 = .ok (.iload_n 1, 1) := by decide +kernel
theorem dX5_doesItem_12 : decode cX5_doesItem 12 = .ok (.bipush 102, 2) := by decide +kernel
theorem dX5_doesItem_14 : decode cX5_doesItem 14 = .ok (.if_icmp .ne 23, 3) := by decide +kernel
theorem dX5_doesItem_17 : decode cX5_doesItem 17 = .ok (.aload_n 0, 1) := by decide +kernel
theorem dX5_doesItem_18 : decode cX5_doesItem 18 = .ok (.getfield 7, 3) := by decide +kernel
theorem dX5_doesItem_21 : decode cX5_doesItem 21 = .ok (.aload_n 0, 1) := by decide +kernel
theorem dX5_doesItem_22 : decode cX5_doesItem 22 = .ok (.getfield 35, 3) := by decide +kernel
theorem dX5_doesItem_25 : decode cX5_doesItem 25 = .ok (.iconst 0, 1) := by decide +kernel
theorem dX5_doesItem_26 : decode cX5_doesItem 26 = .ok (.iaload, 1) := by decide +kernel
theorem dX5_doesItem_27 : decode cX5_doesItem 27 = .ok (.aload_n 0, 1) := by decide +kernel
theorem dX5_doesItem_28 : decode cX5_doesItem 28 = .ok (.getfield 35, 3) := by decide +kernel
theorem dX5_doesItem_31 : decode cX5_doesItem 31 = .ok (.iconst 1, 1) := by decide +kernel
theorem dX5_doesItem_32 : decode cX5_doesItem 32 = .ok (.iaload, 1) := by decide +kernel
theorem dX5_doesItem_33 : decode cX5_doesItem 33 = .ok (.iastore, 1) := by decide +kernel
theorem dX5_doesItem_34 : decode cX5_doesItem 34 = .ok (.goto 47, 3) := by decide +kernel
theorem dX5_doesItem_37 : decode cX5_doesItem 37 = .ok (.aload_n 0, 1) := by decide +kernel
theorem dX5_doesItem_38 : decode cX5_doesItem 38 = .ok (.getfield 7, 3) := by decide +kernel
theorem dX5_doesItem_41 : decode cX5_doesItem 41 = .ok (.aload_n 0, 1) := by decide +kernel
theorem dX5_doesItem_42 : decode cX5_doesItem 42 = .ok (.getfield 35, 3) := by decide +kernel
theorem dX5_doesItem_45 : decode cX5_doesItem 45 = .ok (.iconst 0, 1) := by decide +kernel
theorem dX5_doesItem_46 : decode cX5_doesItem 46 = .ok (.iaload, 1) := by decide +kernel
theorem dX5_doesItem_47 : decode cX5_doesItem 47 = .ok (.invokestatic 75, 3) := by decide +kernel
theorem dX5_doesItem_50 : decode cX5_doesItem 50 = .ok (.iconst 1, 1) := by decide +kernel
theorem dX5_doesItem_51 : decode cX5_doesItem 51 = .ok (.iadd, 1) := by decide +kernel
theorem dX5_doesItem_52 : decode cX5_doesItem 52 = .ok (.aload_n 0, 1) := by decide +kernel
theorem dX5_doesItem_53 : decode cX5_doesItem 53 = .ok (.getfield 35, 3) := by decide +kernel
theorem dX5_doesItem_56 : decode cX5_doesItem 56 = .ok (.iconst 1, 1) := by decide +kernel
theorem dX5_doesItem_57 : decode cX5_doesItem 57 = .ok (.iaload, 1) := by decide +kernel
theorem dX5_doesItem_58 : decode cX5_doesItem 58 = .ok (.iastore, 1) := by decide +kernel
theorem dX5_doesItem_59 : decode cX5_doesItem 59 = .ok (.aload_n 0, 1) := by decide +kernel
theorem dX5_doesItem_60 : decode cX5_doesItem 60 = .ok (.getfield 7, 3) := by decide +kernel
theorem dX5_doesItem_63 : decode cX5_doesItem 63 = .ok (.aload_n 0, 1) := by decide +kernel
theorem dX5_doesItem_64 : decode cX5_doesItem 64 = .ok (.getfield 35, 3) := by decide +kernel
theorem dX5_doesItem_67 : decode cX5_doesItem 67 = .ok (.iconst 0, 1) := by decide +kernel
theorem dX5_doesItem_68 : decode cX5_doesItem 68 = .ok (.iaload, 1) := by decide +kernel
theorem dX5_doesItem_69 : decode cX5_doesItem 69 = .ok (.invokestatic 75, 3) := by decide +kernel
theorem dX5_doesItem_72 : decode cX5_doesItem 72 = .ok (.iconst 2, 1) := by decide +kernel
theorem dX5_doesItem_73 : decode cX5_doesItem 73 = .ok (.iadd, 1) := by decide +kernel
theorem dX5_doesItem_74 : decode cX5_doesItem 74 = .ok (.aload_n 0, 1) := by decide +kernel
theorem dX5_doesItem_75 : decode cX5_doesItem 75 = .ok (.getfield 35, 3) := by decide +kernel
theorem dX5_doesItem_78 : decode cX5_doesItem 78 = .ok (.iconst 2, 1) := by decide +kernel
theorem dX5_doesItem_79 : decode cX5_doesItem 79 = .ok (.iaload, 1) := by decide +kernel
theorem dX5_doesItem_80 : decode cX5_doesItem 80 = .ok (.iastore, 1) := by decide +kernel
theorem dX5_doesItem_81 : decode cX5_doesItem 81 = .ok (.iconst 1, 1) := by decide +kernel
theorem dX5_doesItem_82 : decode cX5_doesItem 82 = .ok (.ireturn, 1) := by decide +kernel
theorem dX5_goesThrough_0 : decode cX5_goesThrough 0 = .ok (.aload_n 0, 1) := by decide +kernel
theorem dX5_goesThrough_1 : decode cX5_goesThrough 1 = .ok (.iconst 0, 1) := by decide +kernel
theorem dX5_goesThrough_2 : decode cX5_goesThrough 2 = .ok (.putfield 46, 3) := by decide +kernel
theorem dX5_goesThrough_5 : decode cX5_goesThrough 5 = .ok (.aload_n 0, 1) := by decide +kernel
theorem dX5_goesThrough_6 : decode cX5_goesThrough 6 = .ok (.iconst 0, 1) := by decide +kernel
theorem dX5_goesThrough_7 : decode cX5_goesThrough 7 = .ok (.putfield 89, 3) := by decide +kernel
theorem dX5_goesThrough_10 : decode cX5_goesThrough 10 = .ok (.aload_n 0, 1) := by decide +kernel
theorem dX5_goesThrough_11 : decode cX5_goesThrough 11 = .ok (.invokevirtual 65, 3) := by decide +kernel
theorem dX5_goesThrough_14 : decode cX5_goesThrough 14 = .ok (.aload_n 0, 1) := by decide +kernel
theorem dX5_goesThrough_15 : decode cX5_goesThrough 15 = .ok (.getfield 53, 3) := by decide +kernel
theorem dX5_goesThrough_18 : decode cX5_goesThrough 18 = .ok (.iconst (-1), 1) := by decide +kernel
theorem dX5_goesThrough_19 : decode cX5_goesThrough 19 = .ok (.if_icmp .eq 75, 3) := by decide +kernel
theorem dX5_goesThrough_22 : decode cX5_goesThrough 22 = .ok (.aload_n 0, 1) := by decide +kernel
theorem dX5_goesThrough_23 : decode cX5_goesThrough 23 = .ok (.getfield 53, 3) := by decide +kernel
theorem dX5_goesThrough_26 : decode cX5_goesThrough 26 = .ok (.istore_n 2, 1) := by decide +kernel
theorem dX5_goesThrough_27 : decode cX5_goesThrough 27 = .ok (.iload_n 2, 1) := by decide +kernel
theorem dX5_goesThrough_28 : decode cX5_goesThrough 28 = .ok (.bipush 108, 2) := by decide +kernel
theorem dX5_goesThrough_30 : decode cX5_goesThrough 30 = .ok (.if_icmp .eq 15, 3) := by decide +kernel
theorem dX5_goesThrough_33 : decode cX5_goesThrough 33 = .ok (.iload_n 2, 1) := by decide +kernel
theorem dX5_goesThrough_34 : decode cX5_goesThrough 34 = .ok (.bipush 102, 2) := by decide +kernel
theorem dX5_goesThrough_36 : decode cX5_goesThrough 36 = .ok (.if_icmp .eq 9, 3) := by decide +kernel
theorem dX5_goesThrough_39 : decode cX5_goesThrough 39 = .ok (.iload_n 2, 1) := by decide +kernel
theorem dX5_goesThrough_40 : decode cX5_goesThrough 40 = .ok (.bipush 99, 2) := by decide +kernel
theorem dX5_goesThrough_42 : decode cX5_goesThrough 42 = .ok (.if_icmp .ne 15, 3) := by decide +kernel
theorem dX5_goesThrough_45 : decode cX5_goesThrough 45 = .ok (.aload_n 0, 1) := by decide +kernel
theorem dX5_goesThrough_46 : decode cX5_goesThrough 46 = .ok (.iload_n 2, 1) := by decide +kernel
theorem dX5_goesThrough_47 : decode cX5_goesThrough 47 = .ok (.invokevirtual 92, 3) := by decide +kernel
theorem dX5_goesThrough_50 : decode cX5_goesThrough 50 = .ok (.ifCond .eq 7, 3) := by decide +kernel
theorem dX5_goesThrough_53 : decode cX5_goesThrough 53 = .ok (.iconst 1, 1) := by decide +kernel
theorem dX5_goesThrough_54 : decode cX5_goesThrough 54 = .ok (.goto 4, 3) := by decide +kernel
theorem dX5_goesThrough_57 : decode cX5_goesThrough 57 = .ok (.iconst 0, 1) := by decide +kernel
theorem dX5_goesThrough_58 : decode cX5_goesThrough 58 = .ok (.istore_n 3, 1) := by decide +kernel
theorem dX5_goesThrough_59 : decode cX5_goesThrough 59 = .ok (.iload_n 3, 1) := by decide +kernel
theorem dX5_goesThrough_60 : decode cX5_goesThrough 60 = .ok (.ifCond .eq 15, 3) := by decide +kernel
theorem dX5_goesThrough_63 : decode cX5_goesThrough 63 = .ok (.iload_n 1, 1) := by decide +kernel
theorem dX5_goesThrough_64 : decode cX5_goesThrough 64 = .ok (.ifCond .eq 13, 3) := by decide +kernel
theorem dX5_goesThrough_67 : decode cX5_goesThrough 67 = .ok (.aload_n 0, 1) := by decide +kernel
theorem dX5_goesThrough_68 : decode cX5_goesThrough 68 = .ok (.iload_n 2, 1) := by decide +kernel
theorem dX5_goesThrough_69 : decode cX5_goesThrough 69 = .ok (.invokevirtual 95, 3) := by decide +kernel
theorem dX5_goesThrough_72 : decode cX5_goesThrough 72 = .ok (.ifCond .ne 5, 3) := by decide +kernel
theorem dX5_goesThrough_75 : decode cX5_goesThrough 75 = .ok (.iconst 0, 1) := by decide +kernel
theorem dX5_goesThrough_76 : decode cX5_goesThrough 76 = .ok (.ireturn, 1) := by decide +kernel
theorem dX5_goesThrough_77 : decode cX5_goesThrough 77 = .ok (.aload_n 0, 1) := by decide +kernel
theorem dX5_goesThrough_78 : decode cX5_goesThrough 78 = .ok (.dup, 1) := by decide +kernel
theorem dX5_goesThrough_79 : decode cX5_goesThrough 79 = .ok (.getfield 89, 3) := by decide +kernel
theorem dX5_goesThrough_82 : decode cX5_goesThrough 82 = .ok (.iconst 1, 1) := by decide +kernel
theorem dX5_goesThrough_83 : decode cX5_goesThrough 83 = .ok (.iadd, 1) := by decide +kernel
theorem dX5_goesThrough_84 : decode cX5_goesThrough 84 = .ok (.putfield 89, 3) := by decide +kernel
theorem dX5_goesThrough_87 : decode cX5_goesThrough 87 = .ok (.aload_n 0, 1) := by decide +kernel
theorem dX5_goesThrough_88 : decode cX5_goesThrough 88 = .ok (.invokevirtual 65, 3) := by decide +kernel
theorem dX5_goesThrough_91 : decode cX5_goesThrough 91 = .ok (.goto (-77), 3) := by decide +kernel
theorem dX5_goesThrough_94 : decode cX5_goesThrough 94 = .ok (.iconst 1, 1) := by decide +kernel
theorem dX5_goesThrough_95 : decode cX5_goesThrough 95 = .ok (.ireturn, 1) := by decide +kernel
theorem dX5_keepsSpare_0 : decode cX5_keepsSpare 0 = .ok (.iconst 0, 1) := by decide +kernel
theorem dX5_keepsSpare_1 : decode cX5_keepsSpare 1 = .ok (.istore_n 1, 1) := by decide +kernel
theorem dX5_keepsSpare_2 : decode cX5_keepsSpare 2 = .ok (.iload_n 1, 1) := by decide +kernel
theorem dX5_keepsSpare_3 : decode cX5_keepsSpare 3 = .ok (.sipush 455, 3) := by decide +kernel
theorem dX5_keepsSpare_6 : decode cX5_keepsSpare 6 = .ok (.if_icmp .ge 21, 3) := by decide +kernel
theorem dX5_keepsSpare_9 : decode cX5_keepsSpare 9 = .ok (.aload_n 0, 1) := by decide +kernel
theorem dX5_keepsSpare_10 : decode cX5_keepsSpare 10 = .ok (.getfield 23, 3) := by decide +kernel
theorem dX5_keepsSpare_13 : decode cX5_keepsSpare 13 = .ok (.iload_n 1, 1) := by decide +kernel
theorem dX5_keepsSpare_14 : decode cX5_keepsSpare 14 = .ok (.aload_n 0, 1) := by decide +kernel
theorem dX5_keepsSpare_15 : decode cX5_keepsSpare 15 = .ok (.getfield 7, 3) := by decide +kernel
theorem dX5_keepsSpare_18 : decode cX5_keepsSpare 18 = .ok (.iload_n 1, 1) := by decide +kernel
theorem dX5_keepsSpare_19 : decode cX5_keepsSpare 19 = .ok (.iaload, 1) := by decide +kernel
theorem dX5_keepsSpare_20 : decode cX5_keepsSpare 20 = .ok (.iastore, 1) := by decide +kernel
theorem dX5_keepsSpare_21 : decode cX5_keepsSpare 21 = .ok (.iinc 1 1, 3) := by decide +kernel
theorem dX5_keepsSpare_24 : decode cX5_keepsSpare 24 = .ok (.goto (-22), 3) := by decide +kernel
theorem dX5_keepsSpare_27 : decode cX5_keepsSpare 27 = .ok (.return_, 1) := by decide +kernel
theorem dX5_takesBack_0 : decode cX5_takesBack 0 = .ok (.iconst 0, 1) := by decide +kernel
theorem dX5_takesBack_1 : decode cX5_takesBack 1 = .ok (.istore_n 1, 1) := by decide +kernel
theorem dX5_takesBack_2 : decode cX5_takesBack 2 = .ok (.iload_n 1, 1) := by decide +kernel
theorem dX5_takesBack_3 : decode cX5_takesBack 3 = .ok (.sipush 455, 3) := by decide +kernel
theorem dX5_takesBack_6 : decode cX5_takesBack 6 = .ok (.if_icmp .ge 21, 3) := by decide +kernel
theorem dX5_takesBack_9 : decode cX5_takesBack 9 = .ok (.aload_n 0, 1) := by decide +kernel
theorem dX5_takesBack_10 : decode cX5_takesBack 10 = .ok (.getfield 7, 3) := by decide +kernel
theorem dX5_takesBack_13 : decode cX5_takesBack 13 = .ok (.iload_n 1, 1) := by decide +kernel
theorem dX5_takesBack_14 : decode cX5_takesBack 14 = .ok (.aload_n 0, 1) := by decide +kernel
theorem dX5_takesBack_15 : decode cX5_takesBack 15 = .ok (.getfield 23, 3) := by decide +kernel
theorem dX5_takesBack_18 : decode cX5_takesBack 18 = .ok (.iload_n 1, 1) := by decide +kernel
theorem dX5_takesBack_19 : decode cX5_takesBack 19 = .ok (.iaload, 1) := by decide +kernel
theorem dX5_takesBack_20 : decode cX5_takesBack 20 = .ok (.iastore, 1) := by decide +kernel
theorem dX5_takesBack_21 : decode cX5_takesBack 21 = .ok (.iinc 1 1, 3) := by decide +kernel
theorem dX5_takesBack_24 : decode cX5_takesBack 24 = .ok (.goto (-22), 3) := by decide +kernel
theorem dX5_takesBack_27 : decode cX5_takesBack 27 = .ok (.return_, 1) := by decide +kernel
theorem dX5_remembers_0 : decode cX5_remembers 0 = .ok (.aload_n 0, 1) := by decide +kernel
theorem dX5_remembers_1 : decode cX5_remembers 1 = .ok (.getfield 98, 3) := by decide +kernel
theorem dX5_remembers_4 : decode cX5_remembers 4 = .ok (.bipush 6, 2) := by decide +kernel
theorem dX5_remembers_6 : decode cX5_remembers 6 = .ok (.if_icmp .ne 44, 3) := by decide +kernel
theorem dX5_remembers_9 : decode cX5_remembers 9 = .ok (.iconst 0, 1) := by decide +kernel
theorem dX5_remembers_10 : decode cX5_remembers 10 = .ok (.istore_n 1, 1) := by decide +kernel
theorem dX5_remembers_11 : decode cX5_remembers 11 = .ok (.iload_n 1, 1) := by decide +kernel
theorem dX5_remembers_12 : decode cX5_remembers 12 = .ok (.sipush 2275, 3) := by decide +kernel
theorem dX5_remembers_15 : decode cX5_remembers 15 = .ok (.if_icmp .ge 25, 3) := by decide +kernel
theorem dX5_remembers_18 : decode cX5_remembers 18 = .ok (.aload_n 0, 1) := by decide +kernel
theorem dX5_remembers_19 : decode cX5_remembers 19 = .ok (.getfield 13, 3) := by decide +kernel
theorem dX5_remembers_22 : decode cX5_remembers 22 = .ok (.iload_n 1, 1) := by decide +kernel
theorem dX5_remembers_23 : decode cX5_remembers 23 = .ok (.aload_n 0, 1) := by decide +kernel
theorem dX5_remembers_24 : decode cX5_remembers 24 = .ok (.getfield 13, 3) := by decide +kernel
theorem dX5_remembers_27 : decode cX5_remembers 27 = .ok (.iload_n 1, 1) := by decide +kernel
theorem dX5_remembers_28 : decode cX5_remembers 28 = .ok (.sipush 455, 3) := by decide +kernel
theorem dX5_remembers_31 : decode cX5_remembers 31 = .ok (.iadd, 1) := by decide +kernel
theorem dX5_remembers_32 : decode cX5_remembers 32 = .ok (.iaload, 1) := by decide +kernel
theorem dX5_remembers_33 : decode cX5_remembers 33 = .ok (.iastore, 1) := by decide +kernel
theorem dX5_remembers_34 : decode cX5_remembers 34 = .ok (.iinc 1 1, 3) := by decide +kernel
theorem dX5_remembers_37 : decode cX5_remembers 37 = .ok (.goto (-26), 3) := by decide +kernel
theorem dX5_remembers_40 : decode cX5_remembers 40 = .ok (.aload_n 0, 1) := by decide +kernel
theorem dX5_remembers_41 : decode cX5_remembers 41 = .ok (.dup, 1) := by decide +kernel
theorem dX5_remembers_42 : decode cX5_remembers 42 = .ok (.getfield 98, 3) := by decide +kernel
theorem dX5_remembers_45 : decode cX5_remembers 45 = .ok (.iconst 1, 1) := by decide +kernel
theorem dX5_remembers_46 : decode cX5_remembers 46 = .ok (.isub, 1) := by decide +kernel
theorem dX5_remembers_47 : decode cX5_remembers 47 = .ok (.putfield 98, 3) := by decide +kernel
theorem dX5_remembers_50 : decode cX5_remembers 50 = .ok (.iconst 0, 1) := by decide +kernel
theorem dX5_remembers_51 : decode cX5_remembers 51 = .ok (.istore_n 1, 1) := by decide +kernel
theorem dX5_remembers_52 : decode cX5_remembers 52 = .ok (.iload_n 1, 1) := by decide +kernel
theorem dX5_remembers_53 : decode cX5_remembers 53 = .ok (.sipush 455, 3) := by decide +kernel
theorem dX5_remembers_56 : decode cX5_remembers 56 = .ok (.if_icmp .ge 30, 3) := by decide +kernel
theorem dX5_remembers_59 : decode cX5_remembers 59 = .ok (.aload_n 0, 1) := by decide +kernel
theorem dX5_remembers_60 : decode cX5_remembers 60 = .ok (.getfield 13, 3) := by decide +kernel
theorem dX5_remembers_63 : decode cX5_remembers 63 = .ok (.sipush 455, 3) := by decide +kernel
theorem dX5_remembers_66 : decode cX5_remembers 66 = .ok (.aload_n 0, 1) := by decide +kernel
theorem dX5_remembers_67 : decode cX5_remembers 67 = .ok (.getfield 98, 3) := by decide +kernel
theorem dX5_remembers_70 : decode cX5_remembers 70 = .ok (.imul, 1) := by decide +kernel
theorem dX5_remembers_71 : decode cX5_remembers 71 = .ok (.iload_n 1, 1) := by decide +kernel
theorem dX5_remembers_72 : decode cX5_remembers 72 = .ok (.iadd, 1) := by decide +kernel
theorem dX5_remembers_73 : decode cX5_remembers 73 = .ok (.aload_n 0, 1) := by decide +kernel
theorem dX5_remembers_74 : decode cX5_remembers 74 = .ok (.getfield 23, 3) := by decide +kernel
theorem dX5_remembers_77 : decode cX5_remembers 77 = .ok (.iload_n 1, 1) := by decide +kernel
theorem dX5_remembers_78 : decode cX5_remembers 78 = .ok (.iaload, 1) := by decide +kernel
theorem dX5_remembers_79 : decode cX5_remembers 79 = .ok (.iastore, 1) := by decide +kernel
theorem dX5_remembers_80 : decode cX5_remembers 80 = .ok (.iinc 1 1, 3) := by decide +kernel
theorem dX5_remembers_83 : decode cX5_remembers 83 = .ok (.goto (-31), 3) := by decide +kernel
theorem dX5_remembers_86 : decode cX5_remembers 86 = .ok (.aload_n 0, 1) := by decide +kernel
theorem dX5_remembers_87 : decode cX5_remembers 87 = .ok (.dup, 1) := by decide +kernel
theorem dX5_remembers_88 : decode cX5_remembers 88 = .ok (.getfield 98, 3) := by decide +kernel
theorem dX5_remembers_91 : decode cX5_remembers 91 = .ok (.iconst 1, 1) := by decide +kernel
theorem dX5_remembers_92 : decode cX5_remembers 92 = .ok (.iadd, 1) := by decide +kernel
theorem dX5_remembers_93 : decode cX5_remembers 93 = .ok (.putfield 98, 3) := by decide +kernel
theorem dX5_remembers_96 : decode cX5_remembers 96 = .ok (.return_, 1) := by decide +kernel
theorem dX5_posts_0 : decode cX5_posts 0 = .ok (.aload_n 0, 1) := by decide +kernel
theorem dX5_posts_1 : decode cX5_posts 1 = .ok (.iconst 0, 1) := by decide +kernel
theorem dX5_posts_2 : decode cX5_posts 2 = .ok (.invokevirtual 101, 3) := by decide +kernel
theorem dX5_posts_5 : decode cX5_posts 5 = .ok (.ifCond .ne 11, 3) := by decide +kernel
theorem dX5_posts_8 : decode cX5_posts 8 = .ok (.bipush (-10), 2) := by decide +kernel
theorem dX5_posts_10 : decode cX5_posts 10 = .ok (.aload_n 0, 1) := by decide +kernel
theorem dX5_posts_11 : decode cX5_posts 11 = .ok (.getfield 59, 3) := by decide +kernel
theorem dX5_posts_14 : decode cX5_posts 14 = .ok (.isub, 1) := by decide +kernel
theorem dX5_posts_15 : decode cX5_posts 15 = .ok (.ireturn, 1) := by decide +kernel
theorem dX5_posts_16 : decode cX5_posts 16 = .ok (.aload_n 0, 1) := by decide +kernel
theorem dX5_posts_17 : decode cX5_posts 17 = .ok (.invokevirtual 105, 3) := by decide +kernel
theorem dX5_posts_20 : decode cX5_posts 20 = .ok (.aload_n 0, 1) := by decide +kernel
theorem dX5_posts_21 : decode cX5_posts 21 = .ok (.iconst 1, 1) := by decide +kernel
theorem dX5_posts_22 : decode cX5_posts 22 = .ok (.invokevirtual 101, 3) := by decide +kernel
theorem dX5_posts_25 : decode cX5_posts 25 = .ok (.ifCond .ne 10, 3) := by decide +kernel
theorem dX5_posts_28 : decode cX5_posts 28 = .ok (.aload_n 0, 1) := by decide +kernel
theorem dX5_posts_29 : decode cX5_posts 29 = .ok (.invokevirtual 108, 3) := by decide +kernel
theorem dX5_posts_32 : decode cX5_posts 32 = .ok (.bipush (-3), 2) := by decide +kernel
theorem dX5_posts_34 : decode cX5_posts 34 = .ok (.ireturn, 1) := by decide +kernel
theorem dX5_posts_35 : decode cX5_posts 35 = .ok (.aload_n 0, 1) := by decide +kernel
theorem dX5_posts_36 : decode cX5_posts 36 = .ok (.invokevirtual 111, 3) := by decide +kernel
theorem dX5_posts_39 : decode cX5_posts 39 = .ok (.aload_n 0, 1) := by decide +kernel
theorem dX5_posts_40 : decode cX5_posts 40 = .ok (.iconst 0, 1) := by decide +kernel
theorem dX5_posts_41 : decode cX5_posts 41 = .ok (.putfield 42, 3) := by decide +kernel
theorem dX5_posts_44 : decode cX5_posts 44 = .ok (.aload_n 0, 1) := by decide +kernel
theorem dX5_posts_45 : decode cX5_posts 45 = .ok (.getfield 89, 3) := by decide +kernel
theorem dX5_posts_48 : decode cX5_posts 48 = .ok (.ireturn, 1) := by decide +kernel
theorem dX5_present_0 : decode cX5_present 0 = .ok (.iload_n 1, 1) := by decide +kernel
theorem dX5_present_1 : decode cX5_present 1 = .ok (.aload_n 0, 1) := by decide +kernel
theorem dX5_present_2 : decode cX5_present 2 = .ok (.getfield 7, 3) := by decide +kernel
theorem dX5_present_5 : decode cX5_present 5 = .ok (.iload_n 1, 1) := by decide +kernel
theorem dX5_present_6 : decode cX5_present 6 = .ok (.invokestatic 75, 3) := by decide +kernel
theorem dX5_present_9 : decode cX5_present 9 = .ok (.iconst 4, 1) := by decide +kernel
theorem dX5_present_10 : decode cX5_present 10 = .ok (.iadd, 1) := by decide +kernel
theorem dX5_present_11 : decode cX5_present 11 = .ok (.iaload, 1) := by decide +kernel
theorem dX5_present_12 : decode cX5_present 12 = .ok (.invokestatic 79, 3) := by decide +kernel
theorem dX5_present_15 : decode cX5_present 15 = .ok (.istore_n 2, 1) := by decide +kernel
theorem dX5_present_16 : decode cX5_present 16 = .ok (.aload_n 0, 1) := by decide +kernel
theorem dX5_present_17 : decode cX5_present 17 = .ok (.iload_n 2, 1) := by decide +kernel
theorem dX5_present_18 : decode cX5_present 18 = .ok (.invokevirtual 83, 3) := by decide +kernel
theorem dX5_present_21 : decode cX5_present 21 = .ok (.ifCond .eq 19, 3) := by decide +kernel
theorem dX5_present_24 : decode cX5_present 24 = .ok (.aload_n 0, 1) := by decide +kernel
theorem dX5_present_25 : decode cX5_present 25 = .ok (.getfield 7, 3) := by decide +kernel
theorem dX5_present_28 : decode cX5_present 28 = .ok (.iload_n 2, 1) := by decide +kernel
theorem dX5_present_29 : decode cX5_present 29 = .ok (.bipush 13, 2) := by decide +kernel
theorem dX5_present_31 : decode cX5_present 31 = .ok (.iadd, 1) := by decide +kernel
theorem dX5_present_32 : decode cX5_present 32 = .ok (.iaload, 1) := by decide +kernel
theorem dX5_present_33 : decode cX5_present 33 = .ok (.ifCond .ne 7, 3) := by decide +kernel
theorem dX5_present_36 : decode cX5_present 36 = .ok (.iload_n 2, 1) := by decide +kernel
theorem dX5_present_37 : decode cX5_present 37 = .ok (.goto 5, 3) := by decide +kernel
theorem dX5_present_40 : decode cX5_present 40 = .ok (.bipush (-9), 2) := by decide +kernel
theorem dX5_present_42 : decode cX5_present 42 = .ok (.ireturn, 1) := by decide +kernel
theorem dX5_isReady_0 : decode cX5_isReady 0 = .ok (.aload_n 0, 1) := by decide +kernel
theorem dX5_isReady_1 : decode cX5_isReady 1 = .ok (.iload_n 1, 1) := by decide +kernel
theorem dX5_isReady_2 : decode cX5_isReady 2 = .ok (.invokevirtual 114, 3) := by decide +kernel
theorem dX5_isReady_5 : decode cX5_isReady 5 = .ok (.istore_n 2, 1) := by decide +kernel
theorem dX5_isReady_6 : decode cX5_isReady 6 = .ok (.iload_n 1, 1) := by decide +kernel
theorem dX5_isReady_7 : decode cX5_isReady 7 = .ok (.invokestatic 75, 3) := by decide +kernel
theorem dX5_isReady_10 : decode cX5_isReady 10 = .ok (.istore_n 3, 1) := by decide +kernel
theorem dX5_isReady_11 : decode cX5_isReady 11 = .ok (.aload_n 0, 1) := by decide +kernel
theorem dX5_isReady_12 : decode cX5_isReady 12 = .ok (.getfield 7, 3) := by decide +kernel
theorem dX5_isReady_15 : decode cX5_isReady 15 = .ok (.iload_n 3, 1) := by decide +kernel
theorem dX5_isReady_16 : decode cX5_isReady 16 = .ok (.iconst 0, 1) := by decide +kernel
theorem dX5_isReady_17 : decode cX5_isReady 17 = .ok (.iadd, 1) := by decide +kernel
theorem dX5_isReady_18 : decode cX5_isReady 18 = .ok (.iaload, 1) := by decide +kernel
theorem dX5_isReady_19 : decode cX5_isReady 19 = .ok (.iconst 1, 1) := by decide +kernel
theorem dX5_isReady_20 : decode cX5_isReady 20 = .ok (.if_icmp .ne 45, 3) := by decide +kernel
theorem dX5_isReady_23 : decode cX5_isReady 23 = .ok (.iload_n 2, 1) := by decide +kernel
theorem dX5_isReady_24 : decode cX5_isReady 24 = .ok (.bipush (-9), 2) := by decide +kernel
theorem dX5_isReady_26 : decode cX5_isReady 26 = .ok (.if_icmp .eq 39, 3) := by decide +kernel
theorem dX5_isReady_29 : decode cX5_isReady 29 = .ok (.aload_n 0, 1) := by decide +kernel
theorem dX5_isReady_30 : decode cX5_isReady 30 = .ok (.getfield 7, 3) := by decide +kernel
theorem dX5_isReady_33 : decode cX5_isReady 33 = .ok (.sipush 428, 3) := by decide +kernel
theorem dX5_isReady_36 : decode cX5_isReady 36 = .ok (.iaload, 1) := by decide +kernel
theorem dX5_isReady_37 : decode cX5_isReady 37 = .ok (.iconst 4, 1) := by decide +kernel
theorem dX5_isReady_38 : decode cX5_isReady 38 = .ok (.if_icmp .lt 23, 3) := by decide +kernel
theorem dX5_isReady_41 : decode cX5_isReady 41 = .ok (.aload_n 0, 1) := by decide +kernel
theorem dX5_isReady_42 : decode cX5_isReady 42 = .ok (.getfield 7, 3) := by decide +kernel
theorem dX5_isReady_45 : decode cX5_isReady 45 = .ok (.iload_n 2, 1) := by decide +kernel
theorem dX5_isReady_46 : decode cX5_isReady 46 = .ok (.bipush 12, 2) := by decide +kernel
theorem dX5_isReady_48 : decode cX5_isReady 48 = .ok (.iadd, 1) := by decide +kernel
theorem dX5_isReady_49 : decode cX5_isReady 49 = .ok (.iaload, 1) := by decide +kernel
theorem dX5_isReady_50 : decode cX5_isReady 50 = .ok (.aload_n 0, 1) := by decide +kernel
theorem dX5_isReady_51 : decode cX5_isReady 51 = .ok (.getfield 7, 3) := by decide +kernel
theorem dX5_isReady_54 : decode cX5_isReady 54 = .ok (.iload_n 3, 1) := by decide +kernel
theorem dX5_isReady_55 : decode cX5_isReady 55 = .ok (.iconst 2, 1) := by decide +kernel
theorem dX5_isReady_56 : decode cX5_isReady 56 = .ok (.iadd, 1) := by decide +kernel
theorem dX5_isReady_57 : decode cX5_isReady 57 = .ok (.iaload, 1) := by decide +kernel
theorem dX5_isReady_58 : decode cX5_isReady 58 = .ok (.if_icmp .le 7, 3) := by decide +kernel
theorem dX5_isReady_61 : decode cX5_isReady 61 = .ok (.iconst 1, 1) := by decide +kernel
theorem dX5_isReady_62 : decode cX5_isReady 62 = .ok (.goto 4, 3) := by decide +kernel
theorem dX5_isReady_65 : decode cX5_isReady 65 = .ok (.iconst 0, 1) := by decide +kernel
theorem dX5_isReady_66 : decode cX5_isReady 66 = .ok (.ireturn, 1) := by decide +kernel
theorem dX5_writes_0 : decode cX5_writes 0 = .ok (.aload_n 0, 1) := by decide +kernel
theorem dX5_writes_1 : decode cX5_writes 1 = .ok (.getfield 7, 3) := by decide +kernel
theorem dX5_writes_4 : decode cX5_writes 4 = .ok (.sipush 429, 3) := by decide +kernel
theorem dX5_writes_7 : decode cX5_writes 7 = .ok (.iload_n 1, 1) := by decide +kernel
theorem dX5_writes_8 : decode cX5_writes 8 = .ok (.iadd, 1) := by decide +kernel
theorem dX5_writes_9 : decode cX5_writes 9 = .ok (.iaload, 1) := by decide +kernel
theorem dX5_writes_10 : decode cX5_writes 10 = .ok (.istore_n 2, 1) := by decide +kernel
theorem dX5_writes_11 : decode cX5_writes 11 = .ok (.bipush 92, 2) := by decide +kernel
theorem dX5_writes_13 : decode cX5_writes 13 = .ok (.bipush 14, 2) := by decide +kernel
theorem dX5_writes_15 : decode cX5_writes 15 = .ok (.iload_n 2, 1) := by decide +kernel
theorem dX5_writes_16 : decode cX5_writes 16 = .ok (.imul, 1) := by decide +kernel
theorem dX5_writes_17 : decode cX5_writes 17 = .ok (.iadd, 1) := by decide +kernel
theorem dX5_writes_18 : decode cX5_writes 18 = .ok (.istore_n 3, 1) := by decide +kernel
theorem dX5_writes_19 : decode cX5_writes 19 = .ok (.aload_n 0, 1) := by decide +kernel
theorem dX5_writes_20 : decode cX5_writes 20 = .ok (.getfield 7, 3) := by decide +kernel
theorem dX5_writes_23 : decode cX5_writes 23 = .ok (.iload_n 3, 1) := by decide +kernel
theorem dX5_writes_24 : decode cX5_writes 24 = .ok (.bipush 10, 2) := by decide +kernel
theorem dX5_writes_26 : decode cX5_writes 26 = .ok (.iadd, 1) := by decide +kernel
theorem dX5_writes_27 : decode cX5_writes 27 = .ok (.iconst 0, 1) := by decide +kernel
theorem dX5_writes_28 : decode cX5_writes 28 = .ok (.iastore, 1) := by decide +kernel
theorem dX5_writes_29 : decode cX5_writes 29 = .ok (.aload_n 0, 1) := by decide +kernel
theorem dX5_writes_30 : decode cX5_writes 30 = .ok (.getfield 7, 3) := by decide +kernel
theorem dX5_writes_33 : decode cX5_writes 33 = .ok (.iload_n 3, 1) := by decide +kernel
theorem dX5_writes_34 : decode cX5_writes 34 = .ok (.bipush 11, 2) := by decide +kernel
theorem dX5_writes_36 : decode cX5_writes 36 = .ok (.iadd, 1) := by decide +kernel
theorem dX5_writes_37 : decode cX5_writes 37 = .ok (.iconst 1, 1) := by decide +kernel
theorem dX5_writes_38 : decode cX5_writes 38 = .ok (.iastore, 1) := by decide +kernel
theorem dX5_writes_39 : decode cX5_writes 39 = .ok (.aload_n 0, 1) := by decide +kernel
theorem dX5_writes_40 : decode cX5_writes 40 = .ok (.getfield 7, 3) := by decide +kernel
theorem dX5_writes_43 : decode cX5_writes 43 = .ok (.iload_n 3, 1) := by decide +kernel
theorem dX5_writes_44 : decode cX5_writes 44 = .ok (.bipush 13, 2) := by decide +kernel
theorem dX5_writes_46 : decode cX5_writes 46 = .ok (.iadd, 1) := by decide +kernel
theorem dX5_writes_47 : decode cX5_writes 47 = .ok (.iconst 0, 1) := by decide +kernel
theorem dX5_writes_48 : decode cX5_writes 48 = .ok (.iastore, 1) := by decide +kernel
theorem dX5_writes_49 : decode cX5_writes 49 = .ok (.aload_n 0, 1) := by decide +kernel
theorem dX5_writes_50 : decode cX5_writes 50 = .ok (.getfield 7, 3) := by decide +kernel
theorem dX5_writes_53 : decode cX5_writes 53 = .ok (.iload_n 2, 1) := by decide +kernel
theorem dX5_writes_54 : decode cX5_writes 54 = .ok (.bipush 6, 2) := by decide +kernel
theorem dX5_writes_56 : decode cX5_writes 56 = .ok (.idiv, 1) := by decide +kernel
theorem dX5_writes_57 : decode cX5_writes 57 = .ok (.invokestatic 75, 3) := by decide +kernel
theorem dX5_writes_60 : decode cX5_writes 60 = .ok (.iconst 5, 1) := by decide +kernel
theorem dX5_writes_61 : decode cX5_writes 61 = .ok (.iadd, 1) := by decide +kernel
theorem dX5_writes_62 : decode cX5_writes 62 = .ok (.dup2, 1) := by decide +kernel
theorem dX5_writes_63 : decode cX5_writes 63 = .ok (.iaload, 1) := by decide +kernel
theorem dX5_writes_64 : decode cX5_writes 64 = .ok (.aload_n 0, 1) := by decide +kernel
theorem dX5_writes_65 : decode cX5_writes 65 = .ok (.getfield 7, 3) := by decide +kernel
theorem dX5_writes_68 : decode cX5_writes 68 = .ok (.iload_n 3, 1) := by decide +kernel
theorem dX5_writes_69 : decode cX5_writes 69 = .ok (.bipush 9, 2) := by decide +kernel
theorem dX5_writes_71 : decode cX5_writes 71 = .ok (.iadd, 1) := by decide +kernel
theorem dX5_writes_72 : decode cX5_writes 72 = .ok (.iaload, 1) := by decide +kernel
theorem dX5_writes_73 : decode cX5_writes 73 = .ok (.ifCond .ne 7, 3) := by decide +kernel
theorem dX5_writes_76 : decode cX5_writes 76 = .ok (.iconst 1, 1) := by decide +kernel
theorem dX5_writes_77 : decode cX5_writes 77 = .ok (.goto 4, 3) := by decide +kernel
theorem dX5_writes_80 : decode cX5_writes 80 = .ok (.iconst 0, 1) := by decide +kernel
theorem dX5_writes_81 : decode cX5_writes 81 = .ok (.iadd, 1) := by decide +kernel
theorem dX5_writes_82 : decode cX5_writes 82 = .ok (.iastore, 1) := by decide +kernel
theorem dX5_writes_83 : decode cX5_writes 83 = .ok (.aload_n 0, 1) := by decide +kernel
theorem dX5_writes_84 : decode cX5_writes 84 = .ok (.getfield 7, 3) := by decide +kernel
theorem dX5_writes_87 : decode cX5_writes 87 = .ok (.sipush 428, 3) := by decide +kernel
theorem dX5_writes_90 : decode cX5_writes 90 = .ok (.dup2, 1) := by decide +kernel
theorem dX5_writes_91 : decode cX5_writes 91 = .ok (.iaload, 1) := by decide +kernel
theorem dX5_writes_92 : decode cX5_writes 92 = .ok (.iconst 1, 1) := by decide +kernel
theorem dX5_writes_93 : decode cX5_writes 93 = .ok (.isub, 1) := by decide +kernel
theorem dX5_writes_94 : decode cX5_writes 94 = .ok (.iastore, 1) := by decide +kernel
theorem dX5_writes_95 : decode cX5_writes 95 = .ok (.iload_n 1, 1) := by decide +kernel
theorem dX5_writes_96 : decode cX5_writes 96 = .ok (.istore 4, 2) := by decide +kernel
theorem dX5_writes_98 : decode cX5_writes 98 = .ok (.iload 4, 2) := by decide +kernel
theorem dX5_writes_100 : decode cX5_writes 100 = .ok (.aload_n 0, 1) := by decide +kernel
theorem dX5_writes_101 : decode cX5_writes 101 = .ok (.getfield 7, 3) := by decide +kernel
theorem dX5_writes_104 : decode cX5_writes 104 = .ok (.sipush 428, 3) := by decide +kernel
theorem dX5_writes_107 : decode cX5_writes 107 = .ok (.iaload, 1) := by decide +kernel
theorem dX5_writes_108 : decode cX5_writes 108 = .ok (.if_icmp .ge 33, 3) := by decide +kernel
theorem dX5_writes_111 : decode cX5_writes 111 = .ok (.aload_n 0, 1) := by decide +kernel
theorem dX5_writes_112 : decode cX5_writes 112 = .ok (.getfield 7, 3) := by decide +kernel
theorem dX5_writes_115 : decode cX5_writes 115 = .ok (.sipush 429, 3) := by decide +kernel
theorem dX5_writes_118 : decode cX5_writes 118 = .ok (.iload 4, 2) := by decide +kernel
theorem dX5_writes_120 : decode cX5_writes 120 = .ok (.iadd, 1) := by decide +kernel
theorem dX5_writes_121 : decode cX5_writes 121 = .ok (.aload_n 0, 1) := by decide +kernel
theorem dX5_writes_122 : decode cX5_writes 122 = .ok (.getfield 7, 3) := by decide +kernel
theorem dX5_writes_125 : decode cX5_writes 125 = .ok (.sipush 429, 3) := by decide +kernel
theorem dX5_writes_128 : decode cX5_writes 128 = .ok (.iload 4, 2) := by decide +kernel
theorem dX5_writes_130 : decode cX5_writes 130 = .ok (.iadd, 1) := by decide +kernel
theorem dX5_writes_131 : decode cX5_writes 131 = .ok (.iconst 1, 1) := by decide +kernel
theorem dX5_writes_132 : decode cX5_writes 132 = .ok (.iadd, 1) := by decide +kernel
theorem dX5_writes_133 : decode cX5_writes 133 = .ok (.iaload, 1) := by decide +kernel
theorem dX5_writes_134 : decode cX5_writes 134 = .ok (.iastore, 1) := by decide +kernel
theorem dX5_writes_135 : decode cX5_writes 135 = .ok (.iinc 4 1, 3) := by decide +kernel
theorem dX5_writes_138 : decode cX5_writes 138 = .ok (.goto (-40), 3) := by decide +kernel
theorem dX5_writes_141 : decode cX5_writes 141 = .ok (.return_, 1) := by decide +kernel
theorem dX5_around_0 : decode cX5_around 0 = .ok (.iload_n 0, 1) := by decide +kernel
theorem dX5_around_1 : decode cX5_around 1 = .ok (.bipush 64, 2) := by decide +kernel
theorem dX5_around_3 : decode cX5_around 3 = .ok (.irem, 1) := by decide +kernel
theorem dX5_around_4 : decode cX5_around 4 = .ok (.istore_n 1, 1) := by decide +kernel
theorem dX5_around_5 : decode cX5_around 5 = .ok (.iload_n 1, 1) := by decide +kernel
theorem dX5_around_6 : decode cX5_around 6 = .ok (.ifCond .ge 10, 3) := by decide +kernel
theorem dX5_around_9 : decode cX5_around 9 = .ok (.iload_n 1, 1) := by decide +kernel
theorem dX5_around_10 : decode cX5_around 10 = .ok (.bipush 64, 2) := by decide +kernel
theorem dX5_around_12 : decode cX5_around 12 = .ok (.iadd, 1) := by decide +kernel
theorem dX5_around_13 : decode cX5_around 13 = .ok (.goto 4, 3) := by decide +kernel
theorem dX5_around_16 : decode cX5_around 16 = .ok (.iload_n 1, 1) := by decide +kernel
theorem dX5_around_17 : decode cX5_around 17 = .ok (.ireturn, 1) := by decide +kernel
theorem dX5_addressOf_0 : decode cX5_addressOf 0 = .ok (.iload_n 2, 1) := by decide +kernel
theorem dX5_addressOf_1 : decode cX5_addressOf 1 = .ok (.aload_n 0, 1) := by decide +kernel
theorem dX5_addressOf_2 : decode cX5_addressOf 2 = .ok (.getfield 7, 3) := by decide +kernel
theorem dX5_addressOf_5 : decode cX5_addressOf 5 = .ok (.iload_n 1, 1) := by decide +kernel
theorem dX5_addressOf_6 : decode cX5_addressOf 6 = .ok (.iconst 3, 1) := by decide +kernel
theorem dX5_addressOf_7 : decode cX5_addressOf 7 = .ok (.iadd, 1) := by decide +kernel
theorem dX5_addressOf_8 : decode cX5_addressOf 8 = .ok (.iaload, 1) := by decide +kernel
theorem dX5_addressOf_9 : decode cX5_addressOf 9 = .ok (.idiv, 1) := by decide +kernel
theorem dX5_addressOf_10 : decode cX5_addressOf 10 = .ok (.istore 4, 2) := by decide +kernel
theorem dX5_addressOf_12 : decode cX5_addressOf 12 = .ok (.iload_n 2, 1) := by decide +kernel
theorem dX5_addressOf_13 : decode cX5_addressOf 13 = .ok (.aload_n 0, 1) := by decide +kernel
theorem dX5_addressOf_14 : decode cX5_addressOf 14 = .ok (.getfield 7, 3) := by decide +kernel
theorem dX5_addressOf_17 : decode cX5_addressOf 17 = .ok (.iload_n 1, 1) := by decide +kernel
theorem dX5_addressOf_18 : decode cX5_addressOf 18 = .ok (.iconst 3, 1) := by decide +kernel
theorem dX5_addressOf_19 : decode cX5_addressOf 19 = .ok (.iadd, 1) := by decide +kernel
theorem dX5_addressOf_20 : decode cX5_addressOf 20 = .ok (.iaload, 1) := by decide +kernel
theorem dX5_addressOf_21 : decode cX5_addressOf 21 = .ok (.irem, 1) := by decide +kernel
theorem dX5_addressOf_22 : decode cX5_addressOf 22 = .ok (.istore 5, 2) := by decide +kernel
theorem dX5_addressOf_24 : decode cX5_addressOf 24 = .ok (.iload_n 3, 1) := by decide +kernel
theorem dX5_addressOf_25 : decode cX5_addressOf 25 = .ok (.ifCond .ne 42, 3) := by decide +kernel
theorem dX5_addressOf_28 : decode cX5_addressOf 28 = .ok (.aload_n 0, 1) := by decide +kernel
theorem dX5_addressOf_29 : decode cX5_addressOf 29 = .ok (.getfield 7, 3) := by decide +kernel
theorem dX5_addressOf_32 : decode cX5_addressOf 32 = .ok (.iload_n 1, 1) := by decide +kernel
theorem dX5_addressOf_33 : decode cX5_addressOf 33 = .ok (.iconst 1, 1) := by decide +kernel
theorem dX5_addressOf_34 : decode cX5_addressOf 34 = .ok (.iadd, 1) := by decide +kernel
theorem dX5_addressOf_35 : decode cX5_addressOf 35 = .ok (.iaload, 1) := by decide +kernel
theorem dX5_addressOf_36 : decode cX5_addressOf 36 = .ok (.iload 4, 2) := by decide +kernel
theorem dX5_addressOf_38 : decode cX5_addressOf 38 = .ok (.aload_n 0, 1) := by decide +kernel
theorem dX5_addressOf_39 : decode cX5_addressOf 39 = .ok (.getfield 7, 3) := by decide +kernel
theorem dX5_addressOf_42 : decode cX5_addressOf 42 = .ok (.iload_n 1, 1) := by decide +kernel
theorem dX5_addressOf_43 : decode cX5_addressOf 43 = .ok (.bipush 7, 2) := by decide +kernel
theorem dX5_addressOf_45 : decode cX5_addressOf 45 = .ok (.iadd, 1) := by decide +kernel
theorem dX5_addressOf_46 : decode cX5_addressOf 46 = .ok (.iaload, 1) := by decide +kernel
theorem dX5_addressOf_47 : decode cX5_addressOf 47 = .ok (.imul, 1) := by decide +kernel
theorem dX5_addressOf_48 : decode cX5_addressOf 48 = .ok (.iadd, 1) := by decide +kernel
theorem dX5_addressOf_49 : decode cX5_addressOf 49 = .ok (.iload 5, 2) := by decide +kernel
theorem dX5_addressOf_51 : decode cX5_addressOf 51 = .ok (.aload_n 0, 1) := by decide +kernel
theorem dX5_addressOf_52 : decode cX5_addressOf 52 = .ok (.getfield 7, 3) := by decide +kernel
theorem dX5_addressOf_55 : decode cX5_addressOf 55 = .ok (.iload_n 1, 1) := by decide +kernel
theorem dX5_addressOf_56 : decode cX5_addressOf 56 = .ok (.iconst 4, 1) := by decide +kernel
theorem dX5_addressOf_57 : decode cX5_addressOf 57 = .ok (.iadd, 1) := by decide +kernel
theorem dX5_addressOf_58 : decode cX5_addressOf 58 = .ok (.iaload, 1) := by decide +kernel
theorem dX5_addressOf_59 : decode cX5_addressOf 59 = .ok (.imul, 1) := by decide +kernel
theorem dX5_addressOf_60 : decode cX5_addressOf 60 = .ok (.iadd, 1) := by decide +kernel
theorem dX5_addressOf_61 : decode cX5_addressOf 61 = .ok (.invokestatic 117, 3) := by decide +kernel
theorem dX5_addressOf_64 : decode cX5_addressOf 64 = .ok (.goto 39, 3) := by decide +kernel
theorem dX5_addressOf_67 : decode cX5_addressOf 67 = .ok (.aload_n 0, 1) := by decide +kernel
theorem dX5_addressOf_68 : decode cX5_addressOf 68 = .ok (.getfield 7, 3) := by decide +kernel
theorem dX5_addressOf_71 : decode cX5_addressOf 71 = .ok (.iload_n 1, 1) := by decide +kernel
theorem dX5_addressOf_72 : decode cX5_addressOf 72 = .ok (.iconst 2, 1) := by decide +kernel
theorem dX5_addressOf_73 : decode cX5_addressOf 73 = .ok (.iadd, 1) := by decide +kernel
theorem dX5_addressOf_74 : decode cX5_addressOf 74 = .ok (.iaload, 1) := by decide +kernel
theorem dX5_addressOf_75 : decode cX5_addressOf 75 = .ok (.iload 4, 2) := by decide +kernel
theorem dX5_addressOf_77 : decode cX5_addressOf 77 = .ok (.aload_n 0, 1) := by decide +kernel
theorem dX5_addressOf_78 : decode cX5_addressOf 78 = .ok (.getfield 7, 3) := by decide +kernel
theorem dX5_addressOf_81 : decode cX5_addressOf 81 = .ok (.iload_n 1, 1) := by decide +kernel
theorem dX5_addressOf_82 : decode cX5_addressOf 82 = .ok (.bipush 8, 2) := by decide +kernel
theorem dX5_addressOf_84 : decode cX5_addressOf 84 = .ok (.iadd, 1) := by decide +kernel
theorem dX5_addressOf_85 : decode cX5_addressOf 85 = .ok (.iaload, 1) := by decide +kernel
theorem dX5_addressOf_86 : decode cX5_addressOf 86 = .ok (.imul, 1) := by decide +kernel
theorem dX5_addressOf_87 : decode cX5_addressOf 87 = .ok (.iadd, 1) := by decide +kernel
theorem dX5_addressOf_88 : decode cX5_addressOf 88 = .ok (.iload 5, 2) := by decide +kernel
theorem dX5_addressOf_90 : decode cX5_addressOf 90 = .ok (.aload_n 0, 1) := by decide +kernel
theorem dX5_addressOf_91 : decode cX5_addressOf 91 = .ok (.getfield 7, 3) := by decide +kernel
theorem dX5_addressOf_94 : decode cX5_addressOf 94 = .ok (.iload_n 1, 1) := by decide +kernel
theorem dX5_addressOf_95 : decode cX5_addressOf 95 = .ok (.iconst 5, 1) := by decide +kernel
theorem dX5_addressOf_96 : decode cX5_addressOf 96 = .ok (.iadd, 1) := by decide +kernel
theorem dX5_addressOf_97 : decode cX5_addressOf 97 = .ok (.iaload, 1) := by decide +kernel
theorem dX5_addressOf_98 : decode cX5_addressOf 98 = .ok (.imul, 1) := by decide +kernel
theorem dX5_addressOf_99 : decode cX5_addressOf 99 = .ok (.iadd, 1) := by decide +kernel
theorem dX5_addressOf_100 : decode cX5_addressOf 100 = .ok (.invokestatic 117, 3) := by decide +kernel
theorem dX5_addressOf_103 : decode cX5_addressOf 103 = .ok (.ireturn, 1) := by decide +kernel
theorem dX5_unitsOf_0 : decode cX5_unitsOf 0 = .ok (.aload_n 0, 1) := by decide +kernel
theorem dX5_unitsOf_1 : decode cX5_unitsOf 1 = .ok (.getfield 7, 3) := by decide +kernel
theorem dX5_unitsOf_4 : decode cX5_unitsOf 4 = .ok (.iload_n 1, 1) := by decide +kernel
theorem dX5_unitsOf_5 : decode cX5_unitsOf 5 = .ok (.iconst 3, 1) := by decide +kernel
theorem dX5_unitsOf_6 : decode cX5_unitsOf 6 = .ok (.iadd, 1) := by decide +kernel
theorem dX5_unitsOf_7 : decode cX5_unitsOf 7 = .ok (.iaload, 1) := by decide +kernel
theorem dX5_unitsOf_8 : decode cX5_unitsOf 8 = .ok (.aload_n 0, 1) := by decide +kernel
theorem dX5_unitsOf_9 : decode cX5_unitsOf 9 = .ok (.getfield 7, 3) := by decide +kernel
theorem dX5_unitsOf_12 : decode cX5_unitsOf 12 = .ok (.iload_n 1, 1) := by decide +kernel
theorem dX5_unitsOf_13 : decode cX5_unitsOf 13 = .ok (.bipush 6, 2) := by decide +kernel
theorem dX5_unitsOf_15 : decode cX5_unitsOf 15 = .ok (.iadd, 1) := by decide +kernel
theorem dX5_unitsOf_16 : decode cX5_unitsOf 16 = .ok (.iaload, 1) := by decide +kernel
theorem dX5_unitsOf_17 : decode cX5_unitsOf 17 = .ok (.imul, 1) := by decide +kernel
theorem dX5_unitsOf_18 : decode cX5_unitsOf 18 = .ok (.ireturn, 1) := by decide +kernel
theorem dX5_carries_0 : decode cX5_carries 0 = .ok (.iload_n 1, 1) := by decide +kernel
theorem dX5_carries_1 : decode cX5_carries 1 = .ok (.invokestatic 75, 3) := by decide +kernel
theorem dX5_carries_4 : decode cX5_carries 4 = .ok (.istore_n 2, 1) := by decide +kernel
theorem dX5_carries_5 : decode cX5_carries 5 = .ok (.aload_n 0, 1) := by decide +kernel
theorem dX5_carries_6 : decode cX5_carries 6 = .ok (.iload_n 1, 1) := by decide +kernel
theorem dX5_carries_7 : decode cX5_carries 7 = .ok (.invokevirtual 114, 3) := by decide +kernel
theorem dX5_carries_10 : decode cX5_carries 10 = .ok (.istore_n 3, 1) := by decide +kernel
theorem dX5_carries_11 : decode cX5_carries 11 = .ok (.aload_n 0, 1) := by decide +kernel
theorem dX5_carries_12 : decode cX5_carries 12 = .ok (.getfield 7, 3) := by decide +kernel
theorem dX5_carries_15 : decode cX5_carries 15 = .ok (.iload_n 2, 1) := by decide +kernel
theorem dX5_carries_16 : decode cX5_carries 16 = .ok (.iconst 2, 1) := by decide +kernel
theorem dX5_carries_17 : decode cX5_carries 17 = .ok (.iadd, 1) := by decide +kernel
theorem dX5_carries_18 : decode cX5_carries 18 = .ok (.iaload, 1) := by decide +kernel
theorem dX5_carries_19 : decode cX5_carries 19 = .ok (.aload_n 0, 1) := by decide +kernel
theorem dX5_carries_20 : decode cX5_carries 20 = .ok (.getfield 7, 3) := by decide +kernel
theorem dX5_carries_23 : decode cX5_carries 23 = .ok (.iload_n 3, 1) := by decide +kernel
theorem dX5_carries_24 : decode cX5_carries 24 = .ok (.bipush 12, 2) := by decide +kernel
theorem dX5_carries_26 : decode cX5_carries 26 = .ok (.iadd, 1) := by decide +kernel
theorem dX5_carries_27 : decode cX5_carries 27 = .ok (.iaload, 1) := by decide +kernel
theorem dX5_carries_28 : decode cX5_carries 28 = .ok (.if_icmp .ge 14, 3) := by decide +kernel
theorem dX5_carries_31 : decode cX5_carries 31 = .ok (.aload_n 0, 1) := by decide +kernel
theorem dX5_carries_32 : decode cX5_carries 32 = .ok (.getfield 7, 3) := by decide +kernel
theorem dX5_carries_35 : decode cX5_carries 35 = .ok (.iload_n 2, 1) := by decide +kernel
theorem dX5_carries_36 : decode cX5_carries 36 = .ok (.iconst 2, 1) := by decide +kernel
theorem dX5_carries_37 : decode cX5_carries 37 = .ok (.iadd, 1) := by decide +kernel
theorem dX5_carries_38 : decode cX5_carries 38 = .ok (.iaload, 1) := by decide +kernel
theorem dX5_carries_39 : decode cX5_carries 39 = .ok (.goto 12, 3) := by decide +kernel
theorem dX5_carries_42 : decode cX5_carries 42 = .ok (.aload_n 0, 1) := by decide +kernel
theorem dX5_carries_43 : decode cX5_carries 43 = .ok (.getfield 7, 3) := by decide +kernel
theorem dX5_carries_46 : decode cX5_carries 46 = .ok (.iload_n 3, 1) := by decide +kernel
theorem dX5_carries_47 : decode cX5_carries 47 = .ok (.bipush 12, 2) := by decide +kernel
theorem dX5_carries_49 : decode cX5_carries 49 = .ok (.iadd, 1) := by decide +kernel
theorem dX5_carries_50 : decode cX5_carries 50 = .ok (.iaload, 1) := by decide +kernel
theorem dX5_carries_51 : decode cX5_carries 51 = .ok (.istore 4, 2) := by decide +kernel
theorem dX5_carries_53 : decode cX5_carries 53 = .ok (.iconst 0, 1) := by decide +kernel
theorem dX5_carries_54 : decode cX5_carries 54 = .ok (.istore 5, 2) := by decide +kernel
theorem dX5_carries_56 : decode cX5_carries 56 = .ok (.iload 5, 2) := by decide +kernel
theorem dX5_carries_58 : decode cX5_carries 58 = .ok (.iload 4, 2) := by decide +kernel
theorem dX5_carries_60 : decode cX5_carries 60 = .ok (.if_icmp .ge 65, 3) := by decide +kernel
theorem dX5_carries_63 : decode cX5_carries 63 = .ok (.aload_n 0, 1) := by decide +kernel
theorem dX5_carries_64 : decode cX5_carries 64 = .ok (.iload_n 3, 1) := by decide +kernel
theorem dX5_carries_65 : decode cX5_carries 65 = .ok (.invokevirtual 120, 3) := by decide +kernel
theorem dX5_carries_68 : decode cX5_carries 68 = .ok (.aload_n 0, 1) := by decide +kernel
theorem dX5_carries_69 : decode cX5_carries 69 = .ok (.getfield 7, 3) := by decide +kernel
theorem dX5_carries_72 : decode cX5_carries 72 = .ok (.iload_n 3, 1) := by decide +kernel
theorem dX5_carries_73 : decode cX5_carries 73 = .ok (.bipush 12, 2) := by decide +kernel
theorem dX5_carries_75 : decode cX5_carries 75 = .ok (.iadd, 1) := by decide +kernel
theorem dX5_carries_76 : decode cX5_carries 76 = .ok (.iaload, 1) := by decide +kernel
theorem dX5_carries_77 : decode cX5_carries 77 = .ok (.isub, 1) := by decide +kernel
theorem dX5_carries_78 : decode cX5_carries 78 = .ok (.istore 6, 2) := by decide +kernel
theorem dX5_carries_80 : decode cX5_carries 80 = .ok (.aload_n 0, 1) := by decide +kernel
theorem dX5_carries_81 : decode cX5_carries 81 = .ok (.getfield 7, 3) := by decide +kernel
theorem dX5_carries_84 : decode cX5_carries 84 = .ok (.aload_n 0, 1) := by decide +kernel
theorem dX5_carries_85 : decode cX5_carries 85 = .ok (.iload_n 3, 1) := by decide +kernel
theorem dX5_carries_86 : decode cX5_carries 86 = .ok (.iload 6, 2) := by decide +kernel
theorem dX5_carries_88 : decode cX5_carries 88 = .ok (.iconst 1, 1) := by decide +kernel
theorem dX5_carries_89 : decode cX5_carries 89 = .ok (.invokevirtual 123, 3) := by decide +kernel
theorem dX5_carries_92 : decode cX5_carries 92 = .ok (.aload_n 0, 1) := by decide +kernel
theorem dX5_carries_93 : decode cX5_carries 93 = .ok (.getfield 7, 3) := by decide +kernel
theorem dX5_carries_96 : decode cX5_carries 96 = .ok (.aload_n 0, 1) := by decide +kernel
theorem dX5_carries_97 : decode cX5_carries 97 = .ok (.iload_n 3, 1) := by decide +kernel
theorem dX5_carries_98 : decode cX5_carries 98 = .ok (.iload 6, 2) := by decide +kernel
theorem dX5_carries_100 : decode cX5_carries 100 = .ok (.iconst 0, 1) := by decide +kernel
theorem dX5_carries_101 : decode cX5_carries 101 = .ok (.invokevirtual 123, 3) := by decide +kernel
theorem dX5_carries_104 : decode cX5_carries 104 = .ok (.iaload, 1) := by decide +kernel
theorem dX5_carries_105 : decode cX5_carries 105 = .ok (.iastore, 1) := by decide +kernel
theorem dX5_carries_106 : decode cX5_carries 106 = .ok (.aload_n 0, 1) := by decide +kernel
theorem dX5_carries_107 : decode cX5_carries 107 = .ok (.getfield 7, 3) := by decide +kernel
theorem dX5_carries_110 : decode cX5_carries 110 = .ok (.iload_n 3, 1) := by decide +kernel
theorem dX5_carries_111 : decode cX5_carries 111 = .ok (.bipush 12, 2) := by decide +kernel
theorem dX5_carries_113 : decode cX5_carries 113 = .ok (.iadd, 1) := by decide +kernel
theorem dX5_carries_114 : decode cX5_carries 114 = .ok (.dup2, 1) := by decide +kernel
theorem dX5_carries_115 : decode cX5_carries 115 = .ok (.iaload, 1) := by decide +kernel
theorem dX5_carries_116 : decode cX5_carries 116 = .ok (.iconst 1, 1) := by decide +kernel
theorem dX5_carries_117 : decode cX5_carries 117 = .ok (.isub, 1) := by decide +kernel
theorem dX5_carries_118 : decode cX5_carries 118 = .ok (.iastore, 1) := by decide +kernel
theorem dX5_carries_119 : decode cX5_carries 119 = .ok (.iinc 5 1, 3) := by decide +kernel
theorem dX5_carries_122 : decode cX5_carries 122 = .ok (.goto (-66), 3) := by decide +kernel
theorem dX5_carries_125 : decode cX5_carries 125 = .ok (.aload_n 0, 1) := by decide +kernel
theorem dX5_carries_126 : decode cX5_carries 126 = .ok (.getfield 7, 3) := by decide +kernel
theorem dX5_carries_129 : decode cX5_carries 129 = .ok (.iload_n 2, 1) := by decide +kernel
theorem dX5_carries_130 : decode cX5_carries 130 = .ok (.bipush 6, 2) := by decide +kernel
theorem dX5_carries_132 : decode cX5_carries 132 = .ok (.iadd, 1) := by decide +kernel
theorem dX5_carries_133 : decode cX5_carries 133 = .ok (.dup2, 1) := by decide +kernel
theorem dX5_carries_134 : decode cX5_carries 134 = .ok (.iaload, 1) := by decide +kernel
theorem dX5_carries_135 : decode cX5_carries 135 = .ok (.iconst 1, 1) := by decide +kernel
theorem dX5_carries_136 : decode cX5_carries 136 = .ok (.iadd, 1) := by decide +kernel
theorem dX5_carries_137 : decode cX5_carries 137 = .ok (.iastore, 1) := by decide +kernel
theorem dX5_carries_138 : decode cX5_carries 138 = .ok (.aload_n 0, 1) := by decide +kernel
theorem dX5_carries_139 : decode cX5_carries 139 = .ok (.getfield 7, 3) := by decide +kernel
theorem dX5_carries_142 : decode cX5_carries 142 = .ok (.sipush 453, 3) := by decide +kernel
theorem dX5_carries_145 : decode cX5_carries 145 = .ok (.iload_n 1, 1) := by decide +kernel
theorem dX5_carries_146 : decode cX5_carries 146 = .ok (.iastore, 1) := by decide +kernel
theorem dX5_carries_147 : decode cX5_carries 147 = .ok (.aload_n 0, 1) := by decide +kernel
theorem dX5_carries_148 : decode cX5_carries 148 = .ok (.getfield 7, 3) := by decide +kernel
theorem dX5_carries_151 : decode cX5_carries 151 = .ok (.iload_n 3, 1) := by decide +kernel
theorem dX5_carries_152 : decode cX5_carries 152 = .ok (.bipush 12, 2) := by decide +kernel
theorem dX5_carries_154 : decode cX5_carries 154 = .ok (.iadd, 1) := by decide +kernel
theorem dX5_carries_155 : decode cX5_carries 155 = .ok (.iaload, 1) := by decide +kernel
theorem dX5_carries_156 : decode cX5_carries 156 = .ok (.ifCond .ne 76, 3) := by decide +kernel
theorem dX5_carries_159 : decode cX5_carries 159 = .ok (.aload_n 0, 1) := by decide +kernel
theorem dX5_carries_160 : decode cX5_carries 160 = .ok (.getfield 7, 3) := by decide +kernel
theorem dX5_carries_163 : decode cX5_carries 163 = .ok (.iload_n 3, 1) := by decide +kernel
theorem dX5_carries_164 : decode cX5_carries 164 = .ok (.bipush 13, 2) := by decide +kernel
theorem dX5_carries_166 : decode cX5_carries 166 = .ok (.iadd, 1) := by decide +kernel
theorem dX5_carries_167 : decode cX5_carries 167 = .ok (.iconst 1, 1) := by decide +kernel
theorem dX5_carries_168 : decode cX5_carries 168 = .ok (.iastore, 1) := by decide +kernel
theorem dX5_carries_169 : decode cX5_carries 169 = .ok (.aload_n 0, 1) := by decide +kernel
theorem dX5_carries_170 : decode cX5_carries 170 = .ok (.getfield 7, 3) := by decide +kernel
theorem dX5_carries_173 : decode cX5_carries 173 = .ok (.sipush 429, 3) := by decide +kernel
theorem dX5_carries_176 : decode cX5_carries 176 = .ok (.aload_n 0, 1) := by decide +kernel
theorem dX5_carries_177 : decode cX5_carries 177 = .ok (.getfield 7, 3) := by decide +kernel
theorem dX5_carries_180 : decode cX5_carries 180 = .ok (.sipush 428, 3) := by decide +kernel
theorem dX5_carries_183 : decode cX5_carries 183 = .ok (.iaload, 1) := by decide +kernel
theorem dX5_carries_184 : decode cX5_carries 184 = .ok (.iadd, 1) := by decide +kernel
theorem dX5_carries_185 : decode cX5_carries 185 = .ok (.bipush 6, 2) := by decide +kernel
theorem dX5_carries_187 : decode cX5_carries 187 = .ok (.iload_n 1, 1) := by decide +kernel
theorem dX5_carries_188 : decode cX5_carries 188 = .ok (.imul, 1) := by decide +kernel
theorem dX5_carries_189 : decode cX5_carries 189 = .ok (.aload_n 0, 1) := by decide +kernel
theorem dX5_carries_190 : decode cX5_carries 190 = .ok (.getfield 7, 3) := by decide +kernel
theorem dX5_carries_193 : decode cX5_carries 193 = .ok (.iload_n 2, 1) := by decide +kernel
theorem dX5_carries_194 : decode cX5_carries 194 = .ok (.iconst 4, 1) := by decide +kernel
theorem dX5_carries_195 : decode cX5_carries 195 = .ok (.iadd, 1) := by decide +kernel
theorem dX5_carries_196 : decode cX5_carries 196 = .ok (.iaload, 1) := by decide +kernel
theorem dX5_carries_197 : decode cX5_carries 197 = .ok (.iadd, 1) := by decide +kernel
theorem dX5_carries_198 : decode cX5_carries 198 = .ok (.iastore, 1) := by decide +kernel
theorem dX5_carries_199 : decode cX5_carries 199 = .ok (.aload_n 0, 1) := by decide +kernel
theorem dX5_carries_200 : decode cX5_carries 200 = .ok (.getfield 7, 3) := by decide +kernel
theorem dX5_carries_203 : decode cX5_carries 203 = .ok (.sipush 428, 3) := by decide +kernel
theorem dX5_carries_206 : decode cX5_carries 206 = .ok (.dup2, 1) := by decide +kernel
theorem dX5_carries_207 : decode cX5_carries 207 = .ok (.iaload, 1) := by decide +kernel
theorem dX5_carries_208 : decode cX5_carries 208 = .ok (.iconst 1, 1) := by decide +kernel
theorem dX5_carries_209 : decode cX5_carries 209 = .ok (.iadd, 1) := by decide +kernel
theorem dX5_carries_210 : decode cX5_carries 210 = .ok (.iastore, 1) := by decide +kernel
theorem dX5_carries_211 : decode cX5_carries 211 = .ok (.aload_n 0, 1) := by decide +kernel
theorem dX5_carries_212 : decode cX5_carries 212 = .ok (.getfield 7, 3) := by decide +kernel
theorem dX5_carries_215 : decode cX5_carries 215 = .ok (.iload_n 2, 1) := by decide +kernel
theorem dX5_carries_216 : decode cX5_carries 216 = .ok (.iconst 4, 1) := by decide +kernel
theorem dX5_carries_217 : decode cX5_carries 217 = .ok (.iadd, 1) := by decide +kernel
theorem dX5_carries_218 : decode cX5_carries 218 = .ok (.aload_n 0, 1) := by decide +kernel
theorem dX5_carries_219 : decode cX5_carries 219 = .ok (.getfield 7, 3) := by decide +kernel
theorem dX5_carries_222 : decode cX5_carries 222 = .ok (.iload_n 2, 1) := by decide +kernel
theorem dX5_carries_223 : decode cX5_carries 223 = .ok (.iconst 4, 1) := by decide +kernel
theorem dX5_carries_224 : decode cX5_carries 224 = .ok (.iadd, 1) := by decide +kernel
theorem dX5_carries_225 : decode cX5_carries 225 = .ok (.iaload, 1) := by decide +kernel
theorem dX5_carries_226 : decode cX5_carries 226 = .ok (.iconst 1, 1) := by decide +kernel
theorem dX5_carries_227 : decode cX5_carries 227 = .ok (.iadd, 1) := by decide +kernel
theorem dX5_carries_228 : decode cX5_carries 228 = .ok (.bipush 6, 2) := by decide +kernel
theorem dX5_carries_230 : decode cX5_carries 230 = .ok (.irem, 1) := by decide +kernel
theorem dX5_carries_231 : decode cX5_carries 231 = .ok (.iastore, 1) := by decide +kernel
theorem dX5_carries_232 : decode cX5_carries 232 = .ok (.return_, 1) := by decide +kernel
theorem dX5_ticksOnce_0 : decode cX5_ticksOnce 0 = .ok (.aload_n 0, 1) := by decide +kernel
theorem dX5_ticksOnce_1 : decode cX5_ticksOnce 1 = .ok (.getfield 7, 3) := by decide +kernel
theorem dX5_ticksOnce_4 : decode cX5_ticksOnce 4 = .ok (.sipush 428, 3) := by decide +kernel
theorem dX5_ticksOnce_7 : decode cX5_ticksOnce 7 = .ok (.iaload, 1) := by decide +kernel
theorem dX5_ticksOnce_8 : decode cX5_ticksOnce 8 = .ok (.ifCond .le 8, 3) := by decide +kernel
theorem dX5_ticksOnce_11 : decode cX5_ticksOnce 11 = .ok (.aload_n 0, 1) := by decide +kernel
theorem dX5_ticksOnce_12 : decode cX5_ticksOnce 12 = .ok (.iconst 0, 1) := by decide +kernel
theorem dX5_ticksOnce_13 : decode cX5_ticksOnce 13 = .ok (.invokevirtual 127, 3) := by decide +kernel
theorem dX5_ticksOnce_16 : decode cX5_ticksOnce 16 = .ok (.bipush (-9), 2) := by decide +kernel
theorem dX5_ticksOnce_18 : decode cX5_ticksOnce 18 = .ok (.istore_n 1, 1) := by decide +kernel
theorem dX5_ticksOnce_19 : decode cX5_ticksOnce 19 = .ok (.iconst 1, 1) := by decide +kernel
theorem dX5_ticksOnce_20 : decode cX5_ticksOnce 20 = .ok (.istore_n 2, 1) := by decide +kernel
theorem dX5_ticksOnce_21 : decode cX5_ticksOnce 21 = .ok (.iload_n 2, 1) := by decide +kernel
theorem dX5_ticksOnce_22 : decode cX5_ticksOnce 22 = .ok (.iconst 4, 1) := by decide +kernel
theorem dX5_ticksOnce_23 : decode cX5_ticksOnce 23 = .ok (.if_icmp .gt 79, 3) := by decide +kernel
theorem dX5_ticksOnce_26 : decode cX5_ticksOnce 26 = .ok (.aload_n 0, 1) := by decide +kernel
theorem dX5_ticksOnce_27 : decode cX5_ticksOnce 27 = .ok (.getfield 7, 3) := by decide +kernel
theorem dX5_ticksOnce_30 : decode cX5_ticksOnce 30 = .ok (.sipush 453, 3) := by decide +kernel
theorem dX5_ticksOnce_33 : decode cX5_ticksOnce 33 = .ok (.iaload, 1) := by decide +kernel
theorem dX5_ticksOnce_34 : decode cX5_ticksOnce 34 = .ok (.iload_n 2, 1) := by decide +kernel
theorem dX5_ticksOnce_35 : decode cX5_ticksOnce 35 = .ok (.iadd, 1) := by decide +kernel
theorem dX5_ticksOnce_36 : decode cX5_ticksOnce 36 = .ok (.iconst 4, 1) := by decide +kernel
theorem dX5_ticksOnce_37 : decode cX5_ticksOnce 37 = .ok (.irem, 1) := by decide +kernel
theorem dX5_ticksOnce_38 : decode cX5_ticksOnce 38 = .ok (.istore_n 3, 1) := by decide +kernel
theorem dX5_ticksOnce_39 : decode cX5_ticksOnce 39 = .ok (.aload_n 0, 1) := by decide +kernel
theorem dX5_ticksOnce_40 : decode cX5_ticksOnce 40 = .ok (.iload_n 3, 1) := by decide +kernel
theorem dX5_ticksOnce_41 : decode cX5_ticksOnce 41 = .ok (.invokevirtual 131, 3) := by decide +kernel
theorem dX5_ticksOnce_44 : decode cX5_ticksOnce 44 = .ok (.ifCond .eq 38, 3) := by decide +kernel
theorem dX5_ticksOnce_47 : decode cX5_ticksOnce 47 = .ok (.iload_n 1, 1) := by decide +kernel
theorem dX5_ticksOnce_48 : decode cX5_ticksOnce 48 = .ok (.bipush (-9), 2) := by decide +kernel
theorem dX5_ticksOnce_50 : decode cX5_ticksOnce 50 = .ok (.if_icmp .eq 28, 3) := by decide +kernel
theorem dX5_ticksOnce_53 : decode cX5_ticksOnce 53 = .ok (.aload_n 0, 1) := by decide +kernel
theorem dX5_ticksOnce_54 : decode cX5_ticksOnce 54 = .ok (.getfield 7, 3) := by decide +kernel
theorem dX5_ticksOnce_57 : decode cX5_ticksOnce 57 = .ok (.iload_n 3, 1) := by decide +kernel
theorem dX5_ticksOnce_58 : decode cX5_ticksOnce 58 = .ok (.invokestatic 75, 3) := by decide +kernel
theorem dX5_ticksOnce_61 : decode cX5_ticksOnce 61 = .ok (.iconst 1, 1) := by decide +kernel
theorem dX5_ticksOnce_62 : decode cX5_ticksOnce 62 = .ok (.iadd, 1) := by decide +kernel
theorem dX5_ticksOnce_63 : decode cX5_ticksOnce 63 = .ok (.iaload, 1) := by decide +kernel
theorem dX5_ticksOnce_64 : decode cX5_ticksOnce 64 = .ok (.aload_n 0, 1) := by decide +kernel
theorem dX5_ticksOnce_65 : decode cX5_ticksOnce 65 = .ok (.getfield 7, 3) := by decide +kernel
theorem dX5_ticksOnce_68 : decode cX5_ticksOnce 68 = .ok (.iload_n 1, 1) := by decide +kernel
theorem dX5_ticksOnce_69 : decode cX5_ticksOnce 69 = .ok (.invokestatic 75, 3) := by decide +kernel
theorem dX5_ticksOnce_72 : decode cX5_ticksOnce 72 = .ok (.iconst 1, 1) := by decide +kernel
theorem dX5_ticksOnce_73 : decode cX5_ticksOnce 73 = .ok (.iadd, 1) := by decide +kernel
theorem dX5_ticksOnce_74 : decode cX5_ticksOnce 74 = .ok (.iaload, 1) := by decide +kernel
theorem dX5_ticksOnce_75 : decode cX5_ticksOnce 75 = .ok (.if_icmp .le 7, 3) := by decide +kernel
theorem dX5_ticksOnce_78 : decode cX5_ticksOnce 78 = .ok (.iconst 1, 1) := by decide +kernel
theorem dX5_ticksOnce_79 : decode cX5_ticksOnce 79 = .ok (.goto 4, 3) := by decide +kernel
theorem dX5_ticksOnce_82 : decode cX5_ticksOnce 82 = .ok (.iconst 0, 1) := by decide +kernel
theorem dX5_ticksOnce_83 : decode cX5_ticksOnce 83 = .ok (.istore 4, 2) := by decide +kernel
theorem dX5_ticksOnce_85 : decode cX5_ticksOnce 85 = .ok (.iload 4, 2) := by decide +kernel
theorem dX5_ticksOnce_87 : decode cX5_ticksOnce 87 = .ok (.ifCond .eq 7, 3) := by decide +kernel
theorem dX5_ticksOnce_90 : decode cX5_ticksOnce 90 = .ok (.iload_n 3, 1) := by decide +kernel
theorem dX5_ticksOnce_91 : decode cX5_ticksOnce 91 = .ok (.goto 4, 3) := by decide +kernel
theorem dX5_ticksOnce_94 : decode cX5_ticksOnce 94 = .ok (.iload_n 1, 1) := by decide +kernel
theorem dX5_ticksOnce_95 : decode cX5_ticksOnce 95 = .ok (.istore_n 1, 1) := by decide +kernel
theorem dX5_ticksOnce_96 : decode cX5_ticksOnce 96 = .ok (.iinc 2 1, 3) := by decide +kernel
theorem dX5_ticksOnce_99 : decode cX5_ticksOnce 99 = .ok (.goto (-78), 3) := by decide +kernel
theorem dX5_ticksOnce_102 : decode cX5_ticksOnce 102 = .ok (.iload_n 1, 1) := by decide +kernel
theorem dX5_ticksOnce_103 : decode cX5_ticksOnce 103 = .ok (.bipush (-9), 2) := by decide +kernel
theorem dX5_ticksOnce_105 : decode cX5_ticksOnce 105 = .ok (.if_icmp .eq 8, 3) := by decide +kernel
theorem dX5_ticksOnce_108 : decode cX5_ticksOnce 108 = .ok (.aload_n 0, 1) := by decide +kernel
theorem dX5_ticksOnce_109 : decode cX5_ticksOnce 109 = .ok (.iload_n 1, 1) := by decide +kernel
theorem dX5_ticksOnce_110 : decode cX5_ticksOnce 110 = .ok (.invokevirtual 134, 3) := by decide +kernel
theorem dX5_ticksOnce_113 : decode cX5_ticksOnce 113 = .ok (.aload_n 0, 1) := by decide +kernel
theorem dX5_ticksOnce_114 : decode cX5_ticksOnce 114 = .ok (.getfield 7, 3) := by decide +kernel
theorem dX5_ticksOnce_117 : decode cX5_ticksOnce 117 = .ok (.sipush 454, 3) := by decide +kernel
theorem dX5_ticksOnce_120 : decode cX5_ticksOnce 120 = .ok (.dup2, 1) := by decide +kernel
theorem dX5_ticksOnce_121 : decode cX5_ticksOnce 121 = .ok (.iaload, 1) := by decide +kernel
theorem dX5_ticksOnce_122 : decode cX5_ticksOnce 122 = .ok (.iconst 1, 1) := by decide +kernel
theorem dX5_ticksOnce_123 : decode cX5_ticksOnce 123 = .ok (.iadd, 1) := by decide +kernel
theorem dX5_ticksOnce_124 : decode cX5_ticksOnce 124 = .ok (.iastore, 1) := by decide +kernel
theorem dX5_ticksOnce_125 : decode cX5_ticksOnce 125 = .ok (.iload_n 1, 1) := by decide +kernel
theorem dX5_ticksOnce_126 : decode cX5_ticksOnce 126 = .ok (.ireturn, 1) := by decide +kernel
theorem dX5_ticks_0 : decode cX5_ticks 0 = .ok (.iload_n 1, 1) := by decide +kernel
theorem dX5_ticks_1 : decode cX5_ticks 1 = .ok (.iconst 1, 1) := by decide +kernel
theorem dX5_ticks_2 : decode cX5_ticks 2 = .ok (.bipush 40, 2) := by decide +kernel
theorem dX5_ticks_4 : decode cX5_ticks 4 = .ok (.invokestatic 38, 3) := by decide +kernel
theorem dX5_ticks_7 : decode cX5_ticks 7 = .ok (.ifCond .ne 5, 3) := by decide +kernel
theorem dX5_ticks_10 : decode cX5_ticks 10 = .ok (.iconst (-1), 1) := by decide +kernel
theorem dX5_ticks_11 : decode cX5_ticks 11 = .ok (.ireturn, 1) := by decide +kernel
theorem dX5_ticks_12 : decode cX5_ticks 12 = .ok (.aload_n 0, 1) := by decide +kernel
theorem dX5_ticks_13 : decode cX5_ticks 13 = .ok (.invokevirtual 105, 3) := by decide +kernel
theorem dX5_ticks_16 : decode cX5_ticks 16 = .ok (.aload_n 0, 1) := by decide +kernel
theorem dX5_ticks_17 : decode cX5_ticks 17 = .ok (.invokevirtual 111, 3) := by decide +kernel
theorem dX5_ticks_20 : decode cX5_ticks 20 = .ok (.iconst 0, 1) := by decide +kernel
theorem dX5_ticks_21 : decode cX5_ticks 21 = .ok (.istore_n 2, 1) := by decide +kernel
theorem dX5_ticks_22 : decode cX5_ticks 22 = .ok (.iconst 0, 1) := by decide +kernel
theorem dX5_ticks_23 : decode cX5_ticks 23 = .ok (.istore_n 3, 1) := by decide +kernel
theorem dX5_ticks_24 : decode cX5_ticks 24 = .ok (.iload_n 3, 1) := by decide +kernel
theorem dX5_ticks_25 : decode cX5_ticks 25 = .ok (.iload_n 1, 1) := by decide +kernel
theorem dX5_ticks_26 : decode cX5_ticks 26 = .ok (.if_icmp .ge 26, 3) := by decide +kernel
theorem dX5_ticks_29 : decode cX5_ticks 29 = .ok (.iload_n 2, 1) := by decide +kernel
theorem dX5_ticks_30 : decode cX5_ticks 30 = .ok (.aload_n 0, 1) := by decide +kernel
theorem dX5_ticks_31 : decode cX5_ticks 31 = .ok (.invokevirtual 137, 3) := by decide +kernel
theorem dX5_ticks_34 : decode cX5_ticks 34 = .ok (.bipush (-9), 2) := by decide +kernel
theorem dX5_ticks_36 : decode cX5_ticks 36 = .ok (.if_icmp .ne 7, 3) := by decide +kernel
theorem dX5_ticks_39 : decode cX5_ticks 39 = .ok (.iconst 0, 1) := by decide +kernel
theorem dX5_ticks_40 : decode cX5_ticks 40 = .ok (.goto 4, 3) := by decide +kernel
theorem dX5_ticks_43 : decode cX5_ticks 43 = .ok (.iconst 1, 1) := by decide +kernel
theorem dX5_ticks_44 : decode cX5_ticks 44 = .ok (.iadd, 1) := by decide +kernel
theorem dX5_ticks_45 : decode cX5_ticks 45 = .ok (.istore_n 2, 1) := by decide +kernel
theorem dX5_ticks_46 : decode cX5_ticks 46 = .ok (.iinc 3 1, 3) := by decide +kernel
theorem dX5_ticks_49 : decode cX5_ticks 49 = .ok (.goto (-25), 3) := by decide +kernel
theorem dX5_ticks_52 : decode cX5_ticks 52 = .ok (.iload_n 2, 1) := by decide +kernel
theorem dX5_ticks_53 : decode cX5_ticks 53 = .ok (.ireturn, 1) := by decide +kernel
theorem dX5_isChannel_0 : decode cX5_isChannel 0 = .ok (.iload_n 0, 1) := by decide +kernel
theorem dX5_isChannel_1 : decode cX5_isChannel 1 = .ok (.iconst 0, 1) := by decide +kernel
theorem dX5_isChannel_2 : decode cX5_isChannel 2 = .ok (.iconst 3, 1) := by decide +kernel
theorem dX5_isChannel_3 : decode cX5_isChannel 3 = .ok (.invokestatic 38, 3) := by decide +kernel
theorem dX5_isChannel_6 : decode cX5_isChannel 6 = .ok (.ireturn, 1) := by decide +kernel
theorem dX5_writesAll_0 : decode cX5_writesAll 0 = .ok (.iconst 0, 1) := by decide +kernel
theorem dX5_writesAll_1 : decode cX5_writesAll 1 = .ok (.istore_n 2, 1) := by decide +kernel
theorem dX5_writesAll_2 : decode cX5_writesAll 2 = .ok (.iload_n 2, 1) := by decide +kernel
theorem dX5_writesAll_3 : decode cX5_writesAll 3 = .ok (.aload_n 0, 1) := by decide +kernel
theorem dX5_writesAll_4 : decode cX5_writesAll 4 = .ok (.getfield 7, 3) := by decide +kernel
theorem dX5_writesAll_7 : decode cX5_writesAll 7 = .ok (.sipush 428, 3) := by decide +kernel
theorem dX5_writesAll_10 : decode cX5_writesAll 10 = .ok (.iaload, 1) := by decide +kernel
theorem dX5_writesAll_11 : decode cX5_writesAll 11 = .ok (.if_icmp .ge 34, 3) := by decide +kernel
theorem dX5_writesAll_14 : decode cX5_writesAll 14 = .ok (.aload_n 0, 1) := by decide +kernel
theorem dX5_writesAll_15 : decode cX5_writesAll 15 = .ok (.getfield 7, 3) := by decide +kernel
theorem dX5_writesAll_18 : decode cX5_writesAll 18 = .ok (.sipush 429, 3) := by decide +kernel
theorem dX5_writesAll_21 : decode cX5_writesAll 21 = .ok (.iload_n 2, 1) := by decide +kernel
theorem dX5_writesAll_22 : decode cX5_writesAll 22 = .ok (.iadd, 1) := by decide +kernel
theorem dX5_writesAll_23 : decode cX5_writesAll 23 = .ok (.iaload, 1) := by decide +kernel
theorem dX5_writesAll_24 : decode cX5_writesAll 24 = .ok (.bipush 6, 2) := by decide +kernel
theorem dX5_writesAll_26 : decode cX5_writesAll 26 = .ok (.idiv, 1) := by decide +kernel
theorem dX5_writesAll_27 : decode cX5_writesAll 27 = .ok (.iload_n 1, 1) := by decide +kernel
theorem dX5_writesAll_28 : decode cX5_writesAll 28 = .ok (.if_icmp .ne 11, 3) := by decide +kernel
theorem dX5_writesAll_31 : decode cX5_writesAll 31 = .ok (.aload_n 0, 1) := by decide +kernel
theorem dX5_writesAll_32 : decode cX5_writesAll 32 = .ok (.iload_n 2, 1) := by decide +kernel
theorem dX5_writesAll_33 : decode cX5_writesAll 33 = .ok (.invokevirtual 127, 3) := by decide +kernel
theorem dX5_writesAll_36 : decode cX5_writesAll 36 = .ok (.goto (-34), 3) := by decide +kernel
theorem dX5_writesAll_39 : decode cX5_writesAll 39 = .ok (.iinc 2 1, 3) := by decide +kernel
theorem dX5_writesAll_42 : decode cX5_writesAll 42 = .ok (.goto (-40), 3) := by decide +kernel
theorem dX5_writesAll_45 : decode cX5_writesAll 45 = .ok (.return_, 1) := by decide +kernel
theorem dX5_cancels_0 : decode cX5_cancels 0 = .ok (.iload_n 1, 1) := by decide +kernel
theorem dX5_cancels_1 : decode cX5_cancels 1 = .ok (.invokestatic 141, 3) := by decide +kernel
theorem dX5_cancels_4 : decode cX5_cancels 4 = .ok (.ifCond .ne 5, 3) := by decide +kernel
theorem dX5_cancels_7 : decode cX5_cancels 7 = .ok (.iconst (-1), 1) := by decide +kernel
theorem dX5_cancels_8 : decode cX5_cancels 8 = .ok (.ireturn, 1) := by decide +kernel
theorem dX5_cancels_9 : decode cX5_cancels 9 = .ok (.aload_n 0, 1) := by decide +kernel
theorem dX5_cancels_10 : decode cX5_cancels 10 = .ok (.iload_n 1, 1) := by decide +kernel
theorem dX5_cancels_11 : decode cX5_cancels 11 = .ok (.invokevirtual 114, 3) := by decide +kernel
theorem dX5_cancels_14 : decode cX5_cancels 14 = .ok (.bipush (-9), 2) := by decide +kernel
theorem dX5_cancels_16 : decode cX5_cancels 16 = .ok (.if_icmp .ne 6, 3) := by decide +kernel
theorem dX5_cancels_19 : decode cX5_cancels 19 = .ok (.bipush (-2), 2) := by decide +kernel
theorem dX5_cancels_21 : decode cX5_cancels 21 = .ok (.ireturn, 1) := by decide +kernel
theorem dX5_cancels_22 : decode cX5_cancels 22 = .ok (.aload_n 0, 1) := by decide +kernel
theorem dX5_cancels_23 : decode cX5_cancels 23 = .ok (.invokevirtual 105, 3) := by decide +kernel
theorem dX5_cancels_26 : decode cX5_cancels 26 = .ok (.aload_n 0, 1) := by decide +kernel
theorem dX5_cancels_27 : decode cX5_cancels 27 = .ok (.invokevirtual 111, 3) := by decide +kernel
theorem dX5_cancels_30 : decode cX5_cancels 30 = .ok (.aload_n 0, 1) := by decide +kernel
theorem dX5_cancels_31 : decode cX5_cancels 31 = .ok (.iload_n 1, 1) := by decide +kernel
theorem dX5_cancels_32 : decode cX5_cancels 32 = .ok (.invokevirtual 144, 3) := by decide +kernel
theorem dX5_cancels_35 : decode cX5_cancels 35 = .ok (.iload_n 1, 1) := by decide +kernel
theorem dX5_cancels_36 : decode cX5_cancels 36 = .ok (.invokestatic 75, 3) := by decide +kernel
theorem dX5_cancels_39 : decode cX5_cancels 39 = .ok (.istore_n 2, 1) := by decide +kernel
theorem dX5_cancels_40 : decode cX5_cancels 40 = .ok (.iconst 0, 1) := by decide +kernel
theorem dX5_cancels_41 : decode cX5_cancels 41 = .ok (.istore_n 3, 1) := by decide +kernel
theorem dX5_cancels_42 : decode cX5_cancels 42 = .ok (.iconst 1, 1) := by decide +kernel
theorem dX5_cancels_43 : decode cX5_cancels 43 = .ok (.istore 4, 2) := by decide +kernel
theorem dX5_cancels_45 : decode cX5_cancels 45 = .ok (.iload 4, 2) := by decide +kernel
theorem dX5_cancels_47 : decode cX5_cancels 47 = .ok (.ifCond .eq 116, 3) := by decide +kernel
theorem dX5_cancels_50 : decode cX5_cancels 50 = .ok (.iload_n 1, 1) := by decide +kernel
theorem dX5_cancels_51 : decode cX5_cancels 51 = .ok (.aload_n 0, 1) := by decide +kernel
theorem dX5_cancels_52 : decode cX5_cancels 52 = .ok (.getfield 7, 3) := by decide +kernel
theorem dX5_cancels_55 : decode cX5_cancels 55 = .ok (.iload_n 2, 1) := by decide +kernel
theorem dX5_cancels_56 : decode cX5_cancels 56 = .ok (.iconst 4, 1) := by decide +kernel
theorem dX5_cancels_57 : decode cX5_cancels 57 = .ok (.iadd, 1) := by decide +kernel
theorem dX5_cancels_58 : decode cX5_cancels 58 = .ok (.iaload, 1) := by decide +kernel
theorem dX5_cancels_59 : decode cX5_cancels 59 = .ok (.invokestatic 79, 3) := by decide +kernel
theorem dX5_cancels_62 : decode cX5_cancels 62 = .ok (.istore 5, 2) := by decide +kernel
theorem dX5_cancels_64 : decode cX5_cancels 64 = .ok (.aload_n 0, 1) := by decide +kernel
theorem dX5_cancels_65 : decode cX5_cancels 65 = .ok (.getfield 7, 3) := by decide +kernel
theorem dX5_cancels_68 : decode cX5_cancels 68 = .ok (.iload 5, 2) := by decide +kernel
theorem dX5_cancels_70 : decode cX5_cancels 70 = .ok (.bipush 10, 2) := by decide +kernel
theorem dX5_cancels_72 : decode cX5_cancels 72 = .ok (.iadd, 1) := by decide +kernel
theorem dX5_cancels_73 : decode cX5_cancels 73 = .ok (.iconst 0, 1) := by decide +kernel
theorem dX5_cancels_74 : decode cX5_cancels 74 = .ok (.iastore, 1) := by decide +kernel
theorem dX5_cancels_75 : decode cX5_cancels 75 = .ok (.aload_n 0, 1) := by decide +kernel
theorem dX5_cancels_76 : decode cX5_cancels 76 = .ok (.getfield 7, 3) := by decide +kernel
theorem dX5_cancels_79 : decode cX5_cancels 79 = .ok (.iload 5, 2) := by decide +kernel
theorem dX5_cancels_81 : decode cX5_cancels 81 = .ok (.bipush 11, 2) := by decide +kernel
theorem dX5_cancels_83 : decode cX5_cancels 83 = .ok (.iadd, 1) := by decide +kernel
theorem dX5_cancels_84 : decode cX5_cancels 84 = .ok (.iconst 2, 1) := by decide +kernel
theorem dX5_cancels_85 : decode cX5_cancels 85 = .ok (.iastore, 1) := by decide +kernel
theorem dX5_cancels_86 : decode cX5_cancels 86 = .ok (.iload_n 3, 1) := by decide +kernel
theorem dX5_cancels_87 : decode cX5_cancels 87 = .ok (.aload_n 0, 1) := by decide +kernel
theorem dX5_cancels_88 : decode cX5_cancels 88 = .ok (.getfield 7, 3) := by decide +kernel
theorem dX5_cancels_91 : decode cX5_cancels 91 = .ok (.iload 5, 2) := by decide +kernel
theorem dX5_cancels_93 : decode cX5_cancels 93 = .ok (.bipush 12, 2) := by decide +kernel
theorem dX5_cancels_95 : decode cX5_cancels 95 = .ok (.iadd, 1) := by decide +kernel
theorem dX5_cancels_96 : decode cX5_cancels 96 = .ok (.iaload, 1) := by decide +kernel
theorem dX5_cancels_97 : decode cX5_cancels 97 = .ok (.iadd, 1) := by decide +kernel
theorem dX5_cancels_98 : decode cX5_cancels 98 = .ok (.istore_n 3, 1) := by decide +kernel
theorem dX5_cancels_99 : decode cX5_cancels 99 = .ok (.aload_n 0, 1) := by decide +kernel
theorem dX5_cancels_100 : decode cX5_cancels 100 = .ok (.getfield 7, 3) := by decide +kernel
theorem dX5_cancels_103 : decode cX5_cancels 103 = .ok (.iload_n 2, 1) := by decide +kernel
theorem dX5_cancels_104 : decode cX5_cancels 104 = .ok (.iconst 4, 1) := by decide +kernel
theorem dX5_cancels_105 : decode cX5_cancels 105 = .ok (.iadd, 1) := by decide +kernel
theorem dX5_cancels_106 : decode cX5_cancels 106 = .ok (.aload_n 0, 1) := by decide +kernel
theorem dX5_cancels_107 : decode cX5_cancels 107 = .ok (.getfield 7, 3) := by decide +kernel
theorem dX5_cancels_110 : decode cX5_cancels 110 = .ok (.iload_n 2, 1) := by decide +kernel
theorem dX5_cancels_111 : decode cX5_cancels 111 = .ok (.iconst 4, 1) := by decide +kernel
theorem dX5_cancels_112 : decode cX5_cancels 112 = .ok (.iadd, 1) := by decide +kernel
theorem dX5_cancels_113 : decode cX5_cancels 113 = .ok (.iaload, 1) := by decide +kernel
theorem dX5_cancels_114 : decode cX5_cancels 114 = .ok (.iconst 1, 1) := by decide +kernel
theorem dX5_cancels_115 : decode cX5_cancels 115 = .ok (.iadd, 1) := by decide +kernel
theorem dX5_cancels_116 : decode cX5_cancels 116 = .ok (.bipush 6, 2) := by decide +kernel
theorem dX5_cancels_118 : decode cX5_cancels 118 = .ok (.irem, 1) := by decide +kernel
theorem dX5_cancels_119 : decode cX5_cancels 119 = .ok (.iastore, 1) := by decide +kernel
theorem dX5_cancels_120 : decode cX5_cancels 120 = .ok (.aload_n 0, 1) := by decide +kernel
theorem dX5_cancels_121 : decode cX5_cancels 121 = .ok (.getfield 7, 3) := by decide +kernel
theorem dX5_cancels_124 : decode cX5_cancels 124 = .ok (.iload 5, 2) := by decide +kernel
theorem dX5_cancels_126 : decode cX5_cancels 126 = .ok (.bipush 9, 2) := by decide +kernel
theorem dX5_cancels_128 : decode cX5_cancels 128 = .ok (.iadd, 1) := by decide +kernel
theorem dX5_cancels_129 : decode cX5_cancels 129 = .ok (.iaload, 1) := by decide +kernel
theorem dX5_cancels_130 : decode cX5_cancels 130 = .ok (.iconst 1, 1) := by decide +kernel
theorem dX5_cancels_131 : decode cX5_cancels 131 = .ok (.if_icmp .ne 26, 3) := by decide +kernel
theorem dX5_cancels_134 : decode cX5_cancels 134 = .ok (.aload_n 0, 1) := by decide +kernel
theorem dX5_cancels_135 : decode cX5_cancels 135 = .ok (.iload_n 1, 1) := by decide +kernel
theorem dX5_cancels_136 : decode cX5_cancels 136 = .ok (.aload_n 0, 1) := by decide +kernel
theorem dX5_cancels_137 : decode cX5_cancels 137 = .ok (.getfield 7, 3) := by decide +kernel
theorem dX5_cancels_140 : decode cX5_cancels 140 = .ok (.iload_n 2, 1) := by decide +kernel
theorem dX5_cancels_141 : decode cX5_cancels 141 = .ok (.iconst 4, 1) := by decide +kernel
theorem dX5_cancels_142 : decode cX5_cancels 142 = .ok (.iadd, 1) := by decide +kernel
theorem dX5_cancels_143 : decode cX5_cancels 143 = .ok (.iaload, 1) := by decide +kernel
theorem dX5_cancels_144 : decode cX5_cancels 144 = .ok (.invokestatic 79, 3) := by decide +kernel
theorem dX5_cancels_147 : decode cX5_cancels 147 = .ok (.invokevirtual 83, 3) := by decide +kernel
theorem dX5_cancels_150 : decode cX5_cancels 150 = .ok (.ifCond .eq 7, 3) := by decide +kernel
theorem dX5_cancels_153 : decode cX5_cancels 153 = .ok (.iconst 1, 1) := by decide +kernel
theorem dX5_cancels_154 : decode cX5_cancels 154 = .ok (.goto 4, 3) := by decide +kernel
theorem dX5_cancels_157 : decode cX5_cancels 157 = .ok (.iconst 0, 1) := by decide +kernel
theorem dX5_cancels_158 : decode cX5_cancels 158 = .ok (.istore 4, 2) := by decide +kernel
theorem dX5_cancels_160 : decode cX5_cancels 160 = .ok (.goto (-115), 3) := by decide +kernel
theorem dX5_cancels_163 : decode cX5_cancels 163 = .ok (.iload_n 3, 1) := by decide +kernel
theorem dX5_cancels_164 : decode cX5_cancels 164 = .ok (.ireturn, 1) := by decide +kernel
theorem dX5_switches_0 : decode cX5_switches 0 = .ok (.iload_n 1, 1) := by decide +kernel
theorem dX5_switches_1 : decode cX5_switches 1 = .ok (.invokestatic 141, 3) := by decide +kernel
theorem dX5_switches_4 : decode cX5_switches 4 = .ok (.ifCond .ne 5, 3) := by decide +kernel
theorem dX5_switches_7 : decode cX5_switches 7 = .ok (.iconst (-1), 1) := by decide +kernel
theorem dX5_switches_8 : decode cX5_switches 8 = .ok (.ireturn, 1) := by decide +kernel
theorem dX5_switches_9 : decode cX5_switches 9 = .ok (.aload_n 0, 1) := by decide +kernel
theorem dX5_switches_10 : decode cX5_switches 10 = .ok (.invokevirtual 105, 3) := by decide +kernel
theorem dX5_switches_13 : decode cX5_switches 13 = .ok (.aload_n 0, 1) := by decide +kernel
theorem dX5_switches_14 : decode cX5_switches 14 = .ok (.invokevirtual 111, 3) := by decide +kernel
theorem dX5_switches_17 : decode cX5_switches 17 = .ok (.iload_n 1, 1) := by decide +kernel
theorem dX5_switches_18 : decode cX5_switches 18 = .ok (.invokestatic 75, 3) := by decide +kernel
theorem dX5_switches_21 : decode cX5_switches 21 = .ok (.istore_n 2, 1) := by decide +kernel
theorem dX5_switches_22 : decode cX5_switches 22 = .ok (.aload_n 0, 1) := by decide +kernel
theorem dX5_switches_23 : decode cX5_switches 23 = .ok (.getfield 7, 3) := by decide +kernel
theorem dX5_switches_26 : decode cX5_switches 26 = .ok (.iload_n 2, 1) := by decide +kernel
theorem dX5_switches_27 : decode cX5_switches 27 = .ok (.iconst 0, 1) := by decide +kernel
theorem dX5_switches_28 : decode cX5_switches 28 = .ok (.iadd, 1) := by decide +kernel
theorem dX5_switches_29 : decode cX5_switches 29 = .ok (.iconst 1, 1) := by decide +kernel
theorem dX5_switches_30 : decode cX5_switches 30 = .ok (.aload_n 0, 1) := by decide +kernel
theorem dX5_switches_31 : decode cX5_switches 31 = .ok (.getfield 7, 3) := by decide +kernel
theorem dX5_switches_34 : decode cX5_switches 34 = .ok (.iload_n 2, 1) := by decide +kernel
theorem dX5_switches_35 : decode cX5_switches 35 = .ok (.iconst 0, 1) := by decide +kernel
theorem dX5_switches_36 : decode cX5_switches 36 = .ok (.iadd, 1) := by decide +kernel
theorem dX5_switches_37 : decode cX5_switches 37 = .ok (.iaload, 1) := by decide +kernel
theorem dX5_switches_38 : decode cX5_switches 38 = .ok (.isub, 1) := by decide +kernel
theorem dX5_switches_39 : decode cX5_switches 39 = .ok (.iastore, 1) := by decide +kernel
theorem dX5_switches_40 : decode cX5_switches 40 = .ok (.aload_n 0, 1) := by decide +kernel
theorem dX5_switches_41 : decode cX5_switches 41 = .ok (.getfield 7, 3) := by decide +kernel
theorem dX5_switches_44 : decode cX5_switches 44 = .ok (.iload_n 2, 1) := by decide +kernel
theorem dX5_switches_45 : decode cX5_switches 45 = .ok (.iconst 0, 1) := by decide +kernel
theorem dX5_switches_46 : decode cX5_switches 46 = .ok (.iadd, 1) := by decide +kernel
theorem dX5_switches_47 : decode cX5_switches 47 = .ok (.iaload, 1) := by decide +kernel
theorem dX5_switches_48 : decode cX5_switches 48 = .ok (.ireturn, 1) := by decide +kernel
theorem dX5_tunes_0 : decode cX5_tunes 0 = .ok (.iload_n 1, 1) := by decide +kernel
theorem dX5_tunes_1 : decode cX5_tunes 1 = .ok (.invokestatic 141, 3) := by decide +kernel
theorem dX5_tunes_4 : decode cX5_tunes 4 = .ok (.ifCond .eq 22, 3) := by decide +kernel
theorem dX5_tunes_7 : decode cX5_tunes 7 = .ok (.iload_n 2, 1) := by decide +kernel
theorem dX5_tunes_8 : decode cX5_tunes 8 = .ok (.iconst 0, 1) := by decide +kernel
theorem dX5_tunes_9 : decode cX5_tunes 9 = .ok (.iconst 3, 1) := by decide +kernel
theorem dX5_tunes_10 : decode cX5_tunes 10 = .ok (.invokestatic 38, 3) := by decide +kernel
theorem dX5_tunes_13 : decode cX5_tunes 13 = .ok (.ifCond .eq 13, 3) := by decide +kernel
theorem dX5_tunes_16 : decode cX5_tunes 16 = .ok (.iload_n 3, 1) := by decide +kernel
theorem dX5_tunes_17 : decode cX5_tunes 17 = .ok (.iconst 1, 1) := by decide +kernel
theorem dX5_tunes_18 : decode cX5_tunes 18 = .ok (.bipush 8, 2) := by decide +kernel
theorem dX5_tunes_20 : decode cX5_tunes 20 = .ok (.invokestatic 38, 3) := by decide +kernel
theorem dX5_tunes_23 : decode cX5_tunes 23 = .ok (.ifCond .ne 5, 3) := by decide +kernel
theorem dX5_tunes_26 : decode cX5_tunes 26 = .ok (.iconst (-1), 1) := by decide +kernel
theorem dX5_tunes_27 : decode cX5_tunes 27 = .ok (.ireturn, 1) := by decide +kernel
theorem dX5_tunes_28 : decode cX5_tunes 28 = .ok (.iload_n 1, 1) := by decide +kernel
theorem dX5_tunes_29 : decode cX5_tunes 29 = .ok (.invokestatic 75, 3) := by decide +kernel
theorem dX5_tunes_32 : decode cX5_tunes 32 = .ok (.istore 4, 2) := by decide +kernel
theorem dX5_tunes_34 : decode cX5_tunes 34 = .ok (.aload_n 0, 1) := by decide +kernel
theorem dX5_tunes_35 : decode cX5_tunes 35 = .ok (.getfield 7, 3) := by decide +kernel
theorem dX5_tunes_38 : decode cX5_tunes 38 = .ok (.iload 4, 2) := by decide +kernel
theorem dX5_tunes_40 : decode cX5_tunes 40 = .ok (.iconst 1, 1) := by decide +kernel
theorem dX5_tunes_41 : decode cX5_tunes 41 = .ok (.iadd, 1) := by decide +kernel
theorem dX5_tunes_42 : decode cX5_tunes 42 = .ok (.iaload, 1) := by decide +kernel
theorem dX5_tunes_43 : decode cX5_tunes 43 = .ok (.iload_n 2, 1) := by decide +kernel
theorem dX5_tunes_44 : decode cX5_tunes 44 = .ok (.if_icmp .ne 19, 3) := by decide +kernel
theorem dX5_tunes_47 : decode cX5_tunes 47 = .ok (.aload_n 0, 1) := by decide +kernel
theorem dX5_tunes_48 : decode cX5_tunes 48 = .ok (.getfield 7, 3) := by decide +kernel
theorem dX5_tunes_51 : decode cX5_tunes 51 = .ok (.iload 4, 2) := by decide +kernel
theorem dX5_tunes_53 : decode cX5_tunes 53 = .ok (.iconst 2, 1) := by decide +kernel
theorem dX5_tunes_54 : decode cX5_tunes 54 = .ok (.iadd, 1) := by decide +kernel
theorem dX5_tunes_55 : decode cX5_tunes 55 = .ok (.iaload, 1) := by decide +kernel
theorem dX5_tunes_56 : decode cX5_tunes 56 = .ok (.iload_n 3, 1) := by decide +kernel
theorem dX5_tunes_57 : decode cX5_tunes 57 = .ok (.if_icmp .ne 6, 3) := by decide +kernel
theorem dX5_tunes_60 : decode cX5_tunes 60 = .ok (.bipush (-2), 2) := by decide +kernel
theorem dX5_tunes_62 : decode cX5_tunes 62 = .ok (.ireturn, 1) := by decide +kernel
theorem dX5_tunes_63 : decode cX5_tunes 63 = .ok (.aload_n 0, 1) := by decide +kernel
theorem dX5_tunes_64 : decode cX5_tunes 64 = .ok (.invokevirtual 105, 3) := by decide +kernel
theorem dX5_tunes_67 : decode cX5_tunes 67 = .ok (.aload_n 0, 1) := by decide +kernel
theorem dX5_tunes_68 : decode cX5_tunes 68 = .ok (.invokevirtual 111, 3) := by decide +kernel
theorem dX5_tunes_71 : decode cX5_tunes 71 = .ok (.aload_n 0, 1) := by decide +kernel
theorem dX5_tunes_72 : decode cX5_tunes 72 = .ok (.getfield 7, 3) := by decide +kernel
theorem dX5_tunes_75 : decode cX5_tunes 75 = .ok (.iload 4, 2) := by decide +kernel
theorem dX5_tunes_77 : decode cX5_tunes 77 = .ok (.iconst 1, 1) := by decide +kernel
theorem dX5_tunes_78 : decode cX5_tunes 78 = .ok (.iadd, 1) := by decide +kernel
theorem dX5_tunes_79 : decode cX5_tunes 79 = .ok (.iload_n 2, 1) := by decide +kernel
theorem dX5_tunes_80 : decode cX5_tunes 80 = .ok (.iastore, 1) := by decide +kernel
theorem dX5_tunes_81 : decode cX5_tunes 81 = .ok (.aload_n 0, 1) := by decide +kernel
theorem dX5_tunes_82 : decode cX5_tunes 82 = .ok (.getfield 7, 3) := by decide +kernel
theorem dX5_tunes_85 : decode cX5_tunes 85 = .ok (.iload 4, 2) := by decide +kernel
theorem dX5_tunes_87 : decode cX5_tunes 87 = .ok (.iconst 2, 1) := by decide +kernel
theorem dX5_tunes_88 : decode cX5_tunes 88 = .ok (.iadd, 1) := by decide +kernel
theorem dX5_tunes_89 : decode cX5_tunes 89 = .ok (.iload_n 3, 1) := by decide +kernel
theorem dX5_tunes_90 : decode cX5_tunes 90 = .ok (.iastore, 1) := by decide +kernel
theorem dX5_tunes_91 : decode cX5_tunes 91 = .ok (.iconst 1, 1) := by decide +kernel
theorem dX5_tunes_92 : decode cX5_tunes 92 = .ok (.ireturn, 1) := by decide +kernel
theorem dX5_undo_0 : decode cX5_undo 0 = .ok (.aload_n 0, 1) := by decide +kernel
theorem dX5_undo_1 : decode cX5_undo 1 = .ok (.getfield 98, 3) := by decide +kernel
theorem dX5_undo_4 : decode cX5_undo 4 = .ok (.ifCond .ne 6, 3) := by decide +kernel
theorem dX5_undo_7 : decode cX5_undo 7 = .ok (.bipush (-2), 2) := by decide +kernel
theorem dX5_undo_9 : decode cX5_undo 9 = .ok (.ireturn, 1) := by decide +kernel
theorem dX5_undo_10 : decode cX5_undo 10 = .ok (.aload_n 0, 1) := by decide +kernel
theorem dX5_undo_11 : decode cX5_undo 11 = .ok (.dup, 1) := by decide +kernel
theorem dX5_undo_12 : decode cX5_undo 12 = .ok (.getfield 98, 3) := by decide +kernel
theorem dX5_undo_15 : decode cX5_undo 15 = .ok (.iconst 1, 1) := by decide +kernel
theorem dX5_undo_16 : decode cX5_undo 16 = .ok (.isub, 1) := by decide +kernel
theorem dX5_undo_17 : decode cX5_undo 17 = .ok (.putfield 98, 3) := by decide +kernel
theorem dX5_undo_20 : decode cX5_undo 20 = .ok (.iconst 0, 1) := by decide +kernel
theorem dX5_undo_21 : decode cX5_undo 21 = .ok (.istore_n 1, 1) := by decide +kernel
theorem dX5_undo_22 : decode cX5_undo 22 = .ok (.iload_n 1, 1) := by decide +kernel
theorem dX5_undo_23 : decode cX5_undo 23 = .ok (.sipush 455, 3) := by decide +kernel
theorem dX5_undo_26 : decode cX5_undo 26 = .ok (.if_icmp .ge 30, 3) := by decide +kernel
theorem dX5_undo_29 : decode cX5_undo 29 = .ok (.aload_n 0, 1) := by decide +kernel
theorem dX5_undo_30 : decode cX5_undo 30 = .ok (.getfield 7, 3) := by decide +kernel
theorem dX5_undo_33 : decode cX5_undo 33 = .ok (.iload_n 1, 1) := by decide +kernel
theorem dX5_undo_34 : decode cX5_undo 34 = .ok (.aload_n 0, 1) := by decide +kernel
theorem dX5_undo_35 : decode cX5_undo 35 = .ok (.getfield 13, 3) := by decide +kernel
theorem dX5_undo_38 : decode cX5_undo 38 = .ok (.sipush 455, 3) := by decide +kernel
theorem dX5_undo_41 : decode cX5_undo 41 = .ok (.aload_n 0, 1) := by decide +kernel
theorem dX5_undo_42 : decode cX5_undo 42 = .ok (.getfield 98, 3) := by decide +kernel
theorem dX5_undo_45 : decode cX5_undo 45 = .ok (.imul, 1) := by decide +kernel
theorem dX5_undo_46 : decode cX5_undo 46 = .ok (.iload_n 1, 1) := by decide +kernel
theorem dX5_undo_47 : decode cX5_undo 47 = .ok (.iadd, 1) := by decide +kernel
theorem dX5_undo_48 : decode cX5_undo 48 = .ok (.iaload, 1) := by decide +kernel
theorem dX5_undo_49 : decode cX5_undo 49 = .ok (.iastore, 1) := by decide +kernel
theorem dX5_undo_50 : decode cX5_undo 50 = .ok (.iinc 1 1, 3) := by decide +kernel
theorem dX5_undo_53 : decode cX5_undo 53 = .ok (.goto (-31), 3) := by decide +kernel
theorem dX5_undo_56 : decode cX5_undo 56 = .ok (.aload_n 0, 1) := by decide +kernel
theorem dX5_undo_57 : decode cX5_undo 57 = .ok (.getfield 98, 3) := by decide +kernel
theorem dX5_undo_60 : decode cX5_undo 60 = .ok (.ireturn, 1) := by decide +kernel
theorem dX5_at_0 : decode cX5_at 0 = .ok (.iload_n 1, 1) := by decide +kernel
theorem dX5_at_1 : decode cX5_at 1 = .ok (.iconst 0, 1) := by decide +kernel
theorem dX5_at_2 : decode cX5_at 2 = .ok (.bipush 63, 2) := by decide +kernel
theorem dX5_at_4 : decode cX5_at 4 = .ok (.invokestatic 38, 3) := by decide +kernel
theorem dX5_at_7 : decode cX5_at 7 = .ok (.ifCond .eq 12, 3) := by decide +kernel
theorem dX5_at_10 : decode cX5_at 10 = .ok (.aload_n 0, 1) := by decide +kernel
theorem dX5_at_11 : decode cX5_at 11 = .ok (.getfield 7, 3) := by decide +kernel
theorem dX5_at_14 : decode cX5_at 14 = .ok (.iload_n 1, 1) := by decide +kernel
theorem dX5_at_15 : decode cX5_at 15 = .ok (.iaload, 1) := by decide +kernel
theorem dX5_at_16 : decode cX5_at 16 = .ok (.goto 4, 3) := by decide +kernel
theorem dX5_at_19 : decode cX5_at 19 = .ok (.iconst (-1), 1) := by decide +kernel
theorem dX5_at_20 : decode cX5_at 20 = .ok (.ireturn, 1) := by decide +kernel
theorem dX5_channel_0 : decode cX5_channel 0 = .ok (.iload_n 1, 1) := by decide +kernel
theorem dX5_channel_1 : decode cX5_channel 1 = .ok (.invokestatic 141, 3) := by decide +kernel
theorem dX5_channel_4 : decode cX5_channel 4 = .ok (.ifCond .eq 13, 3) := by decide +kernel
theorem dX5_channel_7 : decode cX5_channel 7 = .ok (.iload_n 2, 1) := by decide +kernel
theorem dX5_channel_8 : decode cX5_channel 8 = .ok (.iconst 0, 1) := by decide +kernel
theorem dX5_channel_9 : decode cX5_channel 9 = .ok (.bipush 8, 2) := by decide +kernel
theorem dX5_channel_11 : decode cX5_channel 11 = .ok (.invokestatic 38, 3) := by decide +kernel
theorem dX5_channel_14 : decode cX5_channel 14 = .ok (.ifCond .ne 5, 3) := by decide +kernel
theorem dX5_channel_17 : decode cX5_channel 17 = .ok (.iconst (-1), 1) := by decide +kernel
theorem dX5_channel_18 : decode cX5_channel 18 = .ok (.ireturn, 1) := by decide +kernel
theorem dX5_channel_19 : decode cX5_channel 19 = .ok (.iload_n 1, 1) := by decide +kernel
theorem dX5_channel_20 : decode cX5_channel 20 = .ok (.invokestatic 75, 3) := by decide +kernel
theorem dX5_channel_23 : decode cX5_channel 23 = .ok (.istore_n 3, 1) := by decide +kernel
theorem dX5_channel_24 : decode cX5_channel 24 = .ok (.iload_n 2, 1) := by decide +kernel
theorem dX5_channel_25 : decode cX5_channel 25 = .ok (.tableswitch 92 5 8 #[31, 59, 68, 78], 31) := by decide +kernel
theorem dX5_channel_56 : decode cX5_channel 56 = .ok (.aload_n 0, 1) := by decide +kernel
theorem dX5_channel_57 : decode cX5_channel 57 = .ok (.iload_n 1, 1) := by decide +kernel
theorem dX5_channel_58 : decode cX5_channel 58 = .ok (.invokevirtual 114, 3) := by decide +kernel
theorem dX5_channel_61 : decode cX5_channel 61 = .ok (.bipush (-9), 2) := by decide +kernel
theorem dX5_channel_63 : decode cX5_channel 63 = .ok (.if_icmp .ne 7, 3) := by decide +kernel
theorem dX5_channel_66 : decode cX5_channel 66 = .ok (.iconst 0, 1) := by decide +kernel
theorem dX5_channel_67 : decode cX5_channel 67 = .ok (.goto 16, 3) := by decide +kernel
theorem dX5_channel_70 : decode cX5_channel 70 = .ok (.aload_n 0, 1) := by decide +kernel
theorem dX5_channel_71 : decode cX5_channel 71 = .ok (.getfield 7, 3) := by decide +kernel
theorem dX5_channel_74 : decode cX5_channel 74 = .ok (.aload_n 0, 1) := by decide +kernel
theorem dX5_channel_75 : decode cX5_channel 75 = .ok (.iload_n 1, 1) := by decide +kernel
theorem dX5_channel_76 : decode cX5_channel 76 = .ok (.invokevirtual 114, 3) := by decide +kernel
theorem dX5_channel_79 : decode cX5_channel 79 = .ok (.bipush 12, 2) := by decide +kernel
theorem dX5_channel_81 : decode cX5_channel 81 = .ok (.iadd, 1) := by decide +kernel
theorem dX5_channel_82 : decode cX5_channel 82 = .ok (.iaload, 1) := by decide +kernel
theorem dX5_channel_83 : decode cX5_channel 83 = .ok (.ireturn, 1) := by decide +kernel
theorem dX5_channel_84 : decode cX5_channel 84 = .ok (.aload_n 0, 1) := by decide +kernel
theorem dX5_channel_85 : decode cX5_channel 85 = .ok (.getfield 7, 3) := by decide +kernel
theorem dX5_channel_88 : decode cX5_channel 88 = .ok (.iload_n 3, 1) := by decide +kernel
theorem dX5_channel_89 : decode cX5_channel 89 = .ok (.iconst 5, 1) := by decide +kernel
theorem dX5_channel_90 : decode cX5_channel 90 = .ok (.iadd, 1) := by decide +kernel
theorem dX5_channel_91 : decode cX5_channel 91 = .ok (.iaload, 1) := by decide +kernel
theorem dX5_channel_92 : decode cX5_channel 92 = .ok (.ireturn, 1) := by decide +kernel
theorem dX5_channel_93 : decode cX5_channel 93 = .ok (.aload_n 0, 1) := by decide +kernel
theorem dX5_channel_94 : decode cX5_channel 94 = .ok (.getfield 7, 3) := by decide +kernel
theorem dX5_channel_97 : decode cX5_channel 97 = .ok (.iload_n 3, 1) := by decide +kernel
theorem dX5_channel_98 : decode cX5_channel 98 = .ok (.bipush 6, 2) := by decide +kernel
theorem dX5_channel_100 : decode cX5_channel 100 = .ok (.iadd, 1) := by decide +kernel
theorem dX5_channel_101 : decode cX5_channel 101 = .ok (.iaload, 1) := by decide +kernel
theorem dX5_channel_102 : decode cX5_channel 102 = .ok (.ireturn, 1) := by decide +kernel
theorem dX5_channel_103 : decode cX5_channel 103 = .ok (.aload_n 0, 1) := by decide +kernel
theorem dX5_channel_104 : decode cX5_channel 104 = .ok (.iload_n 1, 1) := by decide +kernel
theorem dX5_channel_105 : decode cX5_channel 105 = .ok (.invokevirtual 131, 3) := by decide +kernel
theorem dX5_channel_108 : decode cX5_channel 108 = .ok (.ifCond .eq 7, 3) := by decide +kernel
theorem dX5_channel_111 : decode cX5_channel 111 = .ok (.iconst 1, 1) := by decide +kernel
theorem dX5_channel_112 : decode cX5_channel 112 = .ok (.goto 4, 3) := by decide +kernel
theorem dX5_channel_115 : decode cX5_channel 115 = .ok (.iconst 0, 1) := by decide +kernel
theorem dX5_channel_116 : decode cX5_channel 116 = .ok (.ireturn, 1) := by decide +kernel
theorem dX5_channel_117 : decode cX5_channel 117 = .ok (.aload_n 0, 1) := by decide +kernel
theorem dX5_channel_118 : decode cX5_channel 118 = .ok (.getfield 7, 3) := by decide +kernel
theorem dX5_channel_121 : decode cX5_channel 121 = .ok (.iload_n 3, 1) := by decide +kernel
theorem dX5_channel_122 : decode cX5_channel 122 = .ok (.iload_n 2, 1) := by decide +kernel
theorem dX5_channel_123 : decode cX5_channel 123 = .ok (.iadd, 1) := by decide +kernel
theorem dX5_channel_124 : decode cX5_channel 124 = .ok (.iaload, 1) := by decide +kernel
theorem dX5_channel_125 : decode cX5_channel 125 = .ok (.ireturn, 1) := by decide +kernel
theorem dX5_isSlot_0 : decode cX5_isSlot 0 = .ok (.iload_n 0, 1) := by decide +kernel
theorem dX5_isSlot_1 : decode cX5_isSlot 1 = .ok (.invokestatic 141, 3) := by decide +kernel
theorem dX5_isSlot_4 : decode cX5_isSlot 4 = .ok (.ifCond .eq 16, 3) := by decide +kernel
theorem dX5_isSlot_7 : decode cX5_isSlot 7 = .ok (.iload_n 1, 1) := by decide +kernel
theorem dX5_isSlot_8 : decode cX5_isSlot 8 = .ok (.iconst 0, 1) := by decide +kernel
theorem dX5_isSlot_9 : decode cX5_isSlot 9 = .ok (.iconst 5, 1) := by decide +kernel
theorem dX5_isSlot_10 : decode cX5_isSlot 10 = .ok (.invokestatic 38, 3) := by decide +kernel
theorem dX5_isSlot_13 : decode cX5_isSlot 13 = .ok (.ifCond .eq 7, 3) := by decide +kernel
theorem dX5_isSlot_16 : decode cX5_isSlot 16 = .ok (.iconst 1, 1) := by decide +kernel
theorem dX5_isSlot_17 : decode cX5_isSlot 17 = .ok (.goto 4, 3) := by decide +kernel
theorem dX5_isSlot_20 : decode cX5_isSlot 20 = .ok (.iconst 0, 1) := by decide +kernel
theorem dX5_isSlot_21 : decode cX5_isSlot 21 = .ok (.ireturn, 1) := by decide +kernel
theorem dX5_slot_0 : decode cX5_slot 0 = .ok (.iload_n 1, 1) := by decide +kernel
theorem dX5_slot_1 : decode cX5_slot 1 = .ok (.iload_n 2, 1) := by decide +kernel
theorem dX5_slot_2 : decode cX5_slot 2 = .ok (.invokestatic 147, 3) := by decide +kernel
theorem dX5_slot_5 : decode cX5_slot 5 = .ok (.ifCond .eq 12, 3) := by decide +kernel
theorem dX5_slot_8 : decode cX5_slot 8 = .ok (.iload_n 3, 1) := by decide +kernel
theorem dX5_slot_9 : decode cX5_slot 9 = .ok (.iconst 0, 1) := by decide +kernel
theorem dX5_slot_10 : decode cX5_slot 10 = .ok (.iconst 5, 1) := by decide +kernel
theorem dX5_slot_11 : decode cX5_slot 11 = .ok (.invokestatic 38, 3) := by decide +kernel
theorem dX5_slot_14 : decode cX5_slot 14 = .ok (.ifCond .ne 5, 3) := by decide +kernel
theorem dX5_slot_17 : decode cX5_slot 17 = .ok (.iconst (-1), 1) := by decide +kernel
theorem dX5_slot_18 : decode cX5_slot 18 = .ok (.ireturn, 1) := by decide +kernel
theorem dX5_slot_19 : decode cX5_slot 19 = .ok (.iload_n 1, 1) := by decide +kernel
theorem dX5_slot_20 : decode cX5_slot 20 = .ok (.iload_n 2, 1) := by decide +kernel
theorem dX5_slot_21 : decode cX5_slot 21 = .ok (.invokestatic 79, 3) := by decide +kernel
theorem dX5_slot_24 : decode cX5_slot 24 = .ok (.istore 4, 2) := by decide +kernel
theorem dX5_slot_26 : decode cX5_slot 26 = .ok (.aload_n 0, 1) := by decide +kernel
theorem dX5_slot_27 : decode cX5_slot 27 = .ok (.getfield 7, 3) := by decide +kernel
theorem dX5_slot_30 : decode cX5_slot 30 = .ok (.iload 4, 2) := by decide +kernel
theorem dX5_slot_32 : decode cX5_slot 32 = .ok (.iconst 0, 1) := by decide +kernel
theorem dX5_slot_33 : decode cX5_slot 33 = .ok (.iadd, 1) := by decide +kernel
theorem dX5_slot_34 : decode cX5_slot 34 = .ok (.iaload, 1) := by decide +kernel
theorem dX5_slot_35 : decode cX5_slot 35 = .ok (.ifCond .ne 6, 3) := by decide +kernel
theorem dX5_slot_38 : decode cX5_slot 38 = .ok (.bipush (-9), 2) := by decide +kernel
theorem dX5_slot_40 : decode cX5_slot 40 = .ok (.ireturn, 1) := by decide +kernel
theorem dX5_slot_41 : decode cX5_slot 41 = .ok (.iload_n 3, 1) := by decide +kernel
theorem dX5_slot_42 : decode cX5_slot 42 = .ok (.tableswitch 85 0 4 #[34, 45, 56, 67, 74], 34) := by decide +kernel
theorem dX5_slot_76 : decode cX5_slot 76 = .ok (.aload_n 0, 1) := by decide +kernel
theorem dX5_slot_77 : decode cX5_slot 77 = .ok (.getfield 7, 3) := by decide +kernel
theorem dX5_slot_80 : decode cX5_slot 80 = .ok (.iload 4, 2) := by decide +kernel
theorem dX5_slot_82 : decode cX5_slot 82 = .ok (.bipush 10, 2) := by decide +kernel
theorem dX5_slot_84 : decode cX5_slot 84 = .ok (.iadd, 1) := by decide +kernel
theorem dX5_slot_85 : decode cX5_slot 85 = .ok (.iaload, 1) := by decide +kernel
theorem dX5_slot_86 : decode cX5_slot 86 = .ok (.ireturn, 1) := by decide +kernel
theorem dX5_slot_87 : decode cX5_slot 87 = .ok (.aload_n 0, 1) := by decide +kernel
theorem dX5_slot_88 : decode cX5_slot 88 = .ok (.getfield 7, 3) := by decide +kernel
theorem dX5_slot_91 : decode cX5_slot 91 = .ok (.iload 4, 2) := by decide +kernel
theorem dX5_slot_93 : decode cX5_slot 93 = .ok (.bipush 11, 2) := by decide +kernel
theorem dX5_slot_95 : decode cX5_slot 95 = .ok (.iadd, 1) := by decide +kernel
theorem dX5_slot_96 : decode cX5_slot 96 = .ok (.iaload, 1) := by decide +kernel
theorem dX5_slot_97 : decode cX5_slot 97 = .ok (.ireturn, 1) := by decide +kernel
theorem dX5_slot_98 : decode cX5_slot 98 = .ok (.aload_n 0, 1) := by decide +kernel
theorem dX5_slot_99 : decode cX5_slot 99 = .ok (.getfield 7, 3) := by decide +kernel
theorem dX5_slot_102 : decode cX5_slot 102 = .ok (.iload 4, 2) := by decide +kernel
theorem dX5_slot_104 : decode cX5_slot 104 = .ok (.bipush 12, 2) := by decide +kernel
theorem dX5_slot_106 : decode cX5_slot 106 = .ok (.iadd, 1) := by decide +kernel
theorem dX5_slot_107 : decode cX5_slot 107 = .ok (.iaload, 1) := by decide +kernel
theorem dX5_slot_108 : decode cX5_slot 108 = .ok (.ireturn, 1) := by decide +kernel
theorem dX5_slot_109 : decode cX5_slot 109 = .ok (.aload_n 0, 1) := by decide +kernel
theorem dX5_slot_110 : decode cX5_slot 110 = .ok (.iload 4, 2) := by decide +kernel
theorem dX5_slot_112 : decode cX5_slot 112 = .ok (.invokevirtual 120, 3) := by decide +kernel
theorem dX5_slot_115 : decode cX5_slot 115 = .ok (.ireturn, 1) := by decide +kernel
theorem dX5_slot_116 : decode cX5_slot 116 = .ok (.aload_n 0, 1) := by decide +kernel
theorem dX5_slot_117 : decode cX5_slot 117 = .ok (.getfield 7, 3) := by decide +kernel
theorem dX5_slot_120 : decode cX5_slot 120 = .ok (.iload 4, 2) := by decide +kernel
theorem dX5_slot_122 : decode cX5_slot 122 = .ok (.bipush 9, 2) := by decide +kernel
theorem dX5_slot_124 : decode cX5_slot 124 = .ok (.iadd, 1) := by decide +kernel
theorem dX5_slot_125 : decode cX5_slot 125 = .ok (.iaload, 1) := by decide +kernel
theorem dX5_slot_126 : decode cX5_slot 126 = .ok (.ireturn, 1) := by decide +kernel
theorem dX5_slot_127 : decode cX5_slot 127 = .ok (.aload_n 0, 1) := by decide +kernel
theorem dX5_slot_128 : decode cX5_slot 128 = .ok (.getfield 7, 3) := by decide +kernel
theorem dX5_slot_131 : decode cX5_slot 131 = .ok (.iload 4, 2) := by decide +kernel
theorem dX5_slot_133 : decode cX5_slot 133 = .ok (.bipush 13, 2) := by decide +kernel
theorem dX5_slot_135 : decode cX5_slot 135 = .ok (.iadd, 1) := by decide +kernel
theorem dX5_slot_136 : decode cX5_slot 136 = .ok (.iaload, 1) := by decide +kernel
theorem dX5_slot_137 : decode cX5_slot 137 = .ok (.ireturn, 1) := by decide +kernel
theorem dX5_unit_0 : decode cX5_unit 0 = .ok (.iload_n 1, 1) := by decide +kernel
theorem dX5_unit_1 : decode cX5_unit 1 = .ok (.iload_n 2, 1) := by decide +kernel
theorem dX5_unit_2 : decode cX5_unit 2 = .ok (.invokestatic 147, 3) := by decide +kernel
theorem dX5_unit_5 : decode cX5_unit 5 = .ok (.ifCond .eq 17, 3) := by decide +kernel
theorem dX5_unit_8 : decode cX5_unit 8 = .ok (.iload_n 3, 1) := by decide +kernel
theorem dX5_unit_9 : decode cX5_unit 9 = .ok (.ifCond .lt 13, 3) := by decide +kernel
theorem dX5_unit_12 : decode cX5_unit 12 = .ok (.iload 4, 2) := by decide +kernel
theorem dX5_unit_14 : decode cX5_unit 14 = .ok (.iconst 0, 1) := by decide +kernel
theorem dX5_unit_15 : decode cX5_unit 15 = .ok (.iconst 1, 1) := by decide +kernel
theorem dX5_unit_16 : decode cX5_unit 16 = .ok (.invokestatic 38, 3) := by decide +kernel
theorem dX5_unit_19 : decode cX5_unit 19 = .ok (.ifCond .ne 5, 3) := by decide +kernel
theorem dX5_unit_22 : decode cX5_unit 22 = .ok (.iconst (-1), 1) := by decide +kernel
theorem dX5_unit_23 : decode cX5_unit 23 = .ok (.ireturn, 1) := by decide +kernel
theorem dX5_unit_24 : decode cX5_unit 24 = .ok (.iload_n 1, 1) := by decide +kernel
theorem dX5_unit_25 : decode cX5_unit 25 = .ok (.iload_n 2, 1) := by decide +kernel
theorem dX5_unit_26 : decode cX5_unit 26 = .ok (.invokestatic 79, 3) := by decide +kernel
theorem dX5_unit_29 : decode cX5_unit 29 = .ok (.istore 5, 2) := by decide +kernel
theorem dX5_unit_31 : decode cX5_unit 31 = .ok (.aload_n 0, 1) := by decide +kernel
theorem dX5_unit_32 : decode cX5_unit 32 = .ok (.getfield 7, 3) := by decide +kernel
theorem dX5_unit_35 : decode cX5_unit 35 = .ok (.iload 5, 2) := by decide +kernel
theorem dX5_unit_37 : decode cX5_unit 37 = .ok (.iconst 0, 1) := by decide +kernel
theorem dX5_unit_38 : decode cX5_unit 38 = .ok (.iadd, 1) := by decide +kernel
theorem dX5_unit_39 : decode cX5_unit 39 = .ok (.iaload, 1) := by decide +kernel
theorem dX5_unit_40 : decode cX5_unit 40 = .ok (.ifCond .eq 13, 3) := by decide +kernel
theorem dX5_unit_43 : decode cX5_unit 43 = .ok (.iload_n 3, 1) := by decide +kernel
theorem dX5_unit_44 : decode cX5_unit 44 = .ok (.aload_n 0, 1) := by decide +kernel
theorem dX5_unit_45 : decode cX5_unit 45 = .ok (.iload 5, 2) := by decide +kernel
theorem dX5_unit_47 : decode cX5_unit 47 = .ok (.invokevirtual 120, 3) := by decide +kernel
theorem dX5_unit_50 : decode cX5_unit 50 = .ok (.if_icmp .lt 8, 3) := by decide +kernel
theorem dX5_unit_53 : decode cX5_unit 53 = .ok (.bipush (-9), 2) := by decide +kernel
theorem dX5_unit_55 : decode cX5_unit 55 = .ok (.goto 12, 3) := by decide +kernel
theorem dX5_unit_58 : decode cX5_unit 58 = .ok (.aload_n 0, 1) := by decide +kernel
theorem dX5_unit_59 : decode cX5_unit 59 = .ok (.iload 5, 2) := by decide +kernel
theorem dX5_unit_61 : decode cX5_unit 61 = .ok (.iload_n 3, 1) := by decide +kernel
theorem dX5_unit_62 : decode cX5_unit 62 = .ok (.iload 4, 2) := by decide +kernel
theorem dX5_unit_64 : decode cX5_unit 64 = .ok (.invokevirtual 123, 3) := by decide +kernel
theorem dX5_unit_67 : decode cX5_unit 67 = .ok (.ireturn, 1) := by decide +kernel
theorem dX5_waiting_0 : decode cX5_waiting 0 = .ok (.iload_n 1, 1) := by decide +kernel
theorem dX5_waiting_1 : decode cX5_waiting 1 = .ok (.ifCond .ge 5, 3) := by decide +kernel
theorem dX5_waiting_4 : decode cX5_waiting 4 = .ok (.iconst (-1), 1) := by decide +kernel
theorem dX5_waiting_5 : decode cX5_waiting 5 = .ok (.ireturn, 1) := by decide +kernel
theorem dX5_waiting_6 : decode cX5_waiting 6 = .ok (.iload_n 1, 1) := by decide +kernel
theorem dX5_waiting_7 : decode cX5_waiting 7 = .ok (.aload_n 0, 1) := by decide +kernel
theorem dX5_waiting_8 : decode cX5_waiting 8 = .ok (.getfield 7, 3) := by decide +kernel
theorem dX5_waiting_11 : decode cX5_waiting 11 = .ok (.sipush 428, 3) := by decide +kernel
theorem dX5_waiting_14 : decode cX5_waiting 14 = .ok (.iaload, 1) := by decide +kernel
theorem dX5_waiting_15 : decode cX5_waiting 15 = .ok (.if_icmp .ge 36, 3) := by decide +kernel
theorem dX5_waiting_18 : decode cX5_waiting 18 = .ok (.bipush 8, 2) := by decide +kernel
theorem dX5_waiting_20 : decode cX5_waiting 20 = .ok (.aload_n 0, 1) := by decide +kernel
theorem dX5_waiting_21 : decode cX5_waiting 21 = .ok (.getfield 7, 3) := by decide +kernel
theorem dX5_waiting_24 : decode cX5_waiting 24 = .ok (.sipush 429, 3) := by decide +kernel
theorem dX5_waiting_27 : decode cX5_waiting 27 = .ok (.iload_n 1, 1) := by decide +kernel
theorem dX5_waiting_28 : decode cX5_waiting 28 = .ok (.iadd, 1) := by decide +kernel
theorem dX5_waiting_29 : decode cX5_waiting 29 = .ok (.iaload, 1) := by decide +kernel
theorem dX5_waiting_30 : decode cX5_waiting 30 = .ok (.bipush 6, 2) := by decide +kernel
theorem dX5_waiting_32 : decode cX5_waiting 32 = .ok (.idiv, 1) := by decide +kernel
theorem dX5_waiting_33 : decode cX5_waiting 33 = .ok (.imul, 1) := by decide +kernel
theorem dX5_waiting_34 : decode cX5_waiting 34 = .ok (.aload_n 0, 1) := by decide +kernel
theorem dX5_waiting_35 : decode cX5_waiting 35 = .ok (.getfield 7, 3) := by decide +kernel
theorem dX5_waiting_38 : decode cX5_waiting 38 = .ok (.sipush 429, 3) := by decide +kernel
theorem dX5_waiting_41 : decode cX5_waiting 41 = .ok (.iload_n 1, 1) := by decide +kernel
theorem dX5_waiting_42 : decode cX5_waiting 42 = .ok (.iadd, 1) := by decide +kernel
theorem dX5_waiting_43 : decode cX5_waiting 43 = .ok (.iaload, 1) := by decide +kernel
theorem dX5_waiting_44 : decode cX5_waiting 44 = .ok (.bipush 6, 2) := by decide +kernel
theorem dX5_waiting_46 : decode cX5_waiting 46 = .ok (.irem, 1) := by decide +kernel
theorem dX5_waiting_47 : decode cX5_waiting 47 = .ok (.iadd, 1) := by decide +kernel
theorem dX5_waiting_48 : decode cX5_waiting 48 = .ok (.goto 5, 3) := by decide +kernel
theorem dX5_waiting_51 : decode cX5_waiting 51 = .ok (.bipush (-9), 2) := by decide +kernel
theorem dX5_waiting_53 : decode cX5_waiting 53 = .ok (.ireturn, 1) := by decide +kernel
theorem dX5_writesOf_0 : decode cX5_writesOf 0 = .ok (.lconst 0, 1) := by decide +kernel
theorem dX5_writesOf_1 : decode cX5_writesOf 1 = .ok (.lstore_n 2, 1) := by decide +kernel
theorem dX5_writesOf_2 : decode cX5_writesOf 2 = .ok (.iconst 0, 1) := by decide +kernel
theorem dX5_writesOf_3 : decode cX5_writesOf 3 = .ok (.istore 4, 2) := by decide +kernel
theorem dX5_writesOf_5 : decode cX5_writesOf 5 = .ok (.iload 4, 2) := by decide +kernel
theorem dX5_writesOf_7 : decode cX5_writesOf 7 = .ok (.aload_n 0, 1) := by decide +kernel
theorem dX5_writesOf_8 : decode cX5_writesOf 8 = .ok (.iload_n 1, 1) := by decide +kernel
theorem dX5_writesOf_9 : decode cX5_writesOf 9 = .ok (.invokevirtual 120, 3) := by decide +kernel
theorem dX5_writesOf_12 : decode cX5_writesOf 12 = .ok (.if_icmp .ge 22, 3) := by decide +kernel
theorem dX5_writesOf_15 : decode cX5_writesOf 15 = .ok (.lload_n 2, 1) := by decide +kernel
theorem dX5_writesOf_16 : decode cX5_writesOf 16 = .ok (.lconst 1, 1) := by decide +kernel
theorem dX5_writesOf_17 : decode cX5_writesOf 17 = .ok (.aload_n 0, 1) := by decide +kernel
theorem dX5_writesOf_18 : decode cX5_writesOf 18 = .ok (.iload_n 1, 1) := by decide +kernel
theorem dX5_writesOf_19 : decode cX5_writesOf 19 = .ok (.iload 4, 2) := by decide +kernel
theorem dX5_writesOf_21 : decode cX5_writesOf 21 = .ok (.iconst 1, 1) := by decide +kernel
theorem dX5_writesOf_22 : decode cX5_writesOf 22 = .ok (.invokevirtual 123, 3) := by decide +kernel
theorem dX5_writesOf_25 : decode cX5_writesOf 25 = .ok (.lshl, 1) := by decide +kernel
theorem dX5_writesOf_26 : decode cX5_writesOf 26 = .ok (.lor, 1) := by decide +kernel
theorem dX5_writesOf_27 : decode cX5_writesOf 27 = .ok (.lstore_n 2, 1) := by decide +kernel
theorem dX5_writesOf_28 : decode cX5_writesOf 28 = .ok (.iinc 4 1, 3) := by decide +kernel
theorem dX5_writesOf_31 : decode cX5_writesOf 31 = .ok (.goto (-26), 3) := by decide +kernel
theorem dX5_writesOf_34 : decode cX5_writesOf 34 = .ok (.lload_n 2, 1) := by decide +kernel
theorem dX5_writesOf_35 : decode cX5_writesOf 35 = .ok (.lreturn, 1) := by decide +kernel
theorem dX5_both_0 : decode cX5_both 0 = .ok (.iload_n 1, 1) := by decide +kernel
theorem dX5_both_1 : decode cX5_both 1 = .ok (.iload_n 2, 1) := by decide +kernel
theorem dX5_both_2 : decode cX5_both 2 = .ok (.invokestatic 147, 3) := by decide +kernel
theorem dX5_both_5 : decode cX5_both 5 = .ok (.ifCond .eq 12, 3) := by decide +kernel
theorem dX5_both_8 : decode cX5_both 8 = .ok (.iload_n 3, 1) := by decide +kernel
theorem dX5_both_9 : decode cX5_both 9 = .ok (.iload 4, 2) := by decide +kernel
theorem dX5_both_11 : decode cX5_both 11 = .ok (.invokestatic 147, 3) := by decide +kernel
theorem dX5_both_14 : decode cX5_both 14 = .ok (.ifCond .ne 5, 3) := by decide +kernel
theorem dX5_both_17 : decode cX5_both 17 = .ok (.iconst (-1), 1) := by decide +kernel
theorem dX5_both_18 : decode cX5_both 18 = .ok (.ireturn, 1) := by decide +kernel
theorem dX5_both_19 : decode cX5_both 19 = .ok (.iload_n 1, 1) := by decide +kernel
theorem dX5_both_20 : decode cX5_both 20 = .ok (.iload_n 2, 1) := by decide +kernel
theorem dX5_both_21 : decode cX5_both 21 = .ok (.invokestatic 79, 3) := by decide +kernel
theorem dX5_both_24 : decode cX5_both 24 = .ok (.istore 5, 2) := by decide +kernel
theorem dX5_both_26 : decode cX5_both 26 = .ok (.iload_n 3, 1) := by decide +kernel
theorem dX5_both_27 : decode cX5_both 27 = .ok (.iload 4, 2) := by decide +kernel
theorem dX5_both_29 : decode cX5_both 29 = .ok (.invokestatic 79, 3) := by decide +kernel
theorem dX5_both_32 : decode cX5_both 32 = .ok (.istore 6, 2) := by decide +kernel
theorem dX5_both_34 : decode cX5_both 34 = .ok (.aload_n 0, 1) := by decide +kernel
theorem dX5_both_35 : decode cX5_both 35 = .ok (.getfield 7, 3) := by decide +kernel
theorem dX5_both_38 : decode cX5_both 38 = .ok (.iload 5, 2) := by decide +kernel
theorem dX5_both_40 : decode cX5_both 40 = .ok (.iconst 0, 1) := by decide +kernel
theorem dX5_both_41 : decode cX5_both 41 = .ok (.iadd, 1) := by decide +kernel
theorem dX5_both_42 : decode cX5_both 42 = .ok (.iaload, 1) := by decide +kernel
theorem dX5_both_43 : decode cX5_both 43 = .ok (.ifCond .eq 15, 3) := by decide +kernel
theorem dX5_both_46 : decode cX5_both 46 = .ok (.aload_n 0, 1) := by decide +kernel
theorem dX5_both_47 : decode cX5_both 47 = .ok (.getfield 7, 3) := by decide +kernel
theorem dX5_both_50 : decode cX5_both 50 = .ok (.iload 6, 2) := by decide +kernel
theorem dX5_both_52 : decode cX5_both 52 = .ok (.iconst 0, 1) := by decide +kernel
theorem dX5_both_53 : decode cX5_both 53 = .ok (.iadd, 1) := by decide +kernel
theorem dX5_both_54 : decode cX5_both 54 = .ok (.iaload, 1) := by decide +kernel
theorem dX5_both_55 : decode cX5_both 55 = .ok (.ifCond .ne 6, 3) := by decide +kernel
theorem dX5_both_58 : decode cX5_both 58 = .ok (.bipush (-9), 2) := by decide +kernel
theorem dX5_both_60 : decode cX5_both 60 = .ok (.ireturn, 1) := by decide +kernel
theorem dX5_both_61 : decode cX5_both 61 = .ok (.aload_n 0, 1) := by decide +kernel
theorem dX5_both_62 : decode cX5_both 62 = .ok (.iload 5, 2) := by decide +kernel
theorem dX5_both_64 : decode cX5_both 64 = .ok (.invokevirtual 151, 3) := by decide +kernel
theorem dX5_both_67 : decode cX5_both 67 = .ok (.aload_n 0, 1) := by decide +kernel
theorem dX5_both_68 : decode cX5_both 68 = .ok (.iload 6, 2) := by decide +kernel
theorem dX5_both_70 : decode cX5_both 70 = .ok (.invokevirtual 151, 3) := by decide +kernel
theorem dX5_both_73 : decode cX5_both 73 = .ok (.land, 1) := by decide +kernel
theorem dX5_both_74 : decode cX5_both 74 = .ok (.lstore 7, 2) := by decide +kernel
theorem dX5_both_76 : decode cX5_both 76 = .ok (.iconst 0, 1) := by decide +kernel
theorem dX5_both_77 : decode cX5_both 77 = .ok (.istore 9, 2) := by decide +kernel
theorem dX5_both_79 : decode cX5_both 79 = .ok (.iconst 0, 1) := by decide +kernel
theorem dX5_both_80 : decode cX5_both 80 = .ok (.istore 10, 2) := by decide +kernel
theorem dX5_both_82 : decode cX5_both 82 = .ok (.iload 10, 2) := by decide +kernel
theorem dX5_both_84 : decode cX5_both 84 = .ok (.bipush 64, 2) := by decide +kernel
theorem dX5_both_86 : decode cX5_both 86 = .ok (.if_icmp .ge 22, 3) := by decide +kernel
theorem dX5_both_89 : decode cX5_both 89 = .ok (.iload 9, 2) := by decide +kernel
theorem dX5_both_91 : decode cX5_both 91 = .ok (.lload 7, 2) := by decide +kernel
theorem dX5_both_93 : decode cX5_both 93 = .ok (.iload 10, 2) := by decide +kernel
theorem dX5_both_95 : decode cX5_both 95 = .ok (.lshr, 1) := by decide +kernel
theorem dX5_both_96 : decode cX5_both 96 = .ok (.lconst 1, 1) := by decide +kernel
theorem dX5_both_97 : decode cX5_both 97 = .ok (.land, 1) := by decide +kernel
theorem dX5_both_98 : decode cX5_both 98 = .ok (.l2i, 1) := by decide +kernel
theorem dX5_both_99 : decode cX5_both 99 = .ok (.iadd, 1) := by decide +kernel
theorem dX5_both_100 : decode cX5_both 100 = .ok (.istore 9, 2) := by decide +kernel
theorem dX5_both_102 : decode cX5_both 102 = .ok (.iinc 10 1, 3) := by decide +kernel
theorem dX5_both_105 : decode cX5_both 105 = .ok (.goto (-23), 3) := by decide +kernel
theorem dX5_both_108 : decode cX5_both 108 = .ok (.iload 9, 2) := by decide +kernel
theorem dX5_both_110 : decode cX5_both 110 = .ok (.ireturn, 1) := by decide +kernel
theorem dX5_hasEngines_0 : decode cX5_hasEngines 0 = .ok (.iconst 0, 1) := by decide +kernel
theorem dX5_hasEngines_1 : decode cX5_hasEngines 1 = .ok (.istore_n 2, 1) := by decide +kernel
theorem dX5_hasEngines_2 : decode cX5_hasEngines 2 = .ok (.iconst 0, 1) := by decide +kernel
theorem dX5_hasEngines_3 : decode cX5_hasEngines 3 = .ok (.istore_n 3, 1) := by decide +kernel
theorem dX5_hasEngines_4 : decode cX5_hasEngines 4 = .ok (.iload_n 3, 1) := by decide +kernel
theorem dX5_hasEngines_5 : decode cX5_hasEngines 5 = .ok (.bipush 6, 2) := by decide +kernel
theorem dX5_hasEngines_7 : decode cX5_hasEngines 7 = .ok (.if_icmp .ge 31, 3) := by decide +kernel
theorem dX5_hasEngines_10 : decode cX5_hasEngines 10 = .ok (.iload_n 2, 1) := by decide +kernel
theorem dX5_hasEngines_11 : decode cX5_hasEngines 11 = .ok (.ifCond .ne 15, 3) := by decide +kernel
theorem dX5_hasEngines_14 : decode cX5_hasEngines 14 = .ok (.aload_n 0, 1) := by decide +kernel
theorem dX5_hasEngines_15 : decode cX5_hasEngines 15 = .ok (.iload_n 1, 1) := by decide +kernel
theorem dX5_hasEngines_16 : decode cX5_hasEngines 16 = .ok (.iload_n 3, 1) := by decide +kernel
theorem dX5_hasEngines_17 : decode cX5_hasEngines 17 = .ok (.invokestatic 79, 3) := by decide +kernel
theorem dX5_hasEngines_20 : decode cX5_hasEngines 20 = .ok (.invokevirtual 83, 3) := by decide +kernel
theorem dX5_hasEngines_23 : decode cX5_hasEngines 23 = .ok (.ifCond .eq 7, 3) := by decide +kernel
theorem dX5_hasEngines_26 : decode cX5_hasEngines 26 = .ok (.iconst 1, 1) := by decide +kernel
theorem dX5_hasEngines_27 : decode cX5_hasEngines 27 = .ok (.goto 4, 3) := by decide +kernel
theorem dX5_hasEngines_30 : decode cX5_hasEngines 30 = .ok (.iconst 0, 1) := by decide +kernel
theorem dX5_hasEngines_31 : decode cX5_hasEngines 31 = .ok (.istore_n 2, 1) := by decide +kernel
theorem dX5_hasEngines_32 : decode cX5_hasEngines 32 = .ok (.iinc 3 1, 3) := by decide +kernel
theorem dX5_hasEngines_35 : decode cX5_hasEngines 35 = .ok (.goto (-31), 3) := by decide +kernel
theorem dX5_hasEngines_38 : decode cX5_hasEngines 38 = .ok (.iload_n 2, 1) := by decide +kernel
theorem dX5_hasEngines_39 : decode cX5_hasEngines 39 = .ok (.ireturn, 1) := by decide +kernel
theorem dX5_overOf_0 : decode cX5_overOf 0 = .ok (.iconst 0, 1) := by decide +kernel
theorem dX5_overOf_1 : decode cX5_overOf 1 = .ok (.istore_n 2, 1) := by decide +kernel
theorem dX5_overOf_2 : decode cX5_overOf 2 = .ok (.iload_n 2, 1) := by decide +kernel
theorem dX5_overOf_3 : decode cX5_overOf 3 = .ok (.sipush 200, 3) := by decide +kernel
theorem dX5_overOf_6 : decode cX5_overOf 6 = .ok (.if_icmp .gt 22, 3) := by decide +kernel
theorem dX5_overOf_9 : decode cX5_overOf 9 = .ok (.aload_n 0, 1) := by decide +kernel
theorem dX5_overOf_10 : decode cX5_overOf 10 = .ok (.iload_n 1, 1) := by decide +kernel
theorem dX5_overOf_11 : decode cX5_overOf 11 = .ok (.invokevirtual 155, 3) := by decide +kernel
theorem dX5_overOf_14 : decode cX5_overOf 14 = .ok (.ifCond .eq 14, 3) := by decide +kernel
theorem dX5_overOf_17 : decode cX5_overOf 17 = .ok (.aload_n 0, 1) := by decide +kernel
theorem dX5_overOf_18 : decode cX5_overOf 18 = .ok (.invokevirtual 137, 3) := by decide +kernel
theorem dX5_overOf_21 : decode cX5_overOf 21 = .ok (.pop, 1) := by decide +kernel
theorem dX5_overOf_22 : decode cX5_overOf 22 = .ok (.iinc 2 1, 3) := by decide +kernel
theorem dX5_overOf_25 : decode cX5_overOf 25 = .ok (.goto (-23), 3) := by decide +kernel
theorem dX5_overOf_28 : decode cX5_overOf 28 = .ok (.iload_n 2, 1) := by decide +kernel
theorem dX5_overOf_29 : decode cX5_overOf 29 = .ok (.sipush 200, 3) := by decide +kernel
theorem dX5_overOf_32 : decode cX5_overOf 32 = .ok (.if_icmp .le 8, 3) := by decide +kernel
theorem dX5_overOf_35 : decode cX5_overOf 35 = .ok (.bipush (-9), 2) := by decide +kernel
theorem dX5_overOf_37 : decode cX5_overOf 37 = .ok (.goto 4, 3) := by decide +kernel
theorem dX5_overOf_40 : decode cX5_overOf 40 = .ok (.iload_n 2, 1) := by decide +kernel
theorem dX5_overOf_41 : decode cX5_overOf 41 = .ok (.ireturn, 1) := by decide +kernel
theorem dX5_over_0 : decode cX5_over 0 = .ok (.iload_n 1, 1) := by decide +kernel
theorem dX5_over_1 : decode cX5_over 1 = .ok (.invokestatic 141, 3) := by decide +kernel
theorem dX5_over_4 : decode cX5_over 4 = .ok (.ifCond .ne 5, 3) := by decide +kernel
theorem dX5_over_7 : decode cX5_over 7 = .ok (.iconst (-1), 1) := by decide +kernel
theorem dX5_over_8 : decode cX5_over 8 = .ok (.ireturn, 1) := by decide +kernel
theorem dX5_over_9 : decode cX5_over 9 = .ok (.aload_n 0, 1) := by decide +kernel
theorem dX5_over_10 : decode cX5_over 10 = .ok (.invokevirtual 105, 3) := by decide +kernel
theorem dX5_over_13 : decode cX5_over 13 = .ok (.aload_n 0, 1) := by decide +kernel
theorem dX5_over_14 : decode cX5_over 14 = .ok (.iload_n 1, 1) := by decide +kernel
theorem dX5_over_15 : decode cX5_over 15 = .ok (.invokevirtual 158, 3) := by decide +kernel
theorem dX5_over_18 : decode cX5_over 18 = .ok (.istore_n 2, 1) := by decide +kernel
theorem dX5_over_19 : decode cX5_over 19 = .ok (.aload_n 0, 1) := by decide +kernel
theorem dX5_over_20 : decode cX5_over 20 = .ok (.invokevirtual 108, 3) := by decide +kernel
theorem dX5_over_23 : decode cX5_over 23 = .ok (.iload_n 2, 1) := by decide +kernel
theorem dX5_over_24 : decode cX5_over 24 = .ok (.ireturn, 1) := by decide +kernel
theorem dX5_lands_0 : decode cX5_lands 0 = .ok (.iload_n 1, 1) := by decide +kernel
theorem dX5_lands_1 : decode cX5_lands 1 = .ok (.iconst 0, 1) := by decide +kernel
theorem dX5_lands_2 : decode cX5_lands 2 = .ok (.bipush 63, 2) := by decide +kernel
theorem dX5_lands_4 : decode cX5_lands 4 = .ok (.invokestatic 38, 3) := by decide +kernel
theorem dX5_lands_7 : decode cX5_lands 7 = .ok (.ifCond .ne 5, 3) := by decide +kernel
theorem dX5_lands_10 : decode cX5_lands 10 = .ok (.iconst (-1), 1) := by decide +kernel
theorem dX5_lands_11 : decode cX5_lands 11 = .ok (.ireturn, 1) := by decide +kernel
theorem dX5_lands_12 : decode cX5_lands 12 = .ok (.iconst 0, 1) := by decide +kernel
theorem dX5_lands_13 : decode cX5_lands 13 = .ok (.istore_n 2, 1) := by decide +kernel
theorem dX5_lands_14 : decode cX5_lands 14 = .ok (.iconst 0, 1) := by decide +kernel
theorem dX5_lands_15 : decode cX5_lands 15 = .ok (.istore_n 3, 1) := by decide +kernel
theorem dX5_lands_16 : decode cX5_lands 16 = .ok (.iload_n 3, 1) := by decide +kernel
theorem dX5_lands_17 : decode cX5_lands 17 = .ok (.bipush 24, 2) := by decide +kernel
theorem dX5_lands_19 : decode cX5_lands 19 = .ok (.if_icmp .ge 97, 3) := by decide +kernel
theorem dX5_lands_22 : decode cX5_lands 22 = .ok (.bipush 92, 2) := by decide +kernel
theorem dX5_lands_24 : decode cX5_lands 24 = .ok (.bipush 14, 2) := by decide +kernel
theorem dX5_lands_26 : decode cX5_lands 26 = .ok (.iload_n 3, 1) := by decide +kernel
theorem dX5_lands_27 : decode cX5_lands 27 = .ok (.imul, 1) := by decide +kernel
theorem dX5_lands_28 : decode cX5_lands 28 = .ok (.iadd, 1) := by decide +kernel
theorem dX5_lands_29 : decode cX5_lands 29 = .ok (.istore 4, 2) := by decide +kernel
theorem dX5_lands_31 : decode cX5_lands 31 = .ok (.aload_n 0, 1) := by decide +kernel
theorem dX5_lands_32 : decode cX5_lands 32 = .ok (.iload 4, 2) := by decide +kernel
theorem dX5_lands_34 : decode cX5_lands 34 = .ok (.invokevirtual 83, 3) := by decide +kernel
theorem dX5_lands_37 : decode cX5_lands 37 = .ok (.ifCond .eq 73, 3) := by decide +kernel
theorem dX5_lands_40 : decode cX5_lands 40 = .ok (.aload_n 0, 1) := by decide +kernel
theorem dX5_lands_41 : decode cX5_lands 41 = .ok (.getfield 7, 3) := by decide +kernel
theorem dX5_lands_44 : decode cX5_lands 44 = .ok (.iload 4, 2) := by decide +kernel
theorem dX5_lands_46 : decode cX5_lands 46 = .ok (.bipush 13, 2) := by decide +kernel
theorem dX5_lands_48 : decode cX5_lands 48 = .ok (.iadd, 1) := by decide +kernel
theorem dX5_lands_49 : decode cX5_lands 49 = .ok (.iaload, 1) := by decide +kernel
theorem dX5_lands_50 : decode cX5_lands 50 = .ok (.ifCond .ne 60, 3) := by decide +kernel
theorem dX5_lands_53 : decode cX5_lands 53 = .ok (.aload_n 0, 1) := by decide +kernel
theorem dX5_lands_54 : decode cX5_lands 54 = .ok (.iload 4, 2) := by decide +kernel
theorem dX5_lands_56 : decode cX5_lands 56 = .ok (.invokevirtual 120, 3) := by decide +kernel
theorem dX5_lands_59 : decode cX5_lands 59 = .ok (.aload_n 0, 1) := by decide +kernel
theorem dX5_lands_60 : decode cX5_lands 60 = .ok (.getfield 7, 3) := by decide +kernel
theorem dX5_lands_63 : decode cX5_lands 63 = .ok (.iload 4, 2) := by decide +kernel
theorem dX5_lands_65 : decode cX5_lands 65 = .ok (.bipush 12, 2) := by decide +kernel
theorem dX5_lands_67 : decode cX5_lands 67 = .ok (.iadd, 1) := by decide +kernel
theorem dX5_lands_68 : decode cX5_lands 68 = .ok (.iaload, 1) := by decide +kernel
theorem dX5_lands_69 : decode cX5_lands 69 = .ok (.isub, 1) := by decide +kernel
theorem dX5_lands_70 : decode cX5_lands 70 = .ok (.istore 5, 2) := by decide +kernel
theorem dX5_lands_72 : decode cX5_lands 72 = .ok (.iload 5, 2) := by decide +kernel
theorem dX5_lands_74 : decode cX5_lands 74 = .ok (.aload_n 0, 1) := by decide +kernel
theorem dX5_lands_75 : decode cX5_lands 75 = .ok (.iload 4, 2) := by decide +kernel
theorem dX5_lands_77 : decode cX5_lands 77 = .ok (.invokevirtual 120, 3) := by decide +kernel
theorem dX5_lands_80 : decode cX5_lands 80 = .ok (.if_icmp .ge 30, 3) := by decide +kernel
theorem dX5_lands_83 : decode cX5_lands 83 = .ok (.iload_n 2, 1) := by decide +kernel
theorem dX5_lands_84 : decode cX5_lands 84 = .ok (.aload_n 0, 1) := by decide +kernel
theorem dX5_lands_85 : decode cX5_lands 85 = .ok (.iload 4, 2) := by decide +kernel
theorem dX5_lands_87 : decode cX5_lands 87 = .ok (.iload 5, 2) := by decide +kernel
theorem dX5_lands_89 : decode cX5_lands 89 = .ok (.iconst 1, 1) := by decide +kernel
theorem dX5_lands_90 : decode cX5_lands 90 = .ok (.invokevirtual 123, 3) := by decide +kernel
theorem dX5_lands_93 : decode cX5_lands 93 = .ok (.iload_n 1, 1) := by decide +kernel
theorem dX5_lands_94 : decode cX5_lands 94 = .ok (.if_icmp .ne 7, 3) := by decide +kernel
theorem dX5_lands_97 : decode cX5_lands 97 = .ok (.iconst 1, 1) := by decide +kernel
theorem dX5_lands_98 : decode cX5_lands 98 = .ok (.goto 4, 3) := by decide +kernel
theorem dX5_lands_101 : decode cX5_lands 101 = .ok (.iconst 0, 1) := by decide +kernel
theorem dX5_lands_102 : decode cX5_lands 102 = .ok (.iadd, 1) := by decide +kernel
theorem dX5_lands_103 : decode cX5_lands 103 = .ok (.istore_n 2, 1) := by decide +kernel
theorem dX5_lands_104 : decode cX5_lands 104 = .ok (.iinc 5 1, 3) := by decide +kernel
theorem dX5_lands_107 : decode cX5_lands 107 = .ok (.goto (-35), 3) := by decide +kernel
theorem dX5_lands_110 : decode cX5_lands 110 = .ok (.iinc 3 1, 3) := by decide +kernel
theorem dX5_lands_113 : decode cX5_lands 113 = .ok (.goto (-97), 3) := by decide +kernel
theorem dX5_lands_116 : decode cX5_lands 116 = .ok (.iload_n 2, 1) := by decide +kernel
theorem dX5_lands_117 : decode cX5_lands 117 = .ok (.ireturn, 1) := by decide +kernel
theorem dX5_enough_0 : decode cX5_enough 0 = .ok (.iload_n 1, 1) := by decide +kernel
theorem dX5_enough_1 : decode cX5_enough 1 = .ok (.invokestatic 141, 3) := by decide +kernel
theorem dX5_enough_4 : decode cX5_enough 4 = .ok (.ifCond .eq 14, 3) := by decide +kernel
theorem dX5_enough_7 : decode cX5_enough 7 = .ok (.iload_n 2, 1) := by decide +kernel
theorem dX5_enough_8 : decode cX5_enough 8 = .ok (.iconst 0, 1) := by decide +kernel
theorem dX5_enough_9 : decode cX5_enough 9 = .ok (.sipush 200, 3) := by decide +kernel
theorem dX5_enough_12 : decode cX5_enough 12 = .ok (.invokestatic 38, 3) := by decide +kernel
theorem dX5_enough_15 : decode cX5_enough 15 = .ok (.ifCond .ne 5, 3) := by decide +kernel
theorem dX5_enough_18 : decode cX5_enough 18 = .ok (.iconst (-1), 1) := by decide +kernel
theorem dX5_enough_19 : decode cX5_enough 19 = .ok (.ireturn, 1) := by decide +kernel
theorem dX5_enough_20 : decode cX5_enough 20 = .ok (.aload_n 0, 1) := by decide +kernel
theorem dX5_enough_21 : decode cX5_enough 21 = .ok (.invokevirtual 105, 3) := by decide +kernel
theorem dX5_enough_24 : decode cX5_enough 24 = .ok (.bipush (-9), 2) := by decide +kernel
theorem dX5_enough_26 : decode cX5_enough 26 = .ok (.istore_n 3, 1) := by decide +kernel
theorem dX5_enough_27 : decode cX5_enough 27 = .ok (.bipush 8, 2) := by decide +kernel
theorem dX5_enough_29 : decode cX5_enough 29 = .ok (.istore 4, 2) := by decide +kernel
theorem dX5_enough_31 : decode cX5_enough 31 = .ok (.iload 4, 2) := by decide +kernel
theorem dX5_enough_33 : decode cX5_enough 33 = .ok (.iconst 1, 1) := by decide +kernel
theorem dX5_enough_34 : decode cX5_enough 34 = .ok (.if_icmp .lt 53, 3) := by decide +kernel
theorem dX5_enough_37 : decode cX5_enough 37 = .ok (.aload_n 0, 1) := by decide +kernel
theorem dX5_enough_38 : decode cX5_enough 38 = .ok (.getfield 7, 3) := by decide +kernel
theorem dX5_enough_41 : decode cX5_enough 41 = .ok (.iload_n 1, 1) := by decide +kernel
theorem dX5_enough_42 : decode cX5_enough 42 = .ok (.invokestatic 75, 3) := by decide +kernel
theorem dX5_enough_45 : decode cX5_enough 45 = .ok (.iconst 2, 1) := by decide +kernel
theorem dX5_enough_46 : decode cX5_enough 46 = .ok (.iadd, 1) := by decide +kernel
theorem dX5_enough_47 : decode cX5_enough 47 = .ok (.iload 4, 2) := by decide +kernel
theorem dX5_enough_49 : decode cX5_enough 49 = .ok (.iastore, 1) := by decide +kernel
theorem dX5_enough_50 : decode cX5_enough 50 = .ok (.aload_n 0, 1) := by decide +kernel
theorem dX5_enough_51 : decode cX5_enough 51 = .ok (.iload_n 1, 1) := by decide +kernel
theorem dX5_enough_52 : decode cX5_enough 52 = .ok (.invokevirtual 158, 3) := by decide +kernel
theorem dX5_enough_55 : decode cX5_enough 55 = .ok (.istore 5, 2) := by decide +kernel
theorem dX5_enough_57 : decode cX5_enough 57 = .ok (.iload 5, 2) := by decide +kernel
theorem dX5_enough_59 : decode cX5_enough 59 = .ok (.bipush (-9), 2) := by decide +kernel
theorem dX5_enough_61 : decode cX5_enough 61 = .ok (.if_icmp .eq 14, 3) := by decide +kernel
theorem dX5_enough_64 : decode cX5_enough 64 = .ok (.iload 5, 2) := by decide +kernel
theorem dX5_enough_66 : decode cX5_enough 66 = .ok (.iload_n 2, 1) := by decide +kernel
theorem dX5_enough_67 : decode cX5_enough 67 = .ok (.if_icmp .gt 8, 3) := by decide +kernel
theorem dX5_enough_70 : decode cX5_enough 70 = .ok (.iload 4, 2) := by decide +kernel
theorem dX5_enough_72 : decode cX5_enough 72 = .ok (.goto 4, 3) := by decide +kernel
theorem dX5_enough_75 : decode cX5_enough 75 = .ok (.iload_n 3, 1) := by decide +kernel
theorem dX5_enough_76 : decode cX5_enough 76 = .ok (.istore_n 3, 1) := by decide +kernel
theorem dX5_enough_77 : decode cX5_enough 77 = .ok (.aload_n 0, 1) := by decide +kernel
theorem dX5_enough_78 : decode cX5_enough 78 = .ok (.invokevirtual 108, 3) := by decide +kernel
theorem dX5_enough_81 : decode cX5_enough 81 = .ok (.iinc 4 (-1), 3) := by decide +kernel
theorem dX5_enough_84 : decode cX5_enough 84 = .ok (.goto (-53), 3) := by decide +kernel
theorem dX5_enough_87 : decode cX5_enough 87 = .ok (.iload_n 3, 1) := by decide +kernel
theorem dX5_enough_88 : decode cX5_enough 88 = .ok (.ireturn, 1) := by decide +kernel
theorem dX5_granted_0 : decode cX5_granted 0 = .ok (.iload_n 1, 1) := by decide +kernel
theorem dX5_granted_1 : decode cX5_granted 1 = .ok (.iconst 1, 1) := by decide +kernel
theorem dX5_granted_2 : decode cX5_granted 2 = .ok (.bipush 40, 2) := by decide +kernel
theorem dX5_granted_4 : decode cX5_granted 4 = .ok (.invokestatic 38, 3) := by decide +kernel
theorem dX5_granted_7 : decode cX5_granted 7 = .ok (.ifCond .ne 5, 3) := by decide +kernel
theorem dX5_granted_10 : decode cX5_granted 10 = .ok (.iconst (-1), 1) := by decide +kernel
theorem dX5_granted_11 : decode cX5_granted 11 = .ok (.ireturn, 1) := by decide +kernel
theorem dX5_granted_12 : decode cX5_granted 12 = .ok (.aload_n 0, 1) := by decide +kernel
theorem dX5_granted_13 : decode cX5_granted 13 = .ok (.invokevirtual 105, 3) := by decide +kernel
theorem dX5_granted_16 : decode cX5_granted 16 = .ok (.bipush (-9), 2) := by decide +kernel
theorem dX5_granted_18 : decode cX5_granted 18 = .ok (.istore_n 2, 1) := by decide +kernel
theorem dX5_granted_19 : decode cX5_granted 19 = .ok (.iconst 0, 1) := by decide +kernel
theorem dX5_granted_20 : decode cX5_granted 20 = .ok (.istore_n 3, 1) := by decide +kernel
theorem dX5_granted_21 : decode cX5_granted 21 = .ok (.iload_n 3, 1) := by decide +kernel
theorem dX5_granted_22 : decode cX5_granted 22 = .ok (.iload_n 1, 1) := by decide +kernel
theorem dX5_granted_23 : decode cX5_granted 23 = .ok (.if_icmp .ge 14, 3) := by decide +kernel
theorem dX5_granted_26 : decode cX5_granted 26 = .ok (.aload_n 0, 1) := by decide +kernel
theorem dX5_granted_27 : decode cX5_granted 27 = .ok (.invokevirtual 137, 3) := by decide +kernel
theorem dX5_granted_30 : decode cX5_granted 30 = .ok (.istore_n 2, 1) := by decide +kernel
theorem dX5_granted_31 : decode cX5_granted 31 = .ok (.iinc 3 1, 3) := by decide +kernel
theorem dX5_granted_34 : decode cX5_granted 34 = .ok (.goto (-13), 3) := by decide +kernel
theorem dX5_granted_37 : decode cX5_granted 37 = .ok (.aload_n 0, 1) := by decide +kernel
theorem dX5_granted_38 : decode cX5_granted 38 = .ok (.invokevirtual 108, 3) := by decide +kernel
theorem dX5_granted_41 : decode cX5_granted 41 = .ok (.iload_n 2, 1) := by decide +kernel
theorem dX5_granted_42 : decode cX5_granted 42 = .ok (.ireturn, 1) := by decide +kernel
theorem dX5_sees_0 : decode cX5_sees 0 = .ok (.iload_n 1, 1) := by decide +kernel
theorem dX5_sees_1 : decode cX5_sees 1 = .ok (.iconst 1, 1) := by decide +kernel
theorem dX5_sees_2 : decode cX5_sees 2 = .ok (.bipush 40, 2) := by decide +kernel
theorem dX5_sees_4 : decode cX5_sees 4 = .ok (.invokestatic 38, 3) := by decide +kernel
theorem dX5_sees_7 : decode cX5_sees 7 = .ok (.ifCond .eq 16, 3) := by decide +kernel
theorem dX5_sees_10 : decode cX5_sees 10 = .ok (.iload_n 2, 1) := by decide +kernel
theorem dX5_sees_11 : decode cX5_sees 11 = .ok (.invokestatic 141, 3) := by decide +kernel
theorem dX5_sees_14 : decode cX5_sees 14 = .ok (.ifCond .ne 11, 3) := by decide +kernel
theorem dX5_sees_17 : decode cX5_sees 17 = .ok (.iload_n 2, 1) := by decide +kernel
theorem dX5_sees_18 : decode cX5_sees 18 = .ok (.bipush (-9), 2) := by decide +kernel
theorem dX5_sees_20 : decode cX5_sees 20 = .ok (.if_icmp .eq 5, 3) := by decide +kernel
theorem dX5_sees_23 : decode cX5_sees 23 = .ok (.iconst (-1), 1) := by decide +kernel
theorem dX5_sees_24 : decode cX5_sees 24 = .ok (.ireturn, 1) := by decide +kernel
theorem dX5_sees_25 : decode cX5_sees 25 = .ok (.aload_n 0, 1) := by decide +kernel
theorem dX5_sees_26 : decode cX5_sees 26 = .ok (.getfield 161, 3) := by decide +kernel
theorem dX5_sees_29 : decode cX5_sees 29 = .ok (.bipush 6, 2) := by decide +kernel
theorem dX5_sees_31 : decode cX5_sees 31 = .ok (.if_icmp .ne 6, 3) := by decide +kernel
theorem dX5_sees_34 : decode cX5_sees 34 = .ok (.bipush (-3), 2) := by decide +kernel
theorem dX5_sees_36 : decode cX5_sees 36 = .ok (.ireturn, 1) := by decide +kernel
theorem dX5_sees_37 : decode cX5_sees 37 = .ok (.aload_n 0, 1) := by decide +kernel
theorem dX5_sees_38 : decode cX5_sees 38 = .ok (.getfield 26, 3) := by decide +kernel
theorem dX5_sees_41 : decode cX5_sees 41 = .ok (.aload_n 0, 1) := by decide +kernel
theorem dX5_sees_42 : decode cX5_sees 42 = .ok (.getfield 161, 3) := by decide +kernel
theorem dX5_sees_45 : decode cX5_sees 45 = .ok (.iload_n 1, 1) := by decide +kernel
theorem dX5_sees_46 : decode cX5_sees 46 = .ok (.iastore, 1) := by decide +kernel
theorem dX5_sees_47 : decode cX5_sees 47 = .ok (.aload_n 0, 1) := by decide +kernel
theorem dX5_sees_48 : decode cX5_sees 48 = .ok (.getfield 29, 3) := by decide +kernel
theorem dX5_sees_51 : decode cX5_sees 51 = .ok (.aload_n 0, 1) := by decide +kernel
theorem dX5_sees_52 : decode cX5_sees 52 = .ok (.getfield 161, 3) := by decide +kernel
theorem dX5_sees_55 : decode cX5_sees 55 = .ok (.iload_n 2, 1) := by decide +kernel
theorem dX5_sees_56 : decode cX5_sees 56 = .ok (.iastore, 1) := by decide +kernel
theorem dX5_sees_57 : decode cX5_sees 57 = .ok (.aload_n 0, 1) := by decide +kernel
theorem dX5_sees_58 : decode cX5_sees 58 = .ok (.dup, 1) := by decide +kernel
theorem dX5_sees_59 : decode cX5_sees 59 = .ok (.getfield 161, 3) := by decide +kernel
theorem dX5_sees_62 : decode cX5_sees 62 = .ok (.iconst 1, 1) := by decide +kernel
theorem dX5_sees_63 : decode cX5_sees 63 = .ok (.iadd, 1) := by decide +kernel
theorem dX5_sees_64 : decode cX5_sees 64 = .ok (.putfield 161, 3) := by decide +kernel
theorem dX5_sees_67 : decode cX5_sees 67 = .ok (.aload_n 0, 1) := by decide +kernel
theorem dX5_sees_68 : decode cX5_sees 68 = .ok (.getfield 161, 3) := by decide +kernel
theorem dX5_sees_71 : decode cX5_sees 71 = .ok (.ireturn, 1) := by decide +kernel
theorem dX5_forget_0 : decode cX5_forget 0 = .ok (.aload_n 0, 1) := by decide +kernel
theorem dX5_forget_1 : decode cX5_forget 1 = .ok (.getfield 161, 3) := by decide +kernel
theorem dX5_forget_4 : decode cX5_forget 4 = .ok (.istore_n 1, 1) := by decide +kernel
theorem dX5_forget_5 : decode cX5_forget 5 = .ok (.aload_n 0, 1) := by decide +kernel
theorem dX5_forget_6 : decode cX5_forget 6 = .ok (.iconst 0, 1) := by decide +kernel
theorem dX5_forget_7 : decode cX5_forget 7 = .ok (.putfield 161, 3) := by decide +kernel
theorem dX5_forget_10 : decode cX5_forget 10 = .ok (.iload_n 1, 1) := by decide +kernel
theorem dX5_forget_11 : decode cX5_forget 11 = .ok (.ireturn, 1) := by decide +kernel
theorem dX5_isSeen_0 : decode cX5_isSeen 0 = .ok (.iconst 1, 1) := by decide +kernel
theorem dX5_isSeen_1 : decode cX5_isSeen 1 = .ok (.istore_n 1, 1) := by decide +kernel
theorem dX5_isSeen_2 : decode cX5_isSeen 2 = .ok (.iconst 1, 1) := by decide +kernel
theorem dX5_isSeen_3 : decode cX5_isSeen 3 = .ok (.istore_n 2, 1) := by decide +kernel
theorem dX5_isSeen_4 : decode cX5_isSeen 4 = .ok (.iload_n 2, 1) := by decide +kernel
theorem dX5_isSeen_5 : decode cX5_isSeen 5 = .ok (.bipush 40, 2) := by decide +kernel
theorem dX5_isSeen_7 : decode cX5_isSeen 7 = .ok (.if_icmp .gt 68, 3) := by decide +kernel
theorem dX5_isSeen_10 : decode cX5_isSeen 10 = .ok (.iload_n 1, 1) := by decide +kernel
theorem dX5_isSeen_11 : decode cX5_isSeen 11 = .ok (.ifCond .eq 64, 3) := by decide +kernel
theorem dX5_isSeen_14 : decode cX5_isSeen 14 = .ok (.aload_n 0, 1) := by decide +kernel
theorem dX5_isSeen_15 : decode cX5_isSeen 15 = .ok (.invokevirtual 137, 3) := by decide +kernel
theorem dX5_isSeen_18 : decode cX5_isSeen 18 = .ok (.istore_n 3, 1) := by decide +kernel
theorem dX5_isSeen_19 : decode cX5_isSeen 19 = .ok (.iconst 0, 1) := by decide +kernel
theorem dX5_isSeen_20 : decode cX5_isSeen 20 = .ok (.istore 4, 2) := by decide +kernel
theorem dX5_isSeen_22 : decode cX5_isSeen 22 = .ok (.iload 4, 2) := by decide +kernel
theorem dX5_isSeen_24 : decode cX5_isSeen 24 = .ok (.aload_n 0, 1) := by decide +kernel
theorem dX5_isSeen_25 : decode cX5_isSeen 25 = .ok (.getfield 161, 3) := by decide +kernel
theorem dX5_isSeen_28 : decode cX5_isSeen 28 = .ok (.if_icmp .ge 41, 3) := by decide +kernel
theorem dX5_isSeen_31 : decode cX5_isSeen 31 = .ok (.iload_n 1, 1) := by decide +kernel
theorem dX5_isSeen_32 : decode cX5_isSeen 32 = .ok (.ifCond .eq 29, 3) := by decide +kernel
theorem dX5_isSeen_35 : decode cX5_isSeen 35 = .ok (.aload_n 0, 1) := by decide +kernel
theorem dX5_isSeen_36 : decode cX5_isSeen 36 = .ok (.getfield 26, 3) := by decide +kernel
theorem dX5_isSeen_39 : decode cX5_isSeen 39 = .ok (.iload 4, 2) := by decide +kernel
theorem dX5_isSeen_41 : decode cX5_isSeen 41 = .ok (.iaload, 1) := by decide +kernel
theorem dX5_isSeen_42 : decode cX5_isSeen 42 = .ok (.iload_n 2, 1) := by decide +kernel
theorem dX5_isSeen_43 : decode cX5_isSeen 43 = .ok (.if_icmp .ne 14, 3) := by decide +kernel
theorem dX5_isSeen_46 : decode cX5_isSeen 46 = .ok (.aload_n 0, 1) := by decide +kernel
theorem dX5_isSeen_47 : decode cX5_isSeen 47 = .ok (.getfield 29, 3) := by decide +kernel
theorem dX5_isSeen_50 : decode cX5_isSeen 50 = .ok (.iload 4, 2) := by decide +kernel
theorem dX5_isSeen_52 : decode cX5_isSeen 52 = .ok (.iaload, 1) := by decide +kernel
theorem dX5_isSeen_53 : decode cX5_isSeen 53 = .ok (.iload_n 3, 1) := by decide +kernel
theorem dX5_isSeen_54 : decode cX5_isSeen 54 = .ok (.if_icmp .ne 7, 3) := by decide +kernel
theorem dX5_isSeen_57 : decode cX5_isSeen 57 = .ok (.iconst 1, 1) := by decide +kernel
theorem dX5_isSeen_58 : decode cX5_isSeen 58 = .ok (.goto 4, 3) := by decide +kernel
theorem dX5_isSeen_61 : decode cX5_isSeen 61 = .ok (.iconst 0, 1) := by decide +kernel
theorem dX5_isSeen_62 : decode cX5_isSeen 62 = .ok (.istore_n 1, 1) := by decide +kernel
theorem dX5_isSeen_63 : decode cX5_isSeen 63 = .ok (.iinc 4 1, 3) := by decide +kernel
theorem dX5_isSeen_66 : decode cX5_isSeen 66 = .ok (.goto (-44), 3) := by decide +kernel
theorem dX5_isSeen_69 : decode cX5_isSeen 69 = .ok (.iinc 2 1, 3) := by decide +kernel
theorem dX5_isSeen_72 : decode cX5_isSeen 72 = .ok (.goto (-68), 3) := by decide +kernel
theorem dX5_isSeen_75 : decode cX5_isSeen 75 = .ok (.iload_n 1, 1) := by decide +kernel
theorem dX5_isSeen_76 : decode cX5_isSeen 76 = .ok (.ireturn, 1) := by decide +kernel
theorem dX5_ranks_0 : decode cX5_ranks 0 = .ok (.iload_n 1, 1) := by decide +kernel
theorem dX5_ranks_1 : decode cX5_ranks 1 = .ok (.invokestatic 141, 3) := by decide +kernel
theorem dX5_ranks_4 : decode cX5_ranks 4 = .ok (.ifCond .ne 5, 3) := by decide +kernel
theorem dX5_ranks_7 : decode cX5_ranks 7 = .ok (.iconst (-1), 1) := by decide +kernel
theorem dX5_ranks_8 : decode cX5_ranks 8 = .ok (.ireturn, 1) := by decide +kernel
theorem dX5_ranks_9 : decode cX5_ranks 9 = .ok (.aload_n 0, 1) := by decide +kernel
theorem dX5_ranks_10 : decode cX5_ranks 10 = .ok (.invokevirtual 105, 3) := by decide +kernel
theorem dX5_ranks_13 : decode cX5_ranks 13 = .ok (.iconst 0, 1) := by decide +kernel
theorem dX5_ranks_14 : decode cX5_ranks 14 = .ok (.istore_n 2, 1) := by decide +kernel
theorem dX5_ranks_15 : decode cX5_ranks 15 = .ok (.iconst 0, 1) := by decide +kernel
theorem dX5_ranks_16 : decode cX5_ranks 16 = .ok (.istore_n 3, 1) := by decide +kernel
theorem dX5_ranks_17 : decode cX5_ranks 17 = .ok (.iload_n 3, 1) := by decide +kernel
theorem dX5_ranks_18 : decode cX5_ranks 18 = .ok (.iconst 4, 1) := by decide +kernel
theorem dX5_ranks_19 : decode cX5_ranks 19 = .ok (.if_icmp .ge 42, 3) := by decide +kernel
theorem dX5_ranks_22 : decode cX5_ranks 22 = .ok (.aload_n 0, 1) := by decide +kernel
theorem dX5_ranks_23 : decode cX5_ranks 23 = .ok (.getfield 7, 3) := by decide +kernel
theorem dX5_ranks_26 : decode cX5_ranks 26 = .ok (.iload_n 1, 1) := by decide +kernel
theorem dX5_ranks_27 : decode cX5_ranks 27 = .ok (.invokestatic 75, 3) := by decide +kernel
theorem dX5_ranks_30 : decode cX5_ranks 30 = .ok (.iconst 1, 1) := by decide +kernel
theorem dX5_ranks_31 : decode cX5_ranks 31 = .ok (.iadd, 1) := by decide +kernel
theorem dX5_ranks_32 : decode cX5_ranks 32 = .ok (.iload_n 3, 1) := by decide +kernel
theorem dX5_ranks_33 : decode cX5_ranks 33 = .ok (.iastore, 1) := by decide +kernel
theorem dX5_ranks_34 : decode cX5_ranks 34 = .ok (.iload_n 2, 1) := by decide +kernel
theorem dX5_ranks_35 : decode cX5_ranks 35 = .ok (.aload_n 0, 1) := by decide +kernel
theorem dX5_ranks_36 : decode cX5_ranks 36 = .ok (.invokevirtual 164, 3) := by decide +kernel
theorem dX5_ranks_39 : decode cX5_ranks 39 = .ok (.ifCond .eq 9, 3) := by decide +kernel
theorem dX5_ranks_42 : decode cX5_ranks 42 = .ok (.iconst 1, 1) := by decide +kernel
theorem dX5_ranks_43 : decode cX5_ranks 43 = .ok (.iload_n 3, 1) := by decide +kernel
theorem dX5_ranks_44 : decode cX5_ranks 44 = .ok (.ishl, 1) := by decide +kernel
theorem dX5_ranks_45 : decode cX5_ranks 45 = .ok (.goto 4, 3) := by decide +kernel
theorem dX5_ranks_48 : decode cX5_ranks 48 = .ok (.iconst 0, 1) := by decide +kernel
theorem dX5_ranks_49 : decode cX5_ranks 49 = .ok (.ior, 1) := by decide +kernel
theorem dX5_ranks_50 : decode cX5_ranks 50 = .ok (.istore_n 2, 1) := by decide +kernel
theorem dX5_ranks_51 : decode cX5_ranks 51 = .ok (.aload_n 0, 1) := by decide +kernel
theorem dX5_ranks_52 : decode cX5_ranks 52 = .ok (.invokevirtual 108, 3) := by decide +kernel
theorem dX5_ranks_55 : decode cX5_ranks 55 = .ok (.iinc 3 1, 3) := by decide +kernel
theorem dX5_ranks_58 : decode cX5_ranks 58 = .ok (.goto (-41), 3) := by decide +kernel
theorem dX5_ranks_61 : decode cX5_ranks 61 = .ok (.iload_n 2, 1) := by decide +kernel
theorem dX5_ranks_62 : decode cX5_ranks 62 = .ok (.ireturn, 1) := by decide +kernel
theorem dX5_engines_0 : decode cX5_engines 0 = .ok (.iconst 0, 1) := by decide +kernel
theorem dX5_engines_1 : decode cX5_engines 1 = .ok (.istore_n 1, 1) := by decide +kernel
theorem dX5_engines_2 : decode cX5_engines 2 = .ok (.iconst 0, 1) := by decide +kernel
theorem dX5_engines_3 : decode cX5_engines 3 = .ok (.istore_n 2, 1) := by decide +kernel
theorem dX5_engines_4 : decode cX5_engines 4 = .ok (.iload_n 2, 1) := by decide +kernel
theorem dX5_engines_5 : decode cX5_engines 5 = .ok (.bipush 24, 2) := by decide +kernel
theorem dX5_engines_7 : decode cX5_engines 7 = .ok (.if_icmp .ge 31, 3) := by decide +kernel
theorem dX5_engines_10 : decode cX5_engines 10 = .ok (.iload_n 1, 1) := by decide +kernel
theorem dX5_engines_11 : decode cX5_engines 11 = .ok (.aload_n 0, 1) := by decide +kernel
theorem dX5_engines_12 : decode cX5_engines 12 = .ok (.bipush 92, 2) := by decide +kernel
theorem dX5_engines_14 : decode cX5_engines 14 = .ok (.bipush 14, 2) := by decide +kernel
theorem dX5_engines_16 : decode cX5_engines 16 = .ok (.iload_n 2, 1) := by decide +kernel
theorem dX5_engines_17 : decode cX5_engines 17 = .ok (.imul, 1) := by decide +kernel
theorem dX5_engines_18 : decode cX5_engines 18 = .ok (.iadd, 1) := by decide +kernel
theorem dX5_engines_19 : decode cX5_engines 19 = .ok (.invokevirtual 83, 3) := by decide +kernel
theorem dX5_engines_22 : decode cX5_engines 22 = .ok (.ifCond .eq 7, 3) := by decide +kernel
theorem dX5_engines_25 : decode cX5_engines 25 = .ok (.iconst 1, 1) := by decide +kernel
theorem dX5_engines_26 : decode cX5_engines 26 = .ok (.goto 4, 3) := by decide +kernel
theorem dX5_engines_29 : decode cX5_engines 29 = .ok (.iconst 0, 1) := by decide +kernel
theorem dX5_engines_30 : decode cX5_engines 30 = .ok (.iadd, 1) := by decide +kernel
theorem dX5_engines_31 : decode cX5_engines 31 = .ok (.istore_n 1, 1) := by decide +kernel
theorem dX5_engines_32 : decode cX5_engines 32 = .ok (.iinc 2 1, 3) := by decide +kernel
theorem dX5_engines_35 : decode cX5_engines 35 = .ok (.goto (-31), 3) := by decide +kernel
theorem dX5_engines_38 : decode cX5_engines 38 = .ok (.iload_n 1, 1) := by decide +kernel
theorem dX5_engines_39 : decode cX5_engines 39 = .ok (.ireturn, 1) := by decide +kernel
theorem dX5_keep_0 : decode cX5_keep 0 = .ok (.iload_n 1, 1) := by decide +kernel
theorem dX5_keep_1 : decode cX5_keep 1 = .ok (.iconst 0, 1) := by decide +kernel
theorem dX5_keep_2 : decode cX5_keep 2 = .ok (.iconst 1, 1) := by decide +kernel
theorem dX5_keep_3 : decode cX5_keep 3 = .ok (.invokestatic 38, 3) := by decide +kernel
theorem dX5_keep_6 : decode cX5_keep 6 = .ok (.ifCond .ne 5, 3) := by decide +kernel
theorem dX5_keep_9 : decode cX5_keep 9 = .ok (.iconst (-1), 1) := by decide +kernel
theorem dX5_keep_10 : decode cX5_keep 10 = .ok (.ireturn, 1) := by decide +kernel
theorem dX5_keep_11 : decode cX5_keep 11 = .ok (.iconst 0, 1) := by decide +kernel
theorem dX5_keep_12 : decode cX5_keep 12 = .ok (.istore_n 2, 1) := by decide +kernel
theorem dX5_keep_13 : decode cX5_keep 13 = .ok (.iload_n 2, 1) := by decide +kernel
theorem dX5_keep_14 : decode cX5_keep 14 = .ok (.sipush 455, 3) := by decide +kernel
theorem dX5_keep_17 : decode cX5_keep 17 = .ok (.if_icmp .ge 27, 3) := by decide +kernel
theorem dX5_keep_20 : decode cX5_keep 20 = .ok (.aload_n 0, 1) := by decide +kernel
theorem dX5_keep_21 : decode cX5_keep 21 = .ok (.getfield 20, 3) := by decide +kernel
theorem dX5_keep_24 : decode cX5_keep 24 = .ok (.sipush 455, 3) := by decide +kernel
theorem dX5_keep_27 : decode cX5_keep 27 = .ok (.iload_n 1, 1) := by decide +kernel
theorem dX5_keep_28 : decode cX5_keep 28 = .ok (.imul, 1) := by decide +kernel
theorem dX5_keep_29 : decode cX5_keep 29 = .ok (.iload_n 2, 1) := by decide +kernel
theorem dX5_keep_30 : decode cX5_keep 30 = .ok (.iadd, 1) := by decide +kernel
theorem dX5_keep_31 : decode cX5_keep 31 = .ok (.aload_n 0, 1) := by decide +kernel
theorem dX5_keep_32 : decode cX5_keep 32 = .ok (.getfield 7, 3) := by decide +kernel
theorem dX5_keep_35 : decode cX5_keep 35 = .ok (.iload_n 2, 1) := by decide +kernel
theorem dX5_keep_36 : decode cX5_keep 36 = .ok (.iaload, 1) := by decide +kernel
theorem dX5_keep_37 : decode cX5_keep 37 = .ok (.iastore, 1) := by decide +kernel
theorem dX5_keep_38 : decode cX5_keep 38 = .ok (.iinc 2 1, 3) := by decide +kernel
theorem dX5_keep_41 : decode cX5_keep 41 = .ok (.goto (-28), 3) := by decide +kernel
theorem dX5_keep_44 : decode cX5_keep 44 = .ok (.aload_n 0, 1) := by decide +kernel
theorem dX5_keep_45 : decode cX5_keep 45 = .ok (.getfield 16, 3) := by decide +kernel
theorem dX5_keep_48 : decode cX5_keep 48 = .ok (.iload_n 1, 1) := by decide +kernel
theorem dX5_keep_49 : decode cX5_keep 49 = .ok (.iconst 1, 1) := by decide +kernel
theorem dX5_keep_50 : decode cX5_keep 50 = .ok (.bastore, 1) := by decide +kernel
theorem dX5_keep_51 : decode cX5_keep 51 = .ok (.aload_n 0, 1) := by decide +kernel
theorem dX5_keep_52 : decode cX5_keep 52 = .ok (.invokevirtual 167, 3) := by decide +kernel
theorem dX5_keep_55 : decode cX5_keep 55 = .ok (.ireturn, 1) := by decide +kernel
theorem dX5_back_0 : decode cX5_back 0 = .ok (.iload_n 1, 1) := by decide +kernel
theorem dX5_back_1 : decode cX5_back 1 = .ok (.iconst 0, 1) := by decide +kernel
theorem dX5_back_2 : decode cX5_back 2 = .ok (.iconst 1, 1) := by decide +kernel
theorem dX5_back_3 : decode cX5_back 3 = .ok (.invokestatic 38, 3) := by decide +kernel
theorem dX5_back_6 : decode cX5_back 6 = .ok (.ifCond .ne 5, 3) := by decide +kernel
theorem dX5_back_9 : decode cX5_back 9 = .ok (.iconst (-1), 1) := by decide +kernel
theorem dX5_back_10 : decode cX5_back 10 = .ok (.ireturn, 1) := by decide +kernel
theorem dX5_back_11 : decode cX5_back 11 = .ok (.aload_n 0, 1) := by decide +kernel
theorem dX5_back_12 : decode cX5_back 12 = .ok (.getfield 16, 3) := by decide +kernel
theorem dX5_back_15 : decode cX5_back 15 = .ok (.iload_n 1, 1) := by decide +kernel
theorem dX5_back_16 : decode cX5_back 16 = .ok (.baload, 1) := by decide +kernel
theorem dX5_back_17 : decode cX5_back 17 = .ok (.ifCond .ne 6, 3) := by decide +kernel
theorem dX5_back_20 : decode cX5_back 20 = .ok (.bipush (-2), 2) := by decide +kernel
theorem dX5_back_22 : decode cX5_back 22 = .ok (.ireturn, 1) := by decide +kernel
theorem dX5_back_23 : decode cX5_back 23 = .ok (.iconst 0, 1) := by decide +kernel
theorem dX5_back_24 : decode cX5_back 24 = .ok (.istore_n 2, 1) := by decide +kernel
theorem dX5_back_25 : decode cX5_back 25 = .ok (.iload_n 2, 1) := by decide +kernel
theorem dX5_back_26 : decode cX5_back 26 = .ok (.sipush 455, 3) := by decide +kernel
theorem dX5_back_29 : decode cX5_back 29 = .ok (.if_icmp .ge 27, 3) := by decide +kernel
theorem dX5_back_32 : decode cX5_back 32 = .ok (.aload_n 0, 1) := by decide +kernel
theorem dX5_back_33 : decode cX5_back 33 = .ok (.getfield 7, 3) := by decide +kernel
theorem dX5_back_36 : decode cX5_back 36 = .ok (.iload_n 2, 1) := by decide +kernel
theorem dX5_back_37 : decode cX5_back 37 = .ok (.aload_n 0, 1) := by decide +kernel
theorem dX5_back_38 : decode cX5_back 38 = .ok (.getfield 20, 3) := by decide +kernel
theorem dX5_back_41 : decode cX5_back 41 = .ok (.sipush 455, 3) := by decide +kernel
theorem dX5_back_44 : decode cX5_back 44 = .ok (.iload_n 1, 1) := by decide +kernel
theorem dX5_back_45 : decode cX5_back 45 = .ok (.imul, 1) := by decide +kernel
theorem dX5_back_46 : decode cX5_back 46 = .ok (.iload_n 2, 1) := by decide +kernel
theorem dX5_back_47 : decode cX5_back 47 = .ok (.iadd, 1) := by decide +kernel
theorem dX5_back_48 : decode cX5_back 48 = .ok (.iaload, 1) := by decide +kernel
theorem dX5_back_49 : decode cX5_back 49 = .ok (.iastore, 1) := by decide +kernel
theorem dX5_back_50 : decode cX5_back 50 = .ok (.iinc 2 1, 3) := by decide +kernel
theorem dX5_back_53 : decode cX5_back 53 = .ok (.goto (-28), 3) := by decide +kernel
theorem dX5_back_56 : decode cX5_back 56 = .ok (.aload_n 0, 1) := by decide +kernel
theorem dX5_back_57 : decode cX5_back 57 = .ok (.iconst 0, 1) := by decide +kernel
theorem dX5_back_58 : decode cX5_back 58 = .ok (.putfield 98, 3) := by decide +kernel
theorem dX5_back_61 : decode cX5_back 61 = .ok (.aload_n 0, 1) := by decide +kernel
theorem dX5_back_62 : decode cX5_back 62 = .ok (.invokevirtual 167, 3) := by decide +kernel
theorem dX5_back_65 : decode cX5_back 65 = .ok (.ireturn, 1) := by decide +kernel
theorem dX5_count_0 : decode cX5_count 0 = .ok (.iload_n 1, 1) := by decide +kernel
theorem dX5_count_1 : decode cX5_count 1 = .ok (.tableswitch 90 0 6 #[43, 48, 57, 66, 71, 76, 81], 43) := by decide +kernel
theorem dX5_count_44 : decode cX5_count 44 = .ok (.aload_n 0, 1) := by decide +kernel
theorem dX5_count_45 : decode cX5_count 45 = .ok (.invokevirtual 167, 3) := by decide +kernel
theorem dX5_count_48 : decode cX5_count 48 = .ok (.ireturn, 1) := by decide +kernel
theorem dX5_count_49 : decode cX5_count 49 = .ok (.aload_n 0, 1) := by decide +kernel
theorem dX5_count_50 : decode cX5_count 50 = .ok (.getfield 7, 3) := by decide +kernel
theorem dX5_count_53 : decode cX5_count 53 = .ok (.sipush 428, 3) := by decide +kernel
theorem dX5_count_56 : decode cX5_count 56 = .ok (.iaload, 1) := by decide +kernel
theorem dX5_count_57 : decode cX5_count 57 = .ok (.ireturn, 1) := by decide +kernel
theorem dX5_count_58 : decode cX5_count 58 = .ok (.aload_n 0, 1) := by decide +kernel
theorem dX5_count_59 : decode cX5_count 59 = .ok (.getfield 7, 3) := by decide +kernel
theorem dX5_count_62 : decode cX5_count 62 = .ok (.sipush 453, 3) := by decide +kernel
theorem dX5_count_65 : decode cX5_count 65 = .ok (.iaload, 1) := by decide +kernel
theorem dX5_count_66 : decode cX5_count 66 = .ok (.ireturn, 1) := by decide +kernel
theorem dX5_count_67 : decode cX5_count 67 = .ok (.aload_n 0, 1) := by decide +kernel
theorem dX5_count_68 : decode cX5_count 68 = .ok (.getfield 161, 3) := by decide +kernel
theorem dX5_count_71 : decode cX5_count 71 = .ok (.ireturn, 1) := by decide +kernel
theorem dX5_count_72 : decode cX5_count 72 = .ok (.aload_n 0, 1) := by decide +kernel
theorem dX5_count_73 : decode cX5_count 73 = .ok (.getfield 42, 3) := by decide +kernel
theorem dX5_count_76 : decode cX5_count 76 = .ok (.ireturn, 1) := by decide +kernel
theorem dX5_count_77 : decode cX5_count 77 = .ok (.aload_n 0, 1) := by decide +kernel
theorem dX5_count_78 : decode cX5_count 78 = .ok (.getfield 98, 3) := by decide +kernel
theorem dX5_count_81 : decode cX5_count 81 = .ok (.ireturn, 1) := by decide +kernel
theorem dX5_count_82 : decode cX5_count 82 = .ok (.aload_n 0, 1) := by decide +kernel
theorem dX5_count_83 : decode cX5_count 83 = .ok (.getfield 7, 3) := by decide +kernel
theorem dX5_count_86 : decode cX5_count 86 = .ok (.sipush 454, 3) := by decide +kernel
theorem dX5_count_89 : decode cX5_count 89 = .ok (.iaload, 1) := by decide +kernel
theorem dX5_count_90 : decode cX5_count 90 = .ok (.ireturn, 1) := by decide +kernel
theorem dX5_count_91 : decode cX5_count 91 = .ok (.iconst (-1), 1) := by decide +kernel
theorem dX5_count_92 : decode cX5_count 92 = .ok (.ireturn, 1) := by decide +kernel
