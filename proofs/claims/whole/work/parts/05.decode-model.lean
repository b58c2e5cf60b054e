theorem dX7_init_0 : decode cX7_init 0 = .ok (.aload_n 0, 1) := by decide +kernel
theorem dX7_init_1 : decode cX7_init 1 = .ok (.invokespecial 1, 3) := by decide +kernel
theorem dX7_init_4 : decode cX7_init 4 = .ok (.aload_n 0, 1) := by decide +kernel
theorem dX7_init_5 : decode cX7_init 5 = .ok (.iconst 2, 1) := by decide +kernel
theorem dX7_init_6 : decode cX7_init 6 = .ok (.newarray .int, 2) := by decide +kernel
theorem dX7_init_8 : decode cX7_init 8 = .ok (.putfield 7, 3) := by decide +kernel
theorem dX7_init_11 : decode cX7_init 11 = .ok (.aload_n 0, 1) := by decide +kernel
theorem dX7_init_12 : decode cX7_init 12 = .ok (.bipush 16, 2) := by decide +kernel
theorem dX7_init_14 : decode cX7_init 14 = .ok (.newarray .int, 2) := by decide +kernel
theorem dX7_init_16 : decode cX7_init 16 = .ok (.putfield 13, 3) := by decide +kernel
theorem dX7_init_19 : decode cX7_init 19 = .ok (.aload_n 0, 1) := by decide +kernel
theorem dX7_init_20 : decode cX7_init 20 = .ok (.bipush 16, 2) := by decide +kernel
theorem dX7_init_22 : decode cX7_init 22 = .ok (.newarray .int, 2) := by decide +kernel
theorem dX7_init_24 : decode cX7_init 24 = .ok (.putfield 16, 3) := by decide +kernel
theorem dX7_init_27 : decode cX7_init 27 = .ok (.aload_n 0, 1) := by decide +kernel
theorem dX7_init_28 : decode cX7_init 28 = .ok (.bipush 16, 2) := by decide +kernel
theorem dX7_init_30 : decode cX7_init 30 = .ok (.newarray .int, 2) := by decide +kernel
theorem dX7_init_32 : decode cX7_init 32 = .ok (.putfield 19, 3) := by decide +kernel
theorem dX7_init_35 : decode cX7_init 35 = .ok (.aload_n 0, 1) := by decide +kernel
theorem dX7_init_36 : decode cX7_init 36 = .ok (.bipush 16, 2) := by decide +kernel
theorem dX7_init_38 : decode cX7_init 38 = .ok (.newarray .int, 2) := by decide +kernel
theorem dX7_init_40 : decode cX7_init 40 = .ok (.putfield 22, 3) := by decide +kernel
theorem dX7_init_43 : decode cX7_init 43 = .ok (.aload_n 0, 1) := by decide +kernel
theorem dX7_init_44 : decode cX7_init 44 = .ok (.bipush 16, 2) := by decide +kernel
theorem dX7_init_46 : decode cX7_init 46 = .ok (.newarray .int, 2) := by decide +kernel
theorem dX7_init_48 : decode cX7_init 48 = .ok (.putfield 25, 3) := by decide +kernel
theorem dX7_init_51 : decode cX7_init 51 = .ok (.aload_n 0, 1) := by decide +kernel
theorem dX7_init_52 : decode cX7_init 52 = .ok (.iconst 3, 1) := by decide +kernel
theorem dX7_init_53 : decode cX7_init 53 = .ok (.newarray .int, 2) := by decide +kernel
theorem dX7_init_55 : decode cX7_init 55 = .ok (.putfield 28, 3) := by decide +kernel
theorem dX7_init_58 : decode cX7_init 58 = .ok (.aload_n 0, 1) := by decide +kernel
theorem dX7_init_59 : decode cX7_init 59 = .ok (.bipush 6, 2) := by decide +kernel
theorem dX7_init_61 : decode cX7_init 61 = .ok (.newarray .int, 2) := by decide +kernel
theorem dX7_init_63 : decode cX7_init 63 = .ok (.putfield 31, 3) := by decide +kernel
theorem dX7_init_66 : decode cX7_init 66 = .ok (.aload_n 0, 1) := by decide +kernel
theorem dX7_init_67 : decode cX7_init 67 = .ok (.iconst 2, 1) := by decide +kernel
theorem dX7_init_68 : decode cX7_init 68 = .ok (.newarray .int, 2) := by decide +kernel
theorem dX7_init_70 : decode cX7_init 70 = .ok (.putfield 34, 3) := by decide +kernel
theorem dX7_init_73 : decode cX7_init 73 = .ok (.aload_n 0, 1) := by decide +kernel
theorem dX7_init_74 : decode cX7_init 74 = .ok (.bipush 16, 2) := by decide +kernel
theorem dX7_init_76 : decode cX7_init 76 = .ok (.newarray .int, 2) := by decide +kernel
theorem dX7_init_78 : decode cX7_init 78 = .ok (.putfield 37, 3) := by decide +kernel
theorem dX7_init_81 : decode cX7_init 81 = .ok (.aload_n 0, 1) := by decide +kernel
theorem dX7_init_82 : decode cX7_init 82 = .ok (.bipush 16, 2) := by decide +kernel
theorem dX7_init_84 : decode cX7_init 84 = .ok (.newarray .int, 2) := by decide +kernel
theorem dX7_init_86 : decode cX7_init 86 = .ok (.putfield 40, 3) := by decide +kernel
theorem dX7_init_89 : decode cX7_init 89 = .ok (.aload_n 0, 1) := by decide +kernel
theorem dX7_init_90 : decode cX7_init 90 = .ok (.bipush 16, 2) := by decide +kernel
theorem dX7_init_92 : decode cX7_init 92 = .ok (.newarray .int, 2) := by decide +kernel
theorem dX7_init_94 : decode cX7_init 94 = .ok (.putfield 43, 3) := by decide +kernel
theorem dX7_init_97 : decode cX7_init 97 = .ok (.aload_n 0, 1) := by decide +kernel
theorem dX7_init_98 : decode cX7_init 98 = .ok (.bipush 16, 2) := by decide +kernel
theorem dX7_init_100 : decode cX7_init 100 = .ok (.newarray .int, 2) := by decide +kernel
theorem dX7_init_102 : decode cX7_init 102 = .ok (.putfield 46, 3) := by decide +kernel
theorem dX7_init_105 : decode cX7_init 105 = .ok (.aload_n 0, 1) := by decide +kernel
theorem dX7_init_106 : decode cX7_init 106 = .ok (.bipush 8, 2) := by decide +kernel
theorem dX7_init_108 : decode cX7_init 108 = .ok (.newarray .int, 2) := by decide +kernel
theorem dX7_init_110 : decode cX7_init 110 = .ok (.putfield 49, 3) := by decide +kernel
theorem dX7_init_113 : decode cX7_init 113 = .ok (.aload_n 0, 1) := by decide +kernel
theorem dX7_init_114 : decode cX7_init 114 = .ok (.iconst 4, 1) := by decide +kernel
theorem dX7_init_115 : decode cX7_init 115 = .ok (.newarray .boolean, 2) := by decide +kernel
theorem dX7_init_117 : decode cX7_init 117 = .ok (.putfield 52, 3) := by decide +kernel
theorem dX7_init_120 : decode cX7_init 120 = .ok (.aload_n 0, 1) := by decide +kernel
theorem dX7_init_121 : decode cX7_init 121 = .ok (.iconst 4, 1) := by decide +kernel
theorem dX7_init_122 : decode cX7_init 122 = .ok (.newarray .int, 2) := by decide +kernel
theorem dX7_init_124 : decode cX7_init 124 = .ok (.putfield 56, 3) := by decide +kernel
theorem dX7_init_127 : decode cX7_init 127 = .ok (.aload_n 0, 1) := by decide +kernel
theorem dX7_init_128 : decode cX7_init 128 = .ok (.iconst 4, 1) := by decide +kernel
theorem dX7_init_129 : decode cX7_init 129 = .ok (.newarray .int, 2) := by decide +kernel
theorem dX7_init_131 : decode cX7_init 131 = .ok (.putfield 59, 3) := by decide +kernel
theorem dX7_init_134 : decode cX7_init 134 = .ok (.aload_n 0, 1) := by decide +kernel
theorem dX7_init_135 : decode cX7_init 135 = .ok (.sipush 240, 3) := by decide +kernel
theorem dX7_init_138 : decode cX7_init 138 = .ok (.newarray .int, 2) := by decide +kernel
theorem dX7_init_140 : decode cX7_init 140 = .ok (.putfield 62, 3) := by decide +kernel
theorem dX7_init_143 : decode cX7_init 143 = .ok (.aload_n 0, 1) := by decide +kernel
theorem dX7_init_144 : decode cX7_init 144 = .ok (.bipush 60, 2) := by decide +kernel
theorem dX7_init_146 : decode cX7_init 146 = .ok (.newarray .int, 2) := by decide +kernel
theorem dX7_init_148 : decode cX7_init 148 = .ok (.putfield 65, 3) := by decide +kernel
theorem dX7_init_151 : decode cX7_init 151 = .ok (.aload_n 0, 1) := by decide +kernel
theorem dX7_init_152 : decode cX7_init 152 = .ok (.getfield 28, 3) := by decide +kernel
theorem dX7_init_155 : decode cX7_init 155 = .ok (.iconst 1, 1) := by decide +kernel
theorem dX7_init_156 : decode cX7_init 156 = .ok (.bipush 10, 2) := by decide +kernel
theorem dX7_init_158 : decode cX7_init 158 = .ok (.iastore, 1) := by decide +kernel
theorem dX7_init_159 : decode cX7_init 159 = .ok (.iconst 0, 1) := by decide +kernel
theorem dX7_init_160 : decode cX7_init 160 = .ok (.istore_n 1, 1) := by decide +kernel
theorem dX7_init_161 : decode cX7_init 161 = .ok (.iload_n 1, 1) := by decide +kernel
theorem dX7_init_162 : decode cX7_init 162 = .ok (.bipush 6, 2) := by decide +kernel
theorem dX7_init_164 : decode cX7_init 164 = .ok (.if_icmp .ge 17, 3) := by decide +kernel
theorem dX7_init_167 : decode cX7_init 167 = .ok (.aload_n 0, 1) := by decide +kernel
theorem dX7_init_168 : decode cX7_init 168 = .ok (.getfield 31, 3) := by decide +kernel
theorem dX7_init_171 : decode cX7_init 171 = .ok (.iload_n 1, 1) := by decide +kernel
theorem dX7_init_172 : decode cX7_init 172 = .ok (.ldc 68, 2) := by decide +kernel
theorem dX7_init_174 : decode cX7_init 174 = .ok (.iastore, 1) := by decide +kernel
theorem dX7_init_175 : decode cX7_init 175 = .ok (.iinc 1 1, 3) := by decide +kernel
theorem dX7_init_178 : decode cX7_init 178 = .ok (.goto (-17), 3) := by decide +kernel
theorem dX7_init_181 : decode cX7_init 181 = .ok (.return_, 1) := by decide +kernel
theorem dX7_in_0 : decode cX7_in 0 = .ok (.iload_n 0, 1) := by decide +kernel
theorem dX7_in_1 : decode cX7_in 1 = .ok (.iload_n 1, 1) := by decide +kernel
theorem dX7_in_2 : decode cX7_in 2 = .ok (.if_icmp .lt 12, 3) := by decide +kernel
theorem dX7_in_5 : decode cX7_in 5 = .ok (.iload_n 0, 1) := by decide +kernel
theorem dX7_in_6 : decode cX7_in 6 = .ok (.iload_n 2, 1) := by decide +kernel
theorem dX7_in_7 : decode cX7_in 7 = .ok (.if_icmp .gt 7, 3) := by decide +kernel
theorem dX7_in_10 : decode cX7_in 10 = .ok (.iconst 1, 1) := by decide +kernel
theorem dX7_in_11 : decode cX7_in 11 = .ok (.goto 4, 3) := by decide +kernel
theorem dX7_in_14 : decode cX7_in 14 = .ok (.iconst 0, 1) := by decide +kernel
theorem dX7_in_15 : decode cX7_in 15 = .ok (.ireturn, 1) := by decide +kernel
theorem dX7_isIn_0 : decode cX7_isIn 0 = .ok (.iload_n 0, 1) := by decide +kernel
theorem dX7_isIn_1 : decode cX7_isIn 1 = .ok (.iload_n 1, 1) := by decide +kernel
theorem dX7_isIn_2 : decode cX7_isIn 2 = .ok (.ishr, 1) := by decide +kernel
theorem dX7_isIn_3 : decode cX7_isIn 3 = .ok (.iconst 1, 1) := by decide +kernel
theorem dX7_isIn_4 : decode cX7_isIn 4 = .ok (.iand, 1) := by decide +kernel
theorem dX7_isIn_5 : decode cX7_isIn 5 = .ok (.iconst 1, 1) := by decide +kernel
theorem dX7_isIn_6 : decode cX7_isIn 6 = .ok (.if_icmp .ne 7, 3) := by decide +kernel
theorem dX7_isIn_9 : decode cX7_isIn 9 = .ok (.iconst 1, 1) := by decide +kernel
theorem dX7_isIn_10 : decode cX7_isIn 10 = .ok (.goto 4, 3) := by decide +kernel
theorem dX7_isIn_13 : decode cX7_isIn 13 = .ok (.iconst 0, 1) := by decide +kernel
theorem dX7_isIn_14 : decode cX7_isIn 14 = .ok (.ireturn, 1) := by decide +kernel
theorem dX7_max_0 : decode cX7_max 0 = .ok (.iload_n 0, 1) := by decide +kernel
theorem dX7_max_1 : decode cX7_max 1 = .ok (.iload_n 1, 1) := by decide +kernel
theorem dX7_max_2 : decode cX7_max 2 = .ok (.if_icmp .le 7, 3) := by decide +kernel
theorem dX7_max_5 : decode cX7_max 5 = .ok (.iload_n 0, 1) := by decide +kernel
theorem dX7_max_6 : decode cX7_max 6 = .ok (.goto 4, 3) := by decide +kernel
theorem dX7_max_9 : decode cX7_max 9 = .ok (.iload_n 1, 1) := by decide +kernel
theorem dX7_max_10 : decode cX7_max 10 = .ok (.ireturn, 1) := by decide +kernel
theorem dX7_min_0 : decode cX7_min 0 = .ok (.iload_n 0, 1) := by decide +kernel
theorem dX7_min_1 : decode cX7_min 1 = .ok (.iload_n 1, 1) := by decide +kernel
theorem dX7_min_2 : decode cX7_min 2 = .ok (.if_icmp .ge 7, 3) := by decide +kernel
theorem dX7_min_5 : decode cX7_min 5 = .ok (.iload_n 0, 1) := by decide +kernel
theorem dX7_min_6 : decode cX7_min 6 = .ok (.goto 4, 3) := by decide +kernel
theorem dX7_min_9 : decode cX7_min 9 = .ok (.iload_n 1, 1) := by decide +kernel
theorem dX7_min_10 : decode cX7_min 10 = .ok (.ireturn, 1) := by decide +kernel
theorem dX7_isList_0 : decode cX7_isList 0 = .ok (.iload_n 0, 1) := by decide +kernel
theorem dX7_isList_1 : decode cX7_isList 1 = .ok (.iconst 0, 1) := by decide +kernel
theorem dX7_isList_2 : decode cX7_isList 2 = .ok (.iconst 1, 1) := by decide +kernel
theorem dX7_isList_3 : decode cX7_isList 3 = .ok (.invokestatic 69, 3) := by decide +kernel
theorem dX7_isList_6 : decode cX7_isList 6 = .ok (.ireturn, 1) := by decide +kernel
theorem dX7_isReel_0 : decode cX7_isReel 0 = .ok (.iload_n 0, 1) := by decide +kernel
theorem dX7_isReel_1 : decode cX7_isReel 1 = .ok (.iconst 0, 1) := by decide +kernel
theorem dX7_isReel_2 : decode cX7_isReel 2 = .ok (.iconst 5, 1) := by decide +kernel
theorem dX7_isReel_3 : decode cX7_isReel 3 = .ok (.invokestatic 69, 3) := by decide +kernel
theorem dX7_isReel_6 : decode cX7_isReel 6 = .ok (.ireturn, 1) := by decide +kernel
theorem dX7_isWell_0 : decode cX7_isWell 0 = .ok (.iload_n 0, 1) := by decide +kernel
theorem dX7_isWell_1 : decode cX7_isWell 1 = .ok (.ifCond .ne 13, 3) := by decide +kernel
theorem dX7_isWell_4 : decode cX7_isWell 4 = .ok (.iload_n 1, 1) := by decide +kernel
theorem dX7_isWell_5 : decode cX7_isWell 5 = .ok (.iconst 0, 1) := by decide +kernel
theorem dX7_isWell_6 : decode cX7_isWell 6 = .ok (.ldc 73, 2) := by decide +kernel
theorem dX7_isWell_8 : decode cX7_isWell 8 = .ok (.invokestatic 69, 3) := by decide +kernel
theorem dX7_isWell_11 : decode cX7_isWell 11 = .ok (.goto 54, 3) := by decide +kernel
theorem dX7_isWell_14 : decode cX7_isWell 14 = .ok (.iload_n 0, 1) := by decide +kernel
theorem dX7_isWell_15 : decode cX7_isWell 15 = .ok (.iconst 1, 1) := by decide +kernel
theorem dX7_isWell_16 : decode cX7_isWell 16 = .ok (.if_icmp .ne 14, 3) := by decide +kernel
theorem dX7_isWell_19 : decode cX7_isWell 19 = .ok (.iload_n 1, 1) := by decide +kernel
theorem dX7_isWell_20 : decode cX7_isWell 20 = .ok (.iconst 1, 1) := by decide +kernel
theorem dX7_isWell_21 : decode cX7_isWell 21 = .ok (.sipush 500, 3) := by decide +kernel
theorem dX7_isWell_24 : decode cX7_isWell 24 = .ok (.invokestatic 69, 3) := by decide +kernel
theorem dX7_isWell_27 : decode cX7_isWell 27 = .ok (.goto 38, 3) := by decide +kernel
theorem dX7_isWell_30 : decode cX7_isWell 30 = .ok (.iload_n 0, 1) := by decide +kernel
theorem dX7_isWell_31 : decode cX7_isWell 31 = .ok (.iconst 2, 1) := by decide +kernel
theorem dX7_isWell_32 : decode cX7_isWell 32 = .ok (.if_icmp .ne 13, 3) := by decide +kernel
theorem dX7_isWell_35 : decode cX7_isWell 35 = .ok (.iload_n 1, 1) := by decide +kernel
theorem dX7_isWell_36 : decode cX7_isWell 36 = .ok (.iconst 0, 1) := by decide +kernel
theorem dX7_isWell_37 : decode cX7_isWell 37 = .ok (.bipush 6, 2) := by decide +kernel
theorem dX7_isWell_39 : decode cX7_isWell 39 = .ok (.invokestatic 69, 3) := by decide +kernel
theorem dX7_isWell_42 : decode cX7_isWell 42 = .ok (.goto 23, 3) := by decide +kernel
theorem dX7_isWell_45 : decode cX7_isWell 45 = .ok (.iload_n 0, 1) := by decide +kernel
theorem dX7_isWell_46 : decode cX7_isWell 46 = .ok (.iconst 3, 1) := by decide +kernel
theorem dX7_isWell_47 : decode cX7_isWell 47 = .ok (.if_icmp .ne 17, 3) := by decide +kernel
theorem dX7_isWell_50 : decode cX7_isWell 50 = .ok (.iload_n 1, 1) := by decide +kernel
theorem dX7_isWell_51 : decode cX7_isWell 51 = .ok (.iconst 1, 1) := by decide +kernel
theorem dX7_isWell_52 : decode cX7_isWell 52 = .ok (.bipush 6, 2) := by decide +kernel
theorem dX7_isWell_54 : decode cX7_isWell 54 = .ok (.invokestatic 69, 3) := by decide +kernel
theorem dX7_isWell_57 : decode cX7_isWell 57 = .ok (.ifCond .eq 7, 3) := by decide +kernel
theorem dX7_isWell_60 : decode cX7_isWell 60 = .ok (.iconst 1, 1) := by decide +kernel
theorem dX7_isWell_61 : decode cX7_isWell 61 = .ok (.goto 4, 3) := by decide +kernel
theorem dX7_isWell_64 : decode cX7_isWell 64 = .ok (.iconst 0, 1) := by decide +kernel
theorem dX7_isWell_65 : decode cX7_isWell 65 = .ok (.ireturn, 1) := by decide +kernel
theorem dX7_adds_0 : decode cX7_adds 0 = .ok (.iload_n 2, 1) := by decide +kernel
theorem dX7_adds_1 : decode cX7_adds 1 = .ok (.invokestatic 74, 3) := by decide +kernel
theorem dX7_adds_4 : decode cX7_adds 4 = .ok (.ifCond .eq 38, 3) := by decide +kernel
theorem dX7_adds_7 : decode cX7_adds 7 = .ok (.iconst 0, 1) := by decide +kernel
theorem dX7_adds_8 : decode cX7_adds 8 = .ok (.iload_n 3, 1) := by decide +kernel
theorem dX7_adds_9 : decode cX7_adds 9 = .ok (.invokestatic 78, 3) := by decide +kernel
theorem dX7_adds_12 : decode cX7_adds 12 = .ok (.ifCond .eq 30, 3) := by decide +kernel
theorem dX7_adds_15 : decode cX7_adds 15 = .ok (.iconst 1, 1) := by decide +kernel
theorem dX7_adds_16 : decode cX7_adds 16 = .ok (.iload 4, 2) := by decide +kernel
theorem dX7_adds_18 : decode cX7_adds 18 = .ok (.invokestatic 78, 3) := by decide +kernel
theorem dX7_adds_21 : decode cX7_adds 21 = .ok (.ifCond .eq 21, 3) := by decide +kernel
theorem dX7_adds_24 : decode cX7_adds 24 = .ok (.iconst 2, 1) := by decide +kernel
theorem dX7_adds_25 : decode cX7_adds 25 = .ok (.iload 5, 2) := by decide +kernel
theorem dX7_adds_27 : decode cX7_adds 27 = .ok (.invokestatic 78, 3) := by decide +kernel
theorem dX7_adds_30 : decode cX7_adds 30 = .ok (.ifCond .eq 12, 3) := by decide +kernel
theorem dX7_adds_33 : decode cX7_adds 33 = .ok (.iconst 3, 1) := by decide +kernel
theorem dX7_adds_34 : decode cX7_adds 34 = .ok (.iload 6, 2) := by decide +kernel
theorem dX7_adds_36 : decode cX7_adds 36 = .ok (.invokestatic 78, 3) := by decide +kernel
theorem dX7_adds_39 : decode cX7_adds 39 = .ok (.ifCond .ne 6, 3) := by decide +kernel
theorem dX7_adds_42 : decode cX7_adds 42 = .ok (.bipush (-2), 2) := by decide +kernel
theorem dX7_adds_44 : decode cX7_adds 44 = .ok (.ireturn, 1) := by decide +kernel
theorem dX7_adds_45 : decode cX7_adds 45 = .ok (.aload_n 0, 1) := by decide +kernel
theorem dX7_adds_46 : decode cX7_adds 46 = .ok (.getfield 7, 3) := by decide +kernel
theorem dX7_adds_49 : decode cX7_adds 49 = .ok (.iload_n 1, 1) := by decide +kernel
theorem dX7_adds_50 : decode cX7_adds 50 = .ok (.iaload, 1) := by decide +kernel
theorem dX7_adds_51 : decode cX7_adds 51 = .ok (.bipush 8, 2) := by decide +kernel
theorem dX7_adds_53 : decode cX7_adds 53 = .ok (.if_icmp .ne 6, 3) := by decide +kernel
theorem dX7_adds_56 : decode cX7_adds 56 = .ok (.bipush (-4), 2) := by decide +kernel
theorem dX7_adds_58 : decode cX7_adds 58 = .ok (.ireturn, 1) := by decide +kernel
theorem dX7_adds_59 : decode cX7_adds 59 = .ok (.bipush 8, 2) := by decide +kernel
theorem dX7_adds_61 : decode cX7_adds 61 = .ok (.iload_n 1, 1) := by decide +kernel
theorem dX7_adds_62 : decode cX7_adds 62 = .ok (.imul, 1) := by decide +kernel
theorem dX7_adds_63 : decode cX7_adds 63 = .ok (.aload_n 0, 1) := by decide +kernel
theorem dX7_adds_64 : decode cX7_adds 64 = .ok (.getfield 7, 3) := by decide +kernel
theorem dX7_adds_67 : decode cX7_adds 67 = .ok (.iload_n 1, 1) := by decide +kernel
theorem dX7_adds_68 : decode cX7_adds 68 = .ok (.iaload, 1) := by decide +kernel
theorem dX7_adds_69 : decode cX7_adds 69 = .ok (.iadd, 1) := by decide +kernel
theorem dX7_adds_70 : decode cX7_adds 70 = .ok (.istore 7, 2) := by decide +kernel
theorem dX7_adds_72 : decode cX7_adds 72 = .ok (.aload_n 0, 1) := by decide +kernel
theorem dX7_adds_73 : decode cX7_adds 73 = .ok (.getfield 13, 3) := by decide +kernel
theorem dX7_adds_76 : decode cX7_adds 76 = .ok (.iload 7, 2) := by decide +kernel
theorem dX7_adds_78 : decode cX7_adds 78 = .ok (.iload_n 2, 1) := by decide +kernel
theorem dX7_adds_79 : decode cX7_adds 79 = .ok (.iastore, 1) := by decide +kernel
theorem dX7_adds_80 : decode cX7_adds 80 = .ok (.aload_n 0, 1) := by decide +kernel
theorem dX7_adds_81 : decode cX7_adds 81 = .ok (.getfield 16, 3) := by decide +kernel
theorem dX7_adds_84 : decode cX7_adds 84 = .ok (.iload 7, 2) := by decide +kernel
theorem dX7_adds_86 : decode cX7_adds 86 = .ok (.iload_n 3, 1) := by decide +kernel
theorem dX7_adds_87 : decode cX7_adds 87 = .ok (.iastore, 1) := by decide +kernel
theorem dX7_adds_88 : decode cX7_adds 88 = .ok (.aload_n 0, 1) := by decide +kernel
theorem dX7_adds_89 : decode cX7_adds 89 = .ok (.getfield 19, 3) := by decide +kernel
theorem dX7_adds_92 : decode cX7_adds 92 = .ok (.iload 7, 2) := by decide +kernel
theorem dX7_adds_94 : decode cX7_adds 94 = .ok (.iload 4, 2) := by decide +kernel
theorem dX7_adds_96 : decode cX7_adds 96 = .ok (.iastore, 1) := by decide +kernel
theorem dX7_adds_97 : decode cX7_adds 97 = .ok (.aload_n 0, 1) := by decide +kernel
theorem dX7_adds_98 : decode cX7_adds 98 = .ok (.getfield 22, 3) := by decide +kernel
theorem dX7_adds_101 : decode cX7_adds 101 = .ok (.iload 7, 2) := by decide +kernel
theorem dX7_adds_103 : decode cX7_adds 103 = .ok (.iload 5, 2) := by decide +kernel
theorem dX7_adds_105 : decode cX7_adds 105 = .ok (.iastore, 1) := by decide +kernel
theorem dX7_adds_106 : decode cX7_adds 106 = .ok (.aload_n 0, 1) := by decide +kernel
theorem dX7_adds_107 : decode cX7_adds 107 = .ok (.getfield 25, 3) := by decide +kernel
theorem dX7_adds_110 : decode cX7_adds 110 = .ok (.iload 7, 2) := by decide +kernel
theorem dX7_adds_112 : decode cX7_adds 112 = .ok (.iload 6, 2) := by decide +kernel
theorem dX7_adds_114 : decode cX7_adds 114 = .ok (.iastore, 1) := by decide +kernel
theorem dX7_adds_115 : decode cX7_adds 115 = .ok (.aload_n 0, 1) := by decide +kernel
theorem dX7_adds_116 : decode cX7_adds 116 = .ok (.getfield 7, 3) := by decide +kernel
theorem dX7_adds_119 : decode cX7_adds 119 = .ok (.iload_n 1, 1) := by decide +kernel
theorem dX7_adds_120 : decode cX7_adds 120 = .ok (.dup2, 1) := by decide +kernel
theorem dX7_adds_121 : decode cX7_adds 121 = .ok (.iaload, 1) := by decide +kernel
theorem dX7_adds_122 : decode cX7_adds 122 = .ok (.iconst 1, 1) := by decide +kernel
theorem dX7_adds_123 : decode cX7_adds 123 = .ok (.iadd, 1) := by decide +kernel
theorem dX7_adds_124 : decode cX7_adds 124 = .ok (.iastore, 1) := by decide +kernel
theorem dX7_adds_125 : decode cX7_adds 125 = .ok (.aload_n 0, 1) := by decide +kernel
theorem dX7_adds_126 : decode cX7_adds 126 = .ok (.getfield 7, 3) := by decide +kernel
theorem dX7_adds_129 : decode cX7_adds 129 = .ok (.iload_n 1, 1) := by decide +kernel
theorem dX7_adds_130 : decode cX7_adds 130 = .ok (.iaload, 1) := by decide +kernel
theorem dX7_adds_131 : decode cX7_adds 131 = .ok (.ireturn, 1) := by decide +kernel
theorem dX7_edit_0 : decode cX7_edit 0 = .ok (.iload_n 1, 1) := by decide +kernel
theorem dX7_edit_1 : decode cX7_edit 1 = .ok (.invokestatic 82, 3) := by decide +kernel
theorem dX7_edit_4 : decode cX7_edit 4 = .ok (.ifCond .eq 19, 3) := by decide +kernel
theorem dX7_edit_7 : decode cX7_edit 7 = .ok (.aload_n 0, 1) := by decide +kernel
theorem dX7_edit_8 : decode cX7_edit 8 = .ok (.iload_n 1, 1) := by decide +kernel
theorem dX7_edit_9 : decode cX7_edit 9 = .ok (.iload_n 2, 1) := by decide +kernel
theorem dX7_edit_10 : decode cX7_edit 10 = .ok (.iload_n 3, 1) := by decide +kernel
theorem dX7_edit_11 : decode cX7_edit 11 = .ok (.iload 4, 2) := by decide +kernel
theorem dX7_edit_13 : decode cX7_edit 13 = .ok (.iload 5, 2) := by decide +kernel
theorem dX7_edit_15 : decode cX7_edit 15 = .ok (.iload 6, 2) := by decide +kernel
theorem dX7_edit_17 : decode cX7_edit 17 = .ok (.invokevirtual 85, 3) := by decide +kernel
theorem dX7_edit_20 : decode cX7_edit 20 = .ok (.goto 5, 3) := by decide +kernel
theorem dX7_edit_23 : decode cX7_edit 23 = .ok (.bipush (-2), 2) := by decide +kernel
theorem dX7_edit_25 : decode cX7_edit 25 = .ok (.ireturn, 1) := by decide +kernel
theorem dX7_back_0 : decode cX7_back 0 = .ok (.iload_n 1, 1) := by decide +kernel
theorem dX7_back_1 : decode cX7_back 1 = .ok (.invokestatic 82, 3) := by decide +kernel
theorem dX7_back_4 : decode cX7_back 4 = .ok (.ifCond .ne 6, 3) := by decide +kernel
theorem dX7_back_7 : decode cX7_back 7 = .ok (.bipush (-2), 2) := by decide +kernel
theorem dX7_back_9 : decode cX7_back 9 = .ok (.ireturn, 1) := by decide +kernel
theorem dX7_back_10 : decode cX7_back 10 = .ok (.aload_n 0, 1) := by decide +kernel
theorem dX7_back_11 : decode cX7_back 11 = .ok (.getfield 7, 3) := by decide +kernel
theorem dX7_back_14 : decode cX7_back 14 = .ok (.iload_n 1, 1) := by decide +kernel
theorem dX7_back_15 : decode cX7_back 15 = .ok (.iaload, 1) := by decide +kernel
theorem dX7_back_16 : decode cX7_back 16 = .ok (.ifCond .ne 6, 3) := by decide +kernel
theorem dX7_back_19 : decode cX7_back 19 = .ok (.bipush (-3), 2) := by decide +kernel
theorem dX7_back_21 : decode cX7_back 21 = .ok (.ireturn, 1) := by decide +kernel
theorem dX7_back_22 : decode cX7_back 22 = .ok (.aload_n 0, 1) := by decide +kernel
theorem dX7_back_23 : decode cX7_back 23 = .ok (.getfield 7, 3) := by decide +kernel
theorem dX7_back_26 : decode cX7_back 26 = .ok (.iload_n 1, 1) := by decide +kernel
theorem dX7_back_27 : decode cX7_back 27 = .ok (.dup2, 1) := by decide +kernel
theorem dX7_back_28 : decode cX7_back 28 = .ok (.iaload, 1) := by decide +kernel
theorem dX7_back_29 : decode cX7_back 29 = .ok (.iconst 1, 1) := by decide +kernel
theorem dX7_back_30 : decode cX7_back 30 = .ok (.isub, 1) := by decide +kernel
theorem dX7_back_31 : decode cX7_back 31 = .ok (.iastore, 1) := by decide +kernel
theorem dX7_back_32 : decode cX7_back 32 = .ok (.aload_n 0, 1) := by decide +kernel
theorem dX7_back_33 : decode cX7_back 33 = .ok (.getfield 7, 3) := by decide +kernel
theorem dX7_back_36 : decode cX7_back 36 = .ok (.iload_n 1, 1) := by decide +kernel
theorem dX7_back_37 : decode cX7_back 37 = .ok (.iaload, 1) := by decide +kernel
theorem dX7_back_38 : decode cX7_back 38 = .ok (.ireturn, 1) := by decide +kernel
theorem dX7_isEdit_0 : decode cX7_isEdit 0 = .ok (.iload_n 1, 1) := by decide +kernel
theorem dX7_isEdit_1 : decode cX7_isEdit 1 = .ok (.invokestatic 82, 3) := by decide +kernel
theorem dX7_isEdit_4 : decode cX7_isEdit 4 = .ok (.ifCond .eq 23, 3) := by decide +kernel
theorem dX7_isEdit_7 : decode cX7_isEdit 7 = .ok (.iload_n 2, 1) := by decide +kernel
theorem dX7_isEdit_8 : decode cX7_isEdit 8 = .ok (.iconst 0, 1) := by decide +kernel
theorem dX7_isEdit_9 : decode cX7_isEdit 9 = .ok (.aload_n 0, 1) := by decide +kernel
theorem dX7_isEdit_10 : decode cX7_isEdit 10 = .ok (.getfield 7, 3) := by decide +kernel
theorem dX7_isEdit_13 : decode cX7_isEdit 13 = .ok (.iload_n 1, 1) := by decide +kernel
theorem dX7_isEdit_14 : decode cX7_isEdit 14 = .ok (.iaload, 1) := by decide +kernel
theorem dX7_isEdit_15 : decode cX7_isEdit 15 = .ok (.iconst 1, 1) := by decide +kernel
theorem dX7_isEdit_16 : decode cX7_isEdit 16 = .ok (.isub, 1) := by decide +kernel
theorem dX7_isEdit_17 : decode cX7_isEdit 17 = .ok (.invokestatic 69, 3) := by decide +kernel
theorem dX7_isEdit_20 : decode cX7_isEdit 20 = .ok (.ifCond .eq 7, 3) := by decide +kernel
theorem dX7_isEdit_23 : decode cX7_isEdit 23 = .ok (.iconst 1, 1) := by decide +kernel
theorem dX7_isEdit_24 : decode cX7_isEdit 24 = .ok (.goto 4, 3) := by decide +kernel
theorem dX7_isEdit_27 : decode cX7_isEdit 27 = .ok (.iconst 0, 1) := by decide +kernel
theorem dX7_isEdit_28 : decode cX7_isEdit 28 = .ok (.ireturn, 1) := by decide +kernel
theorem dX7_trim_0 : decode cX7_trim 0 = .ok (.aload_n 0, 1) := by decide +kernel
theorem dX7_trim_1 : decode cX7_trim 1 = .ok (.iload_n 1, 1) := by decide +kernel
theorem dX7_trim_2 : decode cX7_trim 2 = .ok (.iload_n 2, 1) := by decide +kernel
theorem dX7_trim_3 : decode cX7_trim 3 = .ok (.invokevirtual 89, 3) := by decide +kernel
theorem dX7_trim_6 : decode cX7_trim 6 = .ok (.ifCond .eq 12, 3) := by decide +kernel
theorem dX7_trim_9 : decode cX7_trim 9 = .ok (.iload_n 3, 1) := by decide +kernel
theorem dX7_trim_10 : decode cX7_trim 10 = .ok (.iload 4, 2) := by decide +kernel
theorem dX7_trim_12 : decode cX7_trim 12 = .ok (.invokestatic 78, 3) := by decide +kernel
theorem dX7_trim_15 : decode cX7_trim 15 = .ok (.ifCond .ne 6, 3) := by decide +kernel
theorem dX7_trim_18 : decode cX7_trim 18 = .ok (.bipush (-2), 2) := by decide +kernel
theorem dX7_trim_20 : decode cX7_trim 20 = .ok (.ireturn, 1) := by decide +kernel
theorem dX7_trim_21 : decode cX7_trim 21 = .ok (.bipush 8, 2) := by decide +kernel
theorem dX7_trim_23 : decode cX7_trim 23 = .ok (.iload_n 1, 1) := by decide +kernel
theorem dX7_trim_24 : decode cX7_trim 24 = .ok (.imul, 1) := by decide +kernel
theorem dX7_trim_25 : decode cX7_trim 25 = .ok (.iload_n 2, 1) := by decide +kernel
theorem dX7_trim_26 : decode cX7_trim 26 = .ok (.iadd, 1) := by decide +kernel
theorem dX7_trim_27 : decode cX7_trim 27 = .ok (.istore 5, 2) := by decide +kernel
theorem dX7_trim_29 : decode cX7_trim 29 = .ok (.iload_n 3, 1) := by decide +kernel
theorem dX7_trim_30 : decode cX7_trim 30 = .ok (.ifCond .ne 13, 3) := by decide +kernel
theorem dX7_trim_33 : decode cX7_trim 33 = .ok (.aload_n 0, 1) := by decide +kernel
theorem dX7_trim_34 : decode cX7_trim 34 = .ok (.getfield 16, 3) := by decide +kernel
theorem dX7_trim_37 : decode cX7_trim 37 = .ok (.iload 5, 2) := by decide +kernel
theorem dX7_trim_39 : decode cX7_trim 39 = .ok (.iaload, 1) := by decide +kernel
theorem dX7_trim_40 : decode cX7_trim 40 = .ok (.goto 40, 3) := by decide +kernel
theorem dX7_trim_43 : decode cX7_trim 43 = .ok (.iload_n 3, 1) := by decide +kernel
theorem dX7_trim_44 : decode cX7_trim 44 = .ok (.iconst 1, 1) := by decide +kernel
theorem dX7_trim_45 : decode cX7_trim 45 = .ok (.if_icmp .ne 13, 3) := by decide +kernel
theorem dX7_trim_48 : decode cX7_trim 48 = .ok (.aload_n 0, 1) := by decide +kernel
theorem dX7_trim_49 : decode cX7_trim 49 = .ok (.getfield 19, 3) := by decide +kernel
theorem dX7_trim_52 : decode cX7_trim 52 = .ok (.iload 5, 2) := by decide +kernel
theorem dX7_trim_54 : decode cX7_trim 54 = .ok (.iaload, 1) := by decide +kernel
theorem dX7_trim_55 : decode cX7_trim 55 = .ok (.goto 25, 3) := by decide +kernel
theorem dX7_trim_58 : decode cX7_trim 58 = .ok (.iload_n 3, 1) := by decide +kernel
theorem dX7_trim_59 : decode cX7_trim 59 = .ok (.iconst 2, 1) := by decide +kernel
theorem dX7_trim_60 : decode cX7_trim 60 = .ok (.if_icmp .ne 13, 3) := by decide +kernel
theorem dX7_trim_63 : decode cX7_trim 63 = .ok (.aload_n 0, 1) := by decide +kernel
theorem dX7_trim_64 : decode cX7_trim 64 = .ok (.getfield 22, 3) := by decide +kernel
theorem dX7_trim_67 : decode cX7_trim 67 = .ok (.iload 5, 2) := by decide +kernel
theorem dX7_trim_69 : decode cX7_trim 69 = .ok (.iaload, 1) := by decide +kernel
theorem dX7_trim_70 : decode cX7_trim 70 = .ok (.goto 10, 3) := by decide +kernel
theorem dX7_trim_73 : decode cX7_trim 73 = .ok (.aload_n 0, 1) := by decide +kernel
theorem dX7_trim_74 : decode cX7_trim 74 = .ok (.getfield 25, 3) := by decide +kernel
theorem dX7_trim_77 : decode cX7_trim 77 = .ok (.iload 5, 2) := by decide +kernel
theorem dX7_trim_79 : decode cX7_trim 79 = .ok (.iaload, 1) := by decide +kernel
theorem dX7_trim_80 : decode cX7_trim 80 = .ok (.istore 6, 2) := by decide +kernel
theorem dX7_trim_82 : decode cX7_trim 82 = .ok (.aload_n 0, 1) := by decide +kernel
theorem dX7_trim_83 : decode cX7_trim 83 = .ok (.getfield 16, 3) := by decide +kernel
theorem dX7_trim_86 : decode cX7_trim 86 = .ok (.iload 5, 2) := by decide +kernel
theorem dX7_trim_88 : decode cX7_trim 88 = .ok (.iload_n 3, 1) := by decide +kernel
theorem dX7_trim_89 : decode cX7_trim 89 = .ok (.ifCond .ne 8, 3) := by decide +kernel
theorem dX7_trim_92 : decode cX7_trim 92 = .ok (.iload 4, 2) := by decide +kernel
theorem dX7_trim_94 : decode cX7_trim 94 = .ok (.goto 10, 3) := by decide +kernel
theorem dX7_trim_97 : decode cX7_trim 97 = .ok (.aload_n 0, 1) := by decide +kernel
theorem dX7_trim_98 : decode cX7_trim 98 = .ok (.getfield 16, 3) := by decide +kernel
theorem dX7_trim_101 : decode cX7_trim 101 = .ok (.iload 5, 2) := by decide +kernel
theorem dX7_trim_103 : decode cX7_trim 103 = .ok (.iaload, 1) := by decide +kernel
theorem dX7_trim_104 : decode cX7_trim 104 = .ok (.iastore, 1) := by decide +kernel
theorem dX7_trim_105 : decode cX7_trim 105 = .ok (.aload_n 0, 1) := by decide +kernel
theorem dX7_trim_106 : decode cX7_trim 106 = .ok (.getfield 19, 3) := by decide +kernel
theorem dX7_trim_109 : decode cX7_trim 109 = .ok (.iload 5, 2) := by decide +kernel
theorem dX7_trim_111 : decode cX7_trim 111 = .ok (.iload_n 3, 1) := by decide +kernel
theorem dX7_trim_112 : decode cX7_trim 112 = .ok (.iconst 1, 1) := by decide +kernel
theorem dX7_trim_113 : decode cX7_trim 113 = .ok (.if_icmp .ne 8, 3) := by decide +kernel
theorem dX7_trim_116 : decode cX7_trim 116 = .ok (.iload 4, 2) := by decide +kernel
theorem dX7_trim_118 : decode cX7_trim 118 = .ok (.goto 10, 3) := by decide +kernel
theorem dX7_trim_121 : decode cX7_trim 121 = .ok (.aload_n 0, 1) := by decide +kernel
theorem dX7_trim_122 : decode cX7_trim 122 = .ok (.getfield 19, 3) := by decide +kernel
theorem dX7_trim_125 : decode cX7_trim 125 = .ok (.iload 5, 2) := by decide +kernel
theorem dX7_trim_127 : decode cX7_trim 127 = .ok (.iaload, 1) := by decide +kernel
theorem dX7_trim_128 : decode cX7_trim 128 = .ok (.iastore, 1) := by decide +kernel
theorem dX7_trim_129 : decode cX7_trim 129 = .ok (.aload_n 0, 1) := by decide +kernel
theorem dX7_trim_130 : decode cX7_trim 130 = .ok (.getfield 22, 3) := by decide +kernel
theorem dX7_trim_133 : decode cX7_trim 133 = .ok (.iload 5, 2) := by decide +kernel
theorem dX7_trim_135 : decode cX7_trim 135 = .ok (.iload_n 3, 1) := by decide +kernel
theorem dX7_trim_136 : decode cX7_trim 136 = .ok (.iconst 2, 1) := by decide +kernel
theorem dX7_trim_137 : decode cX7_trim 137 = .ok (.if_icmp .ne 8, 3) := by decide +kernel
theorem dX7_trim_140 : decode cX7_trim 140 = .ok (.iload 4, 2) := by decide +kernel
theorem dX7_trim_142 : decode cX7_trim 142 = .ok (.goto 10, 3) := by decide +kernel
theorem dX7_trim_145 : decode cX7_trim 145 = .ok (.aload_n 0, 1) := by decide +kernel
theorem dX7_trim_146 : decode cX7_trim 146 = .ok (.getfield 22, 3) := by decide +kernel
theorem dX7_trim_149 : decode cX7_trim 149 = .ok (.iload 5, 2) := by decide +kernel
theorem dX7_trim_151 : decode cX7_trim 151 = .ok (.iaload, 1) := by decide +kernel
theorem dX7_trim_152 : decode cX7_trim 152 = .ok (.iastore, 1) := by decide +kernel
theorem dX7_trim_153 : decode cX7_trim 153 = .ok (.aload_n 0, 1) := by decide +kernel
theorem dX7_trim_154 : decode cX7_trim 154 = .ok (.getfield 25, 3) := by decide +kernel
theorem dX7_trim_157 : decode cX7_trim 157 = .ok (.iload 5, 2) := by decide +kernel
theorem dX7_trim_159 : decode cX7_trim 159 = .ok (.iload_n 3, 1) := by decide +kernel
theorem dX7_trim_160 : decode cX7_trim 160 = .ok (.iconst 3, 1) := by decide +kernel
theorem dX7_trim_161 : decode cX7_trim 161 = .ok (.if_icmp .ne 8, 3) := by decide +kernel
theorem dX7_trim_164 : decode cX7_trim 164 = .ok (.iload 4, 2) := by decide +kernel
theorem dX7_trim_166 : decode cX7_trim 166 = .ok (.goto 10, 3) := by decide +kernel
theorem dX7_trim_169 : decode cX7_trim 169 = .ok (.aload_n 0, 1) := by decide +kernel
theorem dX7_trim_170 : decode cX7_trim 170 = .ok (.getfield 25, 3) := by decide +kernel
theorem dX7_trim_173 : decode cX7_trim 173 = .ok (.iload 5, 2) := by decide +kernel
theorem dX7_trim_175 : decode cX7_trim 175 = .ok (.iaload, 1) := by decide +kernel
theorem dX7_trim_176 : decode cX7_trim 176 = .ok (.iastore, 1) := by decide +kernel
theorem dX7_trim_177 : decode cX7_trim 177 = .ok (.iload 6, 2) := by decide +kernel
theorem dX7_trim_179 : decode cX7_trim 179 = .ok (.ireturn, 1) := by decide +kernel
theorem dX7_isSetting_0 : decode cX7_isSetting 0 = .ok (.iload_n 0, 1) := by decide +kernel
theorem dX7_isSetting_1 : decode cX7_isSetting 1 = .ok (.ifCond .ne 12, 3) := by decide +kernel
theorem dX7_isSetting_4 : decode cX7_isSetting 4 = .ok (.iload_n 1, 1) := by decide +kernel
theorem dX7_isSetting_5 : decode cX7_isSetting 5 = .ok (.iconst 0, 1) := by decide +kernel
theorem dX7_isSetting_6 : decode cX7_isSetting 6 = .ok (.iconst 2, 1) := by decide +kernel
theorem dX7_isSetting_7 : decode cX7_isSetting 7 = .ok (.invokestatic 69, 3) := by decide +kernel
theorem dX7_isSetting_10 : decode cX7_isSetting 10 = .ok (.goto 28, 3) := by decide +kernel
theorem dX7_isSetting_13 : decode cX7_isSetting 13 = .ok (.iload_n 0, 1) := by decide +kernel
theorem dX7_isSetting_14 : decode cX7_isSetting 14 = .ok (.iconst 1, 1) := by decide +kernel
theorem dX7_isSetting_15 : decode cX7_isSetting 15 = .ok (.iconst 2, 1) := by decide +kernel
theorem dX7_isSetting_16 : decode cX7_isSetting 16 = .ok (.invokestatic 69, 3) := by decide +kernel
theorem dX7_isSetting_19 : decode cX7_isSetting 19 = .ok (.ifCond .eq 18, 3) := by decide +kernel
theorem dX7_isSetting_22 : decode cX7_isSetting 22 = .ok (.iload_n 1, 1) := by decide +kernel
theorem dX7_isSetting_23 : decode cX7_isSetting 23 = .ok (.iconst 0, 1) := by decide +kernel
theorem dX7_isSetting_24 : decode cX7_isSetting 24 = .ok (.sipush 500, 3) := by decide +kernel
theorem dX7_isSetting_27 : decode cX7_isSetting 27 = .ok (.invokestatic 69, 3) := by decide +kernel
theorem dX7_isSetting_30 : decode cX7_isSetting 30 = .ok (.ifCond .eq 7, 3) := by decide +kernel
theorem dX7_isSetting_33 : decode cX7_isSetting 33 = .ok (.iconst 1, 1) := by decide +kernel
theorem dX7_isSetting_34 : decode cX7_isSetting 34 = .ok (.goto 4, 3) := by decide +kernel
theorem dX7_isSetting_37 : decode cX7_isSetting 37 = .ok (.iconst 0, 1) := by decide +kernel
theorem dX7_isSetting_38 : decode cX7_isSetting 38 = .ok (.ireturn, 1) := by decide +kernel
theorem dX7_set_0 : decode cX7_set 0 = .ok (.iload_n 1, 1) := by decide +kernel
theorem dX7_set_1 : decode cX7_set 1 = .ok (.iload_n 2, 1) := by decide +kernel
theorem dX7_set_2 : decode cX7_set 2 = .ok (.invokestatic 92, 3) := by decide +kernel
theorem dX7_set_5 : decode cX7_set 5 = .ok (.ifCond .ne 6, 3) := by decide +kernel
theorem dX7_set_8 : decode cX7_set 8 = .ok (.bipush (-2), 2) := by decide +kernel
theorem dX7_set_10 : decode cX7_set 10 = .ok (.ireturn, 1) := by decide +kernel
theorem dX7_set_11 : decode cX7_set 11 = .ok (.aload_n 0, 1) := by decide +kernel
theorem dX7_set_12 : decode cX7_set 12 = .ok (.getfield 28, 3) := by decide +kernel
theorem dX7_set_15 : decode cX7_set 15 = .ok (.iload_n 1, 1) := by decide +kernel
theorem dX7_set_16 : decode cX7_set 16 = .ok (.iaload, 1) := by decide +kernel
theorem dX7_set_17 : decode cX7_set 17 = .ok (.istore_n 3, 1) := by decide +kernel
theorem dX7_set_18 : decode cX7_set 18 = .ok (.aload_n 0, 1) := by decide +kernel
theorem dX7_set_19 : decode cX7_set 19 = .ok (.getfield 28, 3) := by decide +kernel
theorem dX7_set_22 : decode cX7_set 22 = .ok (.iload_n 1, 1) := by decide +kernel
theorem dX7_set_23 : decode cX7_set 23 = .ok (.iload_n 2, 1) := by decide +kernel
theorem dX7_set_24 : decode cX7_set 24 = .ok (.iastore, 1) := by decide +kernel
theorem dX7_set_25 : decode cX7_set 25 = .ok (.iload_n 3, 1) := by decide +kernel
theorem dX7_set_26 : decode cX7_set 26 = .ok (.ireturn, 1) := by decide +kernel
theorem dX7_reel_0 : decode cX7_reel 0 = .ok (.iload_n 1, 1) := by decide +kernel
theorem dX7_reel_1 : decode cX7_reel 1 = .ok (.invokestatic 74, 3) := by decide +kernel
theorem dX7_reel_4 : decode cX7_reel 4 = .ok (.ifCond .eq 13, 3) := by decide +kernel
theorem dX7_reel_7 : decode cX7_reel 7 = .ok (.iload_n 2, 1) := by decide +kernel
theorem dX7_reel_8 : decode cX7_reel 8 = .ok (.iconst 1, 1) := by decide +kernel
theorem dX7_reel_9 : decode cX7_reel 9 = .ok (.ldc 95, 2) := by decide +kernel
theorem dX7_reel_11 : decode cX7_reel 11 = .ok (.invokestatic 69, 3) := by decide +kernel
theorem dX7_reel_14 : decode cX7_reel 14 = .ok (.ifCond .ne 6, 3) := by decide +kernel
theorem dX7_reel_17 : decode cX7_reel 17 = .ok (.bipush (-2), 2) := by decide +kernel
theorem dX7_reel_19 : decode cX7_reel 19 = .ok (.ireturn, 1) := by decide +kernel
theorem dX7_reel_20 : decode cX7_reel 20 = .ok (.aload_n 0, 1) := by decide +kernel
theorem dX7_reel_21 : decode cX7_reel 21 = .ok (.getfield 31, 3) := by decide +kernel
theorem dX7_reel_24 : decode cX7_reel 24 = .ok (.iload_n 1, 1) := by decide +kernel
theorem dX7_reel_25 : decode cX7_reel 25 = .ok (.iaload, 1) := by decide +kernel
theorem dX7_reel_26 : decode cX7_reel 26 = .ok (.istore_n 3, 1) := by decide +kernel
theorem dX7_reel_27 : decode cX7_reel 27 = .ok (.aload_n 0, 1) := by decide +kernel
theorem dX7_reel_28 : decode cX7_reel 28 = .ok (.getfield 31, 3) := by decide +kernel
theorem dX7_reel_31 : decode cX7_reel 31 = .ok (.iload_n 1, 1) := by decide +kernel
theorem dX7_reel_32 : decode cX7_reel 32 = .ok (.iload_n 2, 1) := by decide +kernel
theorem dX7_reel_33 : decode cX7_reel 33 = .ok (.iastore, 1) := by decide +kernel
theorem dX7_reel_34 : decode cX7_reel 34 = .ok (.iload_n 3, 1) := by decide +kernel
theorem dX7_reel_35 : decode cX7_reel 35 = .ok (.ireturn, 1) := by decide +kernel
theorem dX7_swaps_0 : decode cX7_swaps 0 = .ok (.iconst 0, 1) := by decide +kernel
theorem dX7_swaps_1 : decode cX7_swaps 1 = .ok (.istore_n 1, 1) := by decide +kernel
theorem dX7_swaps_2 : decode cX7_swaps 2 = .ok (.iload_n 1, 1) := by decide +kernel
theorem dX7_swaps_3 : decode cX7_swaps 3 = .ok (.bipush 8, 2) := by decide +kernel
theorem dX7_swaps_5 : decode cX7_swaps 5 = .ok (.if_icmp .ge 29, 3) := by decide +kernel
theorem dX7_swaps_8 : decode cX7_swaps 8 = .ok (.aload_n 0, 1) := by decide +kernel
theorem dX7_swaps_9 : decode cX7_swaps 9 = .ok (.iload_n 1, 1) := by decide +kernel
theorem dX7_swaps_10 : decode cX7_swaps 10 = .ok (.iaload, 1) := by decide +kernel
theorem dX7_swaps_11 : decode cX7_swaps 11 = .ok (.istore_n 2, 1) := by decide +kernel
theorem dX7_swaps_12 : decode cX7_swaps 12 = .ok (.aload_n 0, 1) := by decide +kernel
theorem dX7_swaps_13 : decode cX7_swaps 13 = .ok (.iload_n 1, 1) := by decide +kernel
theorem dX7_swaps_14 : decode cX7_swaps 14 = .ok (.aload_n 0, 1) := by decide +kernel
theorem dX7_swaps_15 : decode cX7_swaps 15 = .ok (.bipush 8, 2) := by decide +kernel
theorem dX7_swaps_17 : decode cX7_swaps 17 = .ok (.iload_n 1, 1) := by decide +kernel
theorem dX7_swaps_18 : decode cX7_swaps 18 = .ok (.iadd, 1) := by decide +kernel
theorem dX7_swaps_19 : decode cX7_swaps 19 = .ok (.iaload, 1) := by decide +kernel
theorem dX7_swaps_20 : decode cX7_swaps 20 = .ok (.iastore, 1) := by decide +kernel
theorem dX7_swaps_21 : decode cX7_swaps 21 = .ok (.aload_n 0, 1) := by decide +kernel
theorem dX7_swaps_22 : decode cX7_swaps 22 = .ok (.bipush 8, 2) := by decide +kernel
theorem dX7_swaps_24 : decode cX7_swaps 24 = .ok (.iload_n 1, 1) := by decide +kernel
theorem dX7_swaps_25 : decode cX7_swaps 25 = .ok (.iadd, 1) := by decide +kernel
theorem dX7_swaps_26 : decode cX7_swaps 26 = .ok (.iload_n 2, 1) := by decide +kernel
theorem dX7_swaps_27 : decode cX7_swaps 27 = .ok (.iastore, 1) := by decide +kernel
theorem dX7_swaps_28 : decode cX7_swaps 28 = .ok (.iinc 1 1, 3) := by decide +kernel
theorem dX7_swaps_31 : decode cX7_swaps 31 = .ok (.goto (-29), 3) := by decide +kernel
theorem dX7_swaps_34 : decode cX7_swaps 34 = .ok (.return_, 1) := by decide +kernel
theorem dX7_swap_0 : decode cX7_swap 0 = .ok (.aload_n 0, 1) := by decide +kernel
theorem dX7_swap_1 : decode cX7_swap 1 = .ok (.getfield 13, 3) := by decide +kernel
theorem dX7_swap_4 : decode cX7_swap 4 = .ok (.invokestatic 96, 3) := by decide +kernel
theorem dX7_swap_7 : decode cX7_swap 7 = .ok (.aload_n 0, 1) := by decide +kernel
theorem dX7_swap_8 : decode cX7_swap 8 = .ok (.getfield 16, 3) := by decide +kernel
theorem dX7_swap_11 : decode cX7_swap 11 = .ok (.invokestatic 96, 3) := by decide +kernel
theorem dX7_swap_14 : decode cX7_swap 14 = .ok (.aload_n 0, 1) := by decide +kernel
theorem dX7_swap_15 : decode cX7_swap 15 = .ok (.getfield 19, 3) := by decide +kernel
theorem dX7_swap_18 : decode cX7_swap 18 = .ok (.invokestatic 96, 3) := by decide +kernel
theorem dX7_swap_21 : decode cX7_swap 21 = .ok (.aload_n 0, 1) := by decide +kernel
theorem dX7_swap_22 : decode cX7_swap 22 = .ok (.getfield 22, 3) := by decide +kernel
theorem dX7_swap_25 : decode cX7_swap 25 = .ok (.invokestatic 96, 3) := by decide +kernel
theorem dX7_swap_28 : decode cX7_swap 28 = .ok (.aload_n 0, 1) := by decide +kernel
theorem dX7_swap_29 : decode cX7_swap 29 = .ok (.getfield 25, 3) := by decide +kernel
theorem dX7_swap_32 : decode cX7_swap 32 = .ok (.invokestatic 96, 3) := by decide +kernel
theorem dX7_swap_35 : decode cX7_swap 35 = .ok (.aload_n 0, 1) := by decide +kernel
theorem dX7_swap_36 : decode cX7_swap 36 = .ok (.getfield 7, 3) := by decide +kernel
theorem dX7_swap_39 : decode cX7_swap 39 = .ok (.iconst 0, 1) := by decide +kernel
theorem dX7_swap_40 : decode cX7_swap 40 = .ok (.iaload, 1) := by decide +kernel
theorem dX7_swap_41 : decode cX7_swap 41 = .ok (.istore_n 1, 1) := by decide +kernel
theorem dX7_swap_42 : decode cX7_swap 42 = .ok (.aload_n 0, 1) := by decide +kernel
theorem dX7_swap_43 : decode cX7_swap 43 = .ok (.getfield 7, 3) := by decide +kernel
theorem dX7_swap_46 : decode cX7_swap 46 = .ok (.iconst 0, 1) := by decide +kernel
theorem dX7_swap_47 : decode cX7_swap 47 = .ok (.aload_n 0, 1) := by decide +kernel
theorem dX7_swap_48 : decode cX7_swap 48 = .ok (.getfield 7, 3) := by decide +kernel
theorem dX7_swap_51 : decode cX7_swap 51 = .ok (.iconst 1, 1) := by decide +kernel
theorem dX7_swap_52 : decode cX7_swap 52 = .ok (.iaload, 1) := by decide +kernel
theorem dX7_swap_53 : decode cX7_swap 53 = .ok (.iastore, 1) := by decide +kernel
theorem dX7_swap_54 : decode cX7_swap 54 = .ok (.aload_n 0, 1) := by decide +kernel
theorem dX7_swap_55 : decode cX7_swap 55 = .ok (.getfield 7, 3) := by decide +kernel
theorem dX7_swap_58 : decode cX7_swap 58 = .ok (.iconst 1, 1) := by decide +kernel
theorem dX7_swap_59 : decode cX7_swap 59 = .ok (.iload_n 1, 1) := by decide +kernel
theorem dX7_swap_60 : decode cX7_swap 60 = .ok (.iastore, 1) := by decide +kernel
theorem dX7_swap_61 : decode cX7_swap 61 = .ok (.aload_n 0, 1) := by decide +kernel
theorem dX7_swap_62 : decode cX7_swap 62 = .ok (.getfield 7, 3) := by decide +kernel
theorem dX7_swap_65 : decode cX7_swap 65 = .ok (.iconst 0, 1) := by decide +kernel
theorem dX7_swap_66 : decode cX7_swap 66 = .ok (.iaload, 1) := by decide +kernel
theorem dX7_swap_67 : decode cX7_swap 67 = .ok (.aload_n 0, 1) := by decide +kernel
theorem dX7_swap_68 : decode cX7_swap 68 = .ok (.getfield 7, 3) := by decide +kernel
theorem dX7_swap_71 : decode cX7_swap 71 = .ok (.iconst 1, 1) := by decide +kernel
theorem dX7_swap_72 : decode cX7_swap 72 = .ok (.iaload, 1) := by decide +kernel
theorem dX7_swap_73 : decode cX7_swap 73 = .ok (.iadd, 1) := by decide +kernel
theorem dX7_swap_74 : decode cX7_swap 74 = .ok (.ireturn, 1) := by decide +kernel
theorem dX7_read_0 : decode cX7_read 0 = .ok (.iload_n 1, 1) := by decide +kernel
theorem dX7_read_1 : decode cX7_read 1 = .ok (.invokestatic 82, 3) := by decide +kernel
theorem dX7_read_4 : decode cX7_read 4 = .ok (.ifCond .eq 10, 3) := by decide +kernel
theorem dX7_read_7 : decode cX7_read 7 = .ok (.iload_n 2, 1) := by decide +kernel
theorem dX7_read_8 : decode cX7_read 8 = .ok (.invokestatic 100, 3) := by decide +kernel
theorem dX7_read_11 : decode cX7_read 11 = .ok (.ifCond .ne 6, 3) := by decide +kernel
theorem dX7_read_14 : decode cX7_read 14 = .ok (.bipush (-2), 2) := by decide +kernel
theorem dX7_read_16 : decode cX7_read 16 = .ok (.ireturn, 1) := by decide +kernel
theorem dX7_read_17 : decode cX7_read 17 = .ok (.aload_n 0, 1) := by decide +kernel
theorem dX7_read_18 : decode cX7_read 18 = .ok (.getfield 52, 3) := by decide +kernel
theorem dX7_read_21 : decode cX7_read 21 = .ok (.iload_n 2, 1) := by decide +kernel
theorem dX7_read_22 : decode cX7_read 22 = .ok (.baload, 1) := by decide +kernel
theorem dX7_read_23 : decode cX7_read 23 = .ok (.ifCond .ne 9, 3) := by decide +kernel
theorem dX7_read_26 : decode cX7_read 26 = .ok (.aload_n 0, 1) := by decide +kernel
theorem dX7_read_27 : decode cX7_read 27 = .ok (.iconst 1, 1) := by decide +kernel
theorem dX7_read_28 : decode cX7_read 28 = .ok (.invokevirtual 103, 3) := by decide +kernel
theorem dX7_read_31 : decode cX7_read 31 = .ok (.ireturn, 1) := by decide +kernel
theorem dX7_read_32 : decode cX7_read 32 = .ok (.iconst 0, 1) := by decide +kernel
theorem dX7_read_33 : decode cX7_read 33 = .ok (.istore_n 3, 1) := by decide +kernel
theorem dX7_read_34 : decode cX7_read 34 = .ok (.bipush 60, 2) := by decide +kernel
theorem dX7_read_36 : decode cX7_read 36 = .ok (.iload_n 2, 1) := by decide +kernel
theorem dX7_read_37 : decode cX7_read 37 = .ok (.imul, 1) := by decide +kernel
theorem dX7_read_38 : decode cX7_read 38 = .ok (.istore 4, 2) := by decide +kernel
theorem dX7_read_40 : decode cX7_read 40 = .ok (.iconst 5, 1) := by decide +kernel
theorem dX7_read_41 : decode cX7_read 41 = .ok (.iload_n 3, 1) := by decide +kernel
theorem dX7_read_42 : decode cX7_read 42 = .ok (.imul, 1) := by decide +kernel
theorem dX7_read_43 : decode cX7_read 43 = .ok (.iconst 4, 1) := by decide +kernel
theorem dX7_read_44 : decode cX7_read 44 = .ok (.iadd, 1) := by decide +kernel
theorem dX7_read_45 : decode cX7_read 45 = .ok (.aload_n 0, 1) := by decide +kernel
theorem dX7_read_46 : decode cX7_read 46 = .ok (.getfield 59, 3) := by decide +kernel
theorem dX7_read_49 : decode cX7_read 49 = .ok (.iload_n 2, 1) := by decide +kernel
theorem dX7_read_50 : decode cX7_read 50 = .ok (.iaload, 1) := by decide +kernel
theorem dX7_read_51 : decode cX7_read 51 = .ok (.if_icmp .ge 80, 3) := by decide +kernel
theorem dX7_read_54 : decode cX7_read 54 = .ok (.aload_n 0, 1) := by decide +kernel
theorem dX7_read_55 : decode cX7_read 55 = .ok (.iload_n 1, 1) := by decide +kernel
theorem dX7_read_56 : decode cX7_read 56 = .ok (.aload_n 0, 1) := by decide +kernel
theorem dX7_read_57 : decode cX7_read 57 = .ok (.getfield 62, 3) := by decide +kernel
theorem dX7_read_60 : decode cX7_read 60 = .ok (.iload 4, 2) := by decide +kernel
theorem dX7_read_62 : decode cX7_read 62 = .ok (.iconst 5, 1) := by decide +kernel
theorem dX7_read_63 : decode cX7_read 63 = .ok (.iload_n 3, 1) := by decide +kernel
theorem dX7_read_64 : decode cX7_read 64 = .ok (.imul, 1) := by decide +kernel
theorem dX7_read_65 : decode cX7_read 65 = .ok (.iadd, 1) := by decide +kernel
theorem dX7_read_66 : decode cX7_read 66 = .ok (.iaload, 1) := by decide +kernel
theorem dX7_read_67 : decode cX7_read 67 = .ok (.aload_n 0, 1) := by decide +kernel
theorem dX7_read_68 : decode cX7_read 68 = .ok (.getfield 62, 3) := by decide +kernel
theorem dX7_read_71 : decode cX7_read 71 = .ok (.iload 4, 2) := by decide +kernel
theorem dX7_read_73 : decode cX7_read 73 = .ok (.iconst 5, 1) := by decide +kernel
theorem dX7_read_74 : decode cX7_read 74 = .ok (.iload_n 3, 1) := by decide +kernel
theorem dX7_read_75 : decode cX7_read 75 = .ok (.imul, 1) := by decide +kernel
theorem dX7_read_76 : decode cX7_read 76 = .ok (.iadd, 1) := by decide +kernel
theorem dX7_read_77 : decode cX7_read 77 = .ok (.iconst 1, 1) := by decide +kernel
theorem dX7_read_78 : decode cX7_read 78 = .ok (.iadd, 1) := by decide +kernel
theorem dX7_read_79 : decode cX7_read 79 = .ok (.iaload, 1) := by decide +kernel
theorem dX7_read_80 : decode cX7_read 80 = .ok (.aload_n 0, 1) := by decide +kernel
theorem dX7_read_81 : decode cX7_read 81 = .ok (.getfield 62, 3) := by decide +kernel
theorem dX7_read_84 : decode cX7_read 84 = .ok (.iload 4, 2) := by decide +kernel
theorem dX7_read_86 : decode cX7_read 86 = .ok (.iconst 5, 1) := by decide +kernel
theorem dX7_read_87 : decode cX7_read 87 = .ok (.iload_n 3, 1) := by decide +kernel
theorem dX7_read_88 : decode cX7_read 88 = .ok (.imul, 1) := by decide +kernel
theorem dX7_read_89 : decode cX7_read 89 = .ok (.iadd, 1) := by decide +kernel
theorem dX7_read_90 : decode cX7_read 90 = .ok (.iconst 2, 1) := by decide +kernel
theorem dX7_read_91 : decode cX7_read 91 = .ok (.iadd, 1) := by decide +kernel
theorem dX7_read_92 : decode cX7_read 92 = .ok (.iaload, 1) := by decide +kernel
theorem dX7_read_93 : decode cX7_read 93 = .ok (.aload_n 0, 1) := by decide +kernel
theorem dX7_read_94 : decode cX7_read 94 = .ok (.getfield 62, 3) := by decide +kernel
theorem dX7_read_97 : decode cX7_read 97 = .ok (.iload 4, 2) := by decide +kernel
theorem dX7_read_99 : decode cX7_read 99 = .ok (.iconst 5, 1) := by decide +kernel
theorem dX7_read_100 : decode cX7_read 100 = .ok (.iload_n 3, 1) := by decide +kernel
theorem dX7_read_101 : decode cX7_read 101 = .ok (.imul, 1) := by decide +kernel
theorem dX7_read_102 : decode cX7_read 102 = .ok (.iadd, 1) := by decide +kernel
theorem dX7_read_103 : decode cX7_read 103 = .ok (.iconst 3, 1) := by decide +kernel
theorem dX7_read_104 : decode cX7_read 104 = .ok (.iadd, 1) := by decide +kernel
theorem dX7_read_105 : decode cX7_read 105 = .ok (.iaload, 1) := by decide +kernel
theorem dX7_read_106 : decode cX7_read 106 = .ok (.aload_n 0, 1) := by decide +kernel
theorem dX7_read_107 : decode cX7_read 107 = .ok (.getfield 62, 3) := by decide +kernel
theorem dX7_read_110 : decode cX7_read 110 = .ok (.iload 4, 2) := by decide +kernel
theorem dX7_read_112 : decode cX7_read 112 = .ok (.iconst 5, 1) := by decide +kernel
theorem dX7_read_113 : decode cX7_read 113 = .ok (.iload_n 3, 1) := by decide +kernel
theorem dX7_read_114 : decode cX7_read 114 = .ok (.imul, 1) := by decide +kernel
theorem dX7_read_115 : decode cX7_read 115 = .ok (.iadd, 1) := by decide +kernel
theorem dX7_read_116 : decode cX7_read 116 = .ok (.iconst 4, 1) := by decide +kernel
theorem dX7_read_117 : decode cX7_read 117 = .ok (.iadd, 1) := by decide +kernel
theorem dX7_read_118 : decode cX7_read 118 = .ok (.iaload, 1) := by decide +kernel
theorem dX7_read_119 : decode cX7_read 119 = .ok (.invokevirtual 85, 3) := by decide +kernel
theorem dX7_read_122 : decode cX7_read 122 = .ok (.ifCond .le 9, 3) := by decide +kernel
theorem dX7_read_125 : decode cX7_read 125 = .ok (.iinc 3 1, 3) := by decide +kernel
theorem dX7_read_128 : decode cX7_read 128 = .ok (.goto (-88), 3) := by decide +kernel
theorem dX7_read_131 : decode cX7_read 131 = .ok (.iload_n 3, 1) := by decide +kernel
theorem dX7_read_132 : decode cX7_read 132 = .ok (.ireturn, 1) := by decide +kernel
theorem dX7_frameOf_0 : decode cX7_frameOf 0 = .ok (.aload_n 0, 1) := by decide +kernel
theorem dX7_frameOf_1 : decode cX7_frameOf 1 = .ok (.getfield 16, 3) := by decide +kernel
theorem dX7_frameOf_4 : decode cX7_frameOf 4 = .ok (.iload_n 1, 1) := by decide +kernel
theorem dX7_frameOf_5 : decode cX7_frameOf 5 = .ok (.iaload, 1) := by decide +kernel
theorem dX7_frameOf_6 : decode cX7_frameOf 6 = .ok (.iload_n 2, 1) := by decide +kernel
theorem dX7_frameOf_7 : decode cX7_frameOf 7 = .ok (.aload_n 0, 1) := by decide +kernel
theorem dX7_frameOf_8 : decode cX7_frameOf 8 = .ok (.getfield 22, 3) := by decide +kernel
theorem dX7_frameOf_11 : decode cX7_frameOf 11 = .ok (.iload_n 1, 1) := by decide +kernel
theorem dX7_frameOf_12 : decode cX7_frameOf 12 = .ok (.iaload, 1) := by decide +kernel
theorem dX7_frameOf_13 : decode cX7_frameOf 13 = .ok (.imul, 1) := by decide +kernel
theorem dX7_frameOf_14 : decode cX7_frameOf 14 = .ok (.aload_n 0, 1) := by decide +kernel
theorem dX7_frameOf_15 : decode cX7_frameOf 15 = .ok (.getfield 25, 3) := by decide +kernel
theorem dX7_frameOf_18 : decode cX7_frameOf 18 = .ok (.iload_n 1, 1) := by decide +kernel
theorem dX7_frameOf_19 : decode cX7_frameOf 19 = .ok (.iaload, 1) := by decide +kernel
theorem dX7_frameOf_20 : decode cX7_frameOf 20 = .ok (.idiv, 1) := by decide +kernel
theorem dX7_frameOf_21 : decode cX7_frameOf 21 = .ok (.iadd, 1) := by decide +kernel
theorem dX7_frameOf_22 : decode cX7_frameOf 22 = .ok (.ireturn, 1) := by decide +kernel
theorem dX7_lastOf_0 : decode cX7_lastOf 0 = .ok (.aload_n 0, 1) := by decide +kernel
theorem dX7_lastOf_1 : decode cX7_lastOf 1 = .ok (.iload_n 1, 1) := by decide +kernel
theorem dX7_lastOf_2 : decode cX7_lastOf 2 = .ok (.aload_n 0, 1) := by decide +kernel
theorem dX7_lastOf_3 : decode cX7_lastOf 3 = .ok (.getfield 19, 3) := by decide +kernel
theorem dX7_lastOf_6 : decode cX7_lastOf 6 = .ok (.iload_n 1, 1) := by decide +kernel
theorem dX7_lastOf_7 : decode cX7_lastOf 7 = .ok (.iaload, 1) := by decide +kernel
theorem dX7_lastOf_8 : decode cX7_lastOf 8 = .ok (.iconst 1, 1) := by decide +kernel
theorem dX7_lastOf_9 : decode cX7_lastOf 9 = .ok (.isub, 1) := by decide +kernel
theorem dX7_lastOf_10 : decode cX7_lastOf 10 = .ok (.invokevirtual 107, 3) := by decide +kernel
theorem dX7_lastOf_13 : decode cX7_lastOf 13 = .ok (.ireturn, 1) := by decide +kernel
theorem dX7_beginOf_0 : decode cX7_beginOf 0 = .ok (.iconst 0, 1) := by decide +kernel
theorem dX7_beginOf_1 : decode cX7_beginOf 1 = .ok (.istore_n 3, 1) := by decide +kernel
theorem dX7_beginOf_2 : decode cX7_beginOf 2 = .ok (.iconst 0, 1) := by decide +kernel
theorem dX7_beginOf_3 : decode cX7_beginOf 3 = .ok (.istore 4, 2) := by decide +kernel
theorem dX7_beginOf_5 : decode cX7_beginOf 5 = .ok (.iload 4, 2) := by decide +kernel
theorem dX7_beginOf_7 : decode cX7_beginOf 7 = .ok (.iload_n 2, 1) := by decide +kernel
theorem dX7_beginOf_8 : decode cX7_beginOf 8 = .ok (.if_icmp .ge 24, 3) := by decide +kernel
theorem dX7_beginOf_11 : decode cX7_beginOf 11 = .ok (.iload_n 3, 1) := by decide +kernel
theorem dX7_beginOf_12 : decode cX7_beginOf 12 = .ok (.aload_n 0, 1) := by decide +kernel
theorem dX7_beginOf_13 : decode cX7_beginOf 13 = .ok (.getfield 19, 3) := by decide +kernel
theorem dX7_beginOf_16 : decode cX7_beginOf 16 = .ok (.bipush 8, 2) := by decide +kernel
theorem dX7_beginOf_18 : decode cX7_beginOf 18 = .ok (.iload_n 1, 1) := by decide +kernel
theorem dX7_beginOf_19 : decode cX7_beginOf 19 = .ok (.imul, 1) := by decide +kernel
theorem dX7_beginOf_20 : decode cX7_beginOf 20 = .ok (.iload 4, 2) := by decide +kernel
theorem dX7_beginOf_22 : decode cX7_beginOf 22 = .ok (.iadd, 1) := by decide +kernel
theorem dX7_beginOf_23 : decode cX7_beginOf 23 = .ok (.iaload, 1) := by decide +kernel
theorem dX7_beginOf_24 : decode cX7_beginOf 24 = .ok (.iadd, 1) := by decide +kernel
theorem dX7_beginOf_25 : decode cX7_beginOf 25 = .ok (.istore_n 3, 1) := by decide +kernel
theorem dX7_beginOf_26 : decode cX7_beginOf 26 = .ok (.iinc 4 1, 3) := by decide +kernel
theorem dX7_beginOf_29 : decode cX7_beginOf 29 = .ok (.goto (-24), 3) := by decide +kernel
theorem dX7_beginOf_32 : decode cX7_beginOf 32 = .ok (.iload_n 3, 1) := by decide +kernel
theorem dX7_beginOf_33 : decode cX7_beginOf 33 = .ok (.ireturn, 1) := by decide +kernel
theorem dX7_infoOf_0 : decode cX7_infoOf 0 = .ok (.bipush 8, 2) := by decide +kernel
theorem dX7_infoOf_2 : decode cX7_infoOf 2 = .ok (.iload_n 1, 1) := by decide +kernel
theorem dX7_infoOf_3 : decode cX7_infoOf 3 = .ok (.imul, 1) := by decide +kernel
theorem dX7_infoOf_4 : decode cX7_infoOf 4 = .ok (.iload_n 2, 1) := by decide +kernel
theorem dX7_infoOf_5 : decode cX7_infoOf 5 = .ok (.iadd, 1) := by decide +kernel
theorem dX7_infoOf_6 : decode cX7_infoOf 6 = .ok (.istore 4, 2) := by decide +kernel
theorem dX7_infoOf_8 : decode cX7_infoOf 8 = .ok (.iload_n 3, 1) := by decide +kernel
theorem dX7_infoOf_9 : decode cX7_infoOf 9 = .ok (.tableswitch 98 0 6 #[43, 51, 59, 67, 75, 83, 90], 43) := by decide +kernel
theorem dX7_infoOf_52 : decode cX7_infoOf 52 = .ok (.aload_n 0, 1) := by decide +kernel
theorem dX7_infoOf_53 : decode cX7_infoOf 53 = .ok (.getfield 13, 3) := by decide +kernel
theorem dX7_infoOf_56 : decode cX7_infoOf 56 = .ok (.iload 4, 2) := by decide +kernel
theorem dX7_infoOf_58 : decode cX7_infoOf 58 = .ok (.iaload, 1) := by decide +kernel
theorem dX7_infoOf_59 : decode cX7_infoOf 59 = .ok (.ireturn, 1) := by decide +kernel
theorem dX7_infoOf_60 : decode cX7_infoOf 60 = .ok (.aload_n 0, 1) := by decide +kernel
theorem dX7_infoOf_61 : decode cX7_infoOf 61 = .ok (.getfield 16, 3) := by decide +kernel
theorem dX7_infoOf_64 : decode cX7_infoOf 64 = .ok (.iload 4, 2) := by decide +kernel
theorem dX7_infoOf_66 : decode cX7_infoOf 66 = .ok (.iaload, 1) := by decide +kernel
theorem dX7_infoOf_67 : decode cX7_infoOf 67 = .ok (.ireturn, 1) := by decide +kernel
theorem dX7_infoOf_68 : decode cX7_infoOf 68 = .ok (.aload_n 0, 1) := by decide +kernel
theorem dX7_infoOf_69 : decode cX7_infoOf 69 = .ok (.getfield 19, 3) := by decide +kernel
theorem dX7_infoOf_72 : decode cX7_infoOf 72 = .ok (.iload 4, 2) := by decide +kernel
theorem dX7_infoOf_74 : decode cX7_infoOf 74 = .ok (.iaload, 1) := by decide +kernel
theorem dX7_infoOf_75 : decode cX7_infoOf 75 = .ok (.ireturn, 1) := by decide +kernel
theorem dX7_infoOf_76 : decode cX7_infoOf 76 = .ok (.aload_n 0, 1) := by decide +kernel
theorem dX7_infoOf_77 : decode cX7_infoOf 77 = .ok (.getfield 22, 3) := by decide +kernel
theorem dX7_infoOf_80 : decode cX7_infoOf 80 = .ok (.iload 4, 2) := by decide +kernel
theorem dX7_infoOf_82 : decode cX7_infoOf 82 = .ok (.iaload, 1) := by decide +kernel
theorem dX7_infoOf_83 : decode cX7_infoOf 83 = .ok (.ireturn, 1) := by decide +kernel
theorem dX7_infoOf_84 : decode cX7_infoOf 84 = .ok (.aload_n 0, 1) := by decide +kernel
theorem dX7_infoOf_85 : decode cX7_infoOf 85 = .ok (.getfield 25, 3) := by decide +kernel
theorem dX7_infoOf_88 : decode cX7_infoOf 88 = .ok (.iload 4, 2) := by decide +kernel
theorem dX7_infoOf_90 : decode cX7_infoOf 90 = .ok (.iaload, 1) := by decide +kernel
theorem dX7_infoOf_91 : decode cX7_infoOf 91 = .ok (.ireturn, 1) := by decide +kernel
theorem dX7_infoOf_92 : decode cX7_infoOf 92 = .ok (.aload_n 0, 1) := by decide +kernel
theorem dX7_infoOf_93 : decode cX7_infoOf 93 = .ok (.iload_n 1, 1) := by decide +kernel
theorem dX7_infoOf_94 : decode cX7_infoOf 94 = .ok (.iload_n 2, 1) := by decide +kernel
theorem dX7_infoOf_95 : decode cX7_infoOf 95 = .ok (.invokevirtual 111, 3) := by decide +kernel
theorem dX7_infoOf_98 : decode cX7_infoOf 98 = .ok (.ireturn, 1) := by decide +kernel
theorem dX7_infoOf_99 : decode cX7_infoOf 99 = .ok (.aload_n 0, 1) := by decide +kernel
theorem dX7_infoOf_100 : decode cX7_infoOf 100 = .ok (.getfield 16, 3) := by decide +kernel
theorem dX7_infoOf_103 : decode cX7_infoOf 103 = .ok (.iload 4, 2) := by decide +kernel
theorem dX7_infoOf_105 : decode cX7_infoOf 105 = .ok (.iaload, 1) := by decide +kernel
theorem dX7_infoOf_106 : decode cX7_infoOf 106 = .ok (.ireturn, 1) := by decide +kernel
theorem dX7_infoOf_107 : decode cX7_infoOf 107 = .ok (.aload_n 0, 1) := by decide +kernel
theorem dX7_infoOf_108 : decode cX7_infoOf 108 = .ok (.iload 4, 2) := by decide +kernel
theorem dX7_infoOf_110 : decode cX7_infoOf 110 = .ok (.invokevirtual 114, 3) := by decide +kernel
theorem dX7_infoOf_113 : decode cX7_infoOf 113 = .ok (.ireturn, 1) := by decide +kernel
theorem dX7_info_0 : decode cX7_info 0 = .ok (.aload_n 0, 1) := by decide +kernel
theorem dX7_info_1 : decode cX7_info 1 = .ok (.iload_n 1, 1) := by decide +kernel
theorem dX7_info_2 : decode cX7_info 2 = .ok (.iload_n 2, 1) := by decide +kernel
theorem dX7_info_3 : decode cX7_info 3 = .ok (.invokevirtual 89, 3) := by decide +kernel
theorem dX7_info_6 : decode cX7_info 6 = .ok (.ifCond .eq 23, 3) := by decide +kernel
theorem dX7_info_9 : decode cX7_info 9 = .ok (.iload_n 3, 1) := by decide +kernel
theorem dX7_info_10 : decode cX7_info 10 = .ok (.iconst 0, 1) := by decide +kernel
theorem dX7_info_11 : decode cX7_info 11 = .ok (.bipush 7, 2) := by decide +kernel
theorem dX7_info_13 : decode cX7_info 13 = .ok (.invokestatic 69, 3) := by decide +kernel
theorem dX7_info_16 : decode cX7_info 16 = .ok (.ifCond .eq 13, 3) := by decide +kernel
theorem dX7_info_19 : decode cX7_info 19 = .ok (.aload_n 0, 1) := by decide +kernel
theorem dX7_info_20 : decode cX7_info 20 = .ok (.iload_n 1, 1) := by decide +kernel
theorem dX7_info_21 : decode cX7_info 21 = .ok (.iload_n 2, 1) := by decide +kernel
theorem dX7_info_22 : decode cX7_info 22 = .ok (.iload_n 3, 1) := by decide +kernel
theorem dX7_info_23 : decode cX7_info 23 = .ok (.invokevirtual 117, 3) := by decide +kernel
theorem dX7_info_26 : decode cX7_info 26 = .ok (.goto 5, 3) := by decide +kernel
theorem dX7_info_29 : decode cX7_info 29 = .ok (.bipush (-2), 2) := by decide +kernel
theorem dX7_info_31 : decode cX7_info 31 = .ok (.ireturn, 1) := by decide +kernel
theorem dX7_showsOf_0 : decode cX7_showsOf 0 = .ok (.iconst 0, 1) := by decide +kernel
theorem dX7_showsOf_1 : decode cX7_showsOf 1 = .ok (.istore 4, 2) := by decide +kernel
theorem dX7_showsOf_3 : decode cX7_showsOf 3 = .ok (.iconst 0, 1) := by decide +kernel
theorem dX7_showsOf_4 : decode cX7_showsOf 4 = .ok (.istore 5, 2) := by decide +kernel
theorem dX7_showsOf_6 : decode cX7_showsOf 6 = .ok (.iload 5, 2) := by decide +kernel
theorem dX7_showsOf_8 : decode cX7_showsOf 8 = .ok (.aload_n 0, 1) := by decide +kernel
theorem dX7_showsOf_9 : decode cX7_showsOf 9 = .ok (.getfield 7, 3) := by decide +kernel
theorem dX7_showsOf_12 : decode cX7_showsOf 12 = .ok (.iload_n 1, 1) := by decide +kernel
theorem dX7_showsOf_13 : decode cX7_showsOf 13 = .ok (.iaload, 1) := by decide +kernel
theorem dX7_showsOf_14 : decode cX7_showsOf 14 = .ok (.if_icmp .ge 113, 3) := by decide +kernel
theorem dX7_showsOf_17 : decode cX7_showsOf 17 = .ok (.bipush 8, 2) := by decide +kernel
theorem dX7_showsOf_19 : decode cX7_showsOf 19 = .ok (.iload_n 1, 1) := by decide +kernel
theorem dX7_showsOf_20 : decode cX7_showsOf 20 = .ok (.imul, 1) := by decide +kernel
theorem dX7_showsOf_21 : decode cX7_showsOf 21 = .ok (.iload 5, 2) := by decide +kernel
theorem dX7_showsOf_23 : decode cX7_showsOf 23 = .ok (.iadd, 1) := by decide +kernel
theorem dX7_showsOf_24 : decode cX7_showsOf 24 = .ok (.istore 6, 2) := by decide +kernel
theorem dX7_showsOf_26 : decode cX7_showsOf 26 = .ok (.iload_n 2, 1) := by decide +kernel
theorem dX7_showsOf_27 : decode cX7_showsOf 27 = .ok (.iload 4, 2) := by decide +kernel
theorem dX7_showsOf_29 : decode cX7_showsOf 29 = .ok (.aload_n 0, 1) := by decide +kernel
theorem dX7_showsOf_30 : decode cX7_showsOf 30 = .ok (.getfield 19, 3) := by decide +kernel
theorem dX7_showsOf_33 : decode cX7_showsOf 33 = .ok (.iload 6, 2) := by decide +kernel
theorem dX7_showsOf_35 : decode cX7_showsOf 35 = .ok (.iaload, 1) := by decide +kernel
theorem dX7_showsOf_36 : decode cX7_showsOf 36 = .ok (.iadd, 1) := by decide +kernel
theorem dX7_showsOf_37 : decode cX7_showsOf 37 = .ok (.if_icmp .ge 72, 3) := by decide +kernel
theorem dX7_showsOf_40 : decode cX7_showsOf 40 = .ok (.aload_n 0, 1) := by decide +kernel
theorem dX7_showsOf_41 : decode cX7_showsOf 41 = .ok (.iload 6, 2) := by decide +kernel
theorem dX7_showsOf_43 : decode cX7_showsOf 43 = .ok (.iload_n 2, 1) := by decide +kernel
theorem dX7_showsOf_44 : decode cX7_showsOf 44 = .ok (.iload 4, 2) := by decide +kernel
theorem dX7_showsOf_46 : decode cX7_showsOf 46 = .ok (.isub, 1) := by decide +kernel
theorem dX7_showsOf_47 : decode cX7_showsOf 47 = .ok (.invokevirtual 107, 3) := by decide +kernel
theorem dX7_showsOf_50 : decode cX7_showsOf 50 = .ok (.istore 7, 2) := by decide +kernel
theorem dX7_showsOf_52 : decode cX7_showsOf 52 = .ok (.iload_n 3, 1) := by decide +kernel
theorem dX7_showsOf_53 : decode cX7_showsOf 53 = .ok (.ifCond .ne 8, 3) := by decide +kernel
theorem dX7_showsOf_56 : decode cX7_showsOf 56 = .ok (.iload 5, 2) := by decide +kernel
theorem dX7_showsOf_58 : decode cX7_showsOf 58 = .ok (.goto 50, 3) := by decide +kernel
theorem dX7_showsOf_61 : decode cX7_showsOf 61 = .ok (.iload_n 3, 1) := by decide +kernel
theorem dX7_showsOf_62 : decode cX7_showsOf 62 = .ok (.iconst 1, 1) := by decide +kernel
theorem dX7_showsOf_63 : decode cX7_showsOf 63 = .ok (.if_icmp .ne 13, 3) := by decide +kernel
theorem dX7_showsOf_66 : decode cX7_showsOf 66 = .ok (.aload_n 0, 1) := by decide +kernel
theorem dX7_showsOf_67 : decode cX7_showsOf 67 = .ok (.getfield 13, 3) := by decide +kernel
theorem dX7_showsOf_70 : decode cX7_showsOf 70 = .ok (.iload 6, 2) := by decide +kernel
theorem dX7_showsOf_72 : decode cX7_showsOf 72 = .ok (.iaload, 1) := by decide +kernel
theorem dX7_showsOf_73 : decode cX7_showsOf 73 = .ok (.goto 35, 3) := by decide +kernel
theorem dX7_showsOf_76 : decode cX7_showsOf 76 = .ok (.iload_n 3, 1) := by decide +kernel
theorem dX7_showsOf_77 : decode cX7_showsOf 77 = .ok (.iconst 2, 1) := by decide +kernel
theorem dX7_showsOf_78 : decode cX7_showsOf 78 = .ok (.if_icmp .ne 8, 3) := by decide +kernel
theorem dX7_showsOf_81 : decode cX7_showsOf 81 = .ok (.iload 7, 2) := by decide +kernel
theorem dX7_showsOf_83 : decode cX7_showsOf 83 = .ok (.goto 25, 3) := by decide +kernel
theorem dX7_showsOf_86 : decode cX7_showsOf 86 = .ok (.iload 7, 2) := by decide +kernel
theorem dX7_showsOf_88 : decode cX7_showsOf 88 = .ok (.aload_n 0, 1) := by decide +kernel
theorem dX7_showsOf_89 : decode cX7_showsOf 89 = .ok (.getfield 31, 3) := by decide +kernel
theorem dX7_showsOf_92 : decode cX7_showsOf 92 = .ok (.aload_n 0, 1) := by decide +kernel
theorem dX7_showsOf_93 : decode cX7_showsOf 93 = .ok (.getfield 13, 3) := by decide +kernel
theorem dX7_showsOf_96 : decode cX7_showsOf 96 = .ok (.iload 6, 2) := by decide +kernel
theorem dX7_showsOf_98 : decode cX7_showsOf 98 = .ok (.iaload, 1) := by decide +kernel
theorem dX7_showsOf_99 : decode cX7_showsOf 99 = .ok (.iaload, 1) := by decide +kernel
theorem dX7_showsOf_100 : decode cX7_showsOf 100 = .ok (.if_icmp .lt 7, 3) := by decide +kernel
theorem dX7_showsOf_103 : decode cX7_showsOf 103 = .ok (.iconst 1, 1) := by decide +kernel
theorem dX7_showsOf_104 : decode cX7_showsOf 104 = .ok (.goto 4, 3) := by decide +kernel
theorem dX7_showsOf_107 : decode cX7_showsOf 107 = .ok (.iconst 0, 1) := by decide +kernel
theorem dX7_showsOf_108 : decode cX7_showsOf 108 = .ok (.ireturn, 1) := by decide +kernel
theorem dX7_showsOf_109 : decode cX7_showsOf 109 = .ok (.iload 4, 2) := by decide +kernel
theorem dX7_showsOf_111 : decode cX7_showsOf 111 = .ok (.aload_n 0, 1) := by decide +kernel
theorem dX7_showsOf_112 : decode cX7_showsOf 112 = .ok (.getfield 19, 3) := by decide +kernel
theorem dX7_showsOf_115 : decode cX7_showsOf 115 = .ok (.iload 6, 2) := by decide +kernel
theorem dX7_showsOf_117 : decode cX7_showsOf 117 = .ok (.iaload, 1) := by decide +kernel
theorem dX7_showsOf_118 : decode cX7_showsOf 118 = .ok (.iadd, 1) := by decide +kernel
theorem dX7_showsOf_119 : decode cX7_showsOf 119 = .ok (.istore 4, 2) := by decide +kernel
theorem dX7_showsOf_121 : decode cX7_showsOf 121 = .ok (.iinc 5 1, 3) := by decide +kernel
theorem dX7_showsOf_124 : decode cX7_showsOf 124 = .ok (.goto (-118), 3) := by decide +kernel
theorem dX7_showsOf_127 : decode cX7_showsOf 127 = .ok (.iconst (-1), 1) := by decide +kernel
theorem dX7_showsOf_128 : decode cX7_showsOf 128 = .ok (.ireturn, 1) := by decide +kernel
theorem dX7_shows_0 : decode cX7_shows 0 = .ok (.iload_n 1, 1) := by decide +kernel
theorem dX7_shows_1 : decode cX7_shows 1 = .ok (.invokestatic 82, 3) := by decide +kernel
theorem dX7_shows_4 : decode cX7_shows 4 = .ok (.ifCond .eq 33, 3) := by decide +kernel
theorem dX7_shows_7 : decode cX7_shows 7 = .ok (.iload_n 2, 1) := by decide +kernel
theorem dX7_shows_8 : decode cX7_shows 8 = .ok (.iconst 0, 1) := by decide +kernel
theorem dX7_shows_9 : decode cX7_shows 9 = .ok (.sipush 3999, 3) := by decide +kernel
theorem dX7_shows_12 : decode cX7_shows 12 = .ok (.invokestatic 69, 3) := by decide +kernel
theorem dX7_shows_15 : decode cX7_shows 15 = .ok (.ifCond .eq 22, 3) := by decide +kernel
theorem dX7_shows_18 : decode cX7_shows 18 = .ok (.iload_n 3, 1) := by decide +kernel
theorem dX7_shows_19 : decode cX7_shows 19 = .ok (.iconst 0, 1) := by decide +kernel
theorem dX7_shows_20 : decode cX7_shows 20 = .ok (.iconst 3, 1) := by decide +kernel
theorem dX7_shows_21 : decode cX7_shows 21 = .ok (.invokestatic 69, 3) := by decide +kernel
theorem dX7_shows_24 : decode cX7_shows 24 = .ok (.ifCond .eq 13, 3) := by decide +kernel
theorem dX7_shows_27 : decode cX7_shows 27 = .ok (.aload_n 0, 1) := by decide +kernel
theorem dX7_shows_28 : decode cX7_shows 28 = .ok (.iload_n 1, 1) := by decide +kernel
theorem dX7_shows_29 : decode cX7_shows 29 = .ok (.iload_n 2, 1) := by decide +kernel
theorem dX7_shows_30 : decode cX7_shows 30 = .ok (.iload_n 3, 1) := by decide +kernel
theorem dX7_shows_31 : decode cX7_shows 31 = .ok (.invokevirtual 121, 3) := by decide +kernel
theorem dX7_shows_34 : decode cX7_shows 34 = .ok (.goto 5, 3) := by decide +kernel
theorem dX7_shows_37 : decode cX7_shows 37 = .ok (.bipush (-2), 2) := by decide +kernel
theorem dX7_shows_39 : decode cX7_shows 39 = .ok (.ireturn, 1) := by decide +kernel
theorem dX7_seenOf_0 : decode cX7_seenOf 0 = .ok (.iconst 0, 1) := by decide +kernel
theorem dX7_seenOf_1 : decode cX7_seenOf 1 = .ok (.istore 5, 2) := by decide +kernel
theorem dX7_seenOf_3 : decode cX7_seenOf 3 = .ok (.iconst (-1), 1) := by decide +kernel
theorem dX7_seenOf_4 : decode cX7_seenOf 4 = .ok (.istore 6, 2) := by decide +kernel
theorem dX7_seenOf_6 : decode cX7_seenOf 6 = .ok (.iconst 0, 1) := by decide +kernel
theorem dX7_seenOf_7 : decode cX7_seenOf 7 = .ok (.istore 7, 2) := by decide +kernel
theorem dX7_seenOf_9 : decode cX7_seenOf 9 = .ok (.iconst 0, 1) := by decide +kernel
theorem dX7_seenOf_10 : decode cX7_seenOf 10 = .ok (.istore 8, 2) := by decide +kernel
theorem dX7_seenOf_12 : decode cX7_seenOf 12 = .ok (.iload 8, 2) := by decide +kernel
theorem dX7_seenOf_14 : decode cX7_seenOf 14 = .ok (.aload_n 0, 1) := by decide +kernel
theorem dX7_seenOf_15 : decode cX7_seenOf 15 = .ok (.getfield 7, 3) := by decide +kernel
theorem dX7_seenOf_18 : decode cX7_seenOf 18 = .ok (.iload_n 1, 1) := by decide +kernel
theorem dX7_seenOf_19 : decode cX7_seenOf 19 = .ok (.iaload, 1) := by decide +kernel
theorem dX7_seenOf_20 : decode cX7_seenOf 20 = .ok (.if_icmp .ge 107, 3) := by decide +kernel
theorem dX7_seenOf_23 : decode cX7_seenOf 23 = .ok (.bipush 8, 2) := by decide +kernel
theorem dX7_seenOf_25 : decode cX7_seenOf 25 = .ok (.iload_n 1, 1) := by decide +kernel
theorem dX7_seenOf_26 : decode cX7_seenOf 26 = .ok (.imul, 1) := by decide +kernel
theorem dX7_seenOf_27 : decode cX7_seenOf 27 = .ok (.iload 8, 2) := by decide +kernel
theorem dX7_seenOf_29 : decode cX7_seenOf 29 = .ok (.iadd, 1) := by decide +kernel
theorem dX7_seenOf_30 : decode cX7_seenOf 30 = .ok (.istore 9, 2) := by decide +kernel
theorem dX7_seenOf_32 : decode cX7_seenOf 32 = .ok (.iconst 0, 1) := by decide +kernel
theorem dX7_seenOf_33 : decode cX7_seenOf 33 = .ok (.istore 10, 2) := by decide +kernel
theorem dX7_seenOf_35 : decode cX7_seenOf 35 = .ok (.iload 10, 2) := by decide +kernel
theorem dX7_seenOf_37 : decode cX7_seenOf 37 = .ok (.aload_n 0, 1) := by decide +kernel
theorem dX7_seenOf_38 : decode cX7_seenOf 38 = .ok (.getfield 19, 3) := by decide +kernel
theorem dX7_seenOf_41 : decode cX7_seenOf 41 = .ok (.iload 9, 2) := by decide +kernel
theorem dX7_seenOf_43 : decode cX7_seenOf 43 = .ok (.iaload, 1) := by decide +kernel
theorem dX7_seenOf_44 : decode cX7_seenOf 44 = .ok (.if_icmp .ge 77, 3) := by decide +kernel
theorem dX7_seenOf_47 : decode cX7_seenOf 47 = .ok (.aload_n 0, 1) := by decide +kernel
theorem dX7_seenOf_48 : decode cX7_seenOf 48 = .ok (.getfield 13, 3) := by decide +kernel
theorem dX7_seenOf_51 : decode cX7_seenOf 51 = .ok (.iload 9, 2) := by decide +kernel
theorem dX7_seenOf_53 : decode cX7_seenOf 53 = .ok (.iaload, 1) := by decide +kernel
theorem dX7_seenOf_54 : decode cX7_seenOf 54 = .ok (.iload_n 2, 1) := by decide +kernel
theorem dX7_seenOf_55 : decode cX7_seenOf 55 = .ok (.if_icmp .ne 19, 3) := by decide +kernel
theorem dX7_seenOf_58 : decode cX7_seenOf 58 = .ok (.aload_n 0, 1) := by decide +kernel
theorem dX7_seenOf_59 : decode cX7_seenOf 59 = .ok (.iload 9, 2) := by decide +kernel
theorem dX7_seenOf_61 : decode cX7_seenOf 61 = .ok (.iload 10, 2) := by decide +kernel
theorem dX7_seenOf_63 : decode cX7_seenOf 63 = .ok (.invokevirtual 107, 3) := by decide +kernel
theorem dX7_seenOf_66 : decode cX7_seenOf 66 = .ok (.iload_n 3, 1) := by decide +kernel
theorem dX7_seenOf_67 : decode cX7_seenOf 67 = .ok (.if_icmp .ne 7, 3) := by decide +kernel
theorem dX7_seenOf_70 : decode cX7_seenOf 70 = .ok (.iconst 1, 1) := by decide +kernel
theorem dX7_seenOf_71 : decode cX7_seenOf 71 = .ok (.goto 4, 3) := by decide +kernel
theorem dX7_seenOf_74 : decode cX7_seenOf 74 = .ok (.iconst 0, 1) := by decide +kernel
theorem dX7_seenOf_75 : decode cX7_seenOf 75 = .ok (.istore 11, 2) := by decide +kernel
theorem dX7_seenOf_77 : decode cX7_seenOf 77 = .ok (.iload 5, 2) := by decide +kernel
theorem dX7_seenOf_79 : decode cX7_seenOf 79 = .ok (.iload 11, 2) := by decide +kernel
theorem dX7_seenOf_81 : decode cX7_seenOf 81 = .ok (.ifCond .eq 7, 3) := by decide +kernel
theorem dX7_seenOf_84 : decode cX7_seenOf 84 = .ok (.iconst 1, 1) := by decide +kernel
theorem dX7_seenOf_85 : decode cX7_seenOf 85 = .ok (.goto 4, 3) := by decide +kernel
theorem dX7_seenOf_88 : decode cX7_seenOf 88 = .ok (.iconst 0, 1) := by decide +kernel
theorem dX7_seenOf_89 : decode cX7_seenOf 89 = .ok (.iadd, 1) := by decide +kernel
theorem dX7_seenOf_90 : decode cX7_seenOf 90 = .ok (.istore 5, 2) := by decide +kernel
theorem dX7_seenOf_92 : decode cX7_seenOf 92 = .ok (.iload 11, 2) := by decide +kernel
theorem dX7_seenOf_94 : decode cX7_seenOf 94 = .ok (.ifCond .eq 14, 3) := by decide +kernel
theorem dX7_seenOf_97 : decode cX7_seenOf 97 = .ok (.iload 6, 2) := by decide +kernel
theorem dX7_seenOf_99 : decode cX7_seenOf 99 = .ok (.iconst (-1), 1) := by decide +kernel
theorem dX7_seenOf_100 : decode cX7_seenOf 100 = .ok (.if_icmp .ne 8, 3) := by decide +kernel
theorem dX7_seenOf_103 : decode cX7_seenOf 103 = .ok (.iload 7, 2) := by decide +kernel
theorem dX7_seenOf_105 : decode cX7_seenOf 105 = .ok (.goto 5, 3) := by decide +kernel
theorem dX7_seenOf_108 : decode cX7_seenOf 108 = .ok (.iload 6, 2) := by decide +kernel
theorem dX7_seenOf_110 : decode cX7_seenOf 110 = .ok (.istore 6, 2) := by decide +kernel
theorem dX7_seenOf_112 : decode cX7_seenOf 112 = .ok (.iinc 7 1, 3) := by decide +kernel
theorem dX7_seenOf_115 : decode cX7_seenOf 115 = .ok (.iinc 10 1, 3) := by decide +kernel
theorem dX7_seenOf_118 : decode cX7_seenOf 118 = .ok (.goto (-83), 3) := by decide +kernel
theorem dX7_seenOf_121 : decode cX7_seenOf 121 = .ok (.iinc 8 1, 3) := by decide +kernel
theorem dX7_seenOf_124 : decode cX7_seenOf 124 = .ok (.goto (-112), 3) := by decide +kernel
theorem dX7_seenOf_127 : decode cX7_seenOf 127 = .ok (.iload 4, 2) := by decide +kernel
theorem dX7_seenOf_129 : decode cX7_seenOf 129 = .ok (.ifCond .ne 8, 3) := by decide +kernel
theorem dX7_seenOf_132 : decode cX7_seenOf 132 = .ok (.iload 5, 2) := by decide +kernel
theorem dX7_seenOf_134 : decode cX7_seenOf 134 = .ok (.goto 5, 3) := by decide +kernel
theorem dX7_seenOf_137 : decode cX7_seenOf 137 = .ok (.iload 6, 2) := by decide +kernel
theorem dX7_seenOf_139 : decode cX7_seenOf 139 = .ok (.ireturn, 1) := by decide +kernel
theorem dX7_seen_0 : decode cX7_seen 0 = .ok (.iload_n 1, 1) := by decide +kernel
theorem dX7_seen_1 : decode cX7_seen 1 = .ok (.invokestatic 82, 3) := by decide +kernel
theorem dX7_seen_4 : decode cX7_seen 4 = .ok (.ifCond .eq 42, 3) := by decide +kernel
theorem dX7_seen_7 : decode cX7_seen 7 = .ok (.iload_n 2, 1) := by decide +kernel
theorem dX7_seen_8 : decode cX7_seen 8 = .ok (.invokestatic 74, 3) := by decide +kernel
theorem dX7_seen_11 : decode cX7_seen 11 = .ok (.ifCond .eq 35, 3) := by decide +kernel
theorem dX7_seen_14 : decode cX7_seen 14 = .ok (.iload_n 3, 1) := by decide +kernel
theorem dX7_seen_15 : decode cX7_seen 15 = .ok (.iconst 0, 1) := by decide +kernel
theorem dX7_seen_16 : decode cX7_seen 16 = .ok (.ldc 124, 2) := by decide +kernel
theorem dX7_seen_18 : decode cX7_seen 18 = .ok (.invokestatic 69, 3) := by decide +kernel
theorem dX7_seen_21 : decode cX7_seen 21 = .ok (.ifCond .eq 25, 3) := by decide +kernel
theorem dX7_seen_24 : decode cX7_seen 24 = .ok (.iload 4, 2) := by decide +kernel
theorem dX7_seen_26 : decode cX7_seen 26 = .ok (.iconst 0, 1) := by decide +kernel
theorem dX7_seen_27 : decode cX7_seen 27 = .ok (.iconst 1, 1) := by decide +kernel
theorem dX7_seen_28 : decode cX7_seen 28 = .ok (.invokestatic 69, 3) := by decide +kernel
theorem dX7_seen_31 : decode cX7_seen 31 = .ok (.ifCond .eq 15, 3) := by decide +kernel
theorem dX7_seen_34 : decode cX7_seen 34 = .ok (.aload_n 0, 1) := by decide +kernel
theorem dX7_seen_35 : decode cX7_seen 35 = .ok (.iload_n 1, 1) := by decide +kernel
theorem dX7_seen_36 : decode cX7_seen 36 = .ok (.iload_n 2, 1) := by decide +kernel
theorem dX7_seen_37 : decode cX7_seen 37 = .ok (.iload_n 3, 1) := by decide +kernel
theorem dX7_seen_38 : decode cX7_seen 38 = .ok (.iload 4, 2) := by decide +kernel
theorem dX7_seen_40 : decode cX7_seen 40 = .ok (.invokevirtual 125, 3) := by decide +kernel
theorem dX7_seen_43 : decode cX7_seen 43 = .ok (.goto 5, 3) := by decide +kernel
theorem dX7_seen_46 : decode cX7_seen 46 = .ok (.bipush (-2), 2) := by decide +kernel
theorem dX7_seen_48 : decode cX7_seen 48 = .ok (.ireturn, 1) := by decide +kernel
theorem dX7_stillOf_0 : decode cX7_stillOf 0 = .ok (.iconst 0, 1) := by decide +kernel
theorem dX7_stillOf_1 : decode cX7_stillOf 1 = .ok (.istore_n 3, 1) := by decide +kernel
theorem dX7_stillOf_2 : decode cX7_stillOf 2 = .ok (.iconst 1, 1) := by decide +kernel
theorem dX7_stillOf_3 : decode cX7_stillOf 3 = .ok (.istore 4, 2) := by decide +kernel
theorem dX7_stillOf_5 : decode cX7_stillOf 5 = .ok (.iload 4, 2) := by decide +kernel
theorem dX7_stillOf_7 : decode cX7_stillOf 7 = .ok (.aload_n 0, 1) := by decide +kernel
theorem dX7_stillOf_8 : decode cX7_stillOf 8 = .ok (.getfield 19, 3) := by decide +kernel
theorem dX7_stillOf_11 : decode cX7_stillOf 11 = .ok (.iload_n 1, 1) := by decide +kernel
theorem dX7_stillOf_12 : decode cX7_stillOf 12 = .ok (.iaload, 1) := by decide +kernel
theorem dX7_stillOf_13 : decode cX7_stillOf 13 = .ok (.if_icmp .ge 36, 3) := by decide +kernel
theorem dX7_stillOf_16 : decode cX7_stillOf 16 = .ok (.iload_n 3, 1) := by decide +kernel
theorem dX7_stillOf_17 : decode cX7_stillOf 17 = .ok (.aload_n 0, 1) := by decide +kernel
theorem dX7_stillOf_18 : decode cX7_stillOf 18 = .ok (.iload_n 1, 1) := by decide +kernel
theorem dX7_stillOf_19 : decode cX7_stillOf 19 = .ok (.iload 4, 2) := by decide +kernel
theorem dX7_stillOf_21 : decode cX7_stillOf 21 = .ok (.invokevirtual 107, 3) := by decide +kernel
theorem dX7_stillOf_24 : decode cX7_stillOf 24 = .ok (.aload_n 0, 1) := by decide +kernel
theorem dX7_stillOf_25 : decode cX7_stillOf 25 = .ok (.iload_n 1, 1) := by decide +kernel
theorem dX7_stillOf_26 : decode cX7_stillOf 26 = .ok (.iload 4, 2) := by decide +kernel
theorem dX7_stillOf_28 : decode cX7_stillOf 28 = .ok (.iconst 1, 1) := by decide +kernel
theorem dX7_stillOf_29 : decode cX7_stillOf 29 = .ok (.isub, 1) := by decide +kernel
theorem dX7_stillOf_30 : decode cX7_stillOf 30 = .ok (.invokevirtual 107, 3) := by decide +kernel
theorem dX7_stillOf_33 : decode cX7_stillOf 33 = .ok (.if_icmp .ne 7, 3) := by decide +kernel
theorem dX7_stillOf_36 : decode cX7_stillOf 36 = .ok (.iconst 1, 1) := by decide +kernel
theorem dX7_stillOf_37 : decode cX7_stillOf 37 = .ok (.goto 4, 3) := by decide +kernel
theorem dX7_stillOf_40 : decode cX7_stillOf 40 = .ok (.iconst 0, 1) := by decide +kernel
theorem dX7_stillOf_41 : decode cX7_stillOf 41 = .ok (.iadd, 1) := by decide +kernel
theorem dX7_stillOf_42 : decode cX7_stillOf 42 = .ok (.istore_n 3, 1) := by decide +kernel
theorem dX7_stillOf_43 : decode cX7_stillOf 43 = .ok (.iinc 4 1, 3) := by decide +kernel
theorem dX7_stillOf_46 : decode cX7_stillOf 46 = .ok (.goto (-41), 3) := by decide +kernel
theorem dX7_stillOf_49 : decode cX7_stillOf 49 = .ok (.iload_n 2, 1) := by decide +kernel
theorem dX7_stillOf_50 : decode cX7_stillOf 50 = .ok (.ifCond .ne 7, 3) := by decide +kernel
theorem dX7_stillOf_53 : decode cX7_stillOf 53 = .ok (.iload_n 3, 1) := by decide +kernel
theorem dX7_stillOf_54 : decode cX7_stillOf 54 = .ok (.goto 26, 3) := by decide +kernel
theorem dX7_stillOf_57 : decode cX7_stillOf 57 = .ok (.aload_n 0, 1) := by decide +kernel
theorem dX7_stillOf_58 : decode cX7_stillOf 58 = .ok (.iload_n 1, 1) := by decide +kernel
theorem dX7_stillOf_59 : decode cX7_stillOf 59 = .ok (.invokevirtual 114, 3) := by decide +kernel
theorem dX7_stillOf_62 : decode cX7_stillOf 62 = .ok (.aload_n 0, 1) := by decide +kernel
theorem dX7_stillOf_63 : decode cX7_stillOf 63 = .ok (.getfield 16, 3) := by decide +kernel
theorem dX7_stillOf_66 : decode cX7_stillOf 66 = .ok (.iload_n 1, 1) := by decide +kernel
theorem dX7_stillOf_67 : decode cX7_stillOf 67 = .ok (.iaload, 1) := by decide +kernel
theorem dX7_stillOf_68 : decode cX7_stillOf 68 = .ok (.isub, 1) := by decide +kernel
theorem dX7_stillOf_69 : decode cX7_stillOf 69 = .ok (.iconst 1, 1) := by decide +kernel
theorem dX7_stillOf_70 : decode cX7_stillOf 70 = .ok (.iadd, 1) := by decide +kernel
theorem dX7_stillOf_71 : decode cX7_stillOf 71 = .ok (.aload_n 0, 1) := by decide +kernel
theorem dX7_stillOf_72 : decode cX7_stillOf 72 = .ok (.getfield 19, 3) := by decide +kernel
theorem dX7_stillOf_75 : decode cX7_stillOf 75 = .ok (.iload_n 1, 1) := by decide +kernel
theorem dX7_stillOf_76 : decode cX7_stillOf 76 = .ok (.iaload, 1) := by decide +kernel
theorem dX7_stillOf_77 : decode cX7_stillOf 77 = .ok (.iload_n 3, 1) := by decide +kernel
theorem dX7_stillOf_78 : decode cX7_stillOf 78 = .ok (.isub, 1) := by decide +kernel
theorem dX7_stillOf_79 : decode cX7_stillOf 79 = .ok (.isub, 1) := by decide +kernel
theorem dX7_stillOf_80 : decode cX7_stillOf 80 = .ok (.ireturn, 1) := by decide +kernel
theorem dX7_still_0 : decode cX7_still 0 = .ok (.aload_n 0, 1) := by decide +kernel
theorem dX7_still_1 : decode cX7_still 1 = .ok (.iload_n 1, 1) := by decide +kernel
theorem dX7_still_2 : decode cX7_still 2 = .ok (.iload_n 2, 1) := by decide +kernel
theorem dX7_still_3 : decode cX7_still 3 = .ok (.invokevirtual 89, 3) := by decide +kernel
theorem dX7_still_6 : decode cX7_still 6 = .ok (.ifCond .eq 26, 3) := by decide +kernel
theorem dX7_still_9 : decode cX7_still 9 = .ok (.iload_n 3, 1) := by decide +kernel
theorem dX7_still_10 : decode cX7_still 10 = .ok (.iconst 0, 1) := by decide +kernel
theorem dX7_still_11 : decode cX7_still 11 = .ok (.iconst 1, 1) := by decide +kernel
theorem dX7_still_12 : decode cX7_still 12 = .ok (.invokestatic 69, 3) := by decide +kernel
theorem dX7_still_15 : decode cX7_still 15 = .ok (.ifCond .eq 17, 3) := by decide +kernel
theorem dX7_still_18 : decode cX7_still 18 = .ok (.aload_n 0, 1) := by decide +kernel
theorem dX7_still_19 : decode cX7_still 19 = .ok (.bipush 8, 2) := by decide +kernel
theorem dX7_still_21 : decode cX7_still 21 = .ok (.iload_n 1, 1) := by decide +kernel
theorem dX7_still_22 : decode cX7_still 22 = .ok (.imul, 1) := by decide +kernel
theorem dX7_still_23 : decode cX7_still 23 = .ok (.iload_n 2, 1) := by decide +kernel
theorem dX7_still_24 : decode cX7_still 24 = .ok (.iadd, 1) := by decide +kernel
theorem dX7_still_25 : decode cX7_still 25 = .ok (.iload_n 3, 1) := by decide +kernel
theorem dX7_still_26 : decode cX7_still 26 = .ok (.invokevirtual 129, 3) := by decide +kernel
theorem dX7_still_29 : decode cX7_still 29 = .ok (.goto 5, 3) := by decide +kernel
theorem dX7_still_32 : decode cX7_still 32 = .ok (.bipush (-2), 2) := by decide +kernel
theorem dX7_still_34 : decode cX7_still 34 = .ok (.ireturn, 1) := by decide +kernel
theorem dX7_aSecond_0 : decode cX7_aSecond 0 = .ok (.aload_n 0, 1) := by decide +kernel
theorem dX7_aSecond_1 : decode cX7_aSecond 1 = .ok (.getfield 28, 3) := by decide +kernel
theorem dX7_aSecond_4 : decode cX7_aSecond 4 = .ok (.iconst 0, 1) := by decide +kernel
theorem dX7_aSecond_5 : decode cX7_aSecond 5 = .ok (.iaload, 1) := by decide +kernel
theorem dX7_aSecond_6 : decode cX7_aSecond 6 = .ok (.iconst 2, 1) := by decide +kernel
theorem dX7_aSecond_7 : decode cX7_aSecond 7 = .ok (.if_icmp .ne 8, 3) := by decide +kernel
theorem dX7_aSecond_10 : decode cX7_aSecond 10 = .ok (.bipush 25, 2) := by decide +kernel
theorem dX7_aSecond_12 : decode cX7_aSecond 12 = .ok (.goto 5, 3) := by decide +kernel
theorem dX7_aSecond_15 : decode cX7_aSecond 15 = .ok (.bipush 30, 2) := by decide +kernel
theorem dX7_aSecond_17 : decode cX7_aSecond 17 = .ok (.ireturn, 1) := by decide +kernel
theorem dX7_numbered_0 : decode cX7_numbered 0 = .ok (.iload_n 1, 1) := by decide +kernel
theorem dX7_numbered_1 : decode cX7_numbered 1 = .ok (.sipush 17982, 3) := by decide +kernel
theorem dX7_numbered_4 : decode cX7_numbered 4 = .ok (.irem, 1) := by decide +kernel
theorem dX7_numbered_5 : decode cX7_numbered 5 = .ok (.istore_n 2, 1) := by decide +kernel
theorem dX7_numbered_6 : decode cX7_numbered 6 = .ok (.bipush 18, 2) := by decide +kernel
theorem dX7_numbered_8 : decode cX7_numbered 8 = .ok (.iload_n 1, 1) := by decide +kernel
theorem dX7_numbered_9 : decode cX7_numbered 9 = .ok (.sipush 17982, 3) := by decide +kernel
theorem dX7_numbered_12 : decode cX7_numbered 12 = .ok (.idiv, 1) := by decide +kernel
theorem dX7_numbered_13 : decode cX7_numbered 13 = .ok (.imul, 1) := by decide +kernel
theorem dX7_numbered_14 : decode cX7_numbered 14 = .ok (.iload_n 2, 1) := by decide +kernel
theorem dX7_numbered_15 : decode cX7_numbered 15 = .ok (.iconst 2, 1) := by decide +kernel
theorem dX7_numbered_16 : decode cX7_numbered 16 = .ok (.if_icmp .ge 7, 3) := by decide +kernel
theorem dX7_numbered_19 : decode cX7_numbered 19 = .ok (.iconst 0, 1) := by decide +kernel
theorem dX7_numbered_20 : decode cX7_numbered 20 = .ok (.goto 12, 3) := by decide +kernel
theorem dX7_numbered_23 : decode cX7_numbered 23 = .ok (.iconst 2, 1) := by decide +kernel
theorem dX7_numbered_24 : decode cX7_numbered 24 = .ok (.iload_n 2, 1) := by decide +kernel
theorem dX7_numbered_25 : decode cX7_numbered 25 = .ok (.iconst 2, 1) := by decide +kernel
theorem dX7_numbered_26 : decode cX7_numbered 26 = .ok (.isub, 1) := by decide +kernel
theorem dX7_numbered_27 : decode cX7_numbered 27 = .ok (.sipush 1798, 3) := by decide +kernel
theorem dX7_numbered_30 : decode cX7_numbered 30 = .ok (.idiv, 1) := by decide +kernel
theorem dX7_numbered_31 : decode cX7_numbered 31 = .ok (.imul, 1) := by decide +kernel
theorem dX7_numbered_32 : decode cX7_numbered 32 = .ok (.iadd, 1) := by decide +kernel
theorem dX7_numbered_33 : decode cX7_numbered 33 = .ok (.istore_n 3, 1) := by decide +kernel
theorem dX7_numbered_34 : decode cX7_numbered 34 = .ok (.aload_n 0, 1) := by decide +kernel
theorem dX7_numbered_35 : decode cX7_numbered 35 = .ok (.getfield 28, 3) := by decide +kernel
theorem dX7_numbered_38 : decode cX7_numbered 38 = .ok (.iconst 0, 1) := by decide +kernel
theorem dX7_numbered_39 : decode cX7_numbered 39 = .ok (.iaload, 1) := by decide +kernel
theorem dX7_numbered_40 : decode cX7_numbered 40 = .ok (.ifCond .ne 9, 3) := by decide +kernel
theorem dX7_numbered_43 : decode cX7_numbered 43 = .ok (.iload_n 1, 1) := by decide +kernel
theorem dX7_numbered_44 : decode cX7_numbered 44 = .ok (.iload_n 3, 1) := by decide +kernel
theorem dX7_numbered_45 : decode cX7_numbered 45 = .ok (.iadd, 1) := by decide +kernel
theorem dX7_numbered_46 : decode cX7_numbered 46 = .ok (.goto 4, 3) := by decide +kernel
theorem dX7_numbered_49 : decode cX7_numbered 49 = .ok (.iload_n 1, 1) := by decide +kernel
theorem dX7_numbered_50 : decode cX7_numbered 50 = .ok (.ireturn, 1) := by decide +kernel
theorem dX7_toldOf_0 : decode cX7_toldOf 0 = .ok (.aload_n 0, 1) := by decide +kernel
theorem dX7_toldOf_1 : decode cX7_toldOf 1 = .ok (.iload_n 1, 1) := by decide +kernel
theorem dX7_toldOf_2 : decode cX7_toldOf 2 = .ok (.invokevirtual 132, 3) := by decide +kernel
theorem dX7_toldOf_5 : decode cX7_toldOf 5 = .ok (.istore_n 3, 1) := by decide +kernel
theorem dX7_toldOf_6 : decode cX7_toldOf 6 = .ok (.aload_n 0, 1) := by decide +kernel
theorem dX7_toldOf_7 : decode cX7_toldOf 7 = .ok (.invokevirtual 135, 3) := by decide +kernel
theorem dX7_toldOf_10 : decode cX7_toldOf 10 = .ok (.istore 4, 2) := by decide +kernel
theorem dX7_toldOf_12 : decode cX7_toldOf 12 = .ok (.iload_n 2, 1) := by decide +kernel
theorem dX7_toldOf_13 : decode cX7_toldOf 13 = .ok (.ifCond .ne 14, 3) := by decide +kernel
theorem dX7_toldOf_16 : decode cX7_toldOf 16 = .ok (.iload_n 3, 1) := by decide +kernel
theorem dX7_toldOf_17 : decode cX7_toldOf 17 = .ok (.iload 4, 2) := by decide +kernel
theorem dX7_toldOf_19 : decode cX7_toldOf 19 = .ok (.idiv, 1) := by decide +kernel
theorem dX7_toldOf_20 : decode cX7_toldOf 20 = .ok (.sipush 3600, 3) := by decide +kernel
theorem dX7_toldOf_23 : decode cX7_toldOf 23 = .ok (.idiv, 1) := by decide +kernel
theorem dX7_toldOf_24 : decode cX7_toldOf 24 = .ok (.goto 40, 3) := by decide +kernel
theorem dX7_toldOf_27 : decode cX7_toldOf 27 = .ok (.iload_n 2, 1) := by decide +kernel
theorem dX7_toldOf_28 : decode cX7_toldOf 28 = .ok (.iconst 1, 1) := by decide +kernel
theorem dX7_toldOf_29 : decode cX7_toldOf 29 = .ok (.if_icmp .ne 16, 3) := by decide +kernel
theorem dX7_toldOf_32 : decode cX7_toldOf 32 = .ok (.iload_n 3, 1) := by decide +kernel
theorem dX7_toldOf_33 : decode cX7_toldOf 33 = .ok (.iload 4, 2) := by decide +kernel
theorem dX7_toldOf_35 : decode cX7_toldOf 35 = .ok (.idiv, 1) := by decide +kernel
theorem dX7_toldOf_36 : decode cX7_toldOf 36 = .ok (.bipush 60, 2) := by decide +kernel
theorem dX7_toldOf_38 : decode cX7_toldOf 38 = .ok (.idiv, 1) := by decide +kernel
theorem dX7_toldOf_39 : decode cX7_toldOf 39 = .ok (.bipush 60, 2) := by decide +kernel
theorem dX7_toldOf_41 : decode cX7_toldOf 41 = .ok (.irem, 1) := by decide +kernel
theorem dX7_toldOf_42 : decode cX7_toldOf 42 = .ok (.goto 22, 3) := by decide +kernel
theorem dX7_toldOf_45 : decode cX7_toldOf 45 = .ok (.iload_n 2, 1) := by decide +kernel
theorem dX7_toldOf_46 : decode cX7_toldOf 46 = .ok (.iconst 2, 1) := by decide +kernel
theorem dX7_toldOf_47 : decode cX7_toldOf 47 = .ok (.if_icmp .ne 13, 3) := by decide +kernel
theorem dX7_toldOf_50 : decode cX7_toldOf 50 = .ok (.iload_n 3, 1) := by decide +kernel
theorem dX7_toldOf_51 : decode cX7_toldOf 51 = .ok (.iload 4, 2) := by decide +kernel
theorem dX7_toldOf_53 : decode cX7_toldOf 53 = .ok (.idiv, 1) := by decide +kernel
theorem dX7_toldOf_54 : decode cX7_toldOf 54 = .ok (.bipush 60, 2) := by decide +kernel
theorem dX7_toldOf_56 : decode cX7_toldOf 56 = .ok (.irem, 1) := by decide +kernel
theorem dX7_toldOf_57 : decode cX7_toldOf 57 = .ok (.goto 7, 3) := by decide +kernel
theorem dX7_toldOf_60 : decode cX7_toldOf 60 = .ok (.iload_n 3, 1) := by decide +kernel
theorem dX7_toldOf_61 : decode cX7_toldOf 61 = .ok (.iload 4, 2) := by decide +kernel
theorem dX7_toldOf_63 : decode cX7_toldOf 63 = .ok (.irem, 1) := by decide +kernel
theorem dX7_toldOf_64 : decode cX7_toldOf 64 = .ok (.ireturn, 1) := by decide +kernel
theorem dX7_told_0 : decode cX7_told 0 = .ok (.iload_n 1, 1) := by decide +kernel
theorem dX7_told_1 : decode cX7_told 1 = .ok (.iconst 0, 1) := by decide +kernel
theorem dX7_told_2 : decode cX7_told 2 = .ok (.ldc 139, 2) := by decide +kernel
theorem dX7_told_4 : decode cX7_told 4 = .ok (.invokestatic 69, 3) := by decide +kernel
theorem dX7_told_7 : decode cX7_told 7 = .ok (.ifCond .eq 21, 3) := by decide +kernel
theorem dX7_told_10 : decode cX7_told 10 = .ok (.iload_n 2, 1) := by decide +kernel
theorem dX7_told_11 : decode cX7_told 11 = .ok (.iconst 0, 1) := by decide +kernel
theorem dX7_told_12 : decode cX7_told 12 = .ok (.iconst 3, 1) := by decide +kernel
theorem dX7_told_13 : decode cX7_told 13 = .ok (.invokestatic 69, 3) := by decide +kernel
theorem dX7_told_16 : decode cX7_told 16 = .ok (.ifCond .eq 12, 3) := by decide +kernel
theorem dX7_told_19 : decode cX7_told 19 = .ok (.aload_n 0, 1) := by decide +kernel
theorem dX7_told_20 : decode cX7_told 20 = .ok (.iload_n 1, 1) := by decide +kernel
theorem dX7_told_21 : decode cX7_told 21 = .ok (.iload_n 2, 1) := by decide +kernel
theorem dX7_told_22 : decode cX7_told 22 = .ok (.invokevirtual 140, 3) := by decide +kernel
theorem dX7_told_25 : decode cX7_told 25 = .ok (.goto 5, 3) := by decide +kernel
theorem dX7_told_28 : decode cX7_told 28 = .ok (.bipush (-2), 2) := by decide +kernel
theorem dX7_told_30 : decode cX7_told 30 = .ok (.ireturn, 1) := by decide +kernel
theorem dX7_numberOf_0 : decode cX7_numberOf 0 = .ok (.bipush 60, 2) := by decide +kernel
theorem dX7_numberOf_2 : decode cX7_numberOf 2 = .ok (.iload_n 1, 1) := by decide +kernel
theorem dX7_numberOf_3 : decode cX7_numberOf 3 = .ok (.imul, 1) := by decide +kernel
theorem dX7_numberOf_4 : decode cX7_numberOf 4 = .ok (.iload_n 2, 1) := by decide +kernel
theorem dX7_numberOf_5 : decode cX7_numberOf 5 = .ok (.iadd, 1) := by decide +kernel
theorem dX7_numberOf_6 : decode cX7_numberOf 6 = .ok (.istore 5, 2) := by decide +kernel
theorem dX7_numberOf_8 : decode cX7_numberOf 8 = .ok (.bipush 60, 2) := by decide +kernel
theorem dX7_numberOf_10 : decode cX7_numberOf 10 = .ok (.iload 5, 2) := by decide +kernel
theorem dX7_numberOf_12 : decode cX7_numberOf 12 = .ok (.imul, 1) := by decide +kernel
theorem dX7_numberOf_13 : decode cX7_numberOf 13 = .ok (.iload_n 3, 1) := by decide +kernel
theorem dX7_numberOf_14 : decode cX7_numberOf 14 = .ok (.iadd, 1) := by decide +kernel
theorem dX7_numberOf_15 : decode cX7_numberOf 15 = .ok (.aload_n 0, 1) := by decide +kernel
theorem dX7_numberOf_16 : decode cX7_numberOf 16 = .ok (.invokevirtual 135, 3) := by decide +kernel
theorem dX7_numberOf_19 : decode cX7_numberOf 19 = .ok (.imul, 1) := by decide +kernel
theorem dX7_numberOf_20 : decode cX7_numberOf 20 = .ok (.iload 4, 2) := by decide +kernel
theorem dX7_numberOf_22 : decode cX7_numberOf 22 = .ok (.iadd, 1) := by decide +kernel
theorem dX7_numberOf_23 : decode cX7_numberOf 23 = .ok (.istore 6, 2) := by decide +kernel
theorem dX7_numberOf_25 : decode cX7_numberOf 25 = .ok (.aload_n 0, 1) := by decide +kernel
theorem dX7_numberOf_26 : decode cX7_numberOf 26 = .ok (.getfield 28, 3) := by decide +kernel
theorem dX7_numberOf_29 : decode cX7_numberOf 29 = .ok (.iconst 0, 1) := by decide +kernel
theorem dX7_numberOf_30 : decode cX7_numberOf 30 = .ok (.iaload, 1) := by decide +kernel
theorem dX7_numberOf_31 : decode cX7_numberOf 31 = .ok (.ifCond .eq 6, 3) := by decide +kernel
theorem dX7_numberOf_34 : decode cX7_numberOf 34 = .ok (.iload 6, 2) := by decide +kernel
theorem dX7_numberOf_36 : decode cX7_numberOf 36 = .ok (.ireturn, 1) := by decide +kernel
theorem dX7_numberOf_37 : decode cX7_numberOf 37 = .ok (.iload_n 2, 1) := by decide +kernel
theorem dX7_numberOf_38 : decode cX7_numberOf 38 = .ok (.bipush 10, 2) := by decide +kernel
theorem dX7_numberOf_40 : decode cX7_numberOf 40 = .ok (.irem, 1) := by decide +kernel
theorem dX7_numberOf_41 : decode cX7_numberOf 41 = .ok (.ifCond .eq 18, 3) := by decide +kernel
theorem dX7_numberOf_44 : decode cX7_numberOf 44 = .ok (.iload_n 3, 1) := by decide +kernel
theorem dX7_numberOf_45 : decode cX7_numberOf 45 = .ok (.ifCond .ne 14, 3) := by decide +kernel
theorem dX7_numberOf_48 : decode cX7_numberOf 48 = .ok (.iload 4, 2) := by decide +kernel
theorem dX7_numberOf_50 : decode cX7_numberOf 50 = .ok (.iconst 2, 1) := by decide +kernel
theorem dX7_numberOf_51 : decode cX7_numberOf 51 = .ok (.if_icmp .ge 8, 3) := by decide +kernel
theorem dX7_numberOf_54 : decode cX7_numberOf 54 = .ok (.bipush (-3), 2) := by decide +kernel
theorem dX7_numberOf_56 : decode cX7_numberOf 56 = .ok (.goto 16, 3) := by decide +kernel
theorem dX7_numberOf_59 : decode cX7_numberOf 59 = .ok (.iload 6, 2) := by decide +kernel
theorem dX7_numberOf_61 : decode cX7_numberOf 61 = .ok (.iconst 2, 1) := by decide +kernel
theorem dX7_numberOf_62 : decode cX7_numberOf 62 = .ok (.iload 5, 2) := by decide +kernel
theorem dX7_numberOf_64 : decode cX7_numberOf 64 = .ok (.iload 5, 2) := by decide +kernel
theorem dX7_numberOf_66 : decode cX7_numberOf 66 = .ok (.bipush 10, 2) := by decide +kernel
theorem dX7_numberOf_68 : decode cX7_numberOf 68 = .ok (.idiv, 1) := by decide +kernel
theorem dX7_numberOf_69 : decode cX7_numberOf 69 = .ok (.isub, 1) := by decide +kernel
theorem dX7_numberOf_70 : decode cX7_numberOf 70 = .ok (.imul, 1) := by decide +kernel
theorem dX7_numberOf_71 : decode cX7_numberOf 71 = .ok (.isub, 1) := by decide +kernel
theorem dX7_numberOf_72 : decode cX7_numberOf 72 = .ok (.ireturn, 1) := by decide +kernel
theorem dX7_number_0 : decode cX7_number 0 = .ok (.iload_n 1, 1) := by decide +kernel
theorem dX7_number_1 : decode cX7_number 1 = .ok (.iconst 0, 1) := by decide +kernel
theorem dX7_number_2 : decode cX7_number 2 = .ok (.bipush 99, 2) := by decide +kernel
theorem dX7_number_4 : decode cX7_number 4 = .ok (.invokestatic 69, 3) := by decide +kernel
theorem dX7_number_7 : decode cX7_number 7 = .ok (.ifCond .eq 50, 3) := by decide +kernel
theorem dX7_number_10 : decode cX7_number 10 = .ok (.iload_n 2, 1) := by decide +kernel
theorem dX7_number_11 : decode cX7_number 11 = .ok (.iconst 0, 1) := by decide +kernel
theorem dX7_number_12 : decode cX7_number 12 = .ok (.bipush 59, 2) := by decide +kernel
theorem dX7_number_14 : decode cX7_number 14 = .ok (.invokestatic 69, 3) := by decide +kernel
theorem dX7_number_17 : decode cX7_number 17 = .ok (.ifCond .eq 40, 3) := by decide +kernel
theorem dX7_number_20 : decode cX7_number 20 = .ok (.iload_n 3, 1) := by decide +kernel
theorem dX7_number_21 : decode cX7_number 21 = .ok (.iconst 0, 1) := by decide +kernel
theorem dX7_number_22 : decode cX7_number 22 = .ok (.bipush 59, 2) := by decide +kernel
theorem dX7_number_24 : decode cX7_number 24 = .ok (.invokestatic 69, 3) := by decide +kernel
theorem dX7_number_27 : decode cX7_number 27 = .ok (.ifCond .eq 30, 3) := by decide +kernel
theorem dX7_number_30 : decode cX7_number 30 = .ok (.iload 4, 2) := by decide +kernel
theorem dX7_number_32 : decode cX7_number 32 = .ok (.iconst 0, 1) := by decide +kernel
theorem dX7_number_33 : decode cX7_number 33 = .ok (.aload_n 0, 1) := by decide +kernel
theorem dX7_number_34 : decode cX7_number 34 = .ok (.invokevirtual 135, 3) := by decide +kernel
theorem dX7_number_37 : decode cX7_number 37 = .ok (.iconst 1, 1) := by decide +kernel
theorem dX7_number_38 : decode cX7_number 38 = .ok (.isub, 1) := by decide +kernel
theorem dX7_number_39 : decode cX7_number 39 = .ok (.invokestatic 69, 3) := by decide +kernel
theorem dX7_number_42 : decode cX7_number 42 = .ok (.ifCond .eq 15, 3) := by decide +kernel
theorem dX7_number_45 : decode cX7_number 45 = .ok (.aload_n 0, 1) := by decide +kernel
theorem dX7_number_46 : decode cX7_number 46 = .ok (.iload_n 1, 1) := by decide +kernel
theorem dX7_number_47 : decode cX7_number 47 = .ok (.iload_n 2, 1) := by decide +kernel
theorem dX7_number_48 : decode cX7_number 48 = .ok (.iload_n 3, 1) := by decide +kernel
theorem dX7_number_49 : decode cX7_number 49 = .ok (.iload 4, 2) := by decide +kernel
theorem dX7_number_51 : decode cX7_number 51 = .ok (.invokevirtual 143, 3) := by decide +kernel
theorem dX7_number_54 : decode cX7_number 54 = .ok (.goto 5, 3) := by decide +kernel
theorem dX7_number_57 : decode cX7_number 57 = .ok (.bipush (-2), 2) := by decide +kernel
theorem dX7_number_59 : decode cX7_number 59 = .ok (.ireturn, 1) := by decide +kernel
theorem dX7_copies_0 : decode cX7_copies 0 = .ok (.aload_n 0, 1) := by decide +kernel
theorem dX7_copies_1 : decode cX7_copies 1 = .ok (.getfield 37, 3) := by decide +kernel
theorem dX7_copies_4 : decode cX7_copies 4 = .ok (.iload_n 2, 1) := by decide +kernel
theorem dX7_copies_5 : decode cX7_copies 5 = .ok (.aload_n 0, 1) := by decide +kernel
theorem dX7_copies_6 : decode cX7_copies 6 = .ok (.getfield 37, 3) := by decide +kernel
theorem dX7_copies_9 : decode cX7_copies 9 = .ok (.iload_n 1, 1) := by decide +kernel
theorem dX7_copies_10 : decode cX7_copies 10 = .ok (.iaload, 1) := by decide +kernel
theorem dX7_copies_11 : decode cX7_copies 11 = .ok (.iastore, 1) := by decide +kernel
theorem dX7_copies_12 : decode cX7_copies 12 = .ok (.aload_n 0, 1) := by decide +kernel
theorem dX7_copies_13 : decode cX7_copies 13 = .ok (.getfield 40, 3) := by decide +kernel
theorem dX7_copies_16 : decode cX7_copies 16 = .ok (.iload_n 2, 1) := by decide +kernel
theorem dX7_copies_17 : decode cX7_copies 17 = .ok (.aload_n 0, 1) := by decide +kernel
theorem dX7_copies_18 : decode cX7_copies 18 = .ok (.getfield 40, 3) := by decide +kernel
theorem dX7_copies_21 : decode cX7_copies 21 = .ok (.iload_n 1, 1) := by decide +kernel
theorem dX7_copies_22 : decode cX7_copies 22 = .ok (.iaload, 1) := by decide +kernel
theorem dX7_copies_23 : decode cX7_copies 23 = .ok (.iastore, 1) := by decide +kernel
theorem dX7_copies_24 : decode cX7_copies 24 = .ok (.aload_n 0, 1) := by decide +kernel
theorem dX7_copies_25 : decode cX7_copies 25 = .ok (.getfield 43, 3) := by decide +kernel
theorem dX7_copies_28 : decode cX7_copies 28 = .ok (.iload_n 2, 1) := by decide +kernel
theorem dX7_copies_29 : decode cX7_copies 29 = .ok (.aload_n 0, 1) := by decide +kernel
theorem dX7_copies_30 : decode cX7_copies 30 = .ok (.getfield 43, 3) := by decide +kernel
theorem dX7_copies_33 : decode cX7_copies 33 = .ok (.iload_n 1, 1) := by decide +kernel
theorem dX7_copies_34 : decode cX7_copies 34 = .ok (.iaload, 1) := by decide +kernel
theorem dX7_copies_35 : decode cX7_copies 35 = .ok (.iastore, 1) := by decide +kernel
theorem dX7_copies_36 : decode cX7_copies 36 = .ok (.aload_n 0, 1) := by decide +kernel
theorem dX7_copies_37 : decode cX7_copies 37 = .ok (.getfield 46, 3) := by decide +kernel
theorem dX7_copies_40 : decode cX7_copies 40 = .ok (.iload_n 2, 1) := by decide +kernel
theorem dX7_copies_41 : decode cX7_copies 41 = .ok (.aload_n 0, 1) := by decide +kernel
theorem dX7_copies_42 : decode cX7_copies 42 = .ok (.getfield 46, 3) := by decide +kernel
theorem dX7_copies_45 : decode cX7_copies 45 = .ok (.iload_n 1, 1) := by decide +kernel
theorem dX7_copies_46 : decode cX7_copies 46 = .ok (.iaload, 1) := by decide +kernel
theorem dX7_copies_47 : decode cX7_copies 47 = .ok (.iastore, 1) := by decide +kernel
theorem dX7_copies_48 : decode cX7_copies 48 = .ok (.return_, 1) := by decide +kernel
theorem dX7_areNear_0 : decode cX7_areNear 0 = .ok (.aload_n 0, 1) := by decide +kernel
theorem dX7_areNear_1 : decode cX7_areNear 1 = .ok (.getfield 37, 3) := by decide +kernel
theorem dX7_areNear_4 : decode cX7_areNear 4 = .ok (.iload_n 1, 1) := by decide +kernel
theorem dX7_areNear_5 : decode cX7_areNear 5 = .ok (.iaload, 1) := by decide +kernel
theorem dX7_areNear_6 : decode cX7_areNear 6 = .ok (.aload_n 0, 1) := by decide +kernel
theorem dX7_areNear_7 : decode cX7_areNear 7 = .ok (.getfield 37, 3) := by decide +kernel
theorem dX7_areNear_10 : decode cX7_areNear 10 = .ok (.iload_n 2, 1) := by decide +kernel
theorem dX7_areNear_11 : decode cX7_areNear 11 = .ok (.iaload, 1) := by decide +kernel
theorem dX7_areNear_12 : decode cX7_areNear 12 = .ok (.if_icmp .ne 55, 3) := by decide +kernel
theorem dX7_areNear_15 : decode cX7_areNear 15 = .ok (.aload_n 0, 1) := by decide +kernel
theorem dX7_areNear_16 : decode cX7_areNear 16 = .ok (.getfield 40, 3) := by decide +kernel
theorem dX7_areNear_19 : decode cX7_areNear 19 = .ok (.iload_n 2, 1) := by decide +kernel
theorem dX7_areNear_20 : decode cX7_areNear 20 = .ok (.iaload, 1) := by decide +kernel
theorem dX7_areNear_21 : decode cX7_areNear 21 = .ok (.aload_n 0, 1) := by decide +kernel
theorem dX7_areNear_22 : decode cX7_areNear 22 = .ok (.getfield 43, 3) := by decide +kernel
theorem dX7_areNear_25 : decode cX7_areNear 25 = .ok (.iload_n 1, 1) := by decide +kernel
theorem dX7_areNear_26 : decode cX7_areNear 26 = .ok (.iaload, 1) := by decide +kernel
theorem dX7_areNear_27 : decode cX7_areNear 27 = .ok (.isub, 1) := by decide +kernel
theorem dX7_areNear_28 : decode cX7_areNear 28 = .ok (.iconst 1, 1) := by decide +kernel
theorem dX7_areNear_29 : decode cX7_areNear 29 = .ok (.isub, 1) := by decide +kernel
theorem dX7_areNear_30 : decode cX7_areNear 30 = .ok (.aload_n 0, 1) := by decide +kernel
theorem dX7_areNear_31 : decode cX7_areNear 31 = .ok (.getfield 28, 3) := by decide +kernel
theorem dX7_areNear_34 : decode cX7_areNear 34 = .ok (.iconst 2, 1) := by decide +kernel
theorem dX7_areNear_35 : decode cX7_areNear 35 = .ok (.iaload, 1) := by decide +kernel
theorem dX7_areNear_36 : decode cX7_areNear 36 = .ok (.if_icmp .gt 31, 3) := by decide +kernel
theorem dX7_areNear_39 : decode cX7_areNear 39 = .ok (.aload_n 0, 1) := by decide +kernel
theorem dX7_areNear_40 : decode cX7_areNear 40 = .ok (.getfield 40, 3) := by decide +kernel
theorem dX7_areNear_43 : decode cX7_areNear 43 = .ok (.iload_n 1, 1) := by decide +kernel
theorem dX7_areNear_44 : decode cX7_areNear 44 = .ok (.iaload, 1) := by decide +kernel
theorem dX7_areNear_45 : decode cX7_areNear 45 = .ok (.aload_n 0, 1) := by decide +kernel
theorem dX7_areNear_46 : decode cX7_areNear 46 = .ok (.getfield 43, 3) := by decide +kernel
theorem dX7_areNear_49 : decode cX7_areNear 49 = .ok (.iload_n 2, 1) := by decide +kernel
theorem dX7_areNear_50 : decode cX7_areNear 50 = .ok (.iaload, 1) := by decide +kernel
theorem dX7_areNear_51 : decode cX7_areNear 51 = .ok (.isub, 1) := by decide +kernel
theorem dX7_areNear_52 : decode cX7_areNear 52 = .ok (.iconst 1, 1) := by decide +kernel
theorem dX7_areNear_53 : decode cX7_areNear 53 = .ok (.isub, 1) := by decide +kernel
theorem dX7_areNear_54 : decode cX7_areNear 54 = .ok (.aload_n 0, 1) := by decide +kernel
theorem dX7_areNear_55 : decode cX7_areNear 55 = .ok (.getfield 28, 3) := by decide +kernel
theorem dX7_areNear_58 : decode cX7_areNear 58 = .ok (.iconst 2, 1) := by decide +kernel
theorem dX7_areNear_59 : decode cX7_areNear 59 = .ok (.iaload, 1) := by decide +kernel
theorem dX7_areNear_60 : decode cX7_areNear 60 = .ok (.if_icmp .gt 7, 3) := by decide +kernel
theorem dX7_areNear_63 : decode cX7_areNear 63 = .ok (.iconst 1, 1) := by decide +kernel
theorem dX7_areNear_64 : decode cX7_areNear 64 = .ok (.goto 4, 3) := by decide +kernel
theorem dX7_areNear_67 : decode cX7_areNear 67 = .ok (.iconst 0, 1) := by decide +kernel
theorem dX7_areNear_68 : decode cX7_areNear 68 = .ok (.ireturn, 1) := by decide +kernel
theorem dX7_joins_0 : decode cX7_joins 0 = .ok (.iconst 0, 1) := by decide +kernel
theorem dX7_joins_1 : decode cX7_joins 1 = .ok (.istore_n 2, 1) := by decide +kernel
theorem dX7_joins_2 : decode cX7_joins 2 = .ok (.iload_n 2, 1) := by decide +kernel
theorem dX7_joins_3 : decode cX7_joins 3 = .ok (.aload_n 0, 1) := by decide +kernel
theorem dX7_joins_4 : decode cX7_joins 4 = .ok (.getfield 34, 3) := by decide +kernel
theorem dX7_joins_7 : decode cX7_joins 7 = .ok (.iload_n 1, 1) := by decide +kernel
theorem dX7_joins_8 : decode cX7_joins 8 = .ok (.iaload, 1) := by decide +kernel
theorem dX7_joins_9 : decode cX7_joins 9 = .ok (.if_icmp .ge 150, 3) := by decide +kernel
theorem dX7_joins_12 : decode cX7_joins 12 = .ok (.iload_n 2, 1) := by decide +kernel
theorem dX7_joins_13 : decode cX7_joins 13 = .ok (.iconst 1, 1) := by decide +kernel
theorem dX7_joins_14 : decode cX7_joins 14 = .ok (.iadd, 1) := by decide +kernel
theorem dX7_joins_15 : decode cX7_joins 15 = .ok (.istore_n 3, 1) := by decide +kernel
theorem dX7_joins_16 : decode cX7_joins 16 = .ok (.iload_n 3, 1) := by decide +kernel
theorem dX7_joins_17 : decode cX7_joins 17 = .ok (.aload_n 0, 1) := by decide +kernel
theorem dX7_joins_18 : decode cX7_joins 18 = .ok (.getfield 34, 3) := by decide +kernel
theorem dX7_joins_21 : decode cX7_joins 21 = .ok (.iload_n 1, 1) := by decide +kernel
theorem dX7_joins_22 : decode cX7_joins 22 = .ok (.iaload, 1) := by decide +kernel
theorem dX7_joins_23 : decode cX7_joins 23 = .ok (.if_icmp .ge 130, 3) := by decide +kernel
theorem dX7_joins_26 : decode cX7_joins 26 = .ok (.bipush 8, 2) := by decide +kernel
theorem dX7_joins_28 : decode cX7_joins 28 = .ok (.iload_n 1, 1) := by decide +kernel
theorem dX7_joins_29 : decode cX7_joins 29 = .ok (.imul, 1) := by decide +kernel
theorem dX7_joins_30 : decode cX7_joins 30 = .ok (.iload_n 2, 1) := by decide +kernel
theorem dX7_joins_31 : decode cX7_joins 31 = .ok (.iadd, 1) := by decide +kernel
theorem dX7_joins_32 : decode cX7_joins 32 = .ok (.istore 4, 2) := by decide +kernel
theorem dX7_joins_34 : decode cX7_joins 34 = .ok (.bipush 8, 2) := by decide +kernel
theorem dX7_joins_36 : decode cX7_joins 36 = .ok (.iload_n 1, 1) := by decide +kernel
theorem dX7_joins_37 : decode cX7_joins 37 = .ok (.imul, 1) := by decide +kernel
theorem dX7_joins_38 : decode cX7_joins 38 = .ok (.iload_n 3, 1) := by decide +kernel
theorem dX7_joins_39 : decode cX7_joins 39 = .ok (.iadd, 1) := by decide +kernel
theorem dX7_joins_40 : decode cX7_joins 40 = .ok (.istore 5, 2) := by decide +kernel
theorem dX7_joins_42 : decode cX7_joins 42 = .ok (.aload_n 0, 1) := by decide +kernel
theorem dX7_joins_43 : decode cX7_joins 43 = .ok (.iload 4, 2) := by decide +kernel
theorem dX7_joins_45 : decode cX7_joins 45 = .ok (.iload 5, 2) := by decide +kernel
theorem dX7_joins_47 : decode cX7_joins 47 = .ok (.invokevirtual 146, 3) := by decide +kernel
theorem dX7_joins_50 : decode cX7_joins 50 = .ok (.ifCond .eq 97, 3) := by decide +kernel
theorem dX7_joins_53 : decode cX7_joins 53 = .ok (.aload_n 0, 1) := by decide +kernel
theorem dX7_joins_54 : decode cX7_joins 54 = .ok (.getfield 40, 3) := by decide +kernel
theorem dX7_joins_57 : decode cX7_joins 57 = .ok (.iload 4, 2) := by decide +kernel
theorem dX7_joins_59 : decode cX7_joins 59 = .ok (.aload_n 0, 1) := by decide +kernel
theorem dX7_joins_60 : decode cX7_joins 60 = .ok (.getfield 40, 3) := by decide +kernel
theorem dX7_joins_63 : decode cX7_joins 63 = .ok (.iload 4, 2) := by decide +kernel
theorem dX7_joins_65 : decode cX7_joins 65 = .ok (.iaload, 1) := by decide +kernel
theorem dX7_joins_66 : decode cX7_joins 66 = .ok (.aload_n 0, 1) := by decide +kernel
theorem dX7_joins_67 : decode cX7_joins 67 = .ok (.getfield 40, 3) := by decide +kernel
theorem dX7_joins_70 : decode cX7_joins 70 = .ok (.iload 5, 2) := by decide +kernel
theorem dX7_joins_72 : decode cX7_joins 72 = .ok (.iaload, 1) := by decide +kernel
theorem dX7_joins_73 : decode cX7_joins 73 = .ok (.invokestatic 149, 3) := by decide +kernel
theorem dX7_joins_76 : decode cX7_joins 76 = .ok (.iastore, 1) := by decide +kernel
theorem dX7_joins_77 : decode cX7_joins 77 = .ok (.aload_n 0, 1) := by decide +kernel
theorem dX7_joins_78 : decode cX7_joins 78 = .ok (.getfield 43, 3) := by decide +kernel
theorem dX7_joins_81 : decode cX7_joins 81 = .ok (.iload 4, 2) := by decide +kernel
theorem dX7_joins_83 : decode cX7_joins 83 = .ok (.aload_n 0, 1) := by decide +kernel
theorem dX7_joins_84 : decode cX7_joins 84 = .ok (.getfield 43, 3) := by decide +kernel
theorem dX7_joins_87 : decode cX7_joins 87 = .ok (.iload 4, 2) := by decide +kernel
theorem dX7_joins_89 : decode cX7_joins 89 = .ok (.iaload, 1) := by decide +kernel
theorem dX7_joins_90 : decode cX7_joins 90 = .ok (.aload_n 0, 1) := by decide +kernel
theorem dX7_joins_91 : decode cX7_joins 91 = .ok (.getfield 43, 3) := by decide +kernel
theorem dX7_joins_94 : decode cX7_joins 94 = .ok (.iload 5, 2) := by decide +kernel
theorem dX7_joins_96 : decode cX7_joins 96 = .ok (.iaload, 1) := by decide +kernel
theorem dX7_joins_97 : decode cX7_joins 97 = .ok (.invokestatic 152, 3) := by decide +kernel
theorem dX7_joins_100 : decode cX7_joins 100 = .ok (.iastore, 1) := by decide +kernel
theorem dX7_joins_101 : decode cX7_joins 101 = .ok (.aload_n 0, 1) := by decide +kernel
theorem dX7_joins_102 : decode cX7_joins 102 = .ok (.getfield 46, 3) := by decide +kernel
theorem dX7_joins_105 : decode cX7_joins 105 = .ok (.iload 4, 2) := by decide +kernel
theorem dX7_joins_107 : decode cX7_joins 107 = .ok (.dup2, 1) := by decide +kernel
theorem dX7_joins_108 : decode cX7_joins 108 = .ok (.iaload, 1) := by decide +kernel
theorem dX7_joins_109 : decode cX7_joins 109 = .ok (.aload_n 0, 1) := by decide +kernel
theorem dX7_joins_110 : decode cX7_joins 110 = .ok (.getfield 46, 3) := by decide +kernel
theorem dX7_joins_113 : decode cX7_joins 113 = .ok (.iload 5, 2) := by decide +kernel
theorem dX7_joins_115 : decode cX7_joins 115 = .ok (.iaload, 1) := by decide +kernel
theorem dX7_joins_116 : decode cX7_joins 116 = .ok (.ior, 1) := by decide +kernel
theorem dX7_joins_117 : decode cX7_joins 117 = .ok (.iastore, 1) := by decide +kernel
theorem dX7_joins_118 : decode cX7_joins 118 = .ok (.aload_n 0, 1) := by decide +kernel
theorem dX7_joins_119 : decode cX7_joins 119 = .ok (.getfield 34, 3) := by decide +kernel
theorem dX7_joins_122 : decode cX7_joins 122 = .ok (.iload_n 1, 1) := by decide +kernel
theorem dX7_joins_123 : decode cX7_joins 123 = .ok (.dup2, 1) := by decide +kernel
theorem dX7_joins_124 : decode cX7_joins 124 = .ok (.iaload, 1) := by decide +kernel
theorem dX7_joins_125 : decode cX7_joins 125 = .ok (.iconst 1, 1) := by decide +kernel
theorem dX7_joins_126 : decode cX7_joins 126 = .ok (.isub, 1) := by decide +kernel
theorem dX7_joins_127 : decode cX7_joins 127 = .ok (.iastore, 1) := by decide +kernel
theorem dX7_joins_128 : decode cX7_joins 128 = .ok (.aload_n 0, 1) := by decide +kernel
theorem dX7_joins_129 : decode cX7_joins 129 = .ok (.bipush 8, 2) := by decide +kernel
theorem dX7_joins_131 : decode cX7_joins 131 = .ok (.iload_n 1, 1) := by decide +kernel
theorem dX7_joins_132 : decode cX7_joins 132 = .ok (.imul, 1) := by decide +kernel
theorem dX7_joins_133 : decode cX7_joins 133 = .ok (.aload_n 0, 1) := by decide +kernel
theorem dX7_joins_134 : decode cX7_joins 134 = .ok (.getfield 34, 3) := by decide +kernel
theorem dX7_joins_137 : decode cX7_joins 137 = .ok (.iload_n 1, 1) := by decide +kernel
theorem dX7_joins_138 : decode cX7_joins 138 = .ok (.iaload, 1) := by decide +kernel
theorem dX7_joins_139 : decode cX7_joins 139 = .ok (.iadd, 1) := by decide +kernel
theorem dX7_joins_140 : decode cX7_joins 140 = .ok (.iload 5, 2) := by decide +kernel
theorem dX7_joins_142 : decode cX7_joins 142 = .ok (.invokevirtual 155, 3) := by decide +kernel
theorem dX7_joins_145 : decode cX7_joins 145 = .ok (.iconst 1, 1) := by decide +kernel
theorem dX7_joins_146 : decode cX7_joins 146 = .ok (.ireturn, 1) := by decide +kernel
theorem dX7_joins_147 : decode cX7_joins 147 = .ok (.iinc 3 1, 3) := by decide +kernel
theorem dX7_joins_150 : decode cX7_joins 150 = .ok (.goto (-134), 3) := by decide +kernel
theorem dX7_joins_153 : decode cX7_joins 153 = .ok (.iinc 2 1, 3) := by decide +kernel
theorem dX7_joins_156 : decode cX7_joins 156 = .ok (.goto (-154), 3) := by decide +kernel
theorem dX7_joins_159 : decode cX7_joins 159 = .ok (.iconst 0, 1) := by decide +kernel
theorem dX7_joins_160 : decode cX7_joins 160 = .ok (.ireturn, 1) := by decide +kernel
theorem dX7_isAhead_0 : decode cX7_isAhead 0 = .ok (.aload_n 0, 1) := by decide +kernel
theorem dX7_isAhead_1 : decode cX7_isAhead 1 = .ok (.getfield 37, 3) := by decide +kernel
theorem dX7_isAhead_4 : decode cX7_isAhead 4 = .ok (.iload_n 1, 1) := by decide +kernel
theorem dX7_isAhead_5 : decode cX7_isAhead 5 = .ok (.iaload, 1) := by decide +kernel
theorem dX7_isAhead_6 : decode cX7_isAhead 6 = .ok (.aload_n 0, 1) := by decide +kernel
theorem dX7_isAhead_7 : decode cX7_isAhead 7 = .ok (.getfield 37, 3) := by decide +kernel
theorem dX7_isAhead_10 : decode cX7_isAhead 10 = .ok (.iload_n 2, 1) := by decide +kernel
theorem dX7_isAhead_11 : decode cX7_isAhead 11 = .ok (.iaload, 1) := by decide +kernel
theorem dX7_isAhead_12 : decode cX7_isAhead 12 = .ok (.if_icmp .eq 26, 3) := by decide +kernel
theorem dX7_isAhead_15 : decode cX7_isAhead 15 = .ok (.aload_n 0, 1) := by decide +kernel
theorem dX7_isAhead_16 : decode cX7_isAhead 16 = .ok (.getfield 37, 3) := by decide +kernel
theorem dX7_isAhead_19 : decode cX7_isAhead 19 = .ok (.iload_n 1, 1) := by decide +kernel
theorem dX7_isAhead_20 : decode cX7_isAhead 20 = .ok (.iaload, 1) := by decide +kernel
theorem dX7_isAhead_21 : decode cX7_isAhead 21 = .ok (.aload_n 0, 1) := by decide +kernel
theorem dX7_isAhead_22 : decode cX7_isAhead 22 = .ok (.getfield 37, 3) := by decide +kernel
theorem dX7_isAhead_25 : decode cX7_isAhead 25 = .ok (.iload_n 2, 1) := by decide +kernel
theorem dX7_isAhead_26 : decode cX7_isAhead 26 = .ok (.iaload, 1) := by decide +kernel
theorem dX7_isAhead_27 : decode cX7_isAhead 27 = .ok (.if_icmp .ge 7, 3) := by decide +kernel
theorem dX7_isAhead_30 : decode cX7_isAhead 30 = .ok (.iconst 1, 1) := by decide +kernel
theorem dX7_isAhead_31 : decode cX7_isAhead 31 = .ok (.goto 27, 3) := by decide +kernel
theorem dX7_isAhead_34 : decode cX7_isAhead 34 = .ok (.iconst 0, 1) := by decide +kernel
theorem dX7_isAhead_35 : decode cX7_isAhead 35 = .ok (.goto 23, 3) := by decide +kernel
theorem dX7_isAhead_38 : decode cX7_isAhead 38 = .ok (.aload_n 0, 1) := by decide +kernel
theorem dX7_isAhead_39 : decode cX7_isAhead 39 = .ok (.getfield 40, 3) := by decide +kernel
theorem dX7_isAhead_42 : decode cX7_isAhead 42 = .ok (.iload_n 1, 1) := by decide +kernel
theorem dX7_isAhead_43 : decode cX7_isAhead 43 = .ok (.iaload, 1) := by decide +kernel
theorem dX7_isAhead_44 : decode cX7_isAhead 44 = .ok (.aload_n 0, 1) := by decide +kernel
theorem dX7_isAhead_45 : decode cX7_isAhead 45 = .ok (.getfield 40, 3) := by decide +kernel
theorem dX7_isAhead_48 : decode cX7_isAhead 48 = .ok (.iload_n 2, 1) := by decide +kernel
theorem dX7_isAhead_49 : decode cX7_isAhead 49 = .ok (.iaload, 1) := by decide +kernel
theorem dX7_isAhead_50 : decode cX7_isAhead 50 = .ok (.if_icmp .ge 7, 3) := by decide +kernel
theorem dX7_isAhead_53 : decode cX7_isAhead 53 = .ok (.iconst 1, 1) := by decide +kernel
theorem dX7_isAhead_54 : decode cX7_isAhead 54 = .ok (.goto 4, 3) := by decide +kernel
theorem dX7_isAhead_57 : decode cX7_isAhead 57 = .ok (.iconst 0, 1) := by decide +kernel
theorem dX7_isAhead_58 : decode cX7_isAhead 58 = .ok (.ireturn, 1) := by decide +kernel
theorem dX7_orders_0 : decode cX7_orders 0 = .ok (.iconst 0, 1) := by decide +kernel
theorem dX7_orders_1 : decode cX7_orders 1 = .ok (.istore_n 2, 1) := by decide +kernel
theorem dX7_orders_2 : decode cX7_orders 2 = .ok (.iload_n 2, 1) := by decide +kernel
theorem dX7_orders_3 : decode cX7_orders 3 = .ok (.aload_n 0, 1) := by decide +kernel
theorem dX7_orders_4 : decode cX7_orders 4 = .ok (.getfield 34, 3) := by decide +kernel
theorem dX7_orders_7 : decode cX7_orders 7 = .ok (.iload_n 1, 1) := by decide +kernel
theorem dX7_orders_8 : decode cX7_orders 8 = .ok (.iaload, 1) := by decide +kernel
theorem dX7_orders_9 : decode cX7_orders 9 = .ok (.if_icmp .ge 136, 3) := by decide +kernel
theorem dX7_orders_12 : decode cX7_orders 12 = .ok (.iload_n 2, 1) := by decide +kernel
theorem dX7_orders_13 : decode cX7_orders 13 = .ok (.iconst 1, 1) := by decide +kernel
theorem dX7_orders_14 : decode cX7_orders 14 = .ok (.iadd, 1) := by decide +kernel
theorem dX7_orders_15 : decode cX7_orders 15 = .ok (.istore_n 3, 1) := by decide +kernel
theorem dX7_orders_16 : decode cX7_orders 16 = .ok (.iload_n 3, 1) := by decide +kernel
theorem dX7_orders_17 : decode cX7_orders 17 = .ok (.aload_n 0, 1) := by decide +kernel
theorem dX7_orders_18 : decode cX7_orders 18 = .ok (.getfield 34, 3) := by decide +kernel
theorem dX7_orders_21 : decode cX7_orders 21 = .ok (.iload_n 1, 1) := by decide +kernel
theorem dX7_orders_22 : decode cX7_orders 22 = .ok (.iaload, 1) := by decide +kernel
theorem dX7_orders_23 : decode cX7_orders 23 = .ok (.if_icmp .ge 116, 3) := by decide +kernel
theorem dX7_orders_26 : decode cX7_orders 26 = .ok (.bipush 8, 2) := by decide +kernel
theorem dX7_orders_28 : decode cX7_orders 28 = .ok (.iload_n 1, 1) := by decide +kernel
theorem dX7_orders_29 : decode cX7_orders 29 = .ok (.imul, 1) := by decide +kernel
theorem dX7_orders_30 : decode cX7_orders 30 = .ok (.iload_n 2, 1) := by decide +kernel
theorem dX7_orders_31 : decode cX7_orders 31 = .ok (.iadd, 1) := by decide +kernel
theorem dX7_orders_32 : decode cX7_orders 32 = .ok (.istore 4, 2) := by decide +kernel
theorem dX7_orders_34 : decode cX7_orders 34 = .ok (.bipush 8, 2) := by decide +kernel
theorem dX7_orders_36 : decode cX7_orders 36 = .ok (.iload_n 1, 1) := by decide +kernel
theorem dX7_orders_37 : decode cX7_orders 37 = .ok (.imul, 1) := by decide +kernel
theorem dX7_orders_38 : decode cX7_orders 38 = .ok (.iload_n 3, 1) := by decide +kernel
theorem dX7_orders_39 : decode cX7_orders 39 = .ok (.iadd, 1) := by decide +kernel
theorem dX7_orders_40 : decode cX7_orders 40 = .ok (.istore 5, 2) := by decide +kernel
theorem dX7_orders_42 : decode cX7_orders 42 = .ok (.aload_n 0, 1) := by decide +kernel
theorem dX7_orders_43 : decode cX7_orders 43 = .ok (.iload 5, 2) := by decide +kernel
theorem dX7_orders_45 : decode cX7_orders 45 = .ok (.iload 4, 2) := by decide +kernel
theorem dX7_orders_47 : decode cX7_orders 47 = .ok (.invokevirtual 159, 3) := by decide +kernel
theorem dX7_orders_50 : decode cX7_orders 50 = .ok (.ifCond .eq 83, 3) := by decide +kernel
theorem dX7_orders_53 : decode cX7_orders 53 = .ok (.aload_n 0, 1) := by decide +kernel
theorem dX7_orders_54 : decode cX7_orders 54 = .ok (.getfield 37, 3) := by decide +kernel
theorem dX7_orders_57 : decode cX7_orders 57 = .ok (.iload 4, 2) := by decide +kernel
theorem dX7_orders_59 : decode cX7_orders 59 = .ok (.iaload, 1) := by decide +kernel
theorem dX7_orders_60 : decode cX7_orders 60 = .ok (.istore 6, 2) := by decide +kernel
theorem dX7_orders_62 : decode cX7_orders 62 = .ok (.aload_n 0, 1) := by decide +kernel
theorem dX7_orders_63 : decode cX7_orders 63 = .ok (.getfield 40, 3) := by decide +kernel
theorem dX7_orders_66 : decode cX7_orders 66 = .ok (.iload 4, 2) := by decide +kernel
theorem dX7_orders_68 : decode cX7_orders 68 = .ok (.iaload, 1) := by decide +kernel
theorem dX7_orders_69 : decode cX7_orders 69 = .ok (.istore 7, 2) := by decide +kernel
theorem dX7_orders_71 : decode cX7_orders 71 = .ok (.aload_n 0, 1) := by decide +kernel
theorem dX7_orders_72 : decode cX7_orders 72 = .ok (.getfield 43, 3) := by decide +kernel
theorem dX7_orders_75 : decode cX7_orders 75 = .ok (.iload 4, 2) := by decide +kernel
theorem dX7_orders_77 : decode cX7_orders 77 = .ok (.iaload, 1) := by decide +kernel
theorem dX7_orders_78 : decode cX7_orders 78 = .ok (.istore 8, 2) := by decide +kernel
theorem dX7_orders_80 : decode cX7_orders 80 = .ok (.aload_n 0, 1) := by decide +kernel
theorem dX7_orders_81 : decode cX7_orders 81 = .ok (.getfield 46, 3) := by decide +kernel
theorem dX7_orders_84 : decode cX7_orders 84 = .ok (.iload 4, 2) := by decide +kernel
theorem dX7_orders_86 : decode cX7_orders 86 = .ok (.iaload, 1) := by decide +kernel
theorem dX7_orders_87 : decode cX7_orders 87 = .ok (.istore 9, 2) := by decide +kernel
theorem dX7_orders_89 : decode cX7_orders 89 = .ok (.aload_n 0, 1) := by decide +kernel
theorem dX7_orders_90 : decode cX7_orders 90 = .ok (.iload 5, 2) := by decide +kernel
theorem dX7_orders_92 : decode cX7_orders 92 = .ok (.iload 4, 2) := by decide +kernel
theorem dX7_orders_94 : decode cX7_orders 94 = .ok (.invokevirtual 155, 3) := by decide +kernel
theorem dX7_orders_97 : decode cX7_orders 97 = .ok (.aload_n 0, 1) := by decide +kernel
theorem dX7_orders_98 : decode cX7_orders 98 = .ok (.getfield 37, 3) := by decide +kernel
theorem dX7_orders_101 : decode cX7_orders 101 = .ok (.iload 5, 2) := by decide +kernel
theorem dX7_orders_103 : decode cX7_orders 103 = .ok (.iload 6, 2) := by decide +kernel
theorem dX7_orders_105 : decode cX7_orders 105 = .ok (.iastore, 1) := by decide +kernel
theorem dX7_orders_106 : decode cX7_orders 106 = .ok (.aload_n 0, 1) := by decide +kernel
theorem dX7_orders_107 : decode cX7_orders 107 = .ok (.getfield 40, 3) := by decide +kernel
theorem dX7_orders_110 : decode cX7_orders 110 = .ok (.iload 5, 2) := by decide +kernel
theorem dX7_orders_112 : decode cX7_orders 112 = .ok (.iload 7, 2) := by decide +kernel
theorem dX7_orders_114 : decode cX7_orders 114 = .ok (.iastore, 1) := by decide +kernel
theorem dX7_orders_115 : decode cX7_orders 115 = .ok (.aload_n 0, 1) := by decide +kernel
theorem dX7_orders_116 : decode cX7_orders 116 = .ok (.getfield 43, 3) := by decide +kernel
theorem dX7_orders_119 : decode cX7_orders 119 = .ok (.iload 5, 2) := by decide +kernel
theorem dX7_orders_121 : decode cX7_orders 121 = .ok (.iload 8, 2) := by decide +kernel
theorem dX7_orders_123 : decode cX7_orders 123 = .ok (.iastore, 1) := by decide +kernel
theorem dX7_orders_124 : decode cX7_orders 124 = .ok (.aload_n 0, 1) := by decide +kernel
theorem dX7_orders_125 : decode cX7_orders 125 = .ok (.getfield 46, 3) := by decide +kernel
theorem dX7_orders_128 : decode cX7_orders 128 = .ok (.iload 5, 2) := by decide +kernel
theorem dX7_orders_130 : decode cX7_orders 130 = .ok (.iload 9, 2) := by decide +kernel
theorem dX7_orders_132 : decode cX7_orders 132 = .ok (.iastore, 1) := by decide +kernel
theorem dX7_orders_133 : decode cX7_orders 133 = .ok (.iinc 3 1, 3) := by decide +kernel
theorem dX7_orders_136 : decode cX7_orders 136 = .ok (.goto (-120), 3) := by decide +kernel
theorem dX7_orders_139 : decode cX7_orders 139 = .ok (.iinc 2 1, 3) := by decide +kernel
theorem dX7_orders_142 : decode cX7_orders 142 = .ok (.goto (-140), 3) := by decide +kernel
theorem dX7_orders_145 : decode cX7_orders 145 = .ok (.return_, 1) := by decide +kernel
theorem dX7_pullsOf_0 : decode cX7_pullsOf 0 = .ok (.aload_n 0, 1) := by decide +kernel
theorem dX7_pullsOf_1 : decode cX7_pullsOf 1 = .ok (.getfield 34, 3) := by decide +kernel
theorem dX7_pullsOf_4 : decode cX7_pullsOf 4 = .ok (.iload_n 1, 1) := by decide +kernel
theorem dX7_pullsOf_5 : decode cX7_pullsOf 5 = .ok (.iconst 0, 1) := by decide +kernel
theorem dX7_pullsOf_6 : decode cX7_pullsOf 6 = .ok (.iastore, 1) := by decide +kernel
theorem dX7_pullsOf_7 : decode cX7_pullsOf 7 = .ok (.iconst 0, 1) := by decide +kernel
theorem dX7_pullsOf_8 : decode cX7_pullsOf 8 = .ok (.istore_n 3, 1) := by decide +kernel
theorem dX7_pullsOf_9 : decode cX7_pullsOf 9 = .ok (.iload_n 3, 1) := by decide +kernel
theorem dX7_pullsOf_10 : decode cX7_pullsOf 10 = .ok (.aload_n 0, 1) := by decide +kernel
theorem dX7_pullsOf_11 : decode cX7_pullsOf 11 = .ok (.getfield 7, 3) := by decide +kernel
theorem dX7_pullsOf_14 : decode cX7_pullsOf 14 = .ok (.iload_n 1, 1) := by decide +kernel
theorem dX7_pullsOf_15 : decode cX7_pullsOf 15 = .ok (.iaload, 1) := by decide +kernel
theorem dX7_pullsOf_16 : decode cX7_pullsOf 16 = .ok (.if_icmp .ge 114, 3) := by decide +kernel
theorem dX7_pullsOf_19 : decode cX7_pullsOf 19 = .ok (.bipush 8, 2) := by decide +kernel
theorem dX7_pullsOf_21 : decode cX7_pullsOf 21 = .ok (.iload_n 1, 1) := by decide +kernel
theorem dX7_pullsOf_22 : decode cX7_pullsOf 22 = .ok (.imul, 1) := by decide +kernel
theorem dX7_pullsOf_23 : decode cX7_pullsOf 23 = .ok (.iload_n 3, 1) := by decide +kernel
theorem dX7_pullsOf_24 : decode cX7_pullsOf 24 = .ok (.iadd, 1) := by decide +kernel
theorem dX7_pullsOf_25 : decode cX7_pullsOf 25 = .ok (.istore 4, 2) := by decide +kernel
theorem dX7_pullsOf_27 : decode cX7_pullsOf 27 = .ok (.bipush 8, 2) := by decide +kernel
theorem dX7_pullsOf_29 : decode cX7_pullsOf 29 = .ok (.iload_n 1, 1) := by decide +kernel
theorem dX7_pullsOf_30 : decode cX7_pullsOf 30 = .ok (.imul, 1) := by decide +kernel
theorem dX7_pullsOf_31 : decode cX7_pullsOf 31 = .ok (.aload_n 0, 1) := by decide +kernel
theorem dX7_pullsOf_32 : decode cX7_pullsOf 32 = .ok (.getfield 34, 3) := by decide +kernel
theorem dX7_pullsOf_35 : decode cX7_pullsOf 35 = .ok (.iload_n 1, 1) := by decide +kernel
theorem dX7_pullsOf_36 : decode cX7_pullsOf 36 = .ok (.iaload, 1) := by decide +kernel
theorem dX7_pullsOf_37 : decode cX7_pullsOf 37 = .ok (.iadd, 1) := by decide +kernel
theorem dX7_pullsOf_38 : decode cX7_pullsOf 38 = .ok (.istore 5, 2) := by decide +kernel
theorem dX7_pullsOf_40 : decode cX7_pullsOf 40 = .ok (.iload_n 3, 1) := by decide +kernel
theorem dX7_pullsOf_41 : decode cX7_pullsOf 41 = .ok (.iload_n 2, 1) := by decide +kernel
theorem dX7_pullsOf_42 : decode cX7_pullsOf 42 = .ok (.if_icmp .eq 82, 3) := by decide +kernel
theorem dX7_pullsOf_45 : decode cX7_pullsOf 45 = .ok (.aload_n 0, 1) := by decide +kernel
theorem dX7_pullsOf_46 : decode cX7_pullsOf 46 = .ok (.getfield 37, 3) := by decide +kernel
theorem dX7_pullsOf_49 : decode cX7_pullsOf 49 = .ok (.iload 5, 2) := by decide +kernel
theorem dX7_pullsOf_51 : decode cX7_pullsOf 51 = .ok (.aload_n 0, 1) := by decide +kernel
theorem dX7_pullsOf_52 : decode cX7_pullsOf 52 = .ok (.getfield 13, 3) := by decide +kernel
theorem dX7_pullsOf_55 : decode cX7_pullsOf 55 = .ok (.iload 4, 2) := by decide +kernel
theorem dX7_pullsOf_57 : decode cX7_pullsOf 57 = .ok (.iaload, 1) := by decide +kernel
theorem dX7_pullsOf_58 : decode cX7_pullsOf 58 = .ok (.iastore, 1) := by decide +kernel
theorem dX7_pullsOf_59 : decode cX7_pullsOf 59 = .ok (.aload_n 0, 1) := by decide +kernel
theorem dX7_pullsOf_60 : decode cX7_pullsOf 60 = .ok (.getfield 40, 3) := by decide +kernel
theorem dX7_pullsOf_63 : decode cX7_pullsOf 63 = .ok (.iload 5, 2) := by decide +kernel
theorem dX7_pullsOf_65 : decode cX7_pullsOf 65 = .ok (.iconst 0, 1) := by decide +kernel
theorem dX7_pullsOf_66 : decode cX7_pullsOf 66 = .ok (.aload_n 0, 1) := by decide +kernel
theorem dX7_pullsOf_67 : decode cX7_pullsOf 67 = .ok (.getfield 16, 3) := by decide +kernel
theorem dX7_pullsOf_70 : decode cX7_pullsOf 70 = .ok (.iload 4, 2) := by decide +kernel
theorem dX7_pullsOf_72 : decode cX7_pullsOf 72 = .ok (.iaload, 1) := by decide +kernel
theorem dX7_pullsOf_73 : decode cX7_pullsOf 73 = .ok (.aload_n 0, 1) := by decide +kernel
theorem dX7_pullsOf_74 : decode cX7_pullsOf 74 = .ok (.getfield 28, 3) := by decide +kernel
theorem dX7_pullsOf_77 : decode cX7_pullsOf 77 = .ok (.iconst 1, 1) := by decide +kernel
theorem dX7_pullsOf_78 : decode cX7_pullsOf 78 = .ok (.iaload, 1) := by decide +kernel
theorem dX7_pullsOf_79 : decode cX7_pullsOf 79 = .ok (.isub, 1) := by decide +kernel
theorem dX7_pullsOf_80 : decode cX7_pullsOf 80 = .ok (.invokestatic 152, 3) := by decide +kernel
theorem dX7_pullsOf_83 : decode cX7_pullsOf 83 = .ok (.iastore, 1) := by decide +kernel
theorem dX7_pullsOf_84 : decode cX7_pullsOf 84 = .ok (.aload_n 0, 1) := by decide +kernel
theorem dX7_pullsOf_85 : decode cX7_pullsOf 85 = .ok (.getfield 43, 3) := by decide +kernel
theorem dX7_pullsOf_88 : decode cX7_pullsOf 88 = .ok (.iload 5, 2) := by decide +kernel
theorem dX7_pullsOf_90 : decode cX7_pullsOf 90 = .ok (.aload_n 0, 1) := by decide +kernel
theorem dX7_pullsOf_91 : decode cX7_pullsOf 91 = .ok (.iload 4, 2) := by decide +kernel
theorem dX7_pullsOf_93 : decode cX7_pullsOf 93 = .ok (.invokevirtual 114, 3) := by decide +kernel
theorem dX7_pullsOf_96 : decode cX7_pullsOf 96 = .ok (.aload_n 0, 1) := by decide +kernel
theorem dX7_pullsOf_97 : decode cX7_pullsOf 97 = .ok (.getfield 28, 3) := by decide +kernel
theorem dX7_pullsOf_100 : decode cX7_pullsOf 100 = .ok (.iconst 1, 1) := by decide +kernel
theorem dX7_pullsOf_101 : decode cX7_pullsOf 101 = .ok (.iaload, 1) := by decide +kernel
theorem dX7_pullsOf_102 : decode cX7_pullsOf 102 = .ok (.iadd, 1) := by decide +kernel
theorem dX7_pullsOf_103 : decode cX7_pullsOf 103 = .ok (.iastore, 1) := by decide +kernel
theorem dX7_pullsOf_104 : decode cX7_pullsOf 104 = .ok (.aload_n 0, 1) := by decide +kernel
theorem dX7_pullsOf_105 : decode cX7_pullsOf 105 = .ok (.getfield 46, 3) := by decide +kernel
theorem dX7_pullsOf_108 : decode cX7_pullsOf 108 = .ok (.iload 5, 2) := by decide +kernel
theorem dX7_pullsOf_110 : decode cX7_pullsOf 110 = .ok (.iconst 1, 1) := by decide +kernel
theorem dX7_pullsOf_111 : decode cX7_pullsOf 111 = .ok (.iload_n 3, 1) := by decide +kernel
theorem dX7_pullsOf_112 : decode cX7_pullsOf 112 = .ok (.ishl, 1) := by decide +kernel
theorem dX7_pullsOf_113 : decode cX7_pullsOf 113 = .ok (.iastore, 1) := by decide +kernel
theorem dX7_pullsOf_114 : decode cX7_pullsOf 114 = .ok (.aload_n 0, 1) := by decide +kernel
theorem dX7_pullsOf_115 : decode cX7_pullsOf 115 = .ok (.getfield 34, 3) := by decide +kernel
theorem dX7_pullsOf_118 : decode cX7_pullsOf 118 = .ok (.iload_n 1, 1) := by decide +kernel
theorem dX7_pullsOf_119 : decode cX7_pullsOf 119 = .ok (.dup2, 1) := by decide +kernel
theorem dX7_pullsOf_120 : decode cX7_pullsOf 120 = .ok (.iaload, 1) := by decide +kernel
theorem dX7_pullsOf_121 : decode cX7_pullsOf 121 = .ok (.iconst 1, 1) := by decide +kernel
theorem dX7_pullsOf_122 : decode cX7_pullsOf 122 = .ok (.iadd, 1) := by decide +kernel
theorem dX7_pullsOf_123 : decode cX7_pullsOf 123 = .ok (.iastore, 1) := by decide +kernel
theorem dX7_pullsOf_124 : decode cX7_pullsOf 124 = .ok (.iinc 3 1, 3) := by decide +kernel
theorem dX7_pullsOf_127 : decode cX7_pullsOf 127 = .ok (.goto (-118), 3) := by decide +kernel
theorem dX7_pullsOf_130 : decode cX7_pullsOf 130 = .ok (.iconst 1, 1) := by decide +kernel
theorem dX7_pullsOf_131 : decode cX7_pullsOf 131 = .ok (.istore_n 3, 1) := by decide +kernel
theorem dX7_pullsOf_132 : decode cX7_pullsOf 132 = .ok (.iconst 0, 1) := by decide +kernel
theorem dX7_pullsOf_133 : decode cX7_pullsOf 133 = .ok (.istore 4, 2) := by decide +kernel
theorem dX7_pullsOf_135 : decode cX7_pullsOf 135 = .ok (.iload 4, 2) := by decide +kernel
theorem dX7_pullsOf_137 : decode cX7_pullsOf 137 = .ok (.bipush 9, 2) := by decide +kernel
theorem dX7_pullsOf_139 : decode cX7_pullsOf 139 = .ok (.if_icmp .ge 19, 3) := by decide +kernel
theorem dX7_pullsOf_142 : decode cX7_pullsOf 142 = .ok (.iload_n 3, 1) := by decide +kernel
theorem dX7_pullsOf_143 : decode cX7_pullsOf 143 = .ok (.ifCond .eq 15, 3) := by decide +kernel
theorem dX7_pullsOf_146 : decode cX7_pullsOf 146 = .ok (.aload_n 0, 1) := by decide +kernel
theorem dX7_pullsOf_147 : decode cX7_pullsOf 147 = .ok (.iload_n 1, 1) := by decide +kernel
theorem dX7_pullsOf_148 : decode cX7_pullsOf 148 = .ok (.invokevirtual 162, 3) := by decide +kernel
theorem dX7_pullsOf_151 : decode cX7_pullsOf 151 = .ok (.istore_n 3, 1) := by decide +kernel
theorem dX7_pullsOf_152 : decode cX7_pullsOf 152 = .ok (.iinc 4 1, 3) := by decide +kernel
theorem dX7_pullsOf_155 : decode cX7_pullsOf 155 = .ok (.goto (-20), 3) := by decide +kernel
theorem dX7_pullsOf_158 : decode cX7_pullsOf 158 = .ok (.aload_n 0, 1) := by decide +kernel
theorem dX7_pullsOf_159 : decode cX7_pullsOf 159 = .ok (.iload_n 1, 1) := by decide +kernel
theorem dX7_pullsOf_160 : decode cX7_pullsOf 160 = .ok (.invokevirtual 165, 3) := by decide +kernel
theorem dX7_pullsOf_163 : decode cX7_pullsOf 163 = .ok (.return_, 1) := by decide +kernel
theorem dX7_manyPulls_0 : decode cX7_manyPulls 0 = .ok (.aload_n 0, 1) := by decide +kernel
theorem dX7_manyPulls_1 : decode cX7_manyPulls 1 = .ok (.iload_n 1, 1) := by decide +kernel
theorem dX7_manyPulls_2 : decode cX7_manyPulls 2 = .ok (.iconst (-1), 1) := by decide +kernel
theorem dX7_manyPulls_3 : decode cX7_manyPulls 3 = .ok (.invokevirtual 169, 3) := by decide +kernel
theorem dX7_manyPulls_6 : decode cX7_manyPulls 6 = .ok (.aload_n 0, 1) := by decide +kernel
theorem dX7_manyPulls_7 : decode cX7_manyPulls 7 = .ok (.getfield 34, 3) := by decide +kernel
theorem dX7_manyPulls_10 : decode cX7_manyPulls 10 = .ok (.iload_n 1, 1) := by decide +kernel
theorem dX7_manyPulls_11 : decode cX7_manyPulls 11 = .ok (.iaload, 1) := by decide +kernel
theorem dX7_manyPulls_12 : decode cX7_manyPulls 12 = .ok (.ireturn, 1) := by decide +kernel
theorem dX7_pulls_0 : decode cX7_pulls 0 = .ok (.iload_n 1, 1) := by decide +kernel
theorem dX7_pulls_1 : decode cX7_pulls 1 = .ok (.invokestatic 82, 3) := by decide +kernel
theorem dX7_pulls_4 : decode cX7_pulls 4 = .ok (.ifCond .eq 11, 3) := by decide +kernel
theorem dX7_pulls_7 : decode cX7_pulls 7 = .ok (.aload_n 0, 1) := by decide +kernel
theorem dX7_pulls_8 : decode cX7_pulls 8 = .ok (.iload_n 1, 1) := by decide +kernel
theorem dX7_pulls_9 : decode cX7_pulls 9 = .ok (.invokevirtual 172, 3) := by decide +kernel
theorem dX7_pulls_12 : decode cX7_pulls 12 = .ok (.goto 5, 3) := by decide +kernel
theorem dX7_pulls_15 : decode cX7_pulls 15 = .ok (.bipush (-2), 2) := by decide +kernel
theorem dX7_pulls_17 : decode cX7_pulls 17 = .ok (.ireturn, 1) := by decide +kernel
theorem dX7_lacking_0 : decode cX7_lacking 0 = .ok (.iconst 0, 1) := by decide +kernel
theorem dX7_lacking_1 : decode cX7_lacking 1 = .ok (.aload_n 0, 1) := by decide +kernel
theorem dX7_lacking_2 : decode cX7_lacking 2 = .ok (.getfield 43, 3) := by decide +kernel
theorem dX7_lacking_5 : decode cX7_lacking 5 = .ok (.iload_n 1, 1) := by decide +kernel
theorem dX7_lacking_6 : decode cX7_lacking 6 = .ok (.iaload, 1) := by decide +kernel
theorem dX7_lacking_7 : decode cX7_lacking 7 = .ok (.aload_n 0, 1) := by decide +kernel
theorem dX7_lacking_8 : decode cX7_lacking 8 = .ok (.getfield 40, 3) := by decide +kernel
theorem dX7_lacking_11 : decode cX7_lacking 11 = .ok (.iload_n 1, 1) := by decide +kernel
theorem dX7_lacking_12 : decode cX7_lacking 12 = .ok (.iaload, 1) := by decide +kernel
theorem dX7_lacking_13 : decode cX7_lacking 13 = .ok (.aload_n 0, 1) := by decide +kernel
theorem dX7_lacking_14 : decode cX7_lacking 14 = .ok (.getfield 31, 3) := by decide +kernel
theorem dX7_lacking_17 : decode cX7_lacking 17 = .ok (.aload_n 0, 1) := by decide +kernel
theorem dX7_lacking_18 : decode cX7_lacking 18 = .ok (.getfield 37, 3) := by decide +kernel
theorem dX7_lacking_21 : decode cX7_lacking 21 = .ok (.iload_n 1, 1) := by decide +kernel
theorem dX7_lacking_22 : decode cX7_lacking 22 = .ok (.iaload, 1) := by decide +kernel
theorem dX7_lacking_23 : decode cX7_lacking 23 = .ok (.iaload, 1) := by decide +kernel
theorem dX7_lacking_24 : decode cX7_lacking 24 = .ok (.invokestatic 152, 3) := by decide +kernel
theorem dX7_lacking_27 : decode cX7_lacking 27 = .ok (.isub, 1) := by decide +kernel
theorem dX7_lacking_28 : decode cX7_lacking 28 = .ok (.iconst 1, 1) := by decide +kernel
theorem dX7_lacking_29 : decode cX7_lacking 29 = .ok (.iadd, 1) := by decide +kernel
theorem dX7_lacking_30 : decode cX7_lacking 30 = .ok (.invokestatic 152, 3) := by decide +kernel
theorem dX7_lacking_33 : decode cX7_lacking 33 = .ok (.ireturn, 1) := by decide +kernel
theorem dX7_pullFor_0 : decode cX7_pullFor 0 = .ok (.aload_n 0, 1) := by decide +kernel
theorem dX7_pullFor_1 : decode cX7_pullFor 1 = .ok (.iload_n 1, 1) := by decide +kernel
theorem dX7_pullFor_2 : decode cX7_pullFor 2 = .ok (.invokevirtual 172, 3) := by decide +kernel
theorem dX7_pullFor_5 : decode cX7_pullFor 5 = .ok (.istore 4, 2) := by decide +kernel
theorem dX7_pullFor_7 : decode cX7_pullFor 7 = .ok (.bipush 8, 2) := by decide +kernel
theorem dX7_pullFor_9 : decode cX7_pullFor 9 = .ok (.iload_n 1, 1) := by decide +kernel
theorem dX7_pullFor_10 : decode cX7_pullFor 10 = .ok (.imul, 1) := by decide +kernel
theorem dX7_pullFor_11 : decode cX7_pullFor 11 = .ok (.iload_n 2, 1) := by decide +kernel
theorem dX7_pullFor_12 : decode cX7_pullFor 12 = .ok (.iadd, 1) := by decide +kernel
theorem dX7_pullFor_13 : decode cX7_pullFor 13 = .ok (.istore 5, 2) := by decide +kernel
theorem dX7_pullFor_15 : decode cX7_pullFor 15 = .ok (.iload_n 2, 1) := by decide +kernel
theorem dX7_pullFor_16 : decode cX7_pullFor 16 = .ok (.iload 4, 2) := by decide +kernel
theorem dX7_pullFor_18 : decode cX7_pullFor 18 = .ok (.if_icmp .lt 5, 3) := by decide +kernel
theorem dX7_pullFor_21 : decode cX7_pullFor 21 = .ok (.iconst (-1), 1) := by decide +kernel
theorem dX7_pullFor_22 : decode cX7_pullFor 22 = .ok (.ireturn, 1) := by decide +kernel
theorem dX7_pullFor_23 : decode cX7_pullFor 23 = .ok (.iload_n 3, 1) := by decide +kernel
theorem dX7_pullFor_24 : decode cX7_pullFor 24 = .ok (.tableswitch 64 0 3 #[32, 40, 48, 56], 32) := by decide +kernel
theorem dX7_pullFor_56 : decode cX7_pullFor 56 = .ok (.aload_n 0, 1) := by decide +kernel
theorem dX7_pullFor_57 : decode cX7_pullFor 57 = .ok (.getfield 37, 3) := by decide +kernel
theorem dX7_pullFor_60 : decode cX7_pullFor 60 = .ok (.iload 5, 2) := by decide +kernel
theorem dX7_pullFor_62 : decode cX7_pullFor 62 = .ok (.iaload, 1) := by decide +kernel
theorem dX7_pullFor_63 : decode cX7_pullFor 63 = .ok (.ireturn, 1) := by decide +kernel
theorem dX7_pullFor_64 : decode cX7_pullFor 64 = .ok (.aload_n 0, 1) := by decide +kernel
theorem dX7_pullFor_65 : decode cX7_pullFor 65 = .ok (.getfield 40, 3) := by decide +kernel
theorem dX7_pullFor_68 : decode cX7_pullFor 68 = .ok (.iload 5, 2) := by decide +kernel
theorem dX7_pullFor_70 : decode cX7_pullFor 70 = .ok (.iaload, 1) := by decide +kernel
theorem dX7_pullFor_71 : decode cX7_pullFor 71 = .ok (.ireturn, 1) := by decide +kernel
theorem dX7_pullFor_72 : decode cX7_pullFor 72 = .ok (.aload_n 0, 1) := by decide +kernel
theorem dX7_pullFor_73 : decode cX7_pullFor 73 = .ok (.getfield 43, 3) := by decide +kernel
theorem dX7_pullFor_76 : decode cX7_pullFor 76 = .ok (.iload 5, 2) := by decide +kernel
theorem dX7_pullFor_78 : decode cX7_pullFor 78 = .ok (.iaload, 1) := by decide +kernel
theorem dX7_pullFor_79 : decode cX7_pullFor 79 = .ok (.ireturn, 1) := by decide +kernel
theorem dX7_pullFor_80 : decode cX7_pullFor 80 = .ok (.aload_n 0, 1) := by decide +kernel
theorem dX7_pullFor_81 : decode cX7_pullFor 81 = .ok (.getfield 46, 3) := by decide +kernel
theorem dX7_pullFor_84 : decode cX7_pullFor 84 = .ok (.iload 5, 2) := by decide +kernel
theorem dX7_pullFor_86 : decode cX7_pullFor 86 = .ok (.iaload, 1) := by decide +kernel
theorem dX7_pullFor_87 : decode cX7_pullFor 87 = .ok (.ireturn, 1) := by decide +kernel
theorem dX7_pullFor_88 : decode cX7_pullFor 88 = .ok (.aload_n 0, 1) := by decide +kernel
theorem dX7_pullFor_89 : decode cX7_pullFor 89 = .ok (.iload 5, 2) := by decide +kernel
theorem dX7_pullFor_91 : decode cX7_pullFor 91 = .ok (.invokevirtual 175, 3) := by decide +kernel
theorem dX7_pullFor_94 : decode cX7_pullFor 94 = .ok (.ireturn, 1) := by decide +kernel
theorem dX7_pull_0 : decode cX7_pull 0 = .ok (.iload_n 1, 1) := by decide +kernel
theorem dX7_pull_1 : decode cX7_pull 1 = .ok (.invokestatic 82, 3) := by decide +kernel
theorem dX7_pull_4 : decode cX7_pull 4 = .ok (.ifCond .eq 32, 3) := by decide +kernel
theorem dX7_pull_7 : decode cX7_pull 7 = .ok (.iload_n 2, 1) := by decide +kernel
theorem dX7_pull_8 : decode cX7_pull 8 = .ok (.iconst 0, 1) := by decide +kernel
theorem dX7_pull_9 : decode cX7_pull 9 = .ok (.bipush 7, 2) := by decide +kernel
theorem dX7_pull_11 : decode cX7_pull 11 = .ok (.invokestatic 69, 3) := by decide +kernel
theorem dX7_pull_14 : decode cX7_pull 14 = .ok (.ifCond .eq 22, 3) := by decide +kernel
theorem dX7_pull_17 : decode cX7_pull 17 = .ok (.iload_n 3, 1) := by decide +kernel
theorem dX7_pull_18 : decode cX7_pull 18 = .ok (.iconst 0, 1) := by decide +kernel
theorem dX7_pull_19 : decode cX7_pull 19 = .ok (.iconst 4, 1) := by decide +kernel
theorem dX7_pull_20 : decode cX7_pull 20 = .ok (.invokestatic 69, 3) := by decide +kernel
theorem dX7_pull_23 : decode cX7_pull 23 = .ok (.ifCond .eq 13, 3) := by decide +kernel
theorem dX7_pull_26 : decode cX7_pull 26 = .ok (.aload_n 0, 1) := by decide +kernel
theorem dX7_pull_27 : decode cX7_pull 27 = .ok (.iload_n 1, 1) := by decide +kernel
theorem dX7_pull_28 : decode cX7_pull 28 = .ok (.iload_n 2, 1) := by decide +kernel
theorem dX7_pull_29 : decode cX7_pull 29 = .ok (.iload_n 3, 1) := by decide +kernel
theorem dX7_pull_30 : decode cX7_pull 30 = .ok (.invokevirtual 178, 3) := by decide +kernel
theorem dX7_pull_33 : decode cX7_pull 33 = .ok (.goto 5, 3) := by decide +kernel
theorem dX7_pull_36 : decode cX7_pull 36 = .ok (.bipush (-2), 2) := by decide +kernel
theorem dX7_pull_38 : decode cX7_pull 38 = .ok (.ireturn, 1) := by decide +kernel
theorem dX7_framesNow_0 : decode cX7_framesNow 0 = .ok (.iconst 0, 1) := by decide +kernel
theorem dX7_framesNow_1 : decode cX7_framesNow 1 = .ok (.istore_n 2, 1) := by decide +kernel
theorem dX7_framesNow_2 : decode cX7_framesNow 2 = .ok (.iconst 0, 1) := by decide +kernel
theorem dX7_framesNow_3 : decode cX7_framesNow 3 = .ok (.istore_n 3, 1) := by decide +kernel
theorem dX7_framesNow_4 : decode cX7_framesNow 4 = .ok (.iload_n 3, 1) := by decide +kernel
theorem dX7_framesNow_5 : decode cX7_framesNow 5 = .ok (.aload_n 0, 1) := by decide +kernel
theorem dX7_framesNow_6 : decode cX7_framesNow 6 = .ok (.getfield 34, 3) := by decide +kernel
theorem dX7_framesNow_9 : decode cX7_framesNow 9 = .ok (.iload_n 1, 1) := by decide +kernel
theorem dX7_framesNow_10 : decode cX7_framesNow 10 = .ok (.iaload, 1) := by decide +kernel
theorem dX7_framesNow_11 : decode cX7_framesNow 11 = .ok (.if_icmp .ge 37, 3) := by decide +kernel
theorem dX7_framesNow_14 : decode cX7_framesNow 14 = .ok (.iload_n 2, 1) := by decide +kernel
theorem dX7_framesNow_15 : decode cX7_framesNow 15 = .ok (.aload_n 0, 1) := by decide +kernel
theorem dX7_framesNow_16 : decode cX7_framesNow 16 = .ok (.getfield 43, 3) := by decide +kernel
theorem dX7_framesNow_19 : decode cX7_framesNow 19 = .ok (.bipush 8, 2) := by decide +kernel
theorem dX7_framesNow_21 : decode cX7_framesNow 21 = .ok (.iload_n 1, 1) := by decide +kernel
theorem dX7_framesNow_22 : decode cX7_framesNow 22 = .ok (.imul, 1) := by decide +kernel
theorem dX7_framesNow_23 : decode cX7_framesNow 23 = .ok (.iload_n 3, 1) := by decide +kernel
theorem dX7_framesNow_24 : decode cX7_framesNow 24 = .ok (.iadd, 1) := by decide +kernel
theorem dX7_framesNow_25 : decode cX7_framesNow 25 = .ok (.iaload, 1) := by decide +kernel
theorem dX7_framesNow_26 : decode cX7_framesNow 26 = .ok (.aload_n 0, 1) := by decide +kernel
theorem dX7_framesNow_27 : decode cX7_framesNow 27 = .ok (.getfield 40, 3) := by decide +kernel
theorem dX7_framesNow_30 : decode cX7_framesNow 30 = .ok (.bipush 8, 2) := by decide +kernel
theorem dX7_framesNow_32 : decode cX7_framesNow 32 = .ok (.iload_n 1, 1) := by decide +kernel
theorem dX7_framesNow_33 : decode cX7_framesNow 33 = .ok (.imul, 1) := by decide +kernel
theorem dX7_framesNow_34 : decode cX7_framesNow 34 = .ok (.iload_n 3, 1) := by decide +kernel
theorem dX7_framesNow_35 : decode cX7_framesNow 35 = .ok (.iadd, 1) := by decide +kernel
theorem dX7_framesNow_36 : decode cX7_framesNow 36 = .ok (.iaload, 1) := by decide +kernel
theorem dX7_framesNow_37 : decode cX7_framesNow 37 = .ok (.isub, 1) := by decide +kernel
theorem dX7_framesNow_38 : decode cX7_framesNow 38 = .ok (.iconst 1, 1) := by decide +kernel
theorem dX7_framesNow_39 : decode cX7_framesNow 39 = .ok (.iadd, 1) := by decide +kernel
theorem dX7_framesNow_40 : decode cX7_framesNow 40 = .ok (.iadd, 1) := by decide +kernel
theorem dX7_framesNow_41 : decode cX7_framesNow 41 = .ok (.istore_n 2, 1) := by decide +kernel
theorem dX7_framesNow_42 : decode cX7_framesNow 42 = .ok (.iinc 3 1, 3) := by decide +kernel
theorem dX7_framesNow_45 : decode cX7_framesNow 45 = .ok (.goto (-41), 3) := by decide +kernel
theorem dX7_framesNow_48 : decode cX7_framesNow 48 = .ok (.iload_n 2, 1) := by decide +kernel
theorem dX7_framesNow_49 : decode cX7_framesNow 49 = .ok (.ireturn, 1) := by decide +kernel
theorem dX7_isShown_0 : decode cX7_isShown 0 = .ok (.aload_n 0, 1) := by decide +kernel
theorem dX7_isShown_1 : decode cX7_isShown 1 = .ok (.getfield 13, 3) := by decide +kernel
theorem dX7_isShown_4 : decode cX7_isShown 4 = .ok (.iload_n 1, 1) := by decide +kernel
theorem dX7_isShown_5 : decode cX7_isShown 5 = .ok (.iaload, 1) := by decide +kernel
theorem dX7_isShown_6 : decode cX7_isShown 6 = .ok (.iload_n 2, 1) := by decide +kernel
theorem dX7_isShown_7 : decode cX7_isShown 7 = .ok (.if_icmp .ne 22, 3) := by decide +kernel
theorem dX7_isShown_10 : decode cX7_isShown 10 = .ok (.iload_n 3, 1) := by decide +kernel
theorem dX7_isShown_11 : decode cX7_isShown 11 = .ok (.aload_n 0, 1) := by decide +kernel
theorem dX7_isShown_12 : decode cX7_isShown 12 = .ok (.getfield 16, 3) := by decide +kernel
theorem dX7_isShown_15 : decode cX7_isShown 15 = .ok (.iload_n 1, 1) := by decide +kernel
theorem dX7_isShown_16 : decode cX7_isShown 16 = .ok (.iaload, 1) := by decide +kernel
theorem dX7_isShown_17 : decode cX7_isShown 17 = .ok (.if_icmp .lt 12, 3) := by decide +kernel
theorem dX7_isShown_20 : decode cX7_isShown 20 = .ok (.iload_n 3, 1) := by decide +kernel
theorem dX7_isShown_21 : decode cX7_isShown 21 = .ok (.aload_n 0, 1) := by decide +kernel
theorem dX7_isShown_22 : decode cX7_isShown 22 = .ok (.iload_n 1, 1) := by decide +kernel
theorem dX7_isShown_23 : decode cX7_isShown 23 = .ok (.invokevirtual 114, 3) := by decide +kernel
theorem dX7_isShown_26 : decode cX7_isShown 26 = .ok (.if_icmp .le 5, 3) := by decide +kernel
theorem dX7_isShown_29 : decode cX7_isShown 29 = .ok (.iconst 0, 1) := by decide +kernel
theorem dX7_isShown_30 : decode cX7_isShown 30 = .ok (.ireturn, 1) := by decide +kernel
theorem dX7_isShown_31 : decode cX7_isShown 31 = .ok (.iload_n 3, 1) := by decide +kernel
theorem dX7_isShown_32 : decode cX7_isShown 32 = .ok (.aload_n 0, 1) := by decide +kernel
theorem dX7_isShown_33 : decode cX7_isShown 33 = .ok (.getfield 16, 3) := by decide +kernel
theorem dX7_isShown_36 : decode cX7_isShown 36 = .ok (.iload_n 1, 1) := by decide +kernel
theorem dX7_isShown_37 : decode cX7_isShown 37 = .ok (.iaload, 1) := by decide +kernel
theorem dX7_isShown_38 : decode cX7_isShown 38 = .ok (.isub, 1) := by decide +kernel
theorem dX7_isShown_39 : decode cX7_isShown 39 = .ok (.istore 4, 2) := by decide +kernel
theorem dX7_isShown_41 : decode cX7_isShown 41 = .ok (.aload_n 0, 1) := by decide +kernel
theorem dX7_isShown_42 : decode cX7_isShown 42 = .ok (.getfield 22, 3) := by decide +kernel
theorem dX7_isShown_45 : decode cX7_isShown 45 = .ok (.iload_n 1, 1) := by decide +kernel
theorem dX7_isShown_46 : decode cX7_isShown 46 = .ok (.iaload, 1) := by decide +kernel
theorem dX7_isShown_47 : decode cX7_isShown 47 = .ok (.ifCond .ne 7, 3) := by decide +kernel
theorem dX7_isShown_50 : decode cX7_isShown 50 = .ok (.iconst 0, 1) := by decide +kernel
theorem dX7_isShown_51 : decode cX7_isShown 51 = .ok (.goto 28, 3) := by decide +kernel
theorem dX7_isShown_54 : decode cX7_isShown 54 = .ok (.iload 4, 2) := by decide +kernel
theorem dX7_isShown_56 : decode cX7_isShown 56 = .ok (.aload_n 0, 1) := by decide +kernel
theorem dX7_isShown_57 : decode cX7_isShown 57 = .ok (.getfield 25, 3) := by decide +kernel
theorem dX7_isShown_60 : decode cX7_isShown 60 = .ok (.iload_n 1, 1) := by decide +kernel
theorem dX7_isShown_61 : decode cX7_isShown 61 = .ok (.iaload, 1) := by decide +kernel
theorem dX7_isShown_62 : decode cX7_isShown 62 = .ok (.imul, 1) := by decide +kernel
theorem dX7_isShown_63 : decode cX7_isShown 63 = .ok (.aload_n 0, 1) := by decide +kernel
theorem dX7_isShown_64 : decode cX7_isShown 64 = .ok (.getfield 22, 3) := by decide +kernel
theorem dX7_isShown_67 : decode cX7_isShown 67 = .ok (.iload_n 1, 1) := by decide +kernel
theorem dX7_isShown_68 : decode cX7_isShown 68 = .ok (.iaload, 1) := by decide +kernel
theorem dX7_isShown_69 : decode cX7_isShown 69 = .ok (.iadd, 1) := by decide +kernel
theorem dX7_isShown_70 : decode cX7_isShown 70 = .ok (.iconst 1, 1) := by decide +kernel
theorem dX7_isShown_71 : decode cX7_isShown 71 = .ok (.isub, 1) := by decide +kernel
theorem dX7_isShown_72 : decode cX7_isShown 72 = .ok (.aload_n 0, 1) := by decide +kernel
theorem dX7_isShown_73 : decode cX7_isShown 73 = .ok (.getfield 22, 3) := by decide +kernel
theorem dX7_isShown_76 : decode cX7_isShown 76 = .ok (.iload_n 1, 1) := by decide +kernel
theorem dX7_isShown_77 : decode cX7_isShown 77 = .ok (.iaload, 1) := by decide +kernel
theorem dX7_isShown_78 : decode cX7_isShown 78 = .ok (.idiv, 1) := by decide +kernel
theorem dX7_isShown_79 : decode cX7_isShown 79 = .ok (.istore 5, 2) := by decide +kernel
theorem dX7_isShown_81 : decode cX7_isShown 81 = .ok (.iload 5, 2) := by decide +kernel
theorem dX7_isShown_83 : decode cX7_isShown 83 = .ok (.aload_n 0, 1) := by decide +kernel
theorem dX7_isShown_84 : decode cX7_isShown 84 = .ok (.getfield 19, 3) := by decide +kernel
theorem dX7_isShown_87 : decode cX7_isShown 87 = .ok (.iload_n 1, 1) := by decide +kernel
theorem dX7_isShown_88 : decode cX7_isShown 88 = .ok (.iaload, 1) := by decide +kernel
theorem dX7_isShown_89 : decode cX7_isShown 89 = .ok (.if_icmp .ge 18, 3) := by decide +kernel
theorem dX7_isShown_92 : decode cX7_isShown 92 = .ok (.aload_n 0, 1) := by decide +kernel
theorem dX7_isShown_93 : decode cX7_isShown 93 = .ok (.iload_n 1, 1) := by decide +kernel
theorem dX7_isShown_94 : decode cX7_isShown 94 = .ok (.iload 5, 2) := by decide +kernel
theorem dX7_isShown_96 : decode cX7_isShown 96 = .ok (.invokevirtual 107, 3) := by decide +kernel
theorem dX7_isShown_99 : decode cX7_isShown 99 = .ok (.iload_n 3, 1) := by decide +kernel
theorem dX7_isShown_100 : decode cX7_isShown 100 = .ok (.if_icmp .ne 7, 3) := by decide +kernel
theorem dX7_isShown_103 : decode cX7_isShown 103 = .ok (.iconst 1, 1) := by decide +kernel
theorem dX7_isShown_104 : decode cX7_isShown 104 = .ok (.goto 4, 3) := by decide +kernel
theorem dX7_isShown_107 : decode cX7_isShown 107 = .ok (.iconst 0, 1) := by decide +kernel
theorem dX7_isShown_108 : decode cX7_isShown 108 = .ok (.ireturn, 1) := by decide +kernel
theorem dX7_freshOf_0 : decode cX7_freshOf 0 = .ok (.bipush 8, 2) := by decide +kernel
theorem dX7_freshOf_2 : decode cX7_freshOf 2 = .ok (.iload_n 1, 1) := by decide +kernel
theorem dX7_freshOf_3 : decode cX7_freshOf 3 = .ok (.imul, 1) := by decide +kernel
theorem dX7_freshOf_4 : decode cX7_freshOf 4 = .ok (.iload_n 2, 1) := by decide +kernel
theorem dX7_freshOf_5 : decode cX7_freshOf 5 = .ok (.iadd, 1) := by decide +kernel
theorem dX7_freshOf_6 : decode cX7_freshOf 6 = .ok (.istore_n 3, 1) := by decide +kernel
theorem dX7_freshOf_7 : decode cX7_freshOf 7 = .ok (.iconst 0, 1) := by decide +kernel
theorem dX7_freshOf_8 : decode cX7_freshOf 8 = .ok (.istore 4, 2) := by decide +kernel
theorem dX7_freshOf_10 : decode cX7_freshOf 10 = .ok (.iconst 0, 1) := by decide +kernel
theorem dX7_freshOf_11 : decode cX7_freshOf 11 = .ok (.istore 5, 2) := by decide +kernel
theorem dX7_freshOf_13 : decode cX7_freshOf 13 = .ok (.iload 5, 2) := by decide +kernel
theorem dX7_freshOf_15 : decode cX7_freshOf 15 = .ok (.aload_n 0, 1) := by decide +kernel
theorem dX7_freshOf_16 : decode cX7_freshOf 16 = .ok (.getfield 19, 3) := by decide +kernel
theorem dX7_freshOf_19 : decode cX7_freshOf 19 = .ok (.iload_n 3, 1) := by decide +kernel
theorem dX7_freshOf_20 : decode cX7_freshOf 20 = .ok (.iaload, 1) := by decide +kernel
theorem dX7_freshOf_21 : decode cX7_freshOf 21 = .ok (.if_icmp .ge 108, 3) := by decide +kernel
theorem dX7_freshOf_24 : decode cX7_freshOf 24 = .ok (.aload_n 0, 1) := by decide +kernel
theorem dX7_freshOf_25 : decode cX7_freshOf 25 = .ok (.iload_n 3, 1) := by decide +kernel
theorem dX7_freshOf_26 : decode cX7_freshOf 26 = .ok (.iload 5, 2) := by decide +kernel
theorem dX7_freshOf_28 : decode cX7_freshOf 28 = .ok (.invokevirtual 107, 3) := by decide +kernel
theorem dX7_freshOf_31 : decode cX7_freshOf 31 = .ok (.istore 6, 2) := by decide +kernel
theorem dX7_freshOf_33 : decode cX7_freshOf 33 = .ok (.iload 5, 2) := by decide +kernel
theorem dX7_freshOf_35 : decode cX7_freshOf 35 = .ok (.ifCond .eq 17, 3) := by decide +kernel
theorem dX7_freshOf_38 : decode cX7_freshOf 38 = .ok (.iload 6, 2) := by decide +kernel
theorem dX7_freshOf_40 : decode cX7_freshOf 40 = .ok (.aload_n 0, 1) := by decide +kernel
theorem dX7_freshOf_41 : decode cX7_freshOf 41 = .ok (.iload_n 3, 1) := by decide +kernel
theorem dX7_freshOf_42 : decode cX7_freshOf 42 = .ok (.iload 5, 2) := by decide +kernel
theorem dX7_freshOf_44 : decode cX7_freshOf 44 = .ok (.iconst 1, 1) := by decide +kernel
theorem dX7_freshOf_45 : decode cX7_freshOf 45 = .ok (.isub, 1) := by decide +kernel
theorem dX7_freshOf_46 : decode cX7_freshOf 46 = .ok (.invokevirtual 107, 3) := by decide +kernel
theorem dX7_freshOf_49 : decode cX7_freshOf 49 = .ok (.if_icmp .eq 7, 3) := by decide +kernel
theorem dX7_freshOf_52 : decode cX7_freshOf 52 = .ok (.iconst 1, 1) := by decide +kernel
theorem dX7_freshOf_53 : decode cX7_freshOf 53 = .ok (.goto 4, 3) := by decide +kernel
theorem dX7_freshOf_56 : decode cX7_freshOf 56 = .ok (.iconst 0, 1) := by decide +kernel
theorem dX7_freshOf_57 : decode cX7_freshOf 57 = .ok (.istore 7, 2) := by decide +kernel
theorem dX7_freshOf_59 : decode cX7_freshOf 59 = .ok (.iconst 0, 1) := by decide +kernel
theorem dX7_freshOf_60 : decode cX7_freshOf 60 = .ok (.istore 8, 2) := by decide +kernel
theorem dX7_freshOf_62 : decode cX7_freshOf 62 = .ok (.iload 8, 2) := by decide +kernel
theorem dX7_freshOf_64 : decode cX7_freshOf 64 = .ok (.iload_n 2, 1) := by decide +kernel
theorem dX7_freshOf_65 : decode cX7_freshOf 65 = .ok (.if_icmp .ge 43, 3) := by decide +kernel
theorem dX7_freshOf_68 : decode cX7_freshOf 68 = .ok (.iload 7, 2) := by decide +kernel
theorem dX7_freshOf_70 : decode cX7_freshOf 70 = .ok (.ifCond .eq 38, 3) := by decide +kernel
theorem dX7_freshOf_73 : decode cX7_freshOf 73 = .ok (.aload_n 0, 1) := by decide +kernel
theorem dX7_freshOf_74 : decode cX7_freshOf 74 = .ok (.bipush 8, 2) := by decide +kernel
theorem dX7_freshOf_76 : decode cX7_freshOf 76 = .ok (.iload_n 1, 1) := by decide +kernel
theorem dX7_freshOf_77 : decode cX7_freshOf 77 = .ok (.imul, 1) := by decide +kernel
theorem dX7_freshOf_78 : decode cX7_freshOf 78 = .ok (.iload 8, 2) := by decide +kernel
theorem dX7_freshOf_80 : decode cX7_freshOf 80 = .ok (.iadd, 1) := by decide +kernel
theorem dX7_freshOf_81 : decode cX7_freshOf 81 = .ok (.aload_n 0, 1) := by decide +kernel
theorem dX7_freshOf_82 : decode cX7_freshOf 82 = .ok (.getfield 13, 3) := by decide +kernel
theorem dX7_freshOf_85 : decode cX7_freshOf 85 = .ok (.iload_n 3, 1) := by decide +kernel
theorem dX7_freshOf_86 : decode cX7_freshOf 86 = .ok (.iaload, 1) := by decide +kernel
theorem dX7_freshOf_87 : decode cX7_freshOf 87 = .ok (.iload 6, 2) := by decide +kernel
theorem dX7_freshOf_89 : decode cX7_freshOf 89 = .ok (.invokevirtual 181, 3) := by decide +kernel
theorem dX7_freshOf_92 : decode cX7_freshOf 92 = .ok (.ifCond .ne 7, 3) := by decide +kernel
theorem dX7_freshOf_95 : decode cX7_freshOf 95 = .ok (.iconst 1, 1) := by decide +kernel
theorem dX7_freshOf_96 : decode cX7_freshOf 96 = .ok (.goto 4, 3) := by decide +kernel
theorem dX7_freshOf_99 : decode cX7_freshOf 99 = .ok (.iconst 0, 1) := by decide +kernel
theorem dX7_freshOf_100 : decode cX7_freshOf 100 = .ok (.istore 7, 2) := by decide +kernel
theorem dX7_freshOf_102 : decode cX7_freshOf 102 = .ok (.iinc 8 1, 3) := by decide +kernel
theorem dX7_freshOf_105 : decode cX7_freshOf 105 = .ok (.goto (-43), 3) := by decide +kernel
theorem dX7_freshOf_108 : decode cX7_freshOf 108 = .ok (.iload 4, 2) := by decide +kernel
theorem dX7_freshOf_110 : decode cX7_freshOf 110 = .ok (.iload 7, 2) := by decide +kernel
theorem dX7_freshOf_112 : decode cX7_freshOf 112 = .ok (.ifCond .eq 7, 3) := by decide +kernel
theorem dX7_freshOf_115 : decode cX7_freshOf 115 = .ok (.iconst 1, 1) := by decide +kernel
theorem dX7_freshOf_116 : decode cX7_freshOf 116 = .ok (.goto 4, 3) := by decide +kernel
theorem dX7_freshOf_119 : decode cX7_freshOf 119 = .ok (.iconst 0, 1) := by decide +kernel
theorem dX7_freshOf_120 : decode cX7_freshOf 120 = .ok (.iadd, 1) := by decide +kernel
theorem dX7_freshOf_121 : decode cX7_freshOf 121 = .ok (.istore 4, 2) := by decide +kernel
theorem dX7_freshOf_123 : decode cX7_freshOf 123 = .ok (.iinc 5 1, 3) := by decide +kernel
theorem dX7_freshOf_126 : decode cX7_freshOf 126 = .ok (.goto (-113), 3) := by decide +kernel
theorem dX7_freshOf_129 : decode cX7_freshOf 129 = .ok (.iload 4, 2) := by decide +kernel
theorem dX7_freshOf_131 : decode cX7_freshOf 131 = .ok (.ireturn, 1) := by decide +kernel
theorem dX7_wasteOf_0 : decode cX7_wasteOf 0 = .ok (.aload_n 0, 1) := by decide +kernel
theorem dX7_wasteOf_1 : decode cX7_wasteOf 1 = .ok (.iload_n 1, 1) := by decide +kernel
theorem dX7_wasteOf_2 : decode cX7_wasteOf 2 = .ok (.iconst (-1), 1) := by decide +kernel
theorem dX7_wasteOf_3 : decode cX7_wasteOf 3 = .ok (.invokevirtual 169, 3) := by decide +kernel
theorem dX7_wasteOf_6 : decode cX7_wasteOf 6 = .ok (.aload_n 0, 1) := by decide +kernel
theorem dX7_wasteOf_7 : decode cX7_wasteOf 7 = .ok (.iload_n 1, 1) := by decide +kernel
theorem dX7_wasteOf_8 : decode cX7_wasteOf 8 = .ok (.invokevirtual 184, 3) := by decide +kernel
theorem dX7_wasteOf_11 : decode cX7_wasteOf 11 = .ok (.istore_n 2, 1) := by decide +kernel
theorem dX7_wasteOf_12 : decode cX7_wasteOf 12 = .ok (.iconst 0, 1) := by decide +kernel
theorem dX7_wasteOf_13 : decode cX7_wasteOf 13 = .ok (.istore_n 3, 1) := by decide +kernel
theorem dX7_wasteOf_14 : decode cX7_wasteOf 14 = .ok (.iload_n 3, 1) := by decide +kernel
theorem dX7_wasteOf_15 : decode cX7_wasteOf 15 = .ok (.aload_n 0, 1) := by decide +kernel
theorem dX7_wasteOf_16 : decode cX7_wasteOf 16 = .ok (.getfield 7, 3) := by decide +kernel
theorem dX7_wasteOf_19 : decode cX7_wasteOf 19 = .ok (.iload_n 1, 1) := by decide +kernel
theorem dX7_wasteOf_20 : decode cX7_wasteOf 20 = .ok (.iaload, 1) := by decide +kernel
theorem dX7_wasteOf_21 : decode cX7_wasteOf 21 = .ok (.if_icmp .ge 18, 3) := by decide +kernel
theorem dX7_wasteOf_24 : decode cX7_wasteOf 24 = .ok (.iload_n 2, 1) := by decide +kernel
theorem dX7_wasteOf_25 : decode cX7_wasteOf 25 = .ok (.aload_n 0, 1) := by decide +kernel
theorem dX7_wasteOf_26 : decode cX7_wasteOf 26 = .ok (.iload_n 1, 1) := by decide +kernel
theorem dX7_wasteOf_27 : decode cX7_wasteOf 27 = .ok (.iload_n 3, 1) := by decide +kernel
theorem dX7_wasteOf_28 : decode cX7_wasteOf 28 = .ok (.invokevirtual 187, 3) := by decide +kernel
theorem dX7_wasteOf_31 : decode cX7_wasteOf 31 = .ok (.isub, 1) := by decide +kernel
theorem dX7_wasteOf_32 : decode cX7_wasteOf 32 = .ok (.istore_n 2, 1) := by decide +kernel
theorem dX7_wasteOf_33 : decode cX7_wasteOf 33 = .ok (.iinc 3 1, 3) := by decide +kernel
theorem dX7_wasteOf_36 : decode cX7_wasteOf 36 = .ok (.goto (-22), 3) := by decide +kernel
theorem dX7_wasteOf_39 : decode cX7_wasteOf 39 = .ok (.iload_n 2, 1) := by decide +kernel
theorem dX7_wasteOf_40 : decode cX7_wasteOf 40 = .ok (.ireturn, 1) := by decide +kernel
theorem dX7_waste_0 : decode cX7_waste 0 = .ok (.iload_n 1, 1) := by decide +kernel
theorem dX7_waste_1 : decode cX7_waste 1 = .ok (.invokestatic 82, 3) := by decide +kernel
theorem dX7_waste_4 : decode cX7_waste 4 = .ok (.ifCond .eq 11, 3) := by decide +kernel
theorem dX7_waste_7 : decode cX7_waste 7 = .ok (.aload_n 0, 1) := by decide +kernel
theorem dX7_waste_8 : decode cX7_waste 8 = .ok (.iload_n 1, 1) := by decide +kernel
theorem dX7_waste_9 : decode cX7_waste 9 = .ok (.invokevirtual 190, 3) := by decide +kernel
theorem dX7_waste_12 : decode cX7_waste 12 = .ok (.goto 5, 3) := by decide +kernel
theorem dX7_waste_15 : decode cX7_waste 15 = .ok (.bipush (-2), 2) := by decide +kernel
theorem dX7_waste_17 : decode cX7_waste 17 = .ok (.ireturn, 1) := by decide +kernel
theorem dX7_totalOf_0 : decode cX7_totalOf 0 = .ok (.aload_n 0, 1) := by decide +kernel
theorem dX7_totalOf_1 : decode cX7_totalOf 1 = .ok (.iload_n 1, 1) := by decide +kernel
theorem dX7_totalOf_2 : decode cX7_totalOf 2 = .ok (.iconst (-1), 1) := by decide +kernel
theorem dX7_totalOf_3 : decode cX7_totalOf 3 = .ok (.invokevirtual 169, 3) := by decide +kernel
theorem dX7_totalOf_6 : decode cX7_totalOf 6 = .ok (.iconst 0, 1) := by decide +kernel
theorem dX7_totalOf_7 : decode cX7_totalOf 7 = .ok (.istore_n 3, 1) := by decide +kernel
theorem dX7_totalOf_8 : decode cX7_totalOf 8 = .ok (.iconst 0, 1) := by decide +kernel
theorem dX7_totalOf_9 : decode cX7_totalOf 9 = .ok (.istore 4, 2) := by decide +kernel
theorem dX7_totalOf_11 : decode cX7_totalOf 11 = .ok (.iload 4, 2) := by decide +kernel
theorem dX7_totalOf_13 : decode cX7_totalOf 13 = .ok (.aload_n 0, 1) := by decide +kernel
theorem dX7_totalOf_14 : decode cX7_totalOf 14 = .ok (.getfield 34, 3) := by decide +kernel
theorem dX7_totalOf_17 : decode cX7_totalOf 17 = .ok (.iload_n 1, 1) := by decide +kernel
theorem dX7_totalOf_18 : decode cX7_totalOf 18 = .ok (.iaload, 1) := by decide +kernel
theorem dX7_totalOf_19 : decode cX7_totalOf 19 = .ok (.if_icmp .ge 23, 3) := by decide +kernel
theorem dX7_totalOf_22 : decode cX7_totalOf 22 = .ok (.iload_n 3, 1) := by decide +kernel
theorem dX7_totalOf_23 : decode cX7_totalOf 23 = .ok (.aload_n 0, 1) := by decide +kernel
theorem dX7_totalOf_24 : decode cX7_totalOf 24 = .ok (.bipush 8, 2) := by decide +kernel
theorem dX7_totalOf_26 : decode cX7_totalOf 26 = .ok (.iload_n 1, 1) := by decide +kernel
theorem dX7_totalOf_27 : decode cX7_totalOf 27 = .ok (.imul, 1) := by decide +kernel
theorem dX7_totalOf_28 : decode cX7_totalOf 28 = .ok (.iload 4, 2) := by decide +kernel
theorem dX7_totalOf_30 : decode cX7_totalOf 30 = .ok (.iadd, 1) := by decide +kernel
theorem dX7_totalOf_31 : decode cX7_totalOf 31 = .ok (.invokevirtual 175, 3) := by decide +kernel
theorem dX7_totalOf_34 : decode cX7_totalOf 34 = .ok (.iadd, 1) := by decide +kernel
theorem dX7_totalOf_35 : decode cX7_totalOf 35 = .ok (.istore_n 3, 1) := by decide +kernel
theorem dX7_totalOf_36 : decode cX7_totalOf 36 = .ok (.iinc 4 1, 3) := by decide +kernel
theorem dX7_totalOf_39 : decode cX7_totalOf 39 = .ok (.goto (-28), 3) := by decide +kernel
theorem dX7_totalOf_42 : decode cX7_totalOf 42 = .ok (.iload_n 2, 1) := by decide +kernel
theorem dX7_totalOf_43 : decode cX7_totalOf 43 = .ok (.ifCond .ne 11, 3) := by decide +kernel
theorem dX7_totalOf_46 : decode cX7_totalOf 46 = .ok (.aload_n 0, 1) := by decide +kernel
theorem dX7_totalOf_47 : decode cX7_totalOf 47 = .ok (.iload_n 1, 1) := by decide +kernel
theorem dX7_totalOf_48 : decode cX7_totalOf 48 = .ok (.invokevirtual 184, 3) := by decide +kernel
theorem dX7_totalOf_51 : decode cX7_totalOf 51 = .ok (.goto 23, 3) := by decide +kernel
theorem dX7_totalOf_54 : decode cX7_totalOf 54 = .ok (.iload_n 2, 1) := by decide +kernel
theorem dX7_totalOf_55 : decode cX7_totalOf 55 = .ok (.iconst 1, 1) := by decide +kernel
theorem dX7_totalOf_56 : decode cX7_totalOf 56 = .ok (.if_icmp .ne 17, 3) := by decide +kernel
theorem dX7_totalOf_59 : decode cX7_totalOf 59 = .ok (.aload_n 0, 1) := by decide +kernel
theorem dX7_totalOf_60 : decode cX7_totalOf 60 = .ok (.iload_n 1, 1) := by decide +kernel
theorem dX7_totalOf_61 : decode cX7_totalOf 61 = .ok (.aload_n 0, 1) := by decide +kernel
theorem dX7_totalOf_62 : decode cX7_totalOf 62 = .ok (.getfield 7, 3) := by decide +kernel
theorem dX7_totalOf_65 : decode cX7_totalOf 65 = .ok (.iload_n 1, 1) := by decide +kernel
theorem dX7_totalOf_66 : decode cX7_totalOf 66 = .ok (.iaload, 1) := by decide +kernel
theorem dX7_totalOf_67 : decode cX7_totalOf 67 = .ok (.invokevirtual 111, 3) := by decide +kernel
theorem dX7_totalOf_70 : decode cX7_totalOf 70 = .ok (.goto 4, 3) := by decide +kernel
theorem dX7_totalOf_73 : decode cX7_totalOf 73 = .ok (.iload_n 3, 1) := by decide +kernel
theorem dX7_totalOf_74 : decode cX7_totalOf 74 = .ok (.ireturn, 1) := by decide +kernel
theorem dX7_total_0 : decode cX7_total 0 = .ok (.iload_n 1, 1) := by decide +kernel
theorem dX7_total_1 : decode cX7_total 1 = .ok (.invokestatic 82, 3) := by decide +kernel
theorem dX7_total_4 : decode cX7_total 4 = .ok (.ifCond .eq 21, 3) := by decide +kernel
theorem dX7_total_7 : decode cX7_total 7 = .ok (.iload_n 2, 1) := by decide +kernel
theorem dX7_total_8 : decode cX7_total 8 = .ok (.iconst 0, 1) := by decide +kernel
theorem dX7_total_9 : decode cX7_total 9 = .ok (.iconst 2, 1) := by decide +kernel
theorem dX7_total_10 : decode cX7_total 10 = .ok (.invokestatic 69, 3) := by decide +kernel
theorem dX7_total_13 : decode cX7_total 13 = .ok (.ifCond .eq 12, 3) := by decide +kernel
theorem dX7_total_16 : decode cX7_total 16 = .ok (.aload_n 0, 1) := by decide +kernel
theorem dX7_total_17 : decode cX7_total 17 = .ok (.iload_n 1, 1) := by decide +kernel
theorem dX7_total_18 : decode cX7_total 18 = .ok (.iload_n 2, 1) := by decide +kernel
theorem dX7_total_19 : decode cX7_total 19 = .ok (.invokevirtual 193, 3) := by decide +kernel
theorem dX7_total_22 : decode cX7_total 22 = .ok (.goto 5, 3) := by decide +kernel
theorem dX7_total_25 : decode cX7_total 25 = .ok (.bipush (-2), 2) := by decide +kernel
theorem dX7_total_27 : decode cX7_total 27 = .ok (.ireturn, 1) := by decide +kernel
theorem dX7_isLike_0 : decode cX7_isLike 0 = .ok (.aload_n 0, 1) := by decide +kernel
theorem dX7_isLike_1 : decode cX7_isLike 1 = .ok (.getfield 13, 3) := by decide +kernel
theorem dX7_isLike_4 : decode cX7_isLike 4 = .ok (.iload_n 1, 1) := by decide +kernel
theorem dX7_isLike_5 : decode cX7_isLike 5 = .ok (.iaload, 1) := by decide +kernel
theorem dX7_isLike_6 : decode cX7_isLike 6 = .ok (.aload_n 0, 1) := by decide +kernel
theorem dX7_isLike_7 : decode cX7_isLike 7 = .ok (.getfield 13, 3) := by decide +kernel
theorem dX7_isLike_10 : decode cX7_isLike 10 = .ok (.iload_n 2, 1) := by decide +kernel
theorem dX7_isLike_11 : decode cX7_isLike 11 = .ok (.iaload, 1) := by decide +kernel
theorem dX7_isLike_12 : decode cX7_isLike 12 = .ok (.if_icmp .ne 51, 3) := by decide +kernel
theorem dX7_isLike_15 : decode cX7_isLike 15 = .ok (.aload_n 0, 1) := by decide +kernel
theorem dX7_isLike_16 : decode cX7_isLike 16 = .ok (.getfield 16, 3) := by decide +kernel
theorem dX7_isLike_19 : decode cX7_isLike 19 = .ok (.iload_n 1, 1) := by decide +kernel
theorem dX7_isLike_20 : decode cX7_isLike 20 = .ok (.iaload, 1) := by decide +kernel
theorem dX7_isLike_21 : decode cX7_isLike 21 = .ok (.aload_n 0, 1) := by decide +kernel
theorem dX7_isLike_22 : decode cX7_isLike 22 = .ok (.getfield 16, 3) := by decide +kernel
theorem dX7_isLike_25 : decode cX7_isLike 25 = .ok (.iload_n 2, 1) := by decide +kernel
theorem dX7_isLike_26 : decode cX7_isLike 26 = .ok (.iaload, 1) := by decide +kernel
theorem dX7_isLike_27 : decode cX7_isLike 27 = .ok (.if_icmp .ne 36, 3) := by decide +kernel
theorem dX7_isLike_30 : decode cX7_isLike 30 = .ok (.aload_n 0, 1) := by decide +kernel
theorem dX7_isLike_31 : decode cX7_isLike 31 = .ok (.getfield 22, 3) := by decide +kernel
theorem dX7_isLike_34 : decode cX7_isLike 34 = .ok (.iload_n 1, 1) := by decide +kernel
theorem dX7_isLike_35 : decode cX7_isLike 35 = .ok (.iaload, 1) := by decide +kernel
theorem dX7_isLike_36 : decode cX7_isLike 36 = .ok (.aload_n 0, 1) := by decide +kernel
theorem dX7_isLike_37 : decode cX7_isLike 37 = .ok (.getfield 25, 3) := by decide +kernel
theorem dX7_isLike_40 : decode cX7_isLike 40 = .ok (.iload_n 2, 1) := by decide +kernel
theorem dX7_isLike_41 : decode cX7_isLike 41 = .ok (.iaload, 1) := by decide +kernel
theorem dX7_isLike_42 : decode cX7_isLike 42 = .ok (.imul, 1) := by decide +kernel
theorem dX7_isLike_43 : decode cX7_isLike 43 = .ok (.aload_n 0, 1) := by decide +kernel
theorem dX7_isLike_44 : decode cX7_isLike 44 = .ok (.getfield 22, 3) := by decide +kernel
theorem dX7_isLike_47 : decode cX7_isLike 47 = .ok (.iload_n 2, 1) := by decide +kernel
theorem dX7_isLike_48 : decode cX7_isLike 48 = .ok (.iaload, 1) := by decide +kernel
theorem dX7_isLike_49 : decode cX7_isLike 49 = .ok (.aload_n 0, 1) := by decide +kernel
theorem dX7_isLike_50 : decode cX7_isLike 50 = .ok (.getfield 25, 3) := by decide +kernel
theorem dX7_isLike_53 : decode cX7_isLike 53 = .ok (.iload_n 1, 1) := by decide +kernel
theorem dX7_isLike_54 : decode cX7_isLike 54 = .ok (.iaload, 1) := by decide +kernel
theorem dX7_isLike_55 : decode cX7_isLike 55 = .ok (.imul, 1) := by decide +kernel
theorem dX7_isLike_56 : decode cX7_isLike 56 = .ok (.if_icmp .ne 7, 3) := by decide +kernel
theorem dX7_isLike_59 : decode cX7_isLike 59 = .ok (.iconst 1, 1) := by decide +kernel
theorem dX7_isLike_60 : decode cX7_isLike 60 = .ok (.goto 4, 3) := by decide +kernel
theorem dX7_isLike_63 : decode cX7_isLike 63 = .ok (.iconst 0, 1) := by decide +kernel
theorem dX7_isLike_64 : decode cX7_isLike 64 = .ok (.ireturn, 1) := by decide +kernel
theorem dX7_compares_0 : decode cX7_compares 0 = .ok (.aload_n 0, 1) := by decide +kernel
theorem dX7_compares_1 : decode cX7_compares 1 = .ok (.iconst 0, 1) := by decide +kernel
theorem dX7_compares_2 : decode cX7_compares 2 = .ok (.putfield 196, 3) := by decide +kernel
theorem dX7_compares_5 : decode cX7_compares 5 = .ok (.iconst 0, 1) := by decide +kernel
theorem dX7_compares_6 : decode cX7_compares 6 = .ok (.istore_n 1, 1) := by decide +kernel
theorem dX7_compares_7 : decode cX7_compares 7 = .ok (.iload_n 1, 1) := by decide +kernel
theorem dX7_compares_8 : decode cX7_compares 8 = .ok (.bipush 8, 2) := by decide +kernel
theorem dX7_compares_10 : decode cX7_compares 10 = .ok (.if_icmp .ge 16, 3) := by decide +kernel
theorem dX7_compares_13 : decode cX7_compares 13 = .ok (.aload_n 0, 1) := by decide +kernel
theorem dX7_compares_14 : decode cX7_compares 14 = .ok (.getfield 49, 3) := by decide +kernel
theorem dX7_compares_17 : decode cX7_compares 17 = .ok (.iload_n 1, 1) := by decide +kernel
theorem dX7_compares_18 : decode cX7_compares 18 = .ok (.iconst (-1), 1) := by decide +kernel
theorem dX7_compares_19 : decode cX7_compares 19 = .ok (.iastore, 1) := by decide +kernel
theorem dX7_compares_20 : decode cX7_compares 20 = .ok (.iinc 1 1, 3) := by decide +kernel
theorem dX7_compares_23 : decode cX7_compares 23 = .ok (.goto (-16), 3) := by decide +kernel
theorem dX7_compares_26 : decode cX7_compares 26 = .ok (.iconst 0, 1) := by decide +kernel
theorem dX7_compares_27 : decode cX7_compares 27 = .ok (.istore_n 1, 1) := by decide +kernel
theorem dX7_compares_28 : decode cX7_compares 28 = .ok (.iload_n 1, 1) := by decide +kernel
theorem dX7_compares_29 : decode cX7_compares 29 = .ok (.iconst 2, 1) := by decide +kernel
theorem dX7_compares_30 : decode cX7_compares 30 = .ok (.if_icmp .ge 145, 3) := by decide +kernel
theorem dX7_compares_33 : decode cX7_compares 33 = .ok (.iconst 0, 1) := by decide +kernel
theorem dX7_compares_34 : decode cX7_compares 34 = .ok (.istore_n 2, 1) := by decide +kernel
theorem dX7_compares_35 : decode cX7_compares 35 = .ok (.iload_n 2, 1) := by decide +kernel
theorem dX7_compares_36 : decode cX7_compares 36 = .ok (.aload_n 0, 1) := by decide +kernel
theorem dX7_compares_37 : decode cX7_compares 37 = .ok (.getfield 7, 3) := by decide +kernel
theorem dX7_compares_40 : decode cX7_compares 40 = .ok (.iconst 1, 1) := by decide +kernel
theorem dX7_compares_41 : decode cX7_compares 41 = .ok (.iaload, 1) := by decide +kernel
theorem dX7_compares_42 : decode cX7_compares 42 = .ok (.if_icmp .ge 127, 3) := by decide +kernel
theorem dX7_compares_45 : decode cX7_compares 45 = .ok (.iconst 0, 1) := by decide +kernel
theorem dX7_compares_46 : decode cX7_compares 46 = .ok (.istore_n 3, 1) := by decide +kernel
theorem dX7_compares_47 : decode cX7_compares 47 = .ok (.iload_n 3, 1) := by decide +kernel
theorem dX7_compares_48 : decode cX7_compares 48 = .ok (.aload_n 0, 1) := by decide +kernel
theorem dX7_compares_49 : decode cX7_compares 49 = .ok (.getfield 7, 3) := by decide +kernel
theorem dX7_compares_52 : decode cX7_compares 52 = .ok (.iconst 0, 1) := by decide +kernel
theorem dX7_compares_53 : decode cX7_compares 53 = .ok (.iaload, 1) := by decide +kernel
theorem dX7_compares_54 : decode cX7_compares 54 = .ok (.if_icmp .ge 109, 3) := by decide +kernel
theorem dX7_compares_57 : decode cX7_compares 57 = .ok (.aload_n 0, 1) := by decide +kernel
theorem dX7_compares_58 : decode cX7_compares 58 = .ok (.getfield 49, 3) := by decide +kernel
theorem dX7_compares_61 : decode cX7_compares 61 = .ok (.iload_n 2, 1) := by decide +kernel
theorem dX7_compares_62 : decode cX7_compares 62 = .ok (.iaload, 1) := by decide +kernel
theorem dX7_compares_63 : decode cX7_compares 63 = .ok (.iconst (-1), 1) := by decide +kernel
theorem dX7_compares_64 : decode cX7_compares 64 = .ok (.if_icmp .ne 99, 3) := by decide +kernel
theorem dX7_compares_67 : decode cX7_compares 67 = .ok (.aload_n 0, 1) := by decide +kernel
theorem dX7_compares_68 : decode cX7_compares 68 = .ok (.getfield 196, 3) := by decide +kernel
theorem dX7_compares_71 : decode cX7_compares 71 = .ok (.iload_n 3, 1) := by decide +kernel
theorem dX7_compares_72 : decode cX7_compares 72 = .ok (.invokestatic 200, 3) := by decide +kernel
theorem dX7_compares_75 : decode cX7_compares 75 = .ok (.ifCond .ne 42, 3) := by decide +kernel
theorem dX7_compares_78 : decode cX7_compares 78 = .ok (.aload_n 0, 1) := by decide +kernel
theorem dX7_compares_79 : decode cX7_compares 79 = .ok (.iload_n 3, 1) := by decide +kernel
theorem dX7_compares_80 : decode cX7_compares 80 = .ok (.bipush 8, 2) := by decide +kernel
theorem dX7_compares_82 : decode cX7_compares 82 = .ok (.iload_n 2, 1) := by decide +kernel
theorem dX7_compares_83 : decode cX7_compares 83 = .ok (.iadd, 1) := by decide +kernel
theorem dX7_compares_84 : decode cX7_compares 84 = .ok (.invokevirtual 203, 3) := by decide +kernel
theorem dX7_compares_87 : decode cX7_compares 87 = .ok (.ifCond .eq 30, 3) := by decide +kernel
theorem dX7_compares_90 : decode cX7_compares 90 = .ok (.iload_n 1, 1) := by decide +kernel
theorem dX7_compares_91 : decode cX7_compares 91 = .ok (.iconst 1, 1) := by decide +kernel
theorem dX7_compares_92 : decode cX7_compares 92 = .ok (.if_icmp .eq 21, 3) := by decide +kernel
theorem dX7_compares_95 : decode cX7_compares 95 = .ok (.aload_n 0, 1) := by decide +kernel
theorem dX7_compares_96 : decode cX7_compares 96 = .ok (.getfield 19, 3) := by decide +kernel
theorem dX7_compares_99 : decode cX7_compares 99 = .ok (.iload_n 3, 1) := by decide +kernel
theorem dX7_compares_100 : decode cX7_compares 100 = .ok (.iaload, 1) := by decide +kernel
theorem dX7_compares_101 : decode cX7_compares 101 = .ok (.aload_n 0, 1) := by decide +kernel
theorem dX7_compares_102 : decode cX7_compares 102 = .ok (.getfield 19, 3) := by decide +kernel
theorem dX7_compares_105 : decode cX7_compares 105 = .ok (.bipush 8, 2) := by decide +kernel
theorem dX7_compares_107 : decode cX7_compares 107 = .ok (.iload_n 2, 1) := by decide +kernel
theorem dX7_compares_108 : decode cX7_compares 108 = .ok (.iadd, 1) := by decide +kernel
theorem dX7_compares_109 : decode cX7_compares 109 = .ok (.iaload, 1) := by decide +kernel
theorem dX7_compares_110 : decode cX7_compares 110 = .ok (.if_icmp .ne 7, 3) := by decide +kernel
theorem dX7_compares_113 : decode cX7_compares 113 = .ok (.iconst 1, 1) := by decide +kernel
theorem dX7_compares_114 : decode cX7_compares 114 = .ok (.goto 4, 3) := by decide +kernel
theorem dX7_compares_117 : decode cX7_compares 117 = .ok (.iconst 0, 1) := by decide +kernel
theorem dX7_compares_118 : decode cX7_compares 118 = .ok (.istore 4, 2) := by decide +kernel
theorem dX7_compares_120 : decode cX7_compares 120 = .ok (.aload_n 0, 1) := by decide +kernel
theorem dX7_compares_121 : decode cX7_compares 121 = .ok (.getfield 49, 3) := by decide +kernel
theorem dX7_compares_124 : decode cX7_compares 124 = .ok (.iload_n 2, 1) := by decide +kernel
theorem dX7_compares_125 : decode cX7_compares 125 = .ok (.iload 4, 2) := by decide +kernel
theorem dX7_compares_127 : decode cX7_compares 127 = .ok (.ifCond .eq 7, 3) := by decide +kernel
theorem dX7_compares_130 : decode cX7_compares 130 = .ok (.iload_n 3, 1) := by decide +kernel
theorem dX7_compares_131 : decode cX7_compares 131 = .ok (.goto 4, 3) := by decide +kernel
theorem dX7_compares_134 : decode cX7_compares 134 = .ok (.iconst (-1), 1) := by decide +kernel
theorem dX7_compares_135 : decode cX7_compares 135 = .ok (.iastore, 1) := by decide +kernel
theorem dX7_compares_136 : decode cX7_compares 136 = .ok (.aload_n 0, 1) := by decide +kernel
theorem dX7_compares_137 : decode cX7_compares 137 = .ok (.dup, 1) := by decide +kernel
theorem dX7_compares_138 : decode cX7_compares 138 = .ok (.getfield 196, 3) := by decide +kernel
theorem dX7_compares_141 : decode cX7_compares 141 = .ok (.iload 4, 2) := by decide +kernel
theorem dX7_compares_143 : decode cX7_compares 143 = .ok (.ifCond .eq 9, 3) := by decide +kernel
theorem dX7_compares_146 : decode cX7_compares 146 = .ok (.iconst 1, 1) := by decide +kernel
theorem dX7_compares_147 : decode cX7_compares 147 = .ok (.iload_n 3, 1) := by decide +kernel
theorem dX7_compares_148 : decode cX7_compares 148 = .ok (.ishl, 1) := by decide +kernel
theorem dX7_compares_149 : decode cX7_compares 149 = .ok (.goto 4, 3) := by decide +kernel
theorem dX7_compares_152 : decode cX7_compares 152 = .ok (.iconst 0, 1) := by decide +kernel
theorem dX7_compares_153 : decode cX7_compares 153 = .ok (.ior, 1) := by decide +kernel
theorem dX7_compares_154 : decode cX7_compares 154 = .ok (.putfield 196, 3) := by decide +kernel
theorem dX7_compares_157 : decode cX7_compares 157 = .ok (.iinc 3 1, 3) := by decide +kernel
theorem dX7_compares_160 : decode cX7_compares 160 = .ok (.goto (-113), 3) := by decide +kernel
theorem dX7_compares_163 : decode cX7_compares 163 = .ok (.iinc 2 1, 3) := by decide +kernel
theorem dX7_compares_166 : decode cX7_compares 166 = .ok (.goto (-131), 3) := by decide +kernel
theorem dX7_compares_169 : decode cX7_compares 169 = .ok (.iinc 1 1, 3) := by decide +kernel
theorem dX7_compares_172 : decode cX7_compares 172 = .ok (.goto (-144), 3) := by decide +kernel
theorem dX7_compares_175 : decode cX7_compares 175 = .ok (.return_, 1) := by decide +kernel
theorem dX7_kindOf_0 : decode cX7_kindOf 0 = .ok (.aload_n 0, 1) := by decide +kernel
theorem dX7_kindOf_1 : decode cX7_kindOf 1 = .ok (.getfield 49, 3) := by decide +kernel
theorem dX7_kindOf_4 : decode cX7_kindOf 4 = .ok (.iload_n 1, 1) := by decide +kernel
theorem dX7_kindOf_5 : decode cX7_kindOf 5 = .ok (.iaload, 1) := by decide +kernel
theorem dX7_kindOf_6 : decode cX7_kindOf 6 = .ok (.istore_n 2, 1) := by decide +kernel
theorem dX7_kindOf_7 : decode cX7_kindOf 7 = .ok (.iload_n 2, 1) := by decide +kernel
theorem dX7_kindOf_8 : decode cX7_kindOf 8 = .ok (.iconst (-1), 1) := by decide +kernel
theorem dX7_kindOf_9 : decode cX7_kindOf 9 = .ok (.if_icmp .ne 5, 3) := by decide +kernel
theorem dX7_kindOf_12 : decode cX7_kindOf 12 = .ok (.iconst 0, 1) := by decide +kernel
theorem dX7_kindOf_13 : decode cX7_kindOf 13 = .ok (.ireturn, 1) := by decide +kernel
theorem dX7_kindOf_14 : decode cX7_kindOf 14 = .ok (.aload_n 0, 1) := by decide +kernel
theorem dX7_kindOf_15 : decode cX7_kindOf 15 = .ok (.getfield 19, 3) := by decide +kernel
theorem dX7_kindOf_18 : decode cX7_kindOf 18 = .ok (.iload_n 2, 1) := by decide +kernel
theorem dX7_kindOf_19 : decode cX7_kindOf 19 = .ok (.iaload, 1) := by decide +kernel
theorem dX7_kindOf_20 : decode cX7_kindOf 20 = .ok (.aload_n 0, 1) := by decide +kernel
theorem dX7_kindOf_21 : decode cX7_kindOf 21 = .ok (.getfield 19, 3) := by decide +kernel
theorem dX7_kindOf_24 : decode cX7_kindOf 24 = .ok (.bipush 8, 2) := by decide +kernel
theorem dX7_kindOf_26 : decode cX7_kindOf 26 = .ok (.iload_n 1, 1) := by decide +kernel
theorem dX7_kindOf_27 : decode cX7_kindOf 27 = .ok (.iadd, 1) := by decide +kernel
theorem dX7_kindOf_28 : decode cX7_kindOf 28 = .ok (.iaload, 1) := by decide +kernel
theorem dX7_kindOf_29 : decode cX7_kindOf 29 = .ok (.if_icmp .eq 7, 3) := by decide +kernel
theorem dX7_kindOf_32 : decode cX7_kindOf 32 = .ok (.iconst 3, 1) := by decide +kernel
theorem dX7_kindOf_33 : decode cX7_kindOf 33 = .ok (.goto 23, 3) := by decide +kernel
theorem dX7_kindOf_36 : decode cX7_kindOf 36 = .ok (.aload_n 0, 1) := by decide +kernel
theorem dX7_kindOf_37 : decode cX7_kindOf 37 = .ok (.iconst 0, 1) := by decide +kernel
theorem dX7_kindOf_38 : decode cX7_kindOf 38 = .ok (.iload_n 2, 1) := by decide +kernel
theorem dX7_kindOf_39 : decode cX7_kindOf 39 = .ok (.invokevirtual 111, 3) := by decide +kernel
theorem dX7_kindOf_42 : decode cX7_kindOf 42 = .ok (.aload_n 0, 1) := by decide +kernel
theorem dX7_kindOf_43 : decode cX7_kindOf 43 = .ok (.iconst 1, 1) := by decide +kernel
theorem dX7_kindOf_44 : decode cX7_kindOf 44 = .ok (.iload_n 1, 1) := by decide +kernel
theorem dX7_kindOf_45 : decode cX7_kindOf 45 = .ok (.invokevirtual 111, 3) := by decide +kernel
theorem dX7_kindOf_48 : decode cX7_kindOf 48 = .ok (.if_icmp .ne 7, 3) := by decide +kernel
theorem dX7_kindOf_51 : decode cX7_kindOf 51 = .ok (.iconst 1, 1) := by decide +kernel
theorem dX7_kindOf_52 : decode cX7_kindOf 52 = .ok (.goto 4, 3) := by decide +kernel
theorem dX7_kindOf_55 : decode cX7_kindOf 55 = .ok (.iconst 2, 1) := by decide +kernel
theorem dX7_kindOf_56 : decode cX7_kindOf 56 = .ok (.ireturn, 1) := by decide +kernel
theorem dX7_compareOf_0 : decode cX7_compareOf 0 = .ok (.aload_n 0, 1) := by decide +kernel
theorem dX7_compareOf_1 : decode cX7_compareOf 1 = .ok (.invokevirtual 206, 3) := by decide +kernel
theorem dX7_compareOf_4 : decode cX7_compareOf 4 = .ok (.aload_n 0, 1) := by decide +kernel
theorem dX7_compareOf_5 : decode cX7_compareOf 5 = .ok (.getfield 49, 3) := by decide +kernel
theorem dX7_compareOf_8 : decode cX7_compareOf 8 = .ok (.iload_n 1, 1) := by decide +kernel
theorem dX7_compareOf_9 : decode cX7_compareOf 9 = .ok (.iaload, 1) := by decide +kernel
theorem dX7_compareOf_10 : decode cX7_compareOf 10 = .ok (.istore_n 3, 1) := by decide +kernel
theorem dX7_compareOf_11 : decode cX7_compareOf 11 = .ok (.iload_n 2, 1) := by decide +kernel
theorem dX7_compareOf_12 : decode cX7_compareOf 12 = .ok (.ifCond .ne 11, 3) := by decide +kernel
theorem dX7_compareOf_15 : decode cX7_compareOf 15 = .ok (.aload_n 0, 1) := by decide +kernel
theorem dX7_compareOf_16 : decode cX7_compareOf 16 = .ok (.iload_n 1, 1) := by decide +kernel
theorem dX7_compareOf_17 : decode cX7_compareOf 17 = .ok (.invokevirtual 209, 3) := by decide +kernel
theorem dX7_compareOf_20 : decode cX7_compareOf 20 = .ok (.goto 34, 3) := by decide +kernel
theorem dX7_compareOf_23 : decode cX7_compareOf 23 = .ok (.iload_n 2, 1) := by decide +kernel
theorem dX7_compareOf_24 : decode cX7_compareOf 24 = .ok (.iconst 1, 1) := by decide +kernel
theorem dX7_compareOf_25 : decode cX7_compareOf 25 = .ok (.if_icmp .ne 7, 3) := by decide +kernel
theorem dX7_compareOf_28 : decode cX7_compareOf 28 = .ok (.iload_n 3, 1) := by decide +kernel
theorem dX7_compareOf_29 : decode cX7_compareOf 29 = .ok (.goto 25, 3) := by decide +kernel
theorem dX7_compareOf_32 : decode cX7_compareOf 32 = .ok (.iload_n 3, 1) := by decide +kernel
theorem dX7_compareOf_33 : decode cX7_compareOf 33 = .ok (.iconst (-1), 1) := by decide +kernel
theorem dX7_compareOf_34 : decode cX7_compareOf 34 = .ok (.if_icmp .ne 7, 3) := by decide +kernel
theorem dX7_compareOf_37 : decode cX7_compareOf 37 = .ok (.iconst 0, 1) := by decide +kernel
theorem dX7_compareOf_38 : decode cX7_compareOf 38 = .ok (.goto 16, 3) := by decide +kernel
theorem dX7_compareOf_41 : decode cX7_compareOf 41 = .ok (.aload_n 0, 1) := by decide +kernel
theorem dX7_compareOf_42 : decode cX7_compareOf 42 = .ok (.iconst 1, 1) := by decide +kernel
theorem dX7_compareOf_43 : decode cX7_compareOf 43 = .ok (.iload_n 1, 1) := by decide +kernel
theorem dX7_compareOf_44 : decode cX7_compareOf 44 = .ok (.invokevirtual 111, 3) := by decide +kernel
theorem dX7_compareOf_47 : decode cX7_compareOf 47 = .ok (.aload_n 0, 1) := by decide +kernel
theorem dX7_compareOf_48 : decode cX7_compareOf 48 = .ok (.iconst 0, 1) := by decide +kernel
theorem dX7_compareOf_49 : decode cX7_compareOf 49 = .ok (.iload_n 3, 1) := by decide +kernel
theorem dX7_compareOf_50 : decode cX7_compareOf 50 = .ok (.invokevirtual 111, 3) := by decide +kernel
theorem dX7_compareOf_53 : decode cX7_compareOf 53 = .ok (.isub, 1) := by decide +kernel
theorem dX7_compareOf_54 : decode cX7_compareOf 54 = .ok (.ireturn, 1) := by decide +kernel
theorem dX7_compare_0 : decode cX7_compare 0 = .ok (.aload_n 0, 1) := by decide +kernel
theorem dX7_compare_1 : decode cX7_compare 1 = .ok (.iconst 1, 1) := by decide +kernel
theorem dX7_compare_2 : decode cX7_compare 2 = .ok (.iload_n 1, 1) := by decide +kernel
theorem dX7_compare_3 : decode cX7_compare 3 = .ok (.invokevirtual 89, 3) := by decide +kernel
theorem dX7_compare_6 : decode cX7_compare 6 = .ok (.ifCond .eq 21, 3) := by decide +kernel
theorem dX7_compare_9 : decode cX7_compare 9 = .ok (.iload_n 2, 1) := by decide +kernel
theorem dX7_compare_10 : decode cX7_compare 10 = .ok (.iconst 0, 1) := by decide +kernel
theorem dX7_compare_11 : decode cX7_compare 11 = .ok (.iconst 2, 1) := by decide +kernel
theorem dX7_compare_12 : decode cX7_compare 12 = .ok (.invokestatic 69, 3) := by decide +kernel
theorem dX7_compare_15 : decode cX7_compare 15 = .ok (.ifCond .eq 12, 3) := by decide +kernel
theorem dX7_compare_18 : decode cX7_compare 18 = .ok (.aload_n 0, 1) := by decide +kernel
theorem dX7_compare_19 : decode cX7_compare 19 = .ok (.iload_n 1, 1) := by decide +kernel
theorem dX7_compare_20 : decode cX7_compare 20 = .ok (.iload_n 2, 1) := by decide +kernel
theorem dX7_compare_21 : decode cX7_compare 21 = .ok (.invokevirtual 212, 3) := by decide +kernel
theorem dX7_compare_24 : decode cX7_compare 24 = .ok (.goto 5, 3) := by decide +kernel
theorem dX7_compare_27 : decode cX7_compare 27 = .ok (.bipush (-2), 2) := by decide +kernel
theorem dX7_compare_29 : decode cX7_compare 29 = .ok (.ireturn, 1) := by decide +kernel
theorem dX7_goneOf_0 : decode cX7_goneOf 0 = .ok (.aload_n 0, 1) := by decide +kernel
theorem dX7_goneOf_1 : decode cX7_goneOf 1 = .ok (.invokevirtual 206, 3) := by decide +kernel
theorem dX7_goneOf_4 : decode cX7_goneOf 4 = .ok (.iconst 1, 1) := by decide +kernel
theorem dX7_goneOf_5 : decode cX7_goneOf 5 = .ok (.aload_n 0, 1) := by decide +kernel
theorem dX7_goneOf_6 : decode cX7_goneOf 6 = .ok (.getfield 7, 3) := by decide +kernel
theorem dX7_goneOf_9 : decode cX7_goneOf 9 = .ok (.iconst 0, 1) := by decide +kernel
theorem dX7_goneOf_10 : decode cX7_goneOf 10 = .ok (.iaload, 1) := by decide +kernel
theorem dX7_goneOf_11 : decode cX7_goneOf 11 = .ok (.ishl, 1) := by decide +kernel
theorem dX7_goneOf_12 : decode cX7_goneOf 12 = .ok (.iconst 1, 1) := by decide +kernel
theorem dX7_goneOf_13 : decode cX7_goneOf 13 = .ok (.isub, 1) := by decide +kernel
theorem dX7_goneOf_14 : decode cX7_goneOf 14 = .ok (.aload_n 0, 1) := by decide +kernel
theorem dX7_goneOf_15 : decode cX7_goneOf 15 = .ok (.getfield 196, 3) := by decide +kernel
theorem dX7_goneOf_18 : decode cX7_goneOf 18 = .ok (.iconst (-1), 1) := by decide +kernel
theorem dX7_goneOf_19 : decode cX7_goneOf 19 = .ok (.ixor, 1) := by decide +kernel
theorem dX7_goneOf_20 : decode cX7_goneOf 20 = .ok (.iand, 1) := by decide +kernel
theorem dX7_goneOf_21 : decode cX7_goneOf 21 = .ok (.ireturn, 1) := by decide +kernel
theorem dX7_gone_0 : decode cX7_gone 0 = .ok (.aload_n 0, 1) := by decide +kernel
theorem dX7_gone_1 : decode cX7_gone 1 = .ok (.invokevirtual 215, 3) := by decide +kernel
theorem dX7_gone_4 : decode cX7_gone 4 = .ok (.ireturn, 1) := by decide +kernel
theorem dX7_isPulled_0 : decode cX7_isPulled 0 = .ok (.iconst 0, 1) := by decide +kernel
theorem dX7_isPulled_1 : decode cX7_isPulled 1 = .ok (.istore_n 3, 1) := by decide +kernel
theorem dX7_isPulled_2 : decode cX7_isPulled 2 = .ok (.iconst 0, 1) := by decide +kernel
theorem dX7_isPulled_3 : decode cX7_isPulled 3 = .ok (.istore 4, 2) := by decide +kernel
theorem dX7_isPulled_5 : decode cX7_isPulled 5 = .ok (.iload 4, 2) := by decide +kernel
theorem dX7_isPulled_7 : decode cX7_isPulled 7 = .ok (.aload_n 0, 1) := by decide +kernel
theorem dX7_isPulled_8 : decode cX7_isPulled 8 = .ok (.getfield 34, 3) := by decide +kernel
theorem dX7_isPulled_11 : decode cX7_isPulled 11 = .ok (.iconst 0, 1) := by decide +kernel
theorem dX7_isPulled_12 : decode cX7_isPulled 12 = .ok (.iaload, 1) := by decide +kernel
theorem dX7_isPulled_13 : decode cX7_isPulled 13 = .ok (.if_icmp .ge 51, 3) := by decide +kernel
theorem dX7_isPulled_16 : decode cX7_isPulled 16 = .ok (.iload_n 3, 1) := by decide +kernel
theorem dX7_isPulled_17 : decode cX7_isPulled 17 = .ok (.ifCond .ne 35, 3) := by decide +kernel
theorem dX7_isPulled_20 : decode cX7_isPulled 20 = .ok (.aload_n 0, 1) := by decide +kernel
theorem dX7_isPulled_21 : decode cX7_isPulled 21 = .ok (.getfield 37, 3) := by decide +kernel
theorem dX7_isPulled_24 : decode cX7_isPulled 24 = .ok (.iload 4, 2) := by decide +kernel
theorem dX7_isPulled_26 : decode cX7_isPulled 26 = .ok (.iaload, 1) := by decide +kernel
theorem dX7_isPulled_27 : decode cX7_isPulled 27 = .ok (.iload_n 1, 1) := by decide +kernel
theorem dX7_isPulled_28 : decode cX7_isPulled 28 = .ok (.if_icmp .ne 28, 3) := by decide +kernel
theorem dX7_isPulled_31 : decode cX7_isPulled 31 = .ok (.iload_n 2, 1) := by decide +kernel
theorem dX7_isPulled_32 : decode cX7_isPulled 32 = .ok (.aload_n 0, 1) := by decide +kernel
theorem dX7_isPulled_33 : decode cX7_isPulled 33 = .ok (.getfield 40, 3) := by decide +kernel
theorem dX7_isPulled_36 : decode cX7_isPulled 36 = .ok (.iload 4, 2) := by decide +kernel
theorem dX7_isPulled_38 : decode cX7_isPulled 38 = .ok (.iaload, 1) := by decide +kernel
theorem dX7_isPulled_39 : decode cX7_isPulled 39 = .ok (.aload_n 0, 1) := by decide +kernel
theorem dX7_isPulled_40 : decode cX7_isPulled 40 = .ok (.getfield 43, 3) := by decide +kernel
theorem dX7_isPulled_43 : decode cX7_isPulled 43 = .ok (.iload 4, 2) := by decide +kernel
theorem dX7_isPulled_45 : decode cX7_isPulled 45 = .ok (.iaload, 1) := by decide +kernel
theorem dX7_isPulled_46 : decode cX7_isPulled 46 = .ok (.invokestatic 69, 3) := by decide +kernel
theorem dX7_isPulled_49 : decode cX7_isPulled 49 = .ok (.ifCond .eq 7, 3) := by decide +kernel
theorem dX7_isPulled_52 : decode cX7_isPulled 52 = .ok (.iconst 1, 1) := by decide +kernel
theorem dX7_isPulled_53 : decode cX7_isPulled 53 = .ok (.goto 4, 3) := by decide +kernel
theorem dX7_isPulled_56 : decode cX7_isPulled 56 = .ok (.iconst 0, 1) := by decide +kernel
theorem dX7_isPulled_57 : decode cX7_isPulled 57 = .ok (.istore_n 3, 1) := by decide +kernel
theorem dX7_isPulled_58 : decode cX7_isPulled 58 = .ok (.iinc 4 1, 3) := by decide +kernel
theorem dX7_isPulled_61 : decode cX7_isPulled 61 = .ok (.goto (-56), 3) := by decide +kernel
theorem dX7_isPulled_64 : decode cX7_isPulled 64 = .ok (.iload_n 3, 1) := by decide +kernel
theorem dX7_isPulled_65 : decode cX7_isPulled 65 = .ok (.ireturn, 1) := by decide +kernel
theorem dX7_anewOf_0 : decode cX7_anewOf 0 = .ok (.aload_n 0, 1) := by decide +kernel
theorem dX7_anewOf_1 : decode cX7_anewOf 1 = .ok (.iconst 0, 1) := by decide +kernel
theorem dX7_anewOf_2 : decode cX7_anewOf 2 = .ok (.iconst (-1), 1) := by decide +kernel
theorem dX7_anewOf_3 : decode cX7_anewOf 3 = .ok (.invokevirtual 169, 3) := by decide +kernel
theorem dX7_anewOf_6 : decode cX7_anewOf 6 = .ok (.aload_n 0, 1) := by decide +kernel
theorem dX7_anewOf_7 : decode cX7_anewOf 7 = .ok (.iconst 1, 1) := by decide +kernel
theorem dX7_anewOf_8 : decode cX7_anewOf 8 = .ok (.iconst (-1), 1) := by decide +kernel
theorem dX7_anewOf_9 : decode cX7_anewOf 9 = .ok (.invokevirtual 169, 3) := by decide +kernel
theorem dX7_anewOf_12 : decode cX7_anewOf 12 = .ok (.iconst 0, 1) := by decide +kernel
theorem dX7_anewOf_13 : decode cX7_anewOf 13 = .ok (.istore_n 2, 1) := by decide +kernel
theorem dX7_anewOf_14 : decode cX7_anewOf 14 = .ok (.iconst (-1), 1) := by decide +kernel
theorem dX7_anewOf_15 : decode cX7_anewOf 15 = .ok (.istore_n 3, 1) := by decide +kernel
theorem dX7_anewOf_16 : decode cX7_anewOf 16 = .ok (.bipush 8, 2) := by decide +kernel
theorem dX7_anewOf_18 : decode cX7_anewOf 18 = .ok (.istore 4, 2) := by decide +kernel
theorem dX7_anewOf_20 : decode cX7_anewOf 20 = .ok (.iload 4, 2) := by decide +kernel
theorem dX7_anewOf_22 : decode cX7_anewOf 22 = .ok (.bipush 8, 2) := by decide +kernel
theorem dX7_anewOf_24 : decode cX7_anewOf 24 = .ok (.aload_n 0, 1) := by decide +kernel
theorem dX7_anewOf_25 : decode cX7_anewOf 25 = .ok (.getfield 34, 3) := by decide +kernel
theorem dX7_anewOf_28 : decode cX7_anewOf 28 = .ok (.iconst 1, 1) := by decide +kernel
theorem dX7_anewOf_29 : decode cX7_anewOf 29 = .ok (.iaload, 1) := by decide +kernel
theorem dX7_anewOf_30 : decode cX7_anewOf 30 = .ok (.iadd, 1) := by decide +kernel
theorem dX7_anewOf_31 : decode cX7_anewOf 31 = .ok (.if_icmp .ge 99, 3) := by decide +kernel
theorem dX7_anewOf_34 : decode cX7_anewOf 34 = .ok (.aload_n 0, 1) := by decide +kernel
theorem dX7_anewOf_35 : decode cX7_anewOf 35 = .ok (.getfield 43, 3) := by decide +kernel
theorem dX7_anewOf_38 : decode cX7_anewOf 38 = .ok (.iload 4, 2) := by decide +kernel
theorem dX7_anewOf_40 : decode cX7_anewOf 40 = .ok (.iaload, 1) := by decide +kernel
theorem dX7_anewOf_41 : decode cX7_anewOf 41 = .ok (.aload_n 0, 1) := by decide +kernel
theorem dX7_anewOf_42 : decode cX7_anewOf 42 = .ok (.getfield 31, 3) := by decide +kernel
theorem dX7_anewOf_45 : decode cX7_anewOf 45 = .ok (.aload_n 0, 1) := by decide +kernel
theorem dX7_anewOf_46 : decode cX7_anewOf 46 = .ok (.getfield 37, 3) := by decide +kernel
theorem dX7_anewOf_49 : decode cX7_anewOf 49 = .ok (.iload 4, 2) := by decide +kernel
theorem dX7_anewOf_51 : decode cX7_anewOf 51 = .ok (.iaload, 1) := by decide +kernel
theorem dX7_anewOf_52 : decode cX7_anewOf 52 = .ok (.iaload, 1) := by decide +kernel
theorem dX7_anewOf_53 : decode cX7_anewOf 53 = .ok (.iconst 1, 1) := by decide +kernel
theorem dX7_anewOf_54 : decode cX7_anewOf 54 = .ok (.isub, 1) := by decide +kernel
theorem dX7_anewOf_55 : decode cX7_anewOf 55 = .ok (.invokestatic 149, 3) := by decide +kernel
theorem dX7_anewOf_58 : decode cX7_anewOf 58 = .ok (.istore 5, 2) := by decide +kernel
theorem dX7_anewOf_60 : decode cX7_anewOf 60 = .ok (.aload_n 0, 1) := by decide +kernel
theorem dX7_anewOf_61 : decode cX7_anewOf 61 = .ok (.getfield 40, 3) := by decide +kernel
theorem dX7_anewOf_64 : decode cX7_anewOf 64 = .ok (.iload 4, 2) := by decide +kernel
theorem dX7_anewOf_66 : decode cX7_anewOf 66 = .ok (.iaload, 1) := by decide +kernel
theorem dX7_anewOf_67 : decode cX7_anewOf 67 = .ok (.istore 6, 2) := by decide +kernel
theorem dX7_anewOf_69 : decode cX7_anewOf 69 = .ok (.iload 6, 2) := by decide +kernel
theorem dX7_anewOf_71 : decode cX7_anewOf 71 = .ok (.iload 5, 2) := by decide +kernel
theorem dX7_anewOf_73 : decode cX7_anewOf 73 = .ok (.if_icmp .gt 51, 3) := by decide +kernel
theorem dX7_anewOf_76 : decode cX7_anewOf 76 = .ok (.aload_n 0, 1) := by decide +kernel
theorem dX7_anewOf_77 : decode cX7_anewOf 77 = .ok (.aload_n 0, 1) := by decide +kernel
theorem dX7_anewOf_78 : decode cX7_anewOf 78 = .ok (.getfield 37, 3) := by decide +kernel
theorem dX7_anewOf_81 : decode cX7_anewOf 81 = .ok (.iload 4, 2) := by decide +kernel
theorem dX7_anewOf_83 : decode cX7_anewOf 83 = .ok (.iaload, 1) := by decide +kernel
theorem dX7_anewOf_84 : decode cX7_anewOf 84 = .ok (.iload 6, 2) := by decide +kernel
theorem dX7_anewOf_86 : decode cX7_anewOf 86 = .ok (.invokevirtual 218, 3) := by decide +kernel
theorem dX7_anewOf_89 : decode cX7_anewOf 89 = .ok (.ifCond .ne 29, 3) := by decide +kernel
theorem dX7_anewOf_92 : decode cX7_anewOf 92 = .ok (.iload_n 2, 1) := by decide +kernel
theorem dX7_anewOf_93 : decode cX7_anewOf 93 = .ok (.iload_n 1, 1) := by decide +kernel
theorem dX7_anewOf_94 : decode cX7_anewOf 94 = .ok (.if_icmp .ne 19, 3) := by decide +kernel
theorem dX7_anewOf_97 : decode cX7_anewOf 97 = .ok (.ldc 221, 2) := by decide +kernel
theorem dX7_anewOf_99 : decode cX7_anewOf 99 = .ok (.aload_n 0, 1) := by decide +kernel
theorem dX7_anewOf_100 : decode cX7_anewOf 100 = .ok (.getfield 37, 3) := by decide +kernel
theorem dX7_anewOf_103 : decode cX7_anewOf 103 = .ok (.iload 4, 2) := by decide +kernel
theorem dX7_anewOf_105 : decode cX7_anewOf 105 = .ok (.iaload, 1) := by decide +kernel
theorem dX7_anewOf_106 : decode cX7_anewOf 106 = .ok (.imul, 1) := by decide +kernel
theorem dX7_anewOf_107 : decode cX7_anewOf 107 = .ok (.iload 6, 2) := by decide +kernel
theorem dX7_anewOf_109 : decode cX7_anewOf 109 = .ok (.iadd, 1) := by decide +kernel
theorem dX7_anewOf_110 : decode cX7_anewOf 110 = .ok (.goto 4, 3) := by decide +kernel
theorem dX7_anewOf_113 : decode cX7_anewOf 113 = .ok (.iload_n 3, 1) := by decide +kernel
theorem dX7_anewOf_114 : decode cX7_anewOf 114 = .ok (.istore_n 3, 1) := by decide +kernel
theorem dX7_anewOf_115 : decode cX7_anewOf 115 = .ok (.iinc 2 1, 3) := by decide +kernel
theorem dX7_anewOf_118 : decode cX7_anewOf 118 = .ok (.iinc 6 1, 3) := by decide +kernel
theorem dX7_anewOf_121 : decode cX7_anewOf 121 = .ok (.goto (-52), 3) := by decide +kernel
theorem dX7_anewOf_124 : decode cX7_anewOf 124 = .ok (.iinc 4 1, 3) := by decide +kernel
theorem dX7_anewOf_127 : decode cX7_anewOf 127 = .ok (.goto (-107), 3) := by decide +kernel
theorem dX7_anewOf_130 : decode cX7_anewOf 130 = .ok (.iload_n 1, 1) := by decide +kernel
theorem dX7_anewOf_131 : decode cX7_anewOf 131 = .ok (.iconst (-1), 1) := by decide +kernel
theorem dX7_anewOf_132 : decode cX7_anewOf 132 = .ok (.if_icmp .ne 7, 3) := by decide +kernel
theorem dX7_anewOf_135 : decode cX7_anewOf 135 = .ok (.iload_n 2, 1) := by decide +kernel
theorem dX7_anewOf_136 : decode cX7_anewOf 136 = .ok (.goto 4, 3) := by decide +kernel
theorem dX7_anewOf_139 : decode cX7_anewOf 139 = .ok (.iload_n 3, 1) := by decide +kernel
theorem dX7_anewOf_140 : decode cX7_anewOf 140 = .ok (.ireturn, 1) := by decide +kernel
theorem dX7_anew_0 : decode cX7_anew 0 = .ok (.iload_n 1, 1) := by decide +kernel
theorem dX7_anew_1 : decode cX7_anew 1 = .ok (.iconst (-1), 1) := by decide +kernel
theorem dX7_anew_2 : decode cX7_anew 2 = .ok (.sipush 9999, 3) := by decide +kernel
theorem dX7_anew_5 : decode cX7_anew 5 = .ok (.invokestatic 69, 3) := by decide +kernel
theorem dX7_anew_8 : decode cX7_anew 8 = .ok (.ifCond .eq 11, 3) := by decide +kernel
theorem dX7_anew_11 : decode cX7_anew 11 = .ok (.aload_n 0, 1) := by decide +kernel
theorem dX7_anew_12 : decode cX7_anew 12 = .ok (.iload_n 1, 1) := by decide +kernel
theorem dX7_anew_13 : decode cX7_anew 13 = .ok (.invokevirtual 222, 3) := by decide +kernel
theorem dX7_anew_16 : decode cX7_anew 16 = .ok (.goto 5, 3) := by decide +kernel
theorem dX7_anew_19 : decode cX7_anew 19 = .ok (.bipush (-2), 2) := by decide +kernel
theorem dX7_anew_21 : decode cX7_anew 21 = .ok (.ireturn, 1) := by decide +kernel
theorem dX7_savingOf_0 : decode cX7_savingOf 0 = .ok (.iconst (-1), 1) := by decide +kernel
theorem dX7_savingOf_1 : decode cX7_savingOf 1 = .ok (.istore_n 2, 1) := by decide +kernel
theorem dX7_savingOf_2 : decode cX7_savingOf 2 = .ok (.iconst (-1), 1) := by decide +kernel
theorem dX7_savingOf_3 : decode cX7_savingOf 3 = .ok (.istore_n 3, 1) := by decide +kernel
theorem dX7_savingOf_4 : decode cX7_savingOf 4 = .ok (.iconst 0, 1) := by decide +kernel
theorem dX7_savingOf_5 : decode cX7_savingOf 5 = .ok (.istore 4, 2) := by decide +kernel
theorem dX7_savingOf_7 : decode cX7_savingOf 7 = .ok (.iload 4, 2) := by decide +kernel
theorem dX7_savingOf_9 : decode cX7_savingOf 9 = .ok (.aload_n 0, 1) := by decide +kernel
theorem dX7_savingOf_10 : decode cX7_savingOf 10 = .ok (.getfield 7, 3) := by decide +kernel
theorem dX7_savingOf_13 : decode cX7_savingOf 13 = .ok (.iconst 1, 1) := by decide +kernel
theorem dX7_savingOf_14 : decode cX7_savingOf 14 = .ok (.iaload, 1) := by decide +kernel
theorem dX7_savingOf_15 : decode cX7_savingOf 15 = .ok (.if_icmp .ge 65, 3) := by decide +kernel
theorem dX7_savingOf_18 : decode cX7_savingOf 18 = .ok (.aload_n 0, 1) := by decide +kernel
theorem dX7_savingOf_19 : decode cX7_savingOf 19 = .ok (.iconst 1, 1) := by decide +kernel
theorem dX7_savingOf_20 : decode cX7_savingOf 20 = .ok (.iload 4, 2) := by decide +kernel
theorem dX7_savingOf_22 : decode cX7_savingOf 22 = .ok (.invokevirtual 169, 3) := by decide +kernel
theorem dX7_savingOf_25 : decode cX7_savingOf 25 = .ok (.aload_n 0, 1) := by decide +kernel
theorem dX7_savingOf_26 : decode cX7_savingOf 26 = .ok (.iconst 1, 1) := by decide +kernel
theorem dX7_savingOf_27 : decode cX7_savingOf 27 = .ok (.invokevirtual 184, 3) := by decide +kernel
theorem dX7_savingOf_30 : decode cX7_savingOf 30 = .ok (.istore 5, 2) := by decide +kernel
theorem dX7_savingOf_32 : decode cX7_savingOf 32 = .ok (.iload_n 2, 1) := by decide +kernel
theorem dX7_savingOf_33 : decode cX7_savingOf 33 = .ok (.iconst (-1), 1) := by decide +kernel
theorem dX7_savingOf_34 : decode cX7_savingOf 34 = .ok (.if_icmp .eq 9, 3) := by decide +kernel
theorem dX7_savingOf_37 : decode cX7_savingOf 37 = .ok (.iload 5, 2) := by decide +kernel
theorem dX7_savingOf_39 : decode cX7_savingOf 39 = .ok (.iload_n 3, 1) := by decide +kernel
theorem dX7_savingOf_40 : decode cX7_savingOf 40 = .ok (.if_icmp .ge 7, 3) := by decide +kernel
theorem dX7_savingOf_43 : decode cX7_savingOf 43 = .ok (.iconst 1, 1) := by decide +kernel
theorem dX7_savingOf_44 : decode cX7_savingOf 44 = .ok (.goto 4, 3) := by decide +kernel
theorem dX7_savingOf_47 : decode cX7_savingOf 47 = .ok (.iconst 0, 1) := by decide +kernel
theorem dX7_savingOf_48 : decode cX7_savingOf 48 = .ok (.istore 6, 2) := by decide +kernel
theorem dX7_savingOf_50 : decode cX7_savingOf 50 = .ok (.iload 6, 2) := by decide +kernel
theorem dX7_savingOf_52 : decode cX7_savingOf 52 = .ok (.ifCond .eq 8, 3) := by decide +kernel
theorem dX7_savingOf_55 : decode cX7_savingOf 55 = .ok (.iload 4, 2) := by decide +kernel
theorem dX7_savingOf_57 : decode cX7_savingOf 57 = .ok (.goto 4, 3) := by decide +kernel
theorem dX7_savingOf_60 : decode cX7_savingOf 60 = .ok (.iload_n 2, 1) := by decide +kernel
theorem dX7_savingOf_61 : decode cX7_savingOf 61 = .ok (.istore_n 2, 1) := by decide +kernel
theorem dX7_savingOf_62 : decode cX7_savingOf 62 = .ok (.iload 6, 2) := by decide +kernel
theorem dX7_savingOf_64 : decode cX7_savingOf 64 = .ok (.ifCond .eq 8, 3) := by decide +kernel
theorem dX7_savingOf_67 : decode cX7_savingOf 67 = .ok (.iload 5, 2) := by decide +kernel
theorem dX7_savingOf_69 : decode cX7_savingOf 69 = .ok (.goto 4, 3) := by decide +kernel
theorem dX7_savingOf_72 : decode cX7_savingOf 72 = .ok (.iload_n 3, 1) := by decide +kernel
theorem dX7_savingOf_73 : decode cX7_savingOf 73 = .ok (.istore_n 3, 1) := by decide +kernel
theorem dX7_savingOf_74 : decode cX7_savingOf 74 = .ok (.iinc 4 1, 3) := by decide +kernel
theorem dX7_savingOf_77 : decode cX7_savingOf 77 = .ok (.goto (-70), 3) := by decide +kernel
theorem dX7_savingOf_80 : decode cX7_savingOf 80 = .ok (.iload_n 1, 1) := by decide +kernel
theorem dX7_savingOf_81 : decode cX7_savingOf 81 = .ok (.ifCond .ne 7, 3) := by decide +kernel
theorem dX7_savingOf_84 : decode cX7_savingOf 84 = .ok (.iload_n 2, 1) := by decide +kernel
theorem dX7_savingOf_85 : decode cX7_savingOf 85 = .ok (.goto 4, 3) := by decide +kernel
theorem dX7_savingOf_88 : decode cX7_savingOf 88 = .ok (.iload_n 3, 1) := by decide +kernel
theorem dX7_savingOf_89 : decode cX7_savingOf 89 = .ok (.ireturn, 1) := by decide +kernel
theorem dX7_saving_0 : decode cX7_saving 0 = .ok (.iload_n 1, 1) := by decide +kernel
theorem dX7_saving_1 : decode cX7_saving 1 = .ok (.iconst 0, 1) := by decide +kernel
theorem dX7_saving_2 : decode cX7_saving 2 = .ok (.iconst 1, 1) := by decide +kernel
theorem dX7_saving_3 : decode cX7_saving 3 = .ok (.invokestatic 69, 3) := by decide +kernel
theorem dX7_saving_6 : decode cX7_saving 6 = .ok (.ifCond .eq 11, 3) := by decide +kernel
theorem dX7_saving_9 : decode cX7_saving 9 = .ok (.aload_n 0, 1) := by decide +kernel
theorem dX7_saving_10 : decode cX7_saving 10 = .ok (.iload_n 1, 1) := by decide +kernel
theorem dX7_saving_11 : decode cX7_saving 11 = .ok (.invokevirtual 225, 3) := by decide +kernel
theorem dX7_saving_14 : decode cX7_saving 14 = .ok (.goto 5, 3) := by decide +kernel
theorem dX7_saving_17 : decode cX7_saving 17 = .ok (.bipush (-2), 2) := by decide +kernel
theorem dX7_saving_19 : decode cX7_saving 19 = .ok (.ireturn, 1) := by decide +kernel
theorem dX7_meets_0 : decode cX7_meets 0 = .ok (.aload_n 0, 1) := by decide +kernel
theorem dX7_meets_1 : decode cX7_meets 1 = .ok (.iload_n 1, 1) := by decide +kernel
theorem dX7_meets_2 : decode cX7_meets 2 = .ok (.putfield 228, 3) := by decide +kernel
theorem dX7_meets_5 : decode cX7_meets 5 = .ok (.bipush (-10), 2) := by decide +kernel
theorem dX7_meets_7 : decode cX7_meets 7 = .ok (.iload_n 1, 1) := by decide +kernel
theorem dX7_meets_8 : decode cX7_meets 8 = .ok (.isub, 1) := by decide +kernel
theorem dX7_meets_9 : decode cX7_meets 9 = .ok (.ireturn, 1) := by decide +kernel
theorem dX7_isSheet_0 : decode cX7_isSheet 0 = .ok (.iload_n 0, 1) := by decide +kernel
theorem dX7_isSheet_1 : decode cX7_isSheet 1 = .ok (.iconst 0, 1) := by decide +kernel
theorem dX7_isSheet_2 : decode cX7_isSheet 2 = .ok (.iconst 3, 1) := by decide +kernel
theorem dX7_isSheet_3 : decode cX7_isSheet 3 = .ok (.invokestatic 69, 3) := by decide +kernel
theorem dX7_isSheet_6 : decode cX7_isSheet 6 = .ok (.ireturn, 1) := by decide +kernel
theorem dX7_sheet_0 : decode cX7_sheet 0 = .ok (.iload_n 1, 1) := by decide +kernel
theorem dX7_sheet_1 : decode cX7_sheet 1 = .ok (.invokestatic 100, 3) := by decide +kernel
theorem dX7_sheet_4 : decode cX7_sheet 4 = .ok (.ifCond .eq 18, 3) := by decide +kernel
theorem dX7_sheet_7 : decode cX7_sheet 7 = .ok (.iload_n 2, 1) := by decide +kernel
theorem dX7_sheet_8 : decode cX7_sheet 8 = .ok (.iconst 0, 1) := by decide +kernel
theorem dX7_sheet_9 : decode cX7_sheet 9 = .ok (.iconst 2, 1) := by decide +kernel
theorem dX7_sheet_10 : decode cX7_sheet 10 = .ok (.invokestatic 69, 3) := by decide +kernel
theorem dX7_sheet_13 : decode cX7_sheet 13 = .ok (.ifCond .eq 9, 3) := by decide +kernel
theorem dX7_sheet_16 : decode cX7_sheet 16 = .ok (.iload_n 3, 1) := by decide +kernel
theorem dX7_sheet_17 : decode cX7_sheet 17 = .ok (.bipush 60, 2) := by decide +kernel
theorem dX7_sheet_19 : decode cX7_sheet 19 = .ok (.if_icmp .le 6, 3) := by decide +kernel
theorem dX7_sheet_22 : decode cX7_sheet 22 = .ok (.bipush (-2), 2) := by decide +kernel
theorem dX7_sheet_24 : decode cX7_sheet 24 = .ok (.ireturn, 1) := by decide +kernel
theorem dX7_sheet_25 : decode cX7_sheet 25 = .ok (.iload_n 3, 1) := by decide +kernel
theorem dX7_sheet_26 : decode cX7_sheet 26 = .ok (.ifCond .ge 9, 3) := by decide +kernel
theorem dX7_sheet_29 : decode cX7_sheet 29 = .ok (.aload_n 0, 1) := by decide +kernel
theorem dX7_sheet_30 : decode cX7_sheet 30 = .ok (.iconst 5, 1) := by decide +kernel
theorem dX7_sheet_31 : decode cX7_sheet 31 = .ok (.invokevirtual 103, 3) := by decide +kernel
theorem dX7_sheet_34 : decode cX7_sheet 34 = .ok (.ireturn, 1) := by decide +kernel
theorem dX7_sheet_35 : decode cX7_sheet 35 = .ok (.aload_n 0, 1) := by decide +kernel
theorem dX7_sheet_36 : decode cX7_sheet 36 = .ok (.getfield 52, 3) := by decide +kernel
theorem dX7_sheet_39 : decode cX7_sheet 39 = .ok (.iload_n 1, 1) := by decide +kernel
theorem dX7_sheet_40 : decode cX7_sheet 40 = .ok (.iconst 1, 1) := by decide +kernel
theorem dX7_sheet_41 : decode cX7_sheet 41 = .ok (.bastore, 1) := by decide +kernel
theorem dX7_sheet_42 : decode cX7_sheet 42 = .ok (.aload_n 0, 1) := by decide +kernel
theorem dX7_sheet_43 : decode cX7_sheet 43 = .ok (.getfield 56, 3) := by decide +kernel
theorem dX7_sheet_46 : decode cX7_sheet 46 = .ok (.iload_n 1, 1) := by decide +kernel
theorem dX7_sheet_47 : decode cX7_sheet 47 = .ok (.iload_n 2, 1) := by decide +kernel
theorem dX7_sheet_48 : decode cX7_sheet 48 = .ok (.iastore, 1) := by decide +kernel
theorem dX7_sheet_49 : decode cX7_sheet 49 = .ok (.aload_n 0, 1) := by decide +kernel
theorem dX7_sheet_50 : decode cX7_sheet 50 = .ok (.getfield 59, 3) := by decide +kernel
theorem dX7_sheet_53 : decode cX7_sheet 53 = .ok (.iload_n 1, 1) := by decide +kernel
theorem dX7_sheet_54 : decode cX7_sheet 54 = .ok (.iload_n 3, 1) := by decide +kernel
theorem dX7_sheet_55 : decode cX7_sheet 55 = .ok (.iastore, 1) := by decide +kernel
theorem dX7_sheet_56 : decode cX7_sheet 56 = .ok (.iconst 0, 1) := by decide +kernel
theorem dX7_sheet_57 : decode cX7_sheet 57 = .ok (.istore 4, 2) := by decide +kernel
theorem dX7_sheet_59 : decode cX7_sheet 59 = .ok (.iload 4, 2) := by decide +kernel
theorem dX7_sheet_61 : decode cX7_sheet 61 = .ok (.bipush 60, 2) := by decide +kernel
theorem dX7_sheet_63 : decode cX7_sheet 63 = .ok (.if_icmp .ge 22, 3) := by decide +kernel
theorem dX7_sheet_66 : decode cX7_sheet 66 = .ok (.aload_n 0, 1) := by decide +kernel
theorem dX7_sheet_67 : decode cX7_sheet 67 = .ok (.getfield 62, 3) := by decide +kernel
theorem dX7_sheet_70 : decode cX7_sheet 70 = .ok (.bipush 60, 2) := by decide +kernel
theorem dX7_sheet_72 : decode cX7_sheet 72 = .ok (.iload_n 1, 1) := by decide +kernel
theorem dX7_sheet_73 : decode cX7_sheet 73 = .ok (.imul, 1) := by decide +kernel
theorem dX7_sheet_74 : decode cX7_sheet 74 = .ok (.iload 4, 2) := by decide +kernel
theorem dX7_sheet_76 : decode cX7_sheet 76 = .ok (.iadd, 1) := by decide +kernel
theorem dX7_sheet_77 : decode cX7_sheet 77 = .ok (.iconst 0, 1) := by decide +kernel
theorem dX7_sheet_78 : decode cX7_sheet 78 = .ok (.iastore, 1) := by decide +kernel
theorem dX7_sheet_79 : decode cX7_sheet 79 = .ok (.iinc 4 1, 3) := by decide +kernel
theorem dX7_sheet_82 : decode cX7_sheet 82 = .ok (.goto (-23), 3) := by decide +kernel
theorem dX7_sheet_85 : decode cX7_sheet 85 = .ok (.iload_n 3, 1) := by decide +kernel
theorem dX7_sheet_86 : decode cX7_sheet 86 = .ok (.ireturn, 1) := by decide +kernel
theorem dX7_lose_0 : decode cX7_lose 0 = .ok (.iload_n 1, 1) := by decide +kernel
theorem dX7_lose_1 : decode cX7_lose 1 = .ok (.invokestatic 100, 3) := by decide +kernel
theorem dX7_lose_4 : decode cX7_lose 4 = .ok (.ifCond .ne 6, 3) := by decide +kernel
theorem dX7_lose_7 : decode cX7_lose 7 = .ok (.bipush (-2), 2) := by decide +kernel
theorem dX7_lose_9 : decode cX7_lose 9 = .ok (.ireturn, 1) := by decide +kernel
theorem dX7_lose_10 : decode cX7_lose 10 = .ok (.aload_n 0, 1) := by decide +kernel
theorem dX7_lose_11 : decode cX7_lose 11 = .ok (.getfield 52, 3) := by decide +kernel
theorem dX7_lose_14 : decode cX7_lose 14 = .ok (.iload_n 1, 1) := by decide +kernel
theorem dX7_lose_15 : decode cX7_lose 15 = .ok (.baload, 1) := by decide +kernel
theorem dX7_lose_16 : decode cX7_lose 16 = .ok (.ifCond .ne 9, 3) := by decide +kernel
theorem dX7_lose_19 : decode cX7_lose 19 = .ok (.aload_n 0, 1) := by decide +kernel
theorem dX7_lose_20 : decode cX7_lose 20 = .ok (.iconst 1, 1) := by decide +kernel
theorem dX7_lose_21 : decode cX7_lose 21 = .ok (.invokevirtual 103, 3) := by decide +kernel
theorem dX7_lose_24 : decode cX7_lose 24 = .ok (.ireturn, 1) := by decide +kernel
theorem dX7_lose_25 : decode cX7_lose 25 = .ok (.aload_n 0, 1) := by decide +kernel
theorem dX7_lose_26 : decode cX7_lose 26 = .ok (.getfield 52, 3) := by decide +kernel
theorem dX7_lose_29 : decode cX7_lose 29 = .ok (.iload_n 1, 1) := by decide +kernel
theorem dX7_lose_30 : decode cX7_lose 30 = .ok (.iconst 0, 1) := by decide +kernel
theorem dX7_lose_31 : decode cX7_lose 31 = .ok (.bastore, 1) := by decide +kernel
theorem dX7_lose_32 : decode cX7_lose 32 = .ok (.aload_n 0, 1) := by decide +kernel
theorem dX7_lose_33 : decode cX7_lose 33 = .ok (.getfield 59, 3) := by decide +kernel
theorem dX7_lose_36 : decode cX7_lose 36 = .ok (.iload_n 1, 1) := by decide +kernel
theorem dX7_lose_37 : decode cX7_lose 37 = .ok (.iaload, 1) := by decide +kernel
theorem dX7_lose_38 : decode cX7_lose 38 = .ok (.ireturn, 1) := by decide +kernel
theorem dX7_lacks_0 : decode cX7_lacks 0 = .ok (.aload_n 0, 1) := by decide +kernel
theorem dX7_lacks_1 : decode cX7_lacks 1 = .ok (.getfield 52, 3) := by decide +kernel
theorem dX7_lacks_4 : decode cX7_lacks 4 = .ok (.iload_n 1, 1) := by decide +kernel
theorem dX7_lacks_5 : decode cX7_lacks 5 = .ok (.baload, 1) := by decide +kernel
theorem dX7_lacks_6 : decode cX7_lacks 6 = .ok (.ifCond .ne 7, 3) := by decide +kernel
theorem dX7_lacks_9 : decode cX7_lacks 9 = .ok (.iconst 1, 1) := by decide +kernel
theorem dX7_lacks_10 : decode cX7_lacks 10 = .ok (.goto 38, 3) := by decide +kernel
theorem dX7_lacks_13 : decode cX7_lacks 13 = .ok (.aload_n 0, 1) := by decide +kernel
theorem dX7_lacks_14 : decode cX7_lacks 14 = .ok (.getfield 56, 3) := by decide +kernel
theorem dX7_lacks_17 : decode cX7_lacks 17 = .ok (.iload_n 1, 1) := by decide +kernel
theorem dX7_lacks_18 : decode cX7_lacks 18 = .ok (.iaload, 1) := by decide +kernel
theorem dX7_lacks_19 : decode cX7_lacks 19 = .ok (.iload_n 2, 1) := by decide +kernel
theorem dX7_lacks_20 : decode cX7_lacks 20 = .ok (.if_icmp .eq 7, 3) := by decide +kernel
theorem dX7_lacks_23 : decode cX7_lacks 23 = .ok (.iconst 3, 1) := by decide +kernel
theorem dX7_lacks_24 : decode cX7_lacks 24 = .ok (.goto 24, 3) := by decide +kernel
theorem dX7_lacks_27 : decode cX7_lacks 27 = .ok (.iload_n 3, 1) := by decide +kernel
theorem dX7_lacks_28 : decode cX7_lacks 28 = .ok (.iconst 0, 1) := by decide +kernel
theorem dX7_lacks_29 : decode cX7_lacks 29 = .ok (.aload_n 0, 1) := by decide +kernel
theorem dX7_lacks_30 : decode cX7_lacks 30 = .ok (.getfield 59, 3) := by decide +kernel
theorem dX7_lacks_33 : decode cX7_lacks 33 = .ok (.iload_n 1, 1) := by decide +kernel
theorem dX7_lacks_34 : decode cX7_lacks 34 = .ok (.iaload, 1) := by decide +kernel
theorem dX7_lacks_35 : decode cX7_lacks 35 = .ok (.iconst 1, 1) := by decide +kernel
theorem dX7_lacks_36 : decode cX7_lacks 36 = .ok (.isub, 1) := by decide +kernel
theorem dX7_lacks_37 : decode cX7_lacks 37 = .ok (.invokestatic 69, 3) := by decide +kernel
theorem dX7_lacks_40 : decode cX7_lacks 40 = .ok (.ifCond .eq 7, 3) := by decide +kernel
theorem dX7_lacks_43 : decode cX7_lacks 43 = .ok (.iconst 0, 1) := by decide +kernel
theorem dX7_lacks_44 : decode cX7_lacks 44 = .ok (.goto 4, 3) := by decide +kernel
theorem dX7_lacks_47 : decode cX7_lacks 47 = .ok (.iconst 2, 1) := by decide +kernel
theorem dX7_lacks_48 : decode cX7_lacks 48 = .ok (.ireturn, 1) := by decide +kernel
theorem dX7_keep_0 : decode cX7_keep 0 = .ok (.aload_n 0, 1) := by decide +kernel
theorem dX7_keep_1 : decode cX7_keep 1 = .ok (.getfield 62, 3) := by decide +kernel
theorem dX7_keep_4 : decode cX7_keep 4 = .ok (.bipush 60, 2) := by decide +kernel
theorem dX7_keep_6 : decode cX7_keep 6 = .ok (.iload_n 1, 1) := by decide +kernel
theorem dX7_keep_7 : decode cX7_keep 7 = .ok (.imul, 1) := by decide +kernel
theorem dX7_keep_8 : decode cX7_keep 8 = .ok (.iload_n 2, 1) := by decide +kernel
theorem dX7_keep_9 : decode cX7_keep 9 = .ok (.iadd, 1) := by decide +kernel
theorem dX7_keep_10 : decode cX7_keep 10 = .ok (.aload_n 0, 1) := by decide +kernel
theorem dX7_keep_11 : decode cX7_keep 11 = .ok (.getfield 56, 3) := by decide +kernel
theorem dX7_keep_14 : decode cX7_keep 14 = .ok (.iload_n 1, 1) := by decide +kernel
theorem dX7_keep_15 : decode cX7_keep 15 = .ok (.iaload, 1) := by decide +kernel
theorem dX7_keep_16 : decode cX7_keep 16 = .ok (.ifCond .ne 8, 3) := by decide +kernel
theorem dX7_keep_19 : decode cX7_keep 19 = .ok (.iload_n 3, 1) := by decide +kernel
theorem dX7_keep_20 : decode cX7_keep 20 = .ok (.i2b, 1) := by decide +kernel
theorem dX7_keep_21 : decode cX7_keep 21 = .ok (.goto 19, 3) := by decide +kernel
theorem dX7_keep_24 : decode cX7_keep 24 = .ok (.aload_n 0, 1) := by decide +kernel
theorem dX7_keep_25 : decode cX7_keep 25 = .ok (.getfield 56, 3) := by decide +kernel
theorem dX7_keep_28 : decode cX7_keep 28 = .ok (.iload_n 1, 1) := by decide +kernel
theorem dX7_keep_29 : decode cX7_keep 29 = .ok (.iaload, 1) := by decide +kernel
theorem dX7_keep_30 : decode cX7_keep 30 = .ok (.iconst 1, 1) := by decide +kernel
theorem dX7_keep_31 : decode cX7_keep 31 = .ok (.if_icmp .ne 8, 3) := by decide +kernel
theorem dX7_keep_34 : decode cX7_keep 34 = .ok (.iload_n 3, 1) := by decide +kernel
theorem dX7_keep_35 : decode cX7_keep 35 = .ok (.i2s, 1) := by decide +kernel
theorem dX7_keep_36 : decode cX7_keep 36 = .ok (.goto 4, 3) := by decide +kernel
theorem dX7_keep_39 : decode cX7_keep 39 = .ok (.iload_n 3, 1) := by decide +kernel
theorem dX7_keep_40 : decode cX7_keep 40 = .ok (.iastore, 1) := by decide +kernel
theorem dX7_keep_41 : decode cX7_keep 41 = .ok (.return_, 1) := by decide +kernel
theorem dX7_put_0 : decode cX7_put 0 = .ok (.iload_n 1, 1) := by decide +kernel
theorem dX7_put_1 : decode cX7_put 1 = .ok (.invokestatic 100, 3) := by decide +kernel
theorem dX7_put_4 : decode cX7_put 4 = .ok (.ifCond .eq 12, 3) := by decide +kernel
theorem dX7_put_7 : decode cX7_put 7 = .ok (.iload_n 2, 1) := by decide +kernel
theorem dX7_put_8 : decode cX7_put 8 = .ok (.iconst 0, 1) := by decide +kernel
theorem dX7_put_9 : decode cX7_put 9 = .ok (.iconst 2, 1) := by decide +kernel
theorem dX7_put_10 : decode cX7_put 10 = .ok (.invokestatic 69, 3) := by decide +kernel
theorem dX7_put_13 : decode cX7_put 13 = .ok (.ifCond .ne 6, 3) := by decide +kernel
theorem dX7_put_16 : decode cX7_put 16 = .ok (.bipush (-2), 2) := by decide +kernel
theorem dX7_put_18 : decode cX7_put 18 = .ok (.ireturn, 1) := by decide +kernel
theorem dX7_put_19 : decode cX7_put 19 = .ok (.aload_n 0, 1) := by decide +kernel
theorem dX7_put_20 : decode cX7_put 20 = .ok (.iload_n 1, 1) := by decide +kernel
theorem dX7_put_21 : decode cX7_put 21 = .ok (.iload_n 2, 1) := by decide +kernel
theorem dX7_put_22 : decode cX7_put 22 = .ok (.iload_n 3, 1) := by decide +kernel
theorem dX7_put_23 : decode cX7_put 23 = .ok (.invokevirtual 231, 3) := by decide +kernel
theorem dX7_put_26 : decode cX7_put 26 = .ok (.istore 5, 2) := by decide +kernel
theorem dX7_put_28 : decode cX7_put 28 = .ok (.iload 5, 2) := by decide +kernel
theorem dX7_put_30 : decode cX7_put 30 = .ok (.ifCond .le 10, 3) := by decide +kernel
theorem dX7_put_33 : decode cX7_put 33 = .ok (.aload_n 0, 1) := by decide +kernel
theorem dX7_put_34 : decode cX7_put 34 = .ok (.iload 5, 2) := by decide +kernel
theorem dX7_put_36 : decode cX7_put 36 = .ok (.invokevirtual 103, 3) := by decide +kernel
theorem dX7_put_39 : decode cX7_put 39 = .ok (.ireturn, 1) := by decide +kernel
theorem dX7_put_40 : decode cX7_put 40 = .ok (.aload_n 0, 1) := by decide +kernel
theorem dX7_put_41 : decode cX7_put 41 = .ok (.iload_n 1, 1) := by decide +kernel
theorem dX7_put_42 : decode cX7_put 42 = .ok (.iload_n 3, 1) := by decide +kernel
theorem dX7_put_43 : decode cX7_put 43 = .ok (.iload 4, 2) := by decide +kernel
theorem dX7_put_45 : decode cX7_put 45 = .ok (.invokevirtual 234, 3) := by decide +kernel
theorem dX7_put_48 : decode cX7_put 48 = .ok (.iconst 1, 1) := by decide +kernel
theorem dX7_put_49 : decode cX7_put 49 = .ok (.ireturn, 1) := by decide +kernel
theorem dX7_get_0 : decode cX7_get 0 = .ok (.iload_n 1, 1) := by decide +kernel
theorem dX7_get_1 : decode cX7_get 1 = .ok (.invokestatic 100, 3) := by decide +kernel
theorem dX7_get_4 : decode cX7_get 4 = .ok (.ifCond .eq 12, 3) := by decide +kernel
theorem dX7_get_7 : decode cX7_get 7 = .ok (.iload_n 2, 1) := by decide +kernel
theorem dX7_get_8 : decode cX7_get 8 = .ok (.iconst 0, 1) := by decide +kernel
theorem dX7_get_9 : decode cX7_get 9 = .ok (.iconst 2, 1) := by decide +kernel
theorem dX7_get_10 : decode cX7_get 10 = .ok (.invokestatic 69, 3) := by decide +kernel
theorem dX7_get_13 : decode cX7_get 13 = .ok (.ifCond .ne 6, 3) := by decide +kernel
theorem dX7_get_16 : decode cX7_get 16 = .ok (.ldc 238, 2) := by decide +kernel
theorem dX7_get_18 : decode cX7_get 18 = .ok (.ireturn, 1) := by decide +kernel
theorem dX7_get_19 : decode cX7_get 19 = .ok (.aload_n 0, 1) := by decide +kernel
theorem dX7_get_20 : decode cX7_get 20 = .ok (.iload_n 1, 1) := by decide +kernel
theorem dX7_get_21 : decode cX7_get 21 = .ok (.iload_n 2, 1) := by decide +kernel
theorem dX7_get_22 : decode cX7_get 22 = .ok (.iload_n 3, 1) := by decide +kernel
theorem dX7_get_23 : decode cX7_get 23 = .ok (.invokevirtual 231, 3) := by decide +kernel
theorem dX7_get_26 : decode cX7_get 26 = .ok (.istore 4, 2) := by decide +kernel
theorem dX7_get_28 : decode cX7_get 28 = .ok (.iload 4, 2) := by decide +kernel
theorem dX7_get_30 : decode cX7_get 30 = .ok (.ifCond .le 12, 3) := by decide +kernel
theorem dX7_get_33 : decode cX7_get 33 = .ok (.aload_n 0, 1) := by decide +kernel
theorem dX7_get_34 : decode cX7_get 34 = .ok (.iload 4, 2) := by decide +kernel
theorem dX7_get_36 : decode cX7_get 36 = .ok (.putfield 228, 3) := by decide +kernel
theorem dX7_get_39 : decode cX7_get 39 = .ok (.ldc 238, 2) := by decide +kernel
theorem dX7_get_41 : decode cX7_get 41 = .ok (.ireturn, 1) := by decide +kernel
theorem dX7_get_42 : decode cX7_get 42 = .ok (.aload_n 0, 1) := by decide +kernel
theorem dX7_get_43 : decode cX7_get 43 = .ok (.getfield 62, 3) := by decide +kernel
theorem dX7_get_46 : decode cX7_get 46 = .ok (.bipush 60, 2) := by decide +kernel
theorem dX7_get_48 : decode cX7_get 48 = .ok (.iload_n 1, 1) := by decide +kernel
theorem dX7_get_49 : decode cX7_get 49 = .ok (.imul, 1) := by decide +kernel
theorem dX7_get_50 : decode cX7_get 50 = .ok (.iload_n 3, 1) := by decide +kernel
theorem dX7_get_51 : decode cX7_get 51 = .ok (.iadd, 1) := by decide +kernel
theorem dX7_get_52 : decode cX7_get 52 = .ok (.iaload, 1) := by decide +kernel
theorem dX7_get_53 : decode cX7_get 53 = .ok (.ireturn, 1) := by decide +kernel
theorem dX7_copy_0 : decode cX7_copy 0 = .ok (.iload_n 1, 1) := by decide +kernel
theorem dX7_copy_1 : decode cX7_copy 1 = .ok (.invokestatic 100, 3) := by decide +kernel
theorem dX7_copy_4 : decode cX7_copy 4 = .ok (.ifCond .eq 10, 3) := by decide +kernel
theorem dX7_copy_7 : decode cX7_copy 7 = .ok (.iload_n 3, 1) := by decide +kernel
theorem dX7_copy_8 : decode cX7_copy 8 = .ok (.invokestatic 100, 3) := by decide +kernel
theorem dX7_copy_11 : decode cX7_copy 11 = .ok (.ifCond .ne 6, 3) := by decide +kernel
theorem dX7_copy_14 : decode cX7_copy 14 = .ok (.bipush (-2), 2) := by decide +kernel
theorem dX7_copy_16 : decode cX7_copy 16 = .ok (.ireturn, 1) := by decide +kernel
theorem dX7_copy_17 : decode cX7_copy 17 = .ok (.aload_n 0, 1) := by decide +kernel
theorem dX7_copy_18 : decode cX7_copy 18 = .ok (.getfield 52, 3) := by decide +kernel
theorem dX7_copy_21 : decode cX7_copy 21 = .ok (.iload_n 1, 1) := by decide +kernel
theorem dX7_copy_22 : decode cX7_copy 22 = .ok (.baload, 1) := by decide +kernel
theorem dX7_copy_23 : decode cX7_copy 23 = .ok (.ifCond .eq 12, 3) := by decide +kernel
theorem dX7_copy_26 : decode cX7_copy 26 = .ok (.aload_n 0, 1) := by decide +kernel
theorem dX7_copy_27 : decode cX7_copy 27 = .ok (.getfield 52, 3) := by decide +kernel
theorem dX7_copy_30 : decode cX7_copy 30 = .ok (.iload_n 3, 1) := by decide +kernel
theorem dX7_copy_31 : decode cX7_copy 31 = .ok (.baload, 1) := by decide +kernel
theorem dX7_copy_32 : decode cX7_copy 32 = .ok (.ifCond .ne 9, 3) := by decide +kernel
theorem dX7_copy_35 : decode cX7_copy 35 = .ok (.aload_n 0, 1) := by decide +kernel
theorem dX7_copy_36 : decode cX7_copy 36 = .ok (.iconst 1, 1) := by decide +kernel
theorem dX7_copy_37 : decode cX7_copy 37 = .ok (.invokevirtual 103, 3) := by decide +kernel
theorem dX7_copy_40 : decode cX7_copy 40 = .ok (.ireturn, 1) := by decide +kernel
theorem dX7_copy_41 : decode cX7_copy 41 = .ok (.aload_n 0, 1) := by decide +kernel
theorem dX7_copy_42 : decode cX7_copy 42 = .ok (.getfield 56, 3) := by decide +kernel
theorem dX7_copy_45 : decode cX7_copy 45 = .ok (.iload_n 1, 1) := by decide +kernel
theorem dX7_copy_46 : decode cX7_copy 46 = .ok (.iaload, 1) := by decide +kernel
theorem dX7_copy_47 : decode cX7_copy 47 = .ok (.aload_n 0, 1) := by decide +kernel
theorem dX7_copy_48 : decode cX7_copy 48 = .ok (.getfield 56, 3) := by decide +kernel
theorem dX7_copy_51 : decode cX7_copy 51 = .ok (.iload_n 3, 1) := by decide +kernel
theorem dX7_copy_52 : decode cX7_copy 52 = .ok (.iaload, 1) := by decide +kernel
theorem dX7_copy_53 : decode cX7_copy 53 = .ok (.if_icmp .eq 9, 3) := by decide +kernel
theorem dX7_copy_56 : decode cX7_copy 56 = .ok (.aload_n 0, 1) := by decide +kernel
theorem dX7_copy_57 : decode cX7_copy 57 = .ok (.iconst 4, 1) := by decide +kernel
theorem dX7_copy_58 : decode cX7_copy 58 = .ok (.invokevirtual 103, 3) := by decide +kernel
theorem dX7_copy_61 : decode cX7_copy 61 = .ok (.ireturn, 1) := by decide +kernel
theorem dX7_copy_62 : decode cX7_copy 62 = .ok (.iload_n 2, 1) := by decide +kernel
theorem dX7_copy_63 : decode cX7_copy 63 = .ok (.ifCond .lt 48, 3) := by decide +kernel
theorem dX7_copy_66 : decode cX7_copy 66 = .ok (.iload 4, 2) := by decide +kernel
theorem dX7_copy_68 : decode cX7_copy 68 = .ok (.ifCond .lt 43, 3) := by decide +kernel
theorem dX7_copy_71 : decode cX7_copy 71 = .ok (.iload 5, 2) := by decide +kernel
theorem dX7_copy_73 : decode cX7_copy 73 = .ok (.ifCond .lt 38, 3) := by decide +kernel
theorem dX7_copy_76 : decode cX7_copy 76 = .ok (.iload_n 2, 1) := by decide +kernel
theorem dX7_copy_77 : decode cX7_copy 77 = .ok (.i2l, 1) := by decide +kernel
theorem dX7_copy_78 : decode cX7_copy 78 = .ok (.iload 5, 2) := by decide +kernel
theorem dX7_copy_80 : decode cX7_copy 80 = .ok (.i2l, 1) := by decide +kernel
theorem dX7_copy_81 : decode cX7_copy 81 = .ok (.ladd, 1) := by decide +kernel
theorem dX7_copy_82 : decode cX7_copy 82 = .ok (.aload_n 0, 1) := by decide +kernel
theorem dX7_copy_83 : decode cX7_copy 83 = .ok (.getfield 59, 3) := by decide +kernel
theorem dX7_copy_86 : decode cX7_copy 86 = .ok (.iload_n 1, 1) := by decide +kernel
theorem dX7_copy_87 : decode cX7_copy 87 = .ok (.iaload, 1) := by decide +kernel
theorem dX7_copy_88 : decode cX7_copy 88 = .ok (.i2l, 1) := by decide +kernel
theorem dX7_copy_89 : decode cX7_copy 89 = .ok (.lcmp, 1) := by decide +kernel
theorem dX7_copy_90 : decode cX7_copy 90 = .ok (.ifCond .gt 21, 3) := by decide +kernel
theorem dX7_copy_93 : decode cX7_copy 93 = .ok (.iload 4, 2) := by decide +kernel
theorem dX7_copy_95 : decode cX7_copy 95 = .ok (.i2l, 1) := by decide +kernel
theorem dX7_copy_96 : decode cX7_copy 96 = .ok (.iload 5, 2) := by decide +kernel
theorem dX7_copy_98 : decode cX7_copy 98 = .ok (.i2l, 1) := by decide +kernel
theorem dX7_copy_99 : decode cX7_copy 99 = .ok (.ladd, 1) := by decide +kernel
theorem dX7_copy_100 : decode cX7_copy 100 = .ok (.aload_n 0, 1) := by decide +kernel
theorem dX7_copy_101 : decode cX7_copy 101 = .ok (.getfield 59, 3) := by decide +kernel
theorem dX7_copy_104 : decode cX7_copy 104 = .ok (.iload_n 3, 1) := by decide +kernel
theorem dX7_copy_105 : decode cX7_copy 105 = .ok (.iaload, 1) := by decide +kernel
theorem dX7_copy_106 : decode cX7_copy 106 = .ok (.i2l, 1) := by decide +kernel
theorem dX7_copy_107 : decode cX7_copy 107 = .ok (.lcmp, 1) := by decide +kernel
theorem dX7_copy_108 : decode cX7_copy 108 = .ok (.ifCond .le 9, 3) := by decide +kernel
theorem dX7_copy_111 : decode cX7_copy 111 = .ok (.aload_n 0, 1) := by decide +kernel
theorem dX7_copy_112 : decode cX7_copy 112 = .ok (.iconst 2, 1) := by decide +kernel
theorem dX7_copy_113 : decode cX7_copy 113 = .ok (.invokevirtual 103, 3) := by decide +kernel
theorem dX7_copy_116 : decode cX7_copy 116 = .ok (.ireturn, 1) := by decide +kernel
theorem dX7_copy_117 : decode cX7_copy 117 = .ok (.iconst 0, 1) := by decide +kernel
theorem dX7_copy_118 : decode cX7_copy 118 = .ok (.istore 6, 2) := by decide +kernel
theorem dX7_copy_120 : decode cX7_copy 120 = .ok (.iload 6, 2) := by decide +kernel
theorem dX7_copy_122 : decode cX7_copy 122 = .ok (.iload 5, 2) := by decide +kernel
theorem dX7_copy_124 : decode cX7_copy 124 = .ok (.if_icmp .ge 30, 3) := by decide +kernel
theorem dX7_copy_127 : decode cX7_copy 127 = .ok (.aload_n 0, 1) := by decide +kernel
theorem dX7_copy_128 : decode cX7_copy 128 = .ok (.getfield 65, 3) := by decide +kernel
theorem dX7_copy_131 : decode cX7_copy 131 = .ok (.iload 6, 2) := by decide +kernel
theorem dX7_copy_133 : decode cX7_copy 133 = .ok (.aload_n 0, 1) := by decide +kernel
theorem dX7_copy_134 : decode cX7_copy 134 = .ok (.getfield 62, 3) := by decide +kernel
theorem dX7_copy_137 : decode cX7_copy 137 = .ok (.bipush 60, 2) := by decide +kernel
theorem dX7_copy_139 : decode cX7_copy 139 = .ok (.iload_n 1, 1) := by decide +kernel
theorem dX7_copy_140 : decode cX7_copy 140 = .ok (.imul, 1) := by decide +kernel
theorem dX7_copy_141 : decode cX7_copy 141 = .ok (.iload_n 2, 1) := by decide +kernel
theorem dX7_copy_142 : decode cX7_copy 142 = .ok (.iadd, 1) := by decide +kernel
theorem dX7_copy_143 : decode cX7_copy 143 = .ok (.iload 6, 2) := by decide +kernel
theorem dX7_copy_145 : decode cX7_copy 145 = .ok (.iadd, 1) := by decide +kernel
theorem dX7_copy_146 : decode cX7_copy 146 = .ok (.iaload, 1) := by decide +kernel
theorem dX7_copy_147 : decode cX7_copy 147 = .ok (.iastore, 1) := by decide +kernel
theorem dX7_copy_148 : decode cX7_copy 148 = .ok (.iinc 6 1, 3) := by decide +kernel
theorem dX7_copy_151 : decode cX7_copy 151 = .ok (.goto (-31), 3) := by decide +kernel
theorem dX7_copy_154 : decode cX7_copy 154 = .ok (.iconst 0, 1) := by decide +kernel
theorem dX7_copy_155 : decode cX7_copy 155 = .ok (.istore 6, 2) := by decide +kernel
theorem dX7_copy_157 : decode cX7_copy 157 = .ok (.iload 6, 2) := by decide +kernel
theorem dX7_copy_159 : decode cX7_copy 159 = .ok (.iload 5, 2) := by decide +kernel
theorem dX7_copy_161 : decode cX7_copy 161 = .ok (.if_icmp .ge 31, 3) := by decide +kernel
theorem dX7_copy_164 : decode cX7_copy 164 = .ok (.aload_n 0, 1) := by decide +kernel
theorem dX7_copy_165 : decode cX7_copy 165 = .ok (.getfield 62, 3) := by decide +kernel
theorem dX7_copy_168 : decode cX7_copy 168 = .ok (.bipush 60, 2) := by decide +kernel
theorem dX7_copy_170 : decode cX7_copy 170 = .ok (.iload_n 3, 1) := by decide +kernel
theorem dX7_copy_171 : decode cX7_copy 171 = .ok (.imul, 1) := by decide +kernel
theorem dX7_copy_172 : decode cX7_copy 172 = .ok (.iload 4, 2) := by decide +kernel
theorem dX7_copy_174 : decode cX7_copy 174 = .ok (.iadd, 1) := by decide +kernel
theorem dX7_copy_175 : decode cX7_copy 175 = .ok (.iload 6, 2) := by decide +kernel
theorem dX7_copy_177 : decode cX7_copy 177 = .ok (.iadd, 1) := by decide +kernel
theorem dX7_copy_178 : decode cX7_copy 178 = .ok (.aload_n 0, 1) := by decide +kernel
theorem dX7_copy_179 : decode cX7_copy 179 = .ok (.getfield 65, 3) := by decide +kernel
theorem dX7_copy_182 : decode cX7_copy 182 = .ok (.iload 6, 2) := by decide +kernel
theorem dX7_copy_184 : decode cX7_copy 184 = .ok (.iaload, 1) := by decide +kernel
theorem dX7_copy_185 : decode cX7_copy 185 = .ok (.iastore, 1) := by decide +kernel
theorem dX7_copy_186 : decode cX7_copy 186 = .ok (.iinc 6 1, 3) := by decide +kernel
theorem dX7_copy_189 : decode cX7_copy 189 = .ok (.goto (-32), 3) := by decide +kernel
theorem dX7_copy_192 : decode cX7_copy 192 = .ok (.iconst 1, 1) := by decide +kernel
theorem dX7_copy_193 : decode cX7_copy 193 = .ok (.ireturn, 1) := by decide +kernel
theorem dX7_write_0 : decode cX7_write 0 = .ok (.iload_n 1, 1) := by decide +kernel
theorem dX7_write_1 : decode cX7_write 1 = .ok (.invokestatic 82, 3) := by decide +kernel
theorem dX7_write_4 : decode cX7_write 4 = .ok (.ifCond .eq 10, 3) := by decide +kernel
theorem dX7_write_7 : decode cX7_write 7 = .ok (.iload_n 2, 1) := by decide +kernel
theorem dX7_write_8 : decode cX7_write 8 = .ok (.invokestatic 100, 3) := by decide +kernel
theorem dX7_write_11 : decode cX7_write 11 = .ok (.ifCond .ne 6, 3) := by decide +kernel
theorem dX7_write_14 : decode cX7_write 14 = .ok (.bipush (-2), 2) := by decide +kernel
theorem dX7_write_16 : decode cX7_write 16 = .ok (.ireturn, 1) := by decide +kernel
theorem dX7_write_17 : decode cX7_write 17 = .ok (.aload_n 0, 1) := by decide +kernel
theorem dX7_write_18 : decode cX7_write 18 = .ok (.getfield 52, 3) := by decide +kernel
theorem dX7_write_21 : decode cX7_write 21 = .ok (.iload_n 2, 1) := by decide +kernel
theorem dX7_write_22 : decode cX7_write 22 = .ok (.baload, 1) := by decide +kernel
theorem dX7_write_23 : decode cX7_write 23 = .ok (.ifCond .ne 9, 3) := by decide +kernel
theorem dX7_write_26 : decode cX7_write 26 = .ok (.aload_n 0, 1) := by decide +kernel
theorem dX7_write_27 : decode cX7_write 27 = .ok (.iconst 1, 1) := by decide +kernel
theorem dX7_write_28 : decode cX7_write 28 = .ok (.invokevirtual 103, 3) := by decide +kernel
theorem dX7_write_31 : decode cX7_write 31 = .ok (.ireturn, 1) := by decide +kernel
theorem dX7_write_32 : decode cX7_write 32 = .ok (.iconst 2, 1) := by decide +kernel
theorem dX7_write_33 : decode cX7_write 33 = .ok (.aload_n 0, 1) := by decide +kernel
theorem dX7_write_34 : decode cX7_write 34 = .ok (.iload_n 1, 1) := by decide +kernel
theorem dX7_write_35 : decode cX7_write 35 = .ok (.invokevirtual 172, 3) := by decide +kernel
theorem dX7_write_38 : decode cX7_write 38 = .ok (.imul, 1) := by decide +kernel
theorem dX7_write_39 : decode cX7_write 39 = .ok (.istore_n 3, 1) := by decide +kernel
theorem dX7_write_40 : decode cX7_write 40 = .ok (.iconst 0, 1) := by decide +kernel
theorem dX7_write_41 : decode cX7_write 41 = .ok (.istore 4, 2) := by decide +kernel
theorem dX7_write_43 : decode cX7_write 43 = .ok (.iload 4, 2) := by decide +kernel
theorem dX7_write_45 : decode cX7_write 45 = .ok (.aload_n 0, 1) := by decide +kernel
theorem dX7_write_46 : decode cX7_write 46 = .ok (.getfield 59, 3) := by decide +kernel
theorem dX7_write_49 : decode cX7_write 49 = .ok (.iload_n 2, 1) := by decide +kernel
theorem dX7_write_50 : decode cX7_write 50 = .ok (.iaload, 1) := by decide +kernel
theorem dX7_write_51 : decode cX7_write 51 = .ok (.if_icmp .ge 60, 3) := by decide +kernel
theorem dX7_write_54 : decode cX7_write 54 = .ok (.iload 4, 2) := by decide +kernel
theorem dX7_write_56 : decode cX7_write 56 = .ok (.iload_n 3, 1) := by decide +kernel
theorem dX7_write_57 : decode cX7_write 57 = .ok (.if_icmp .ge 54, 3) := by decide +kernel
theorem dX7_write_60 : decode cX7_write 60 = .ok (.aload_n 0, 1) := by decide +kernel
theorem dX7_write_61 : decode cX7_write 61 = .ok (.iload_n 2, 1) := by decide +kernel
theorem dX7_write_62 : decode cX7_write 62 = .ok (.iload 4, 2) := by decide +kernel
theorem dX7_write_64 : decode cX7_write 64 = .ok (.iload 4, 2) := by decide +kernel
theorem dX7_write_66 : decode cX7_write 66 = .ok (.iconst 2, 1) := by decide +kernel
theorem dX7_write_67 : decode cX7_write 67 = .ok (.irem, 1) := by decide +kernel
theorem dX7_write_68 : decode cX7_write 68 = .ok (.ifCond .ne 20, 3) := by decide +kernel
theorem dX7_write_71 : decode cX7_write 71 = .ok (.aload_n 0, 1) := by decide +kernel
theorem dX7_write_72 : decode cX7_write 72 = .ok (.getfield 40, 3) := by decide +kernel
theorem dX7_write_75 : decode cX7_write 75 = .ok (.bipush 8, 2) := by decide +kernel
theorem dX7_write_77 : decode cX7_write 77 = .ok (.iload_n 1, 1) := by decide +kernel
theorem dX7_write_78 : decode cX7_write 78 = .ok (.imul, 1) := by decide +kernel
theorem dX7_write_79 : decode cX7_write 79 = .ok (.iload 4, 2) := by decide +kernel
theorem dX7_write_81 : decode cX7_write 81 = .ok (.iconst 2, 1) := by decide +kernel
theorem dX7_write_82 : decode cX7_write 82 = .ok (.idiv, 1) := by decide +kernel
theorem dX7_write_83 : decode cX7_write 83 = .ok (.iadd, 1) := by decide +kernel
theorem dX7_write_84 : decode cX7_write 84 = .ok (.iaload, 1) := by decide +kernel
theorem dX7_write_85 : decode cX7_write 85 = .ok (.goto 17, 3) := by decide +kernel
theorem dX7_write_88 : decode cX7_write 88 = .ok (.aload_n 0, 1) := by decide +kernel
theorem dX7_write_89 : decode cX7_write 89 = .ok (.getfield 43, 3) := by decide +kernel
theorem dX7_write_92 : decode cX7_write 92 = .ok (.bipush 8, 2) := by decide +kernel
theorem dX7_write_94 : decode cX7_write 94 = .ok (.iload_n 1, 1) := by decide +kernel
theorem dX7_write_95 : decode cX7_write 95 = .ok (.imul, 1) := by decide +kernel
theorem dX7_write_96 : decode cX7_write 96 = .ok (.iload 4, 2) := by decide +kernel
theorem dX7_write_98 : decode cX7_write 98 = .ok (.iconst 2, 1) := by decide +kernel
theorem dX7_write_99 : decode cX7_write 99 = .ok (.idiv, 1) := by decide +kernel
theorem dX7_write_100 : decode cX7_write 100 = .ok (.iadd, 1) := by decide +kernel
theorem dX7_write_101 : decode cX7_write 101 = .ok (.iaload, 1) := by decide +kernel
theorem dX7_write_102 : decode cX7_write 102 = .ok (.invokevirtual 234, 3) := by decide +kernel
theorem dX7_write_105 : decode cX7_write 105 = .ok (.iinc 4 1, 3) := by decide +kernel
theorem dX7_write_108 : decode cX7_write 108 = .ok (.goto (-65), 3) := by decide +kernel
theorem dX7_write_111 : decode cX7_write 111 = .ok (.iload 4, 2) := by decide +kernel
theorem dX7_write_113 : decode cX7_write 113 = .ok (.ireturn, 1) := by decide +kernel
theorem dX7_keptOf_0 : decode cX7_keptOf 0 = .ok (.aload_n 0, 1) := by decide +kernel
theorem dX7_keptOf_1 : decode cX7_keptOf 1 = .ok (.invokevirtual 206, 3) := by decide +kernel
theorem dX7_keptOf_4 : decode cX7_keptOf 4 = .ok (.iconst 0, 1) := by decide +kernel
theorem dX7_keptOf_5 : decode cX7_keptOf 5 = .ok (.istore_n 1, 1) := by decide +kernel
theorem dX7_keptOf_6 : decode cX7_keptOf 6 = .ok (.iconst 0, 1) := by decide +kernel
theorem dX7_keptOf_7 : decode cX7_keptOf 7 = .ok (.istore_n 2, 1) := by decide +kernel
theorem dX7_keptOf_8 : decode cX7_keptOf 8 = .ok (.iload_n 2, 1) := by decide +kernel
theorem dX7_keptOf_9 : decode cX7_keptOf 9 = .ok (.aload_n 0, 1) := by decide +kernel
theorem dX7_keptOf_10 : decode cX7_keptOf 10 = .ok (.getfield 7, 3) := by decide +kernel
theorem dX7_keptOf_13 : decode cX7_keptOf 13 = .ok (.iconst 1, 1) := by decide +kernel
theorem dX7_keptOf_14 : decode cX7_keptOf 14 = .ok (.iaload, 1) := by decide +kernel
theorem dX7_keptOf_15 : decode cX7_keptOf 15 = .ok (.if_icmp .ge 26, 3) := by decide +kernel
theorem dX7_keptOf_18 : decode cX7_keptOf 18 = .ok (.iload_n 1, 1) := by decide +kernel
theorem dX7_keptOf_19 : decode cX7_keptOf 19 = .ok (.aload_n 0, 1) := by decide +kernel
theorem dX7_keptOf_20 : decode cX7_keptOf 20 = .ok (.iload_n 2, 1) := by decide +kernel
theorem dX7_keptOf_21 : decode cX7_keptOf 21 = .ok (.invokevirtual 209, 3) := by decide +kernel
theorem dX7_keptOf_24 : decode cX7_keptOf 24 = .ok (.iconst 1, 1) := by decide +kernel
theorem dX7_keptOf_25 : decode cX7_keptOf 25 = .ok (.if_icmp .ne 7, 3) := by decide +kernel
theorem dX7_keptOf_28 : decode cX7_keptOf 28 = .ok (.iconst 1, 1) := by decide +kernel
theorem dX7_keptOf_29 : decode cX7_keptOf 29 = .ok (.goto 4, 3) := by decide +kernel
theorem dX7_keptOf_32 : decode cX7_keptOf 32 = .ok (.iconst 0, 1) := by decide +kernel
theorem dX7_keptOf_33 : decode cX7_keptOf 33 = .ok (.iadd, 1) := by decide +kernel
theorem dX7_keptOf_34 : decode cX7_keptOf 34 = .ok (.istore_n 1, 1) := by decide +kernel
theorem dX7_keptOf_35 : decode cX7_keptOf 35 = .ok (.iinc 2 1, 3) := by decide +kernel
theorem dX7_keptOf_38 : decode cX7_keptOf 38 = .ok (.goto (-30), 3) := by decide +kernel
theorem dX7_keptOf_41 : decode cX7_keptOf 41 = .ok (.iload_n 1, 1) := by decide +kernel
theorem dX7_keptOf_42 : decode cX7_keptOf 42 = .ok (.ireturn, 1) := by decide +kernel
theorem dX7_count_0 : decode cX7_count 0 = .ok (.iload_n 1, 1) := by decide +kernel
theorem dX7_count_1 : decode cX7_count 1 = .ok (.tableswitch 96 0 8 #[51, 51, 58, 58, 67, 73, 78, 85, 91], 51) := by decide +kernel
theorem dX7_count_52 : decode cX7_count 52 = .ok (.aload_n 0, 1) := by decide +kernel
theorem dX7_count_53 : decode cX7_count 53 = .ok (.getfield 7, 3) := by decide +kernel
theorem dX7_count_56 : decode cX7_count 56 = .ok (.iload_n 1, 1) := by decide +kernel
theorem dX7_count_57 : decode cX7_count 57 = .ok (.iaload, 1) := by decide +kernel
theorem dX7_count_58 : decode cX7_count 58 = .ok (.ireturn, 1) := by decide +kernel
theorem dX7_count_59 : decode cX7_count 59 = .ok (.aload_n 0, 1) := by decide +kernel
theorem dX7_count_60 : decode cX7_count 60 = .ok (.iload_n 1, 1) := by decide +kernel
theorem dX7_count_61 : decode cX7_count 61 = .ok (.iconst 2, 1) := by decide +kernel
theorem dX7_count_62 : decode cX7_count 62 = .ok (.isub, 1) := by decide +kernel
theorem dX7_count_63 : decode cX7_count 63 = .ok (.iconst 1, 1) := by decide +kernel
theorem dX7_count_64 : decode cX7_count 64 = .ok (.invokevirtual 193, 3) := by decide +kernel
theorem dX7_count_67 : decode cX7_count 67 = .ok (.ireturn, 1) := by decide +kernel
theorem dX7_count_68 : decode cX7_count 68 = .ok (.aload_n 0, 1) := by decide +kernel
theorem dX7_count_69 : decode cX7_count 69 = .ok (.iconst 1, 1) := by decide +kernel
theorem dX7_count_70 : decode cX7_count 70 = .ok (.invokevirtual 172, 3) := by decide +kernel
theorem dX7_count_73 : decode cX7_count 73 = .ok (.ireturn, 1) := by decide +kernel
theorem dX7_count_74 : decode cX7_count 74 = .ok (.aload_n 0, 1) := by decide +kernel
theorem dX7_count_75 : decode cX7_count 75 = .ok (.invokevirtual 239, 3) := by decide +kernel
theorem dX7_count_78 : decode cX7_count 78 = .ok (.ireturn, 1) := by decide +kernel
theorem dX7_count_79 : decode cX7_count 79 = .ok (.aload_n 0, 1) := by decide +kernel
theorem dX7_count_80 : decode cX7_count 80 = .ok (.getfield 28, 3) := by decide +kernel
theorem dX7_count_83 : decode cX7_count 83 = .ok (.iconst 0, 1) := by decide +kernel
theorem dX7_count_84 : decode cX7_count 84 = .ok (.iaload, 1) := by decide +kernel
theorem dX7_count_85 : decode cX7_count 85 = .ok (.ireturn, 1) := by decide +kernel
theorem dX7_count_86 : decode cX7_count 86 = .ok (.aload_n 0, 1) := by decide +kernel
theorem dX7_count_87 : decode cX7_count 87 = .ok (.iconst (-1), 1) := by decide +kernel
theorem dX7_count_88 : decode cX7_count 88 = .ok (.invokevirtual 222, 3) := by decide +kernel
theorem dX7_count_91 : decode cX7_count 91 = .ok (.ireturn, 1) := by decide +kernel
theorem dX7_count_92 : decode cX7_count 92 = .ok (.aload_n 0, 1) := by decide +kernel
theorem dX7_count_93 : decode cX7_count 93 = .ok (.getfield 228, 3) := by decide +kernel
theorem dX7_count_96 : decode cX7_count 96 = .ok (.ireturn, 1) := by decide +kernel
theorem dX7_count_97 : decode cX7_count 97 = .ok (.bipush (-2), 2) := by decide +kernel
theorem dX7_count_99 : decode cX7_count 99 = .ok (.ireturn, 1) := by decide +kernel
theorem dX7_listDigest_0 : decode cX7_listDigest 0 = .ok (.lload_n 1, 1) := by decide +kernel
theorem dX7_listDigest_1 : decode cX7_listDigest 1 = .ok (.lstore 4, 2) := by decide +kernel
theorem dX7_listDigest_3 : decode cX7_listDigest 3 = .ok (.iconst 0, 1) := by decide +kernel
theorem dX7_listDigest_4 : decode cX7_listDigest 4 = .ok (.istore 6, 2) := by decide +kernel
theorem dX7_listDigest_6 : decode cX7_listDigest 6 = .ok (.iload 6, 2) := by decide +kernel
theorem dX7_listDigest_8 : decode cX7_listDigest 8 = .ok (.aload_n 0, 1) := by decide +kernel
theorem dX7_listDigest_9 : decode cX7_listDigest 9 = .ok (.getfield 7, 3) := by decide +kernel
theorem dX7_listDigest_12 : decode cX7_listDigest 12 = .ok (.iload_n 3, 1) := by decide +kernel
theorem dX7_listDigest_13 : decode cX7_listDigest 13 = .ok (.iaload, 1) := by decide +kernel
theorem dX7_listDigest_14 : decode cX7_listDigest 14 = .ok (.if_icmp .ge 88, 3) := by decide +kernel
theorem dX7_listDigest_17 : decode cX7_listDigest 17 = .ok (.iconst 0, 1) := by decide +kernel
theorem dX7_listDigest_18 : decode cX7_listDigest 18 = .ok (.istore 7, 2) := by decide +kernel
theorem dX7_listDigest_20 : decode cX7_listDigest 20 = .ok (.iload 7, 2) := by decide +kernel
theorem dX7_listDigest_22 : decode cX7_listDigest 22 = .ok (.bipush 8, 2) := by decide +kernel
theorem dX7_listDigest_24 : decode cX7_listDigest 24 = .ok (.if_icmp .ge 28, 3) := by decide +kernel
theorem dX7_listDigest_27 : decode cX7_listDigest 27 = .ok (.ldc2_w 242, 3) := by decide +kernel
theorem dX7_listDigest_30 : decode cX7_listDigest 30 = .ok (.lload 4, 2) := by decide +kernel
theorem dX7_listDigest_32 : decode cX7_listDigest 32 = .ok (.lmul, 1) := by decide +kernel
theorem dX7_listDigest_33 : decode cX7_listDigest 33 = .ok (.aload_n 0, 1) := by decide +kernel
theorem dX7_listDigest_34 : decode cX7_listDigest 34 = .ok (.iload_n 3, 1) := by decide +kernel
theorem dX7_listDigest_35 : decode cX7_listDigest 35 = .ok (.iload 6, 2) := by decide +kernel
theorem dX7_listDigest_37 : decode cX7_listDigest 37 = .ok (.iload 7, 2) := by decide +kernel
theorem dX7_listDigest_39 : decode cX7_listDigest 39 = .ok (.invokevirtual 117, 3) := by decide +kernel
theorem dX7_listDigest_42 : decode cX7_listDigest 42 = .ok (.i2l, 1) := by decide +kernel
theorem dX7_listDigest_43 : decode cX7_listDigest 43 = .ok (.ladd, 1) := by decide +kernel
theorem dX7_listDigest_44 : decode cX7_listDigest 44 = .ok (.lstore 4, 2) := by decide +kernel
theorem dX7_listDigest_46 : decode cX7_listDigest 46 = .ok (.iinc 7 1, 3) := by decide +kernel
theorem dX7_listDigest_49 : decode cX7_listDigest 49 = .ok (.goto (-29), 3) := by decide +kernel
theorem dX7_listDigest_52 : decode cX7_listDigest 52 = .ok (.ldc2_w 242, 3) := by decide +kernel
theorem dX7_listDigest_55 : decode cX7_listDigest 55 = .ok (.lload 4, 2) := by decide +kernel
theorem dX7_listDigest_57 : decode cX7_listDigest 57 = .ok (.lmul, 1) := by decide +kernel
theorem dX7_listDigest_58 : decode cX7_listDigest 58 = .ok (.aload_n 0, 1) := by decide +kernel
theorem dX7_listDigest_59 : decode cX7_listDigest 59 = .ok (.bipush 8, 2) := by decide +kernel
theorem dX7_listDigest_61 : decode cX7_listDigest 61 = .ok (.iload_n 3, 1) := by decide +kernel
theorem dX7_listDigest_62 : decode cX7_listDigest 62 = .ok (.imul, 1) := by decide +kernel
theorem dX7_listDigest_63 : decode cX7_listDigest 63 = .ok (.iload 6, 2) := by decide +kernel
theorem dX7_listDigest_65 : decode cX7_listDigest 65 = .ok (.iadd, 1) := by decide +kernel
theorem dX7_listDigest_66 : decode cX7_listDigest 66 = .ok (.iconst 0, 1) := by decide +kernel
theorem dX7_listDigest_67 : decode cX7_listDigest 67 = .ok (.invokevirtual 129, 3) := by decide +kernel
theorem dX7_listDigest_70 : decode cX7_listDigest 70 = .ok (.i2l, 1) := by decide +kernel
theorem dX7_listDigest_71 : decode cX7_listDigest 71 = .ok (.ladd, 1) := by decide +kernel
theorem dX7_listDigest_72 : decode cX7_listDigest 72 = .ok (.lstore 4, 2) := by decide +kernel
theorem dX7_listDigest_74 : decode cX7_listDigest 74 = .ok (.ldc2_w 242, 3) := by decide +kernel
theorem dX7_listDigest_77 : decode cX7_listDigest 77 = .ok (.lload 4, 2) := by decide +kernel
theorem dX7_listDigest_79 : decode cX7_listDigest 79 = .ok (.lmul, 1) := by decide +kernel
theorem dX7_listDigest_80 : decode cX7_listDigest 80 = .ok (.aload_n 0, 1) := by decide +kernel
theorem dX7_listDigest_81 : decode cX7_listDigest 81 = .ok (.bipush 8, 2) := by decide +kernel
theorem dX7_listDigest_83 : decode cX7_listDigest 83 = .ok (.iload_n 3, 1) := by decide +kernel
theorem dX7_listDigest_84 : decode cX7_listDigest 84 = .ok (.imul, 1) := by decide +kernel
theorem dX7_listDigest_85 : decode cX7_listDigest 85 = .ok (.iload 6, 2) := by decide +kernel
theorem dX7_listDigest_87 : decode cX7_listDigest 87 = .ok (.iadd, 1) := by decide +kernel
theorem dX7_listDigest_88 : decode cX7_listDigest 88 = .ok (.iconst 1, 1) := by decide +kernel
theorem dX7_listDigest_89 : decode cX7_listDigest 89 = .ok (.invokevirtual 129, 3) := by decide +kernel
theorem dX7_listDigest_92 : decode cX7_listDigest 92 = .ok (.i2l, 1) := by decide +kernel
theorem dX7_listDigest_93 : decode cX7_listDigest 93 = .ok (.ladd, 1) := by decide +kernel
theorem dX7_listDigest_94 : decode cX7_listDigest 94 = .ok (.lstore 4, 2) := by decide +kernel
theorem dX7_listDigest_96 : decode cX7_listDigest 96 = .ok (.iinc 6 1, 3) := by decide +kernel
theorem dX7_listDigest_99 : decode cX7_listDigest 99 = .ok (.goto (-93), 3) := by decide +kernel
theorem dX7_listDigest_102 : decode cX7_listDigest 102 = .ok (.iconst 0, 1) := by decide +kernel
theorem dX7_listDigest_103 : decode cX7_listDigest 103 = .ok (.istore 6, 2) := by decide +kernel
theorem dX7_listDigest_105 : decode cX7_listDigest 105 = .ok (.iload 6, 2) := by decide +kernel
theorem dX7_listDigest_107 : decode cX7_listDigest 107 = .ok (.bipush 8, 2) := by decide +kernel
theorem dX7_listDigest_109 : decode cX7_listDigest 109 = .ok (.if_icmp .ge 43, 3) := by decide +kernel
theorem dX7_listDigest_112 : decode cX7_listDigest 112 = .ok (.iconst 0, 1) := by decide +kernel
theorem dX7_listDigest_113 : decode cX7_listDigest 113 = .ok (.istore 7, 2) := by decide +kernel
theorem dX7_listDigest_115 : decode cX7_listDigest 115 = .ok (.iload 7, 2) := by decide +kernel
theorem dX7_listDigest_117 : decode cX7_listDigest 117 = .ok (.iconst 5, 1) := by decide +kernel
theorem dX7_listDigest_118 : decode cX7_listDigest 118 = .ok (.if_icmp .ge 28, 3) := by decide +kernel
theorem dX7_listDigest_121 : decode cX7_listDigest 121 = .ok (.ldc2_w 242, 3) := by decide +kernel
theorem dX7_listDigest_124 : decode cX7_listDigest 124 = .ok (.lload 4, 2) := by decide +kernel
theorem dX7_listDigest_126 : decode cX7_listDigest 126 = .ok (.lmul, 1) := by decide +kernel
theorem dX7_listDigest_127 : decode cX7_listDigest 127 = .ok (.aload_n 0, 1) := by decide +kernel
theorem dX7_listDigest_128 : decode cX7_listDigest 128 = .ok (.iload_n 3, 1) := by decide +kernel
theorem dX7_listDigest_129 : decode cX7_listDigest 129 = .ok (.iload 6, 2) := by decide +kernel
theorem dX7_listDigest_131 : decode cX7_listDigest 131 = .ok (.iload 7, 2) := by decide +kernel
theorem dX7_listDigest_133 : decode cX7_listDigest 133 = .ok (.invokevirtual 178, 3) := by decide +kernel
theorem dX7_listDigest_136 : decode cX7_listDigest 136 = .ok (.i2l, 1) := by decide +kernel
theorem dX7_listDigest_137 : decode cX7_listDigest 137 = .ok (.ladd, 1) := by decide +kernel
theorem dX7_listDigest_138 : decode cX7_listDigest 138 = .ok (.lstore 4, 2) := by decide +kernel
theorem dX7_listDigest_140 : decode cX7_listDigest 140 = .ok (.iinc 7 1, 3) := by decide +kernel
theorem dX7_listDigest_143 : decode cX7_listDigest 143 = .ok (.goto (-28), 3) := by decide +kernel
theorem dX7_listDigest_146 : decode cX7_listDigest 146 = .ok (.iinc 6 1, 3) := by decide +kernel
theorem dX7_listDigest_149 : decode cX7_listDigest 149 = .ok (.goto (-44), 3) := by decide +kernel
theorem dX7_listDigest_152 : decode cX7_listDigest 152 = .ok (.ldc2_w 242, 3) := by decide +kernel
theorem dX7_listDigest_155 : decode cX7_listDigest 155 = .ok (.lload 4, 2) := by decide +kernel
theorem dX7_listDigest_157 : decode cX7_listDigest 157 = .ok (.lmul, 1) := by decide +kernel
theorem dX7_listDigest_158 : decode cX7_listDigest 158 = .ok (.aload_n 0, 1) := by decide +kernel
theorem dX7_listDigest_159 : decode cX7_listDigest 159 = .ok (.iload_n 3, 1) := by decide +kernel
theorem dX7_listDigest_160 : decode cX7_listDigest 160 = .ok (.invokevirtual 190, 3) := by decide +kernel
theorem dX7_listDigest_163 : decode cX7_listDigest 163 = .ok (.i2l, 1) := by decide +kernel
theorem dX7_listDigest_164 : decode cX7_listDigest 164 = .ok (.ladd, 1) := by decide +kernel
theorem dX7_listDigest_165 : decode cX7_listDigest 165 = .ok (.lstore 4, 2) := by decide +kernel
theorem dX7_listDigest_167 : decode cX7_listDigest 167 = .ok (.iconst 0, 1) := by decide +kernel
theorem dX7_listDigest_168 : decode cX7_listDigest 168 = .ok (.istore 6, 2) := by decide +kernel
theorem dX7_listDigest_170 : decode cX7_listDigest 170 = .ok (.iload 6, 2) := by decide +kernel
theorem dX7_listDigest_172 : decode cX7_listDigest 172 = .ok (.iconst 3, 1) := by decide +kernel
theorem dX7_listDigest_173 : decode cX7_listDigest 173 = .ok (.if_icmp .ge 26, 3) := by decide +kernel
theorem dX7_listDigest_176 : decode cX7_listDigest 176 = .ok (.ldc2_w 242, 3) := by decide +kernel
theorem dX7_listDigest_179 : decode cX7_listDigest 179 = .ok (.lload 4, 2) := by decide +kernel
theorem dX7_listDigest_181 : decode cX7_listDigest 181 = .ok (.lmul, 1) := by decide +kernel
theorem dX7_listDigest_182 : decode cX7_listDigest 182 = .ok (.aload_n 0, 1) := by decide +kernel
theorem dX7_listDigest_183 : decode cX7_listDigest 183 = .ok (.iload_n 3, 1) := by decide +kernel
theorem dX7_listDigest_184 : decode cX7_listDigest 184 = .ok (.iload 6, 2) := by decide +kernel
theorem dX7_listDigest_186 : decode cX7_listDigest 186 = .ok (.invokevirtual 193, 3) := by decide +kernel
theorem dX7_listDigest_189 : decode cX7_listDigest 189 = .ok (.i2l, 1) := by decide +kernel
theorem dX7_listDigest_190 : decode cX7_listDigest 190 = .ok (.ladd, 1) := by decide +kernel
theorem dX7_listDigest_191 : decode cX7_listDigest 191 = .ok (.lstore 4, 2) := by decide +kernel
theorem dX7_listDigest_193 : decode cX7_listDigest 193 = .ok (.iinc 6 1, 3) := by decide +kernel
theorem dX7_listDigest_196 : decode cX7_listDigest 196 = .ok (.goto (-26), 3) := by decide +kernel
theorem dX7_listDigest_199 : decode cX7_listDigest 199 = .ok (.iconst 0, 1) := by decide +kernel
theorem dX7_listDigest_200 : decode cX7_listDigest 200 = .ok (.istore 6, 2) := by decide +kernel
theorem dX7_listDigest_202 : decode cX7_listDigest 202 = .ok (.iload 6, 2) := by decide +kernel
theorem dX7_listDigest_204 : decode cX7_listDigest 204 = .ok (.iconst 4, 1) := by decide +kernel
theorem dX7_listDigest_205 : decode cX7_listDigest 205 = .ok (.if_icmp .ge 28, 3) := by decide +kernel
theorem dX7_listDigest_208 : decode cX7_listDigest 208 = .ok (.ldc2_w 242, 3) := by decide +kernel
theorem dX7_listDigest_211 : decode cX7_listDigest 211 = .ok (.lload 4, 2) := by decide +kernel
theorem dX7_listDigest_213 : decode cX7_listDigest 213 = .ok (.lmul, 1) := by decide +kernel
theorem dX7_listDigest_214 : decode cX7_listDigest 214 = .ok (.aload_n 0, 1) := by decide +kernel
theorem dX7_listDigest_215 : decode cX7_listDigest 215 = .ok (.iload_n 3, 1) := by decide +kernel
theorem dX7_listDigest_216 : decode cX7_listDigest 216 = .ok (.bipush 7, 2) := by decide +kernel
theorem dX7_listDigest_218 : decode cX7_listDigest 218 = .ok (.iload 6, 2) := by decide +kernel
theorem dX7_listDigest_220 : decode cX7_listDigest 220 = .ok (.invokevirtual 121, 3) := by decide +kernel
theorem dX7_listDigest_223 : decode cX7_listDigest 223 = .ok (.i2l, 1) := by decide +kernel
theorem dX7_listDigest_224 : decode cX7_listDigest 224 = .ok (.ladd, 1) := by decide +kernel
theorem dX7_listDigest_225 : decode cX7_listDigest 225 = .ok (.lstore 4, 2) := by decide +kernel
theorem dX7_listDigest_227 : decode cX7_listDigest 227 = .ok (.iinc 6 1, 3) := by decide +kernel
theorem dX7_listDigest_230 : decode cX7_listDigest 230 = .ok (.goto (-28), 3) := by decide +kernel
theorem dX7_listDigest_233 : decode cX7_listDigest 233 = .ok (.ldc2_w 242, 3) := by decide +kernel
theorem dX7_listDigest_236 : decode cX7_listDigest 236 = .ok (.lload 4, 2) := by decide +kernel
theorem dX7_listDigest_238 : decode cX7_listDigest 238 = .ok (.lmul, 1) := by decide +kernel
theorem dX7_listDigest_239 : decode cX7_listDigest 239 = .ok (.aload_n 0, 1) := by decide +kernel
theorem dX7_listDigest_240 : decode cX7_listDigest 240 = .ok (.iload_n 3, 1) := by decide +kernel
theorem dX7_listDigest_241 : decode cX7_listDigest 241 = .ok (.iconst 1, 1) := by decide +kernel
theorem dX7_listDigest_242 : decode cX7_listDigest 242 = .ok (.bipush 100, 2) := by decide +kernel
theorem dX7_listDigest_244 : decode cX7_listDigest 244 = .ok (.iconst 0, 1) := by decide +kernel
theorem dX7_listDigest_245 : decode cX7_listDigest 245 = .ok (.invokevirtual 125, 3) := by decide +kernel
theorem dX7_listDigest_248 : decode cX7_listDigest 248 = .ok (.i2l, 1) := by decide +kernel
theorem dX7_listDigest_249 : decode cX7_listDigest 249 = .ok (.ladd, 1) := by decide +kernel
theorem dX7_listDigest_250 : decode cX7_listDigest 250 = .ok (.lstore 4, 2) := by decide +kernel
theorem dX7_listDigest_252 : decode cX7_listDigest 252 = .ok (.ldc2_w 242, 3) := by decide +kernel
theorem dX7_listDigest_255 : decode cX7_listDigest 255 = .ok (.lload 4, 2) := by decide +kernel
theorem dX7_listDigest_257 : decode cX7_listDigest 257 = .ok (.lmul, 1) := by decide +kernel
theorem dX7_listDigest_258 : decode cX7_listDigest 258 = .ok (.aload_n 0, 1) := by decide +kernel
theorem dX7_listDigest_259 : decode cX7_listDigest 259 = .ok (.iload_n 3, 1) := by decide +kernel
theorem dX7_listDigest_260 : decode cX7_listDigest 260 = .ok (.iconst 1, 1) := by decide +kernel
theorem dX7_listDigest_261 : decode cX7_listDigest 261 = .ok (.bipush 100, 2) := by decide +kernel
theorem dX7_listDigest_263 : decode cX7_listDigest 263 = .ok (.iconst 1, 1) := by decide +kernel
theorem dX7_listDigest_264 : decode cX7_listDigest 264 = .ok (.invokevirtual 125, 3) := by decide +kernel
theorem dX7_listDigest_267 : decode cX7_listDigest 267 = .ok (.i2l, 1) := by decide +kernel
theorem dX7_listDigest_268 : decode cX7_listDigest 268 = .ok (.ladd, 1) := by decide +kernel
theorem dX7_listDigest_269 : decode cX7_listDigest 269 = .ok (.lreturn, 1) := by decide +kernel
theorem dX7_toldDigest_0 : decode cX7_toldDigest 0 = .ok (.lload_n 1, 1) := by decide +kernel
theorem dX7_toldDigest_1 : decode cX7_toldDigest 1 = .ok (.lstore 4, 2) := by decide +kernel
theorem dX7_toldDigest_3 : decode cX7_toldDigest 3 = .ok (.iconst 0, 1) := by decide +kernel
theorem dX7_toldDigest_4 : decode cX7_toldDigest 4 = .ok (.istore 6, 2) := by decide +kernel
theorem dX7_toldDigest_6 : decode cX7_toldDigest 6 = .ok (.iload 6, 2) := by decide +kernel
theorem dX7_toldDigest_8 : decode cX7_toldDigest 8 = .ok (.iconst 4, 1) := by decide +kernel
theorem dX7_toldDigest_9 : decode cX7_toldDigest 9 = .ok (.if_icmp .ge 26, 3) := by decide +kernel
theorem dX7_toldDigest_12 : decode cX7_toldDigest 12 = .ok (.ldc2_w 242, 3) := by decide +kernel
theorem dX7_toldDigest_15 : decode cX7_toldDigest 15 = .ok (.lload 4, 2) := by decide +kernel
theorem dX7_toldDigest_17 : decode cX7_toldDigest 17 = .ok (.lmul, 1) := by decide +kernel
theorem dX7_toldDigest_18 : decode cX7_toldDigest 18 = .ok (.aload_n 0, 1) := by decide +kernel
theorem dX7_toldDigest_19 : decode cX7_toldDigest 19 = .ok (.iload_n 3, 1) := by decide +kernel
theorem dX7_toldDigest_20 : decode cX7_toldDigest 20 = .ok (.iload 6, 2) := by decide +kernel
theorem dX7_toldDigest_22 : decode cX7_toldDigest 22 = .ok (.invokevirtual 140, 3) := by decide +kernel
theorem dX7_toldDigest_25 : decode cX7_toldDigest 25 = .ok (.i2l, 1) := by decide +kernel
theorem dX7_toldDigest_26 : decode cX7_toldDigest 26 = .ok (.ladd, 1) := by decide +kernel
theorem dX7_toldDigest_27 : decode cX7_toldDigest 27 = .ok (.lstore 4, 2) := by decide +kernel
theorem dX7_toldDigest_29 : decode cX7_toldDigest 29 = .ok (.iinc 6 1, 3) := by decide +kernel
theorem dX7_toldDigest_32 : decode cX7_toldDigest 32 = .ok (.goto (-26), 3) := by decide +kernel
theorem dX7_toldDigest_35 : decode cX7_toldDigest 35 = .ok (.lload 4, 2) := by decide +kernel
theorem dX7_toldDigest_37 : decode cX7_toldDigest 37 = .ok (.lreturn, 1) := by decide +kernel
theorem dX7_digest_0 : decode cX7_digest 0 = .ok (.ldc2_w 244, 3) := by decide +kernel
theorem dX7_digest_3 : decode cX7_digest 3 = .ok (.lstore_n 1, 1) := by decide +kernel
theorem dX7_digest_4 : decode cX7_digest 4 = .ok (.iconst 0, 1) := by decide +kernel
theorem dX7_digest_5 : decode cX7_digest 5 = .ok (.istore_n 3, 1) := by decide +kernel
theorem dX7_digest_6 : decode cX7_digest 6 = .ok (.iload_n 3, 1) := by decide +kernel
theorem dX7_digest_7 : decode cX7_digest 7 = .ok (.bipush 8, 2) := by decide +kernel
theorem dX7_digest_9 : decode cX7_digest 9 = .ok (.if_icmp .ge 22, 3) := by decide +kernel
theorem dX7_digest_12 : decode cX7_digest 12 = .ok (.ldc2_w 242, 3) := by decide +kernel
theorem dX7_digest_15 : decode cX7_digest 15 = .ok (.lload_n 1, 1) := by decide +kernel
theorem dX7_digest_16 : decode cX7_digest 16 = .ok (.lmul, 1) := by decide +kernel
theorem dX7_digest_17 : decode cX7_digest 17 = .ok (.aload_n 0, 1) := by decide +kernel
theorem dX7_digest_18 : decode cX7_digest 18 = .ok (.iload_n 3, 1) := by decide +kernel
theorem dX7_digest_19 : decode cX7_digest 19 = .ok (.invokevirtual 246, 3) := by decide +kernel
theorem dX7_digest_22 : decode cX7_digest 22 = .ok (.i2l, 1) := by decide +kernel
theorem dX7_digest_23 : decode cX7_digest 23 = .ok (.ladd, 1) := by decide +kernel
theorem dX7_digest_24 : decode cX7_digest 24 = .ok (.lstore_n 1, 1) := by decide +kernel
theorem dX7_digest_25 : decode cX7_digest 25 = .ok (.iinc 3 1, 3) := by decide +kernel
theorem dX7_digest_28 : decode cX7_digest 28 = .ok (.goto (-22), 3) := by decide +kernel
theorem dX7_digest_31 : decode cX7_digest 31 = .ok (.aload_n 0, 1) := by decide +kernel
theorem dX7_digest_32 : decode cX7_digest 32 = .ok (.lload_n 1, 1) := by decide +kernel
theorem dX7_digest_33 : decode cX7_digest 33 = .ok (.iconst 0, 1) := by decide +kernel
theorem dX7_digest_34 : decode cX7_digest 34 = .ok (.invokevirtual 249, 3) := by decide +kernel
theorem dX7_digest_37 : decode cX7_digest 37 = .ok (.lstore_n 1, 1) := by decide +kernel
theorem dX7_digest_38 : decode cX7_digest 38 = .ok (.aload_n 0, 1) := by decide +kernel
theorem dX7_digest_39 : decode cX7_digest 39 = .ok (.lload_n 1, 1) := by decide +kernel
theorem dX7_digest_40 : decode cX7_digest 40 = .ok (.iconst 1, 1) := by decide +kernel
theorem dX7_digest_41 : decode cX7_digest 41 = .ok (.invokevirtual 249, 3) := by decide +kernel
theorem dX7_digest_44 : decode cX7_digest 44 = .ok (.lstore_n 1, 1) := by decide +kernel
theorem dX7_digest_45 : decode cX7_digest 45 = .ok (.iconst 0, 1) := by decide +kernel
theorem dX7_digest_46 : decode cX7_digest 46 = .ok (.istore_n 3, 1) := by decide +kernel
theorem dX7_digest_47 : decode cX7_digest 47 = .ok (.iload_n 3, 1) := by decide +kernel
theorem dX7_digest_48 : decode cX7_digest 48 = .ok (.aload_n 0, 1) := by decide +kernel
theorem dX7_digest_49 : decode cX7_digest 49 = .ok (.getfield 7, 3) := by decide +kernel
theorem dX7_digest_52 : decode cX7_digest 52 = .ok (.iconst 1, 1) := by decide +kernel
theorem dX7_digest_53 : decode cX7_digest 53 = .ok (.iaload, 1) := by decide +kernel
theorem dX7_digest_54 : decode cX7_digest 54 = .ok (.if_icmp .ge 39, 3) := by decide +kernel
theorem dX7_digest_57 : decode cX7_digest 57 = .ok (.iconst 0, 1) := by decide +kernel
theorem dX7_digest_58 : decode cX7_digest 58 = .ok (.istore 4, 2) := by decide +kernel
theorem dX7_digest_60 : decode cX7_digest 60 = .ok (.iload 4, 2) := by decide +kernel
theorem dX7_digest_62 : decode cX7_digest 62 = .ok (.iconst 3, 1) := by decide +kernel
theorem dX7_digest_63 : decode cX7_digest 63 = .ok (.if_icmp .ge 24, 3) := by decide +kernel
theorem dX7_digest_66 : decode cX7_digest 66 = .ok (.ldc2_w 242, 3) := by decide +kernel
theorem dX7_digest_69 : decode cX7_digest 69 = .ok (.lload_n 1, 1) := by decide +kernel
theorem dX7_digest_70 : decode cX7_digest 70 = .ok (.lmul, 1) := by decide +kernel
theorem dX7_digest_71 : decode cX7_digest 71 = .ok (.aload_n 0, 1) := by decide +kernel
theorem dX7_digest_72 : decode cX7_digest 72 = .ok (.iload_n 3, 1) := by decide +kernel
theorem dX7_digest_73 : decode cX7_digest 73 = .ok (.iload 4, 2) := by decide +kernel
theorem dX7_digest_75 : decode cX7_digest 75 = .ok (.invokevirtual 212, 3) := by decide +kernel
theorem dX7_digest_78 : decode cX7_digest 78 = .ok (.i2l, 1) := by decide +kernel
theorem dX7_digest_79 : decode cX7_digest 79 = .ok (.ladd, 1) := by decide +kernel
theorem dX7_digest_80 : decode cX7_digest 80 = .ok (.lstore_n 1, 1) := by decide +kernel
theorem dX7_digest_81 : decode cX7_digest 81 = .ok (.iinc 4 1, 3) := by decide +kernel
theorem dX7_digest_84 : decode cX7_digest 84 = .ok (.goto (-24), 3) := by decide +kernel
theorem dX7_digest_87 : decode cX7_digest 87 = .ok (.iinc 3 1, 3) := by decide +kernel
theorem dX7_digest_90 : decode cX7_digest 90 = .ok (.goto (-43), 3) := by decide +kernel
theorem dX7_digest_93 : decode cX7_digest 93 = .ok (.ldc2_w 242, 3) := by decide +kernel
theorem dX7_digest_96 : decode cX7_digest 96 = .ok (.lload_n 1, 1) := by decide +kernel
theorem dX7_digest_97 : decode cX7_digest 97 = .ok (.lmul, 1) := by decide +kernel
theorem dX7_digest_98 : decode cX7_digest 98 = .ok (.aload_n 0, 1) := by decide +kernel
theorem dX7_digest_99 : decode cX7_digest 99 = .ok (.invokevirtual 215, 3) := by decide +kernel
theorem dX7_digest_102 : decode cX7_digest 102 = .ok (.i2l, 1) := by decide +kernel
theorem dX7_digest_103 : decode cX7_digest 103 = .ok (.ladd, 1) := by decide +kernel
theorem dX7_digest_104 : decode cX7_digest 104 = .ok (.lstore_n 1, 1) := by decide +kernel
theorem dX7_digest_105 : decode cX7_digest 105 = .ok (.ldc2_w 242, 3) := by decide +kernel
theorem dX7_digest_108 : decode cX7_digest 108 = .ok (.lload_n 1, 1) := by decide +kernel
theorem dX7_digest_109 : decode cX7_digest 109 = .ok (.lmul, 1) := by decide +kernel
theorem dX7_digest_110 : decode cX7_digest 110 = .ok (.aload_n 0, 1) := by decide +kernel
theorem dX7_digest_111 : decode cX7_digest 111 = .ok (.iconst (-1), 1) := by decide +kernel
theorem dX7_digest_112 : decode cX7_digest 112 = .ok (.invokevirtual 222, 3) := by decide +kernel
theorem dX7_digest_115 : decode cX7_digest 115 = .ok (.i2l, 1) := by decide +kernel
theorem dX7_digest_116 : decode cX7_digest 116 = .ok (.ladd, 1) := by decide +kernel
theorem dX7_digest_117 : decode cX7_digest 117 = .ok (.lstore_n 1, 1) := by decide +kernel
theorem dX7_digest_118 : decode cX7_digest 118 = .ok (.ldc2_w 242, 3) := by decide +kernel
theorem dX7_digest_121 : decode cX7_digest 121 = .ok (.lload_n 1, 1) := by decide +kernel
theorem dX7_digest_122 : decode cX7_digest 122 = .ok (.lmul, 1) := by decide +kernel
theorem dX7_digest_123 : decode cX7_digest 123 = .ok (.aload_n 0, 1) := by decide +kernel
theorem dX7_digest_124 : decode cX7_digest 124 = .ok (.iconst 0, 1) := by decide +kernel
theorem dX7_digest_125 : decode cX7_digest 125 = .ok (.invokevirtual 222, 3) := by decide +kernel
theorem dX7_digest_128 : decode cX7_digest 128 = .ok (.i2l, 1) := by decide +kernel
theorem dX7_digest_129 : decode cX7_digest 129 = .ok (.ladd, 1) := by decide +kernel
theorem dX7_digest_130 : decode cX7_digest 130 = .ok (.lstore_n 1, 1) := by decide +kernel
theorem dX7_digest_131 : decode cX7_digest 131 = .ok (.ldc2_w 242, 3) := by decide +kernel
theorem dX7_digest_134 : decode cX7_digest 134 = .ok (.lload_n 1, 1) := by decide +kernel
theorem dX7_digest_135 : decode cX7_digest 135 = .ok (.lmul, 1) := by decide +kernel
theorem dX7_digest_136 : decode cX7_digest 136 = .ok (.aload_n 0, 1) := by decide +kernel
theorem dX7_digest_137 : decode cX7_digest 137 = .ok (.bipush 25, 2) := by decide +kernel
theorem dX7_digest_139 : decode cX7_digest 139 = .ok (.invokevirtual 222, 3) := by decide +kernel
theorem dX7_digest_142 : decode cX7_digest 142 = .ok (.i2l, 1) := by decide +kernel
theorem dX7_digest_143 : decode cX7_digest 143 = .ok (.ladd, 1) := by decide +kernel
theorem dX7_digest_144 : decode cX7_digest 144 = .ok (.lstore_n 1, 1) := by decide +kernel
theorem dX7_digest_145 : decode cX7_digest 145 = .ok (.ldc2_w 242, 3) := by decide +kernel
theorem dX7_digest_148 : decode cX7_digest 148 = .ok (.lload_n 1, 1) := by decide +kernel
theorem dX7_digest_149 : decode cX7_digest 149 = .ok (.lmul, 1) := by decide +kernel
theorem dX7_digest_150 : decode cX7_digest 150 = .ok (.aload_n 0, 1) := by decide +kernel
theorem dX7_digest_151 : decode cX7_digest 151 = .ok (.iconst 0, 1) := by decide +kernel
theorem dX7_digest_152 : decode cX7_digest 152 = .ok (.invokevirtual 225, 3) := by decide +kernel
theorem dX7_digest_155 : decode cX7_digest 155 = .ok (.i2l, 1) := by decide +kernel
theorem dX7_digest_156 : decode cX7_digest 156 = .ok (.ladd, 1) := by decide +kernel
theorem dX7_digest_157 : decode cX7_digest 157 = .ok (.lstore_n 1, 1) := by decide +kernel
theorem dX7_digest_158 : decode cX7_digest 158 = .ok (.ldc2_w 242, 3) := by decide +kernel
theorem dX7_digest_161 : decode cX7_digest 161 = .ok (.lload_n 1, 1) := by decide +kernel
theorem dX7_digest_162 : decode cX7_digest 162 = .ok (.lmul, 1) := by decide +kernel
theorem dX7_digest_163 : decode cX7_digest 163 = .ok (.aload_n 0, 1) := by decide +kernel
theorem dX7_digest_164 : decode cX7_digest 164 = .ok (.iconst 1, 1) := by decide +kernel
theorem dX7_digest_165 : decode cX7_digest 165 = .ok (.invokevirtual 225, 3) := by decide +kernel
theorem dX7_digest_168 : decode cX7_digest 168 = .ok (.i2l, 1) := by decide +kernel
theorem dX7_digest_169 : decode cX7_digest 169 = .ok (.ladd, 1) := by decide +kernel
theorem dX7_digest_170 : decode cX7_digest 170 = .ok (.lstore_n 1, 1) := by decide +kernel
theorem dX7_digest_171 : decode cX7_digest 171 = .ok (.aload_n 0, 1) := by decide +kernel
theorem dX7_digest_172 : decode cX7_digest 172 = .ok (.lload_n 1, 1) := by decide +kernel
theorem dX7_digest_173 : decode cX7_digest 173 = .ok (.sipush 1799, 3) := by decide +kernel
theorem dX7_digest_176 : decode cX7_digest 176 = .ok (.invokevirtual 253, 3) := by decide +kernel
theorem dX7_digest_179 : decode cX7_digest 179 = .ok (.lstore_n 1, 1) := by decide +kernel
theorem dX7_digest_180 : decode cX7_digest 180 = .ok (.aload_n 0, 1) := by decide +kernel
theorem dX7_digest_181 : decode cX7_digest 181 = .ok (.lload_n 1, 1) := by decide +kernel
theorem dX7_digest_182 : decode cX7_digest 182 = .ok (.sipush 1800, 3) := by decide +kernel
theorem dX7_digest_185 : decode cX7_digest 185 = .ok (.invokevirtual 253, 3) := by decide +kernel
theorem dX7_digest_188 : decode cX7_digest 188 = .ok (.lstore_n 1, 1) := by decide +kernel
theorem dX7_digest_189 : decode cX7_digest 189 = .ok (.aload_n 0, 1) := by decide +kernel
theorem dX7_digest_190 : decode cX7_digest 190 = .ok (.lload_n 1, 1) := by decide +kernel
theorem dX7_digest_191 : decode cX7_digest 191 = .ok (.sipush 17982, 3) := by decide +kernel
theorem dX7_digest_194 : decode cX7_digest 194 = .ok (.invokevirtual 253, 3) := by decide +kernel
theorem dX7_digest_197 : decode cX7_digest 197 = .ok (.lstore_n 1, 1) := by decide +kernel
theorem dX7_digest_198 : decode cX7_digest 198 = .ok (.ldc2_w 242, 3) := by decide +kernel
theorem dX7_digest_201 : decode cX7_digest 201 = .ok (.lload_n 1, 1) := by decide +kernel
theorem dX7_digest_202 : decode cX7_digest 202 = .ok (.lmul, 1) := by decide +kernel
theorem dX7_digest_203 : decode cX7_digest 203 = .ok (.aload_n 0, 1) := by decide +kernel
theorem dX7_digest_204 : decode cX7_digest 204 = .ok (.iconst 0, 1) := by decide +kernel
theorem dX7_digest_205 : decode cX7_digest 205 = .ok (.iconst 1, 1) := by decide +kernel
theorem dX7_digest_206 : decode cX7_digest 206 = .ok (.iconst 0, 1) := by decide +kernel
theorem dX7_digest_207 : decode cX7_digest 207 = .ok (.iconst 0, 1) := by decide +kernel
theorem dX7_digest_208 : decode cX7_digest 208 = .ok (.invokevirtual 256, 3) := by decide +kernel
theorem dX7_digest_211 : decode cX7_digest 211 = .ok (.i2l, 1) := by decide +kernel
theorem dX7_digest_212 : decode cX7_digest 212 = .ok (.ladd, 1) := by decide +kernel
theorem dX7_digest_213 : decode cX7_digest 213 = .ok (.lstore_n 1, 1) := by decide +kernel
theorem dX7_digest_214 : decode cX7_digest 214 = .ok (.ldc2_w 242, 3) := by decide +kernel
theorem dX7_digest_217 : decode cX7_digest 217 = .ok (.lload_n 1, 1) := by decide +kernel
theorem dX7_digest_218 : decode cX7_digest 218 = .ok (.lmul, 1) := by decide +kernel
theorem dX7_digest_219 : decode cX7_digest 219 = .ok (.aload_n 0, 1) := by decide +kernel
theorem dX7_digest_220 : decode cX7_digest 220 = .ok (.iconst 0, 1) := by decide +kernel
theorem dX7_digest_221 : decode cX7_digest 221 = .ok (.bipush 10, 2) := by decide +kernel
theorem dX7_digest_223 : decode cX7_digest 223 = .ok (.iconst 0, 1) := by decide +kernel
theorem dX7_digest_224 : decode cX7_digest 224 = .ok (.iconst 0, 1) := by decide +kernel
theorem dX7_digest_225 : decode cX7_digest 225 = .ok (.invokevirtual 256, 3) := by decide +kernel
theorem dX7_digest_228 : decode cX7_digest 228 = .ok (.i2l, 1) := by decide +kernel
theorem dX7_digest_229 : decode cX7_digest 229 = .ok (.ladd, 1) := by decide +kernel
theorem dX7_digest_230 : decode cX7_digest 230 = .ok (.lstore_n 1, 1) := by decide +kernel
theorem dX7_digest_231 : decode cX7_digest 231 = .ok (.ldc2_w 242, 3) := by decide +kernel
theorem dX7_digest_234 : decode cX7_digest 234 = .ok (.lload_n 1, 1) := by decide +kernel
theorem dX7_digest_235 : decode cX7_digest 235 = .ok (.lmul, 1) := by decide +kernel
theorem dX7_digest_236 : decode cX7_digest 236 = .ok (.aload_n 0, 1) := by decide +kernel
theorem dX7_digest_237 : decode cX7_digest 237 = .ok (.iconst 1, 1) := by decide +kernel
theorem dX7_digest_238 : decode cX7_digest 238 = .ok (.iconst 2, 1) := by decide +kernel
theorem dX7_digest_239 : decode cX7_digest 239 = .ok (.iconst 3, 1) := by decide +kernel
theorem dX7_digest_240 : decode cX7_digest 240 = .ok (.iconst 4, 1) := by decide +kernel
theorem dX7_digest_241 : decode cX7_digest 241 = .ok (.invokevirtual 256, 3) := by decide +kernel
theorem dX7_digest_244 : decode cX7_digest 244 = .ok (.i2l, 1) := by decide +kernel
theorem dX7_digest_245 : decode cX7_digest 245 = .ok (.ladd, 1) := by decide +kernel
theorem dX7_digest_246 : decode cX7_digest 246 = .ok (.lreturn, 1) := by decide +kernel
