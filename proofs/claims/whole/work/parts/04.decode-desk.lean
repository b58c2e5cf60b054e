theorem dX6_init_0 : decode cX6_init 0 = .ok (.aload_n 0, 1) := by decide +kernel
theorem dX6_init_1 : decode cX6_init 1 = .ok (.invokespecial 1, 3) := by decide +kernel
theorem dX6_init_4 : decode cX6_init 4 = .ok (.aload_n 0, 1) := by decide +kernel
theorem dX6_init_5 : decode cX6_init 5 = .ok (.iconst 2, 1) := by decide +kernel
theorem dX6_init_6 : decode cX6_init 6 = .ok (.anewarray 9, 3) := by decide +kernel
theorem dX6_init_9 : decode cX6_init 9 = .ok (.putfield 11, 3) := by decide +kernel
theorem dX6_init_12 : decode cX6_init 12 = .ok (.aload_n 0, 1) := by decide +kernel
theorem dX6_init_13 : decode cX6_init 13 = .ok (.bipush 6, 2) := by decide +kernel
theorem dX6_init_15 : decode cX6_init 15 = .ok (.newarray .int, 2) := by decide +kernel
theorem dX6_init_17 : decode cX6_init 17 = .ok (.putfield 15, 3) := by decide +kernel
theorem dX6_init_20 : decode cX6_init 20 = .ok (.aload_n 0, 1) := by decide +kernel
theorem dX6_init_21 : decode cX6_init 21 = .ok (.getstatic 19, 3) := by decide +kernel
theorem dX6_init_24 : decode cX6_init 24 = .ok (.arraylength, 1) := by decide +kernel
theorem dX6_init_25 : decode cX6_init 25 = .ok (.newarray .int, 2) := by decide +kernel
theorem dX6_init_27 : decode cX6_init 27 = .ok (.putfield 22, 3) := by decide +kernel
theorem dX6_init_30 : decode cX6_init 30 = .ok (.aload_n 0, 1) := by decide +kernel
theorem dX6_init_31 : decode cX6_init 31 = .ok (.iconst 4, 1) := by decide +kernel
theorem dX6_init_32 : decode cX6_init 32 = .ok (.anewarray 25, 3) := by decide +kernel
theorem dX6_init_35 : decode cX6_init 35 = .ok (.putfield 27, 3) := by decide +kernel
theorem dX6_init_38 : decode cX6_init 38 = .ok (.aload_n 0, 1) := by decide +kernel
theorem dX6_init_39 : decode cX6_init 39 = .ok (.iconst 2, 1) := by decide +kernel
theorem dX6_init_40 : decode cX6_init 40 = .ok (.anewarray 31, 3) := by decide +kernel
theorem dX6_init_43 : decode cX6_init 43 = .ok (.putfield 33, 3) := by decide +kernel
theorem dX6_init_46 : decode cX6_init 46 = .ok (.aload_n 0, 1) := by decide +kernel
theorem dX6_init_47 : decode cX6_init 47 = .ok (.new 31, 3) := by decide +kernel
theorem dX6_init_50 : decode cX6_init 50 = .ok (.dup, 1) := by decide +kernel
theorem dX6_init_51 : decode cX6_init 51 = .ok (.bipush 16, 2) := by decide +kernel
theorem dX6_init_53 : decode cX6_init 53 = .ok (.invokespecial 37, 3) := by decide +kernel
theorem dX6_init_56 : decode cX6_init 56 = .ok (.putfield 40, 3) := by decide +kernel
theorem dX6_init_59 : decode cX6_init 59 = .ok (.aload_n 0, 1) := by decide +kernel
theorem dX6_init_60 : decode cX6_init 60 = .ok (.new 44, 3) := by decide +kernel
theorem dX6_init_63 : decode cX6_init 63 = .ok (.dup, 1) := by decide +kernel
theorem dX6_init_64 : decode cX6_init 64 = .ok (.invokespecial 46, 3) := by decide +kernel
theorem dX6_init_67 : decode cX6_init 67 = .ok (.putfield 47, 3) := by decide +kernel
theorem dX6_init_70 : decode cX6_init 70 = .ok (.iconst 0, 1) := by decide +kernel
theorem dX6_init_71 : decode cX6_init 71 = .ok (.istore_n 1, 1) := by decide +kernel
theorem dX6_init_72 : decode cX6_init 72 = .ok (.iload_n 1, 1) := by decide +kernel
theorem dX6_init_73 : decode cX6_init 73 = .ok (.iconst 2, 1) := by decide +kernel
theorem dX6_init_74 : decode cX6_init 74 = .ok (.if_icmp .ge 37, 3) := by decide +kernel
theorem dX6_init_77 : decode cX6_init 77 = .ok (.aload_n 0, 1) := by decide +kernel
theorem dX6_init_78 : decode cX6_init 78 = .ok (.getfield 11, 3) := by decide +kernel
theorem dX6_init_81 : decode cX6_init 81 = .ok (.iload_n 1, 1) := by decide +kernel
theorem dX6_init_82 : decode cX6_init 82 = .ok (.new 9, 3) := by decide +kernel
theorem dX6_init_85 : decode cX6_init 85 = .ok (.dup, 1) := by decide +kernel
theorem dX6_init_86 : decode cX6_init 86 = .ok (.invokespecial 51, 3) := by decide +kernel
theorem dX6_init_89 : decode cX6_init 89 = .ok (.aastore, 1) := by decide +kernel
theorem dX6_init_90 : decode cX6_init 90 = .ok (.aload_n 0, 1) := by decide +kernel
theorem dX6_init_91 : decode cX6_init 91 = .ok (.getfield 33, 3) := by decide +kernel
theorem dX6_init_94 : decode cX6_init 94 = .ok (.iload_n 1, 1) := by decide +kernel
theorem dX6_init_95 : decode cX6_init 95 = .ok (.new 31, 3) := by decide +kernel
theorem dX6_init_98 : decode cX6_init 98 = .ok (.dup, 1) := by decide +kernel
theorem dX6_init_99 : decode cX6_init 99 = .ok (.bipush 8, 2) := by decide +kernel
theorem dX6_init_101 : decode cX6_init 101 = .ok (.invokespecial 37, 3) := by decide +kernel
theorem dX6_init_104 : decode cX6_init 104 = .ok (.aastore, 1) := by decide +kernel
theorem dX6_init_105 : decode cX6_init 105 = .ok (.iinc 1 1, 3) := by decide +kernel
theorem dX6_init_108 : decode cX6_init 108 = .ok (.goto (-36), 3) := by decide +kernel
theorem dX6_init_111 : decode cX6_init 111 = .ok (.iconst 0, 1) := by decide +kernel
theorem dX6_init_112 : decode cX6_init 112 = .ok (.istore_n 1, 1) := by decide +kernel
theorem dX6_init_113 : decode cX6_init 113 = .ok (.iload_n 1, 1) := by decide +kernel
theorem dX6_init_114 : decode cX6_init 114 = .ok (.iconst 4, 1) := by decide +kernel
theorem dX6_init_115 : decode cX6_init 115 = .ok (.if_icmp .ge 22, 3) := by decide +kernel
theorem dX6_init_118 : decode cX6_init 118 = .ok (.aload_n 0, 1) := by decide +kernel
theorem dX6_init_119 : decode cX6_init 119 = .ok (.getfield 27, 3) := by decide +kernel
theorem dX6_init_122 : decode cX6_init 122 = .ok (.iload_n 1, 1) := by decide +kernel
theorem dX6_init_123 : decode cX6_init 123 = .ok (.new 25, 3) := by decide +kernel
theorem dX6_init_126 : decode cX6_init 126 = .ok (.dup, 1) := by decide +kernel
theorem dX6_init_127 : decode cX6_init 127 = .ok (.invokespecial 52, 3) := by decide +kernel
theorem dX6_init_130 : decode cX6_init 130 = .ok (.aastore, 1) := by decide +kernel
theorem dX6_init_131 : decode cX6_init 131 = .ok (.iinc 1 1, 3) := by decide +kernel
theorem dX6_init_134 : decode cX6_init 134 = .ok (.goto (-21), 3) := by decide +kernel
theorem dX6_init_137 : decode cX6_init 137 = .ok (.aload_n 0, 1) := by decide +kernel
theorem dX6_init_138 : decode cX6_init 138 = .ok (.getfield 15, 3) := by decide +kernel
theorem dX6_init_141 : decode cX6_init 141 = .ok (.ldc 53, 2) := by decide +kernel
theorem dX6_init_143 : decode cX6_init 143 = .ok (.invokestatic 54, 3) := by decide +kernel
theorem dX6_init_146 : decode cX6_init 146 = .ok (.aload_n 0, 1) := by decide +kernel
theorem dX6_init_147 : decode cX6_init 147 = .ok (.getfield 22, 3) := by decide +kernel
theorem dX6_init_150 : decode cX6_init 150 = .ok (.iconst 1, 1) := by decide +kernel
theorem dX6_init_151 : decode cX6_init 151 = .ok (.bipush 10, 2) := by decide +kernel
theorem dX6_init_153 : decode cX6_init 153 = .ok (.iastore, 1) := by decide +kernel
theorem dX6_init_154 : decode cX6_init 154 = .ok (.return_, 1) := by decide +kernel
theorem dX6_edit_0 : decode cX6_edit 0 = .ok (.iload_n 1, 1) := by decide +kernel
theorem dX6_edit_1 : decode cX6_edit 1 = .ok (.iconst 2, 1) := by decide +kernel
theorem dX6_edit_2 : decode cX6_edit 2 = .ok (.invokestatic 60, 3) := by decide +kernel
theorem dX6_edit_5 : decode cX6_edit 5 = .ok (.ifCond .eq 17, 3) := by decide +kernel
theorem dX6_edit_8 : decode cX6_edit 8 = .ok (.iload_n 2, 1) := by decide +kernel
theorem dX6_edit_9 : decode cX6_edit 9 = .ok (.iload_n 3, 1) := by decide +kernel
theorem dX6_edit_10 : decode cX6_edit 10 = .ok (.iload 4, 2) := by decide +kernel
theorem dX6_edit_12 : decode cX6_edit 12 = .ok (.iload 5, 2) := by decide +kernel
theorem dX6_edit_14 : decode cX6_edit 14 = .ok (.iload 6, 2) := by decide +kernel
theorem dX6_edit_16 : decode cX6_edit 16 = .ok (.invokestatic 64, 3) := by decide +kernel
theorem dX6_edit_19 : decode cX6_edit 19 = .ok (.ifCond .ne 6, 3) := by decide +kernel
theorem dX6_edit_22 : decode cX6_edit 22 = .ok (.bipush (-2), 2) := by decide +kernel
theorem dX6_edit_24 : decode cX6_edit 24 = .ok (.ireturn, 1) := by decide +kernel
theorem dX6_edit_25 : decode cX6_edit 25 = .ok (.aload_n 0, 1) := by decide +kernel
theorem dX6_edit_26 : decode cX6_edit 26 = .ok (.getfield 11, 3) := by decide +kernel
theorem dX6_edit_29 : decode cX6_edit 29 = .ok (.iload_n 1, 1) := by decide +kernel
theorem dX6_edit_30 : decode cX6_edit 30 = .ok (.aaload, 1) := by decide +kernel
theorem dX6_edit_31 : decode cX6_edit 31 = .ok (.astore 7, 2) := by decide +kernel
theorem dX6_edit_33 : decode cX6_edit 33 = .ok (.aload 7, 2) := by decide +kernel
theorem dX6_edit_35 : decode cX6_edit 35 = .ok (.invokevirtual 68, 3) := by decide +kernel
theorem dX6_edit_38 : decode cX6_edit 38 = .ok (.ifCond .eq 6, 3) := by decide +kernel
theorem dX6_edit_41 : decode cX6_edit 41 = .ok (.bipush (-4), 2) := by decide +kernel
theorem dX6_edit_43 : decode cX6_edit 43 = .ok (.ireturn, 1) := by decide +kernel
theorem dX6_edit_44 : decode cX6_edit 44 = .ok (.aload 7, 2) := by decide +kernel
theorem dX6_edit_46 : decode cX6_edit 46 = .ok (.iload_n 2, 1) := by decide +kernel
theorem dX6_edit_47 : decode cX6_edit 47 = .ok (.iload_n 3, 1) := by decide +kernel
theorem dX6_edit_48 : decode cX6_edit 48 = .ok (.iload 4, 2) := by decide +kernel
theorem dX6_edit_50 : decode cX6_edit 50 = .ok (.iload 5, 2) := by decide +kernel
theorem dX6_edit_52 : decode cX6_edit 52 = .ok (.iload 6, 2) := by decide +kernel
theorem dX6_edit_54 : decode cX6_edit 54 = .ok (.invokevirtual 72, 3) := by decide +kernel
theorem dX6_edit_57 : decode cX6_edit 57 = .ok (.aload 7, 2) := by decide +kernel
theorem dX6_edit_59 : decode cX6_edit 59 = .ok (.getfield 76, 3) := by decide +kernel
theorem dX6_edit_62 : decode cX6_edit 62 = .ok (.ireturn, 1) := by decide +kernel
theorem dX6_back_0 : decode cX6_back 0 = .ok (.iload_n 1, 1) := by decide +kernel
theorem dX6_back_1 : decode cX6_back 1 = .ok (.iconst 2, 1) := by decide +kernel
theorem dX6_back_2 : decode cX6_back 2 = .ok (.invokestatic 60, 3) := by decide +kernel
theorem dX6_back_5 : decode cX6_back 5 = .ok (.ifCond .ne 6, 3) := by decide +kernel
theorem dX6_back_8 : decode cX6_back 8 = .ok (.bipush (-2), 2) := by decide +kernel
theorem dX6_back_10 : decode cX6_back 10 = .ok (.ireturn, 1) := by decide +kernel
theorem dX6_back_11 : decode cX6_back 11 = .ok (.aload_n 0, 1) := by decide +kernel
theorem dX6_back_12 : decode cX6_back 12 = .ok (.getfield 11, 3) := by decide +kernel
theorem dX6_back_15 : decode cX6_back 15 = .ok (.iload_n 1, 1) := by decide +kernel
theorem dX6_back_16 : decode cX6_back 16 = .ok (.aaload, 1) := by decide +kernel
theorem dX6_back_17 : decode cX6_back 17 = .ok (.astore_n 2, 1) := by decide +kernel
theorem dX6_back_18 : decode cX6_back 18 = .ok (.aload_n 2, 1) := by decide +kernel
theorem dX6_back_19 : decode cX6_back 19 = .ok (.getfield 76, 3) := by decide +kernel
theorem dX6_back_22 : decode cX6_back 22 = .ok (.ifCond .ne 6, 3) := by decide +kernel
theorem dX6_back_25 : decode cX6_back 25 = .ok (.bipush (-3), 2) := by decide +kernel
theorem dX6_back_27 : decode cX6_back 27 = .ok (.ireturn, 1) := by decide +kernel
theorem dX6_back_28 : decode cX6_back 28 = .ok (.aload_n 2, 1) := by decide +kernel
theorem dX6_back_29 : decode cX6_back 29 = .ok (.dup, 1) := by decide +kernel
theorem dX6_back_30 : decode cX6_back 30 = .ok (.getfield 76, 3) := by decide +kernel
theorem dX6_back_33 : decode cX6_back 33 = .ok (.iconst 1, 1) := by decide +kernel
theorem dX6_back_34 : decode cX6_back 34 = .ok (.isub, 1) := by decide +kernel
theorem dX6_back_35 : decode cX6_back 35 = .ok (.putfield 76, 3) := by decide +kernel
theorem dX6_back_38 : decode cX6_back 38 = .ok (.aload_n 2, 1) := by decide +kernel
theorem dX6_back_39 : decode cX6_back 39 = .ok (.getfield 76, 3) := by decide +kernel
theorem dX6_back_42 : decode cX6_back 42 = .ok (.ireturn, 1) := by decide +kernel
theorem dX6_trim_0 : decode cX6_trim 0 = .ok (.aload_n 0, 1) := by decide +kernel
theorem dX6_trim_1 : decode cX6_trim 1 = .ok (.iload_n 1, 1) := by decide +kernel
theorem dX6_trim_2 : decode cX6_trim 2 = .ok (.iload_n 2, 1) := by decide +kernel
theorem dX6_trim_3 : decode cX6_trim 3 = .ok (.invokevirtual 80, 3) := by decide +kernel
theorem dX6_trim_6 : decode cX6_trim 6 = .ok (.ifCond .eq 12, 3) := by decide +kernel
theorem dX6_trim_9 : decode cX6_trim 9 = .ok (.iload_n 3, 1) := by decide +kernel
theorem dX6_trim_10 : decode cX6_trim 10 = .ok (.iload 4, 2) := by decide +kernel
theorem dX6_trim_12 : decode cX6_trim 12 = .ok (.invokestatic 83, 3) := by decide +kernel
theorem dX6_trim_15 : decode cX6_trim 15 = .ok (.ifCond .ne 6, 3) := by decide +kernel
theorem dX6_trim_18 : decode cX6_trim 18 = .ok (.bipush (-2), 2) := by decide +kernel
theorem dX6_trim_20 : decode cX6_trim 20 = .ok (.ireturn, 1) := by decide +kernel
theorem dX6_trim_21 : decode cX6_trim 21 = .ok (.aload_n 0, 1) := by decide +kernel
theorem dX6_trim_22 : decode cX6_trim 22 = .ok (.getfield 11, 3) := by decide +kernel
theorem dX6_trim_25 : decode cX6_trim 25 = .ok (.iload_n 1, 1) := by decide +kernel
theorem dX6_trim_26 : decode cX6_trim 26 = .ok (.aaload, 1) := by decide +kernel
theorem dX6_trim_27 : decode cX6_trim 27 = .ok (.getfield 86, 3) := by decide +kernel
theorem dX6_trim_30 : decode cX6_trim 30 = .ok (.iload_n 2, 1) := by decide +kernel
theorem dX6_trim_31 : decode cX6_trim 31 = .ok (.aaload, 1) := by decide +kernel
theorem dX6_trim_32 : decode cX6_trim 32 = .ok (.astore 5, 2) := by decide +kernel
theorem dX6_trim_34 : decode cX6_trim 34 = .ok (.aload 5, 2) := by decide +kernel
theorem dX6_trim_36 : decode cX6_trim 36 = .ok (.iload_n 3, 1) := by decide +kernel
theorem dX6_trim_37 : decode cX6_trim 37 = .ok (.invokevirtual 90, 3) := by decide +kernel
theorem dX6_trim_40 : decode cX6_trim 40 = .ok (.istore 6, 2) := by decide +kernel
theorem dX6_trim_42 : decode cX6_trim 42 = .ok (.aload 5, 2) := by decide +kernel
theorem dX6_trim_44 : decode cX6_trim 44 = .ok (.iload_n 3, 1) := by decide +kernel
theorem dX6_trim_45 : decode cX6_trim 45 = .ok (.iload 4, 2) := by decide +kernel
theorem dX6_trim_47 : decode cX6_trim 47 = .ok (.invokevirtual 96, 3) := by decide +kernel
theorem dX6_trim_50 : decode cX6_trim 50 = .ok (.iload 6, 2) := by decide +kernel
theorem dX6_trim_52 : decode cX6_trim 52 = .ok (.ireturn, 1) := by decide +kernel
theorem dX6_set_0 : decode cX6_set 0 = .ok (.iload_n 1, 1) := by decide +kernel
theorem dX6_set_1 : decode cX6_set 1 = .ok (.getstatic 19, 3) := by decide +kernel
theorem dX6_set_4 : decode cX6_set 4 = .ok (.arraylength, 1) := by decide +kernel
theorem dX6_set_5 : decode cX6_set 5 = .ok (.invokestatic 60, 3) := by decide +kernel
theorem dX6_set_8 : decode cX6_set 8 = .ok (.ifCond .eq 16, 3) := by decide +kernel
theorem dX6_set_11 : decode cX6_set 11 = .ok (.iload_n 2, 1) := by decide +kernel
theorem dX6_set_12 : decode cX6_set 12 = .ok (.ifCond .lt 12, 3) := by decide +kernel
theorem dX6_set_15 : decode cX6_set 15 = .ok (.iload_n 2, 1) := by decide +kernel
theorem dX6_set_16 : decode cX6_set 16 = .ok (.getstatic 19, 3) := by decide +kernel
theorem dX6_set_19 : decode cX6_set 19 = .ok (.iload_n 1, 1) := by decide +kernel
theorem dX6_set_20 : decode cX6_set 20 = .ok (.iaload, 1) := by decide +kernel
theorem dX6_set_21 : decode cX6_set 21 = .ok (.if_icmp .le 6, 3) := by decide +kernel
theorem dX6_set_24 : decode cX6_set 24 = .ok (.bipush (-2), 2) := by decide +kernel
theorem dX6_set_26 : decode cX6_set 26 = .ok (.ireturn, 1) := by decide +kernel
theorem dX6_set_27 : decode cX6_set 27 = .ok (.aload_n 0, 1) := by decide +kernel
theorem dX6_set_28 : decode cX6_set 28 = .ok (.getfield 22, 3) := by decide +kernel
theorem dX6_set_31 : decode cX6_set 31 = .ok (.iload_n 1, 1) := by decide +kernel
theorem dX6_set_32 : decode cX6_set 32 = .ok (.iaload, 1) := by decide +kernel
theorem dX6_set_33 : decode cX6_set 33 = .ok (.istore_n 3, 1) := by decide +kernel
theorem dX6_set_34 : decode cX6_set 34 = .ok (.aload_n 0, 1) := by decide +kernel
theorem dX6_set_35 : decode cX6_set 35 = .ok (.getfield 22, 3) := by decide +kernel
theorem dX6_set_38 : decode cX6_set 38 = .ok (.iload_n 1, 1) := by decide +kernel
theorem dX6_set_39 : decode cX6_set 39 = .ok (.iload_n 2, 1) := by decide +kernel
theorem dX6_set_40 : decode cX6_set 40 = .ok (.iastore, 1) := by decide +kernel
theorem dX6_set_41 : decode cX6_set 41 = .ok (.iload_n 3, 1) := by decide +kernel
theorem dX6_set_42 : decode cX6_set 42 = .ok (.ireturn, 1) := by decide +kernel
theorem dX6_reel_0 : decode cX6_reel 0 = .ok (.iload_n 1, 1) := by decide +kernel
theorem dX6_reel_1 : decode cX6_reel 1 = .ok (.bipush 6, 2) := by decide +kernel
theorem dX6_reel_3 : decode cX6_reel 3 = .ok (.invokestatic 60, 3) := by decide +kernel
theorem dX6_reel_6 : decode cX6_reel 6 = .ok (.ifCond .eq 14, 3) := by decide +kernel
theorem dX6_reel_9 : decode cX6_reel 9 = .ok (.iload_n 2, 1) := by decide +kernel
theorem dX6_reel_10 : decode cX6_reel 10 = .ok (.iconst 1, 1) := by decide +kernel
theorem dX6_reel_11 : decode cX6_reel 11 = .ok (.if_icmp .lt 9, 3) := by decide +kernel
theorem dX6_reel_14 : decode cX6_reel 14 = .ok (.iload_n 2, 1) := by decide +kernel
theorem dX6_reel_15 : decode cX6_reel 15 = .ok (.ldc 100, 2) := by decide +kernel
theorem dX6_reel_17 : decode cX6_reel 17 = .ok (.if_icmp .le 6, 3) := by decide +kernel
theorem dX6_reel_20 : decode cX6_reel 20 = .ok (.bipush (-2), 2) := by decide +kernel
theorem dX6_reel_22 : decode cX6_reel 22 = .ok (.ireturn, 1) := by decide +kernel
theorem dX6_reel_23 : decode cX6_reel 23 = .ok (.aload_n 0, 1) := by decide +kernel
theorem dX6_reel_24 : decode cX6_reel 24 = .ok (.getfield 15, 3) := by decide +kernel
theorem dX6_reel_27 : decode cX6_reel 27 = .ok (.iload_n 1, 1) := by decide +kernel
theorem dX6_reel_28 : decode cX6_reel 28 = .ok (.iaload, 1) := by decide +kernel
theorem dX6_reel_29 : decode cX6_reel 29 = .ok (.istore_n 3, 1) := by decide +kernel
theorem dX6_reel_30 : decode cX6_reel 30 = .ok (.aload_n 0, 1) := by decide +kernel
theorem dX6_reel_31 : decode cX6_reel 31 = .ok (.getfield 15, 3) := by decide +kernel
theorem dX6_reel_34 : decode cX6_reel 34 = .ok (.iload_n 1, 1) := by decide +kernel
theorem dX6_reel_35 : decode cX6_reel 35 = .ok (.iload_n 2, 1) := by decide +kernel
theorem dX6_reel_36 : decode cX6_reel 36 = .ok (.iastore, 1) := by decide +kernel
theorem dX6_reel_37 : decode cX6_reel 37 = .ok (.iload_n 3, 1) := by decide +kernel
theorem dX6_reel_38 : decode cX6_reel 38 = .ok (.ireturn, 1) := by decide +kernel
theorem dX6_swap_0 : decode cX6_swap 0 = .ok (.aload_n 0, 1) := by decide +kernel
theorem dX6_swap_1 : decode cX6_swap 1 = .ok (.getfield 11, 3) := by decide +kernel
theorem dX6_swap_4 : decode cX6_swap 4 = .ok (.iconst 0, 1) := by decide +kernel
theorem dX6_swap_5 : decode cX6_swap 5 = .ok (.aaload, 1) := by decide +kernel
theorem dX6_swap_6 : decode cX6_swap 6 = .ok (.astore_n 1, 1) := by decide +kernel
theorem dX6_swap_7 : decode cX6_swap 7 = .ok (.aload_n 0, 1) := by decide +kernel
theorem dX6_swap_8 : decode cX6_swap 8 = .ok (.getfield 11, 3) := by decide +kernel
theorem dX6_swap_11 : decode cX6_swap 11 = .ok (.iconst 0, 1) := by decide +kernel
theorem dX6_swap_12 : decode cX6_swap 12 = .ok (.aload_n 0, 1) := by decide +kernel
theorem dX6_swap_13 : decode cX6_swap 13 = .ok (.getfield 11, 3) := by decide +kernel
theorem dX6_swap_16 : decode cX6_swap 16 = .ok (.iconst 1, 1) := by decide +kernel
theorem dX6_swap_17 : decode cX6_swap 17 = .ok (.aaload, 1) := by decide +kernel
theorem dX6_swap_18 : decode cX6_swap 18 = .ok (.aastore, 1) := by decide +kernel
theorem dX6_swap_19 : decode cX6_swap 19 = .ok (.aload_n 0, 1) := by decide +kernel
theorem dX6_swap_20 : decode cX6_swap 20 = .ok (.getfield 11, 3) := by decide +kernel
theorem dX6_swap_23 : decode cX6_swap 23 = .ok (.iconst 1, 1) := by decide +kernel
theorem dX6_swap_24 : decode cX6_swap 24 = .ok (.aload_n 1, 1) := by decide +kernel
theorem dX6_swap_25 : decode cX6_swap 25 = .ok (.aastore, 1) := by decide +kernel
theorem dX6_swap_26 : decode cX6_swap 26 = .ok (.aload_n 0, 1) := by decide +kernel
theorem dX6_swap_27 : decode cX6_swap 27 = .ok (.getfield 11, 3) := by decide +kernel
theorem dX6_swap_30 : decode cX6_swap 30 = .ok (.iconst 0, 1) := by decide +kernel
theorem dX6_swap_31 : decode cX6_swap 31 = .ok (.aaload, 1) := by decide +kernel
theorem dX6_swap_32 : decode cX6_swap 32 = .ok (.getfield 76, 3) := by decide +kernel
theorem dX6_swap_35 : decode cX6_swap 35 = .ok (.aload_n 0, 1) := by decide +kernel
theorem dX6_swap_36 : decode cX6_swap 36 = .ok (.getfield 11, 3) := by decide +kernel
theorem dX6_swap_39 : decode cX6_swap 39 = .ok (.iconst 1, 1) := by decide +kernel
theorem dX6_swap_40 : decode cX6_swap 40 = .ok (.aaload, 1) := by decide +kernel
theorem dX6_swap_41 : decode cX6_swap 41 = .ok (.getfield 76, 3) := by decide +kernel
theorem dX6_swap_44 : decode cX6_swap 44 = .ok (.iadd, 1) := by decide +kernel
theorem dX6_swap_45 : decode cX6_swap 45 = .ok (.ireturn, 1) := by decide +kernel
theorem dX6_read_0 : decode cX6_read 0 = .ok (.iload_n 1, 1) := by decide +kernel
theorem dX6_read_1 : decode cX6_read 1 = .ok (.iconst 2, 1) := by decide +kernel
theorem dX6_read_2 : decode cX6_read 2 = .ok (.invokestatic 60, 3) := by decide +kernel
theorem dX6_read_5 : decode cX6_read 5 = .ok (.ifCond .eq 11, 3) := by decide +kernel
theorem dX6_read_8 : decode cX6_read 8 = .ok (.iload_n 2, 1) := by decide +kernel
theorem dX6_read_9 : decode cX6_read 9 = .ok (.iconst 4, 1) := by decide +kernel
theorem dX6_read_10 : decode cX6_read 10 = .ok (.invokestatic 60, 3) := by decide +kernel
theorem dX6_read_13 : decode cX6_read 13 = .ok (.ifCond .ne 6, 3) := by decide +kernel
theorem dX6_read_16 : decode cX6_read 16 = .ok (.bipush (-2), 2) := by decide +kernel
theorem dX6_read_18 : decode cX6_read 18 = .ok (.ireturn, 1) := by decide +kernel
theorem dX6_read_19 : decode cX6_read 19 = .ok (.aload_n 0, 1) := by decide +kernel
theorem dX6_read_20 : decode cX6_read 20 = .ok (.getfield 27, 3) := by decide +kernel
theorem dX6_read_23 : decode cX6_read 23 = .ok (.iload_n 2, 1) := by decide +kernel
theorem dX6_read_24 : decode cX6_read 24 = .ok (.aaload, 1) := by decide +kernel
theorem dX6_read_25 : decode cX6_read 25 = .ok (.astore_n 3, 1) := by decide +kernel
theorem dX6_read_26 : decode cX6_read 26 = .ok (.aload_n 3, 1) := by decide +kernel
theorem dX6_read_27 : decode cX6_read 27 = .ok (.getfield 101, 3) := by decide +kernel
theorem dX6_read_30 : decode cX6_read 30 = .ok (.ifCond .eq 9, 3) := by decide +kernel
theorem dX6_read_33 : decode cX6_read 33 = .ok (.aload_n 0, 1) := by decide +kernel
theorem dX6_read_34 : decode cX6_read 34 = .ok (.iconst 1, 1) := by decide +kernel
theorem dX6_read_35 : decode cX6_read 35 = .ok (.invokevirtual 105, 3) := by decide +kernel
theorem dX6_read_38 : decode cX6_read 38 = .ok (.ireturn, 1) := by decide +kernel
theorem dX6_read_39 : decode cX6_read 39 = .ok (.aload_n 0, 1) := by decide +kernel
theorem dX6_read_40 : decode cX6_read 40 = .ok (.getfield 11, 3) := by decide +kernel
theorem dX6_read_43 : decode cX6_read 43 = .ok (.iload_n 1, 1) := by decide +kernel
theorem dX6_read_44 : decode cX6_read 44 = .ok (.aaload, 1) := by decide +kernel
theorem dX6_read_45 : decode cX6_read 45 = .ok (.astore 4, 2) := by decide +kernel
theorem dX6_read_47 : decode cX6_read 47 = .ok (.iconst 0, 1) := by decide +kernel
theorem dX6_read_48 : decode cX6_read 48 = .ok (.istore 5, 2) := by decide +kernel
theorem dX6_read_50 : decode cX6_read 50 = .ok (.iconst 0, 1) := by decide +kernel
theorem dX6_read_51 : decode cX6_read 51 = .ok (.istore 6, 2) := by decide +kernel
theorem dX6_read_53 : decode cX6_read 53 = .ok (.iload 6, 2) := by decide +kernel
theorem dX6_read_55 : decode cX6_read 55 = .ok (.iconst 5, 1) := by decide +kernel
theorem dX6_read_56 : decode cX6_read 56 = .ok (.iadd, 1) := by decide +kernel
theorem dX6_read_57 : decode cX6_read 57 = .ok (.aload_n 3, 1) := by decide +kernel
theorem dX6_read_58 : decode cX6_read 58 = .ok (.getfield 108, 3) := by decide +kernel
theorem dX6_read_61 : decode cX6_read 61 = .ok (.if_icmp .gt 34, 3) := by decide +kernel
theorem dX6_read_64 : decode cX6_read 64 = .ok (.aload 4, 2) := by decide +kernel
theorem dX6_read_66 : decode cX6_read 66 = .ok (.invokevirtual 68, 3) := by decide +kernel
theorem dX6_read_69 : decode cX6_read 69 = .ok (.ifCond .ne 26, 3) := by decide +kernel
theorem dX6_read_72 : decode cX6_read 72 = .ok (.aload 4, 2) := by decide +kernel
theorem dX6_read_74 : decode cX6_read 74 = .ok (.aload_n 3, 1) := by decide +kernel
theorem dX6_read_75 : decode cX6_read 75 = .ok (.iload 6, 2) := by decide +kernel
theorem dX6_read_77 : decode cX6_read 77 = .ok (.invokestatic 109, 3) := by decide +kernel
theorem dX6_read_80 : decode cX6_read 80 = .ok (.ifCond .ne 6, 3) := by decide +kernel
theorem dX6_read_83 : decode cX6_read 83 = .ok (.goto 12, 3) := by decide +kernel
theorem dX6_read_86 : decode cX6_read 86 = .ok (.iinc 5 1, 3) := by decide +kernel
theorem dX6_read_89 : decode cX6_read 89 = .ok (.iinc 6 5, 3) := by decide +kernel
theorem dX6_read_92 : decode cX6_read 92 = .ok (.goto (-39), 3) := by decide +kernel
theorem dX6_read_95 : decode cX6_read 95 = .ok (.iload 5, 2) := by decide +kernel
theorem dX6_read_97 : decode cX6_read 97 = .ok (.ireturn, 1) := by decide +kernel
theorem dX6_appendFrom_0 : decode cX6_appendFrom 0 = .ok (.aload_n 1, 1) := by decide +kernel
theorem dX6_appendFrom_1 : decode cX6_appendFrom 1 = .ok (.iload_n 2, 1) := by decide +kernel
theorem dX6_appendFrom_2 : decode cX6_appendFrom 2 = .ok (.invokevirtual 113, 3) := by decide +kernel
theorem dX6_appendFrom_5 : decode cX6_appendFrom 5 = .ok (.istore_n 3, 1) := by decide +kernel
theorem dX6_appendFrom_6 : decode cX6_appendFrom 6 = .ok (.aload_n 1, 1) := by decide +kernel
theorem dX6_appendFrom_7 : decode cX6_appendFrom 7 = .ok (.iload_n 2, 1) := by decide +kernel
theorem dX6_appendFrom_8 : decode cX6_appendFrom 8 = .ok (.iconst 1, 1) := by decide +kernel
theorem dX6_appendFrom_9 : decode cX6_appendFrom 9 = .ok (.iadd, 1) := by decide +kernel
theorem dX6_appendFrom_10 : decode cX6_appendFrom 10 = .ok (.invokevirtual 113, 3) := by decide +kernel
theorem dX6_appendFrom_13 : decode cX6_appendFrom 13 = .ok (.istore 4, 2) := by decide +kernel
theorem dX6_appendFrom_15 : decode cX6_appendFrom 15 = .ok (.aload_n 1, 1) := by decide +kernel
theorem dX6_appendFrom_16 : decode cX6_appendFrom 16 = .ok (.iload_n 2, 1) := by decide +kernel
theorem dX6_appendFrom_17 : decode cX6_appendFrom 17 = .ok (.iconst 2, 1) := by decide +kernel
theorem dX6_appendFrom_18 : decode cX6_appendFrom 18 = .ok (.iadd, 1) := by decide +kernel
theorem dX6_appendFrom_19 : decode cX6_appendFrom 19 = .ok (.invokevirtual 113, 3) := by decide +kernel
theorem dX6_appendFrom_22 : decode cX6_appendFrom 22 = .ok (.istore 5, 2) := by decide +kernel
theorem dX6_appendFrom_24 : decode cX6_appendFrom 24 = .ok (.aload_n 1, 1) := by decide +kernel
theorem dX6_appendFrom_25 : decode cX6_appendFrom 25 = .ok (.iload_n 2, 1) := by decide +kernel
theorem dX6_appendFrom_26 : decode cX6_appendFrom 26 = .ok (.iconst 3, 1) := by decide +kernel
theorem dX6_appendFrom_27 : decode cX6_appendFrom 27 = .ok (.iadd, 1) := by decide +kernel
theorem dX6_appendFrom_28 : decode cX6_appendFrom 28 = .ok (.invokevirtual 113, 3) := by decide +kernel
theorem dX6_appendFrom_31 : decode cX6_appendFrom 31 = .ok (.istore 6, 2) := by decide +kernel
theorem dX6_appendFrom_33 : decode cX6_appendFrom 33 = .ok (.aload_n 1, 1) := by decide +kernel
theorem dX6_appendFrom_34 : decode cX6_appendFrom 34 = .ok (.iload_n 2, 1) := by decide +kernel
theorem dX6_appendFrom_35 : decode cX6_appendFrom 35 = .ok (.iconst 4, 1) := by decide +kernel
theorem dX6_appendFrom_36 : decode cX6_appendFrom 36 = .ok (.iadd, 1) := by decide +kernel
theorem dX6_appendFrom_37 : decode cX6_appendFrom 37 = .ok (.invokevirtual 113, 3) := by decide +kernel
theorem dX6_appendFrom_40 : decode cX6_appendFrom 40 = .ok (.istore 7, 2) := by decide +kernel
theorem dX6_appendFrom_42 : decode cX6_appendFrom 42 = .ok (.iload_n 3, 1) := by decide +kernel
theorem dX6_appendFrom_43 : decode cX6_appendFrom 43 = .ok (.iload 4, 2) := by decide +kernel
theorem dX6_appendFrom_45 : decode cX6_appendFrom 45 = .ok (.iload 5, 2) := by decide +kernel
theorem dX6_appendFrom_47 : decode cX6_appendFrom 47 = .ok (.iload 6, 2) := by decide +kernel
theorem dX6_appendFrom_49 : decode cX6_appendFrom 49 = .ok (.iload 7, 2) := by decide +kernel
theorem dX6_appendFrom_51 : decode cX6_appendFrom 51 = .ok (.invokestatic 64, 3) := by decide +kernel
theorem dX6_appendFrom_54 : decode cX6_appendFrom 54 = .ok (.ifCond .ne 5, 3) := by decide +kernel
theorem dX6_appendFrom_57 : decode cX6_appendFrom 57 = .ok (.iconst 0, 1) := by decide +kernel
theorem dX6_appendFrom_58 : decode cX6_appendFrom 58 = .ok (.ireturn, 1) := by decide +kernel
theorem dX6_appendFrom_59 : decode cX6_appendFrom 59 = .ok (.aload_n 0, 1) := by decide +kernel
theorem dX6_appendFrom_60 : decode cX6_appendFrom 60 = .ok (.iload_n 3, 1) := by decide +kernel
theorem dX6_appendFrom_61 : decode cX6_appendFrom 61 = .ok (.iload 4, 2) := by decide +kernel
theorem dX6_appendFrom_63 : decode cX6_appendFrom 63 = .ok (.iload 5, 2) := by decide +kernel
theorem dX6_appendFrom_65 : decode cX6_appendFrom 65 = .ok (.iload 6, 2) := by decide +kernel
theorem dX6_appendFrom_67 : decode cX6_appendFrom 67 = .ok (.iload 7, 2) := by decide +kernel
theorem dX6_appendFrom_69 : decode cX6_appendFrom 69 = .ok (.invokevirtual 72, 3) := by decide +kernel
theorem dX6_appendFrom_72 : decode cX6_appendFrom 72 = .ok (.iconst 1, 1) := by decide +kernel
theorem dX6_appendFrom_73 : decode cX6_appendFrom 73 = .ok (.ireturn, 1) := by decide +kernel
theorem dX6_mayBeEdit_0 : decode cX6_mayBeEdit 0 = .ok (.iload_n 0, 1) := by decide +kernel
theorem dX6_mayBeEdit_1 : decode cX6_mayBeEdit 1 = .ok (.bipush 6, 2) := by decide +kernel
theorem dX6_mayBeEdit_3 : decode cX6_mayBeEdit 3 = .ok (.invokestatic 60, 3) := by decide +kernel
theorem dX6_mayBeEdit_6 : decode cX6_mayBeEdit 6 = .ok (.ifCond .eq 40, 3) := by decide +kernel
theorem dX6_mayBeEdit_9 : decode cX6_mayBeEdit 9 = .ok (.iconst 0, 1) := by decide +kernel
theorem dX6_mayBeEdit_10 : decode cX6_mayBeEdit 10 = .ok (.iload_n 1, 1) := by decide +kernel
theorem dX6_mayBeEdit_11 : decode cX6_mayBeEdit 11 = .ok (.invokestatic 83, 3) := by decide +kernel
theorem dX6_mayBeEdit_14 : decode cX6_mayBeEdit 14 = .ok (.ifCond .eq 32, 3) := by decide +kernel
theorem dX6_mayBeEdit_17 : decode cX6_mayBeEdit 17 = .ok (.iconst 1, 1) := by decide +kernel
theorem dX6_mayBeEdit_18 : decode cX6_mayBeEdit 18 = .ok (.iload_n 2, 1) := by decide +kernel
theorem dX6_mayBeEdit_19 : decode cX6_mayBeEdit 19 = .ok (.invokestatic 83, 3) := by decide +kernel
theorem dX6_mayBeEdit_22 : decode cX6_mayBeEdit 22 = .ok (.ifCond .eq 24, 3) := by decide +kernel
theorem dX6_mayBeEdit_25 : decode cX6_mayBeEdit 25 = .ok (.iconst 2, 1) := by decide +kernel
theorem dX6_mayBeEdit_26 : decode cX6_mayBeEdit 26 = .ok (.iload_n 3, 1) := by decide +kernel
theorem dX6_mayBeEdit_27 : decode cX6_mayBeEdit 27 = .ok (.invokestatic 83, 3) := by decide +kernel
theorem dX6_mayBeEdit_30 : decode cX6_mayBeEdit 30 = .ok (.ifCond .eq 16, 3) := by decide +kernel
theorem dX6_mayBeEdit_33 : decode cX6_mayBeEdit 33 = .ok (.iconst 3, 1) := by decide +kernel
theorem dX6_mayBeEdit_34 : decode cX6_mayBeEdit 34 = .ok (.iload 4, 2) := by decide +kernel
theorem dX6_mayBeEdit_36 : decode cX6_mayBeEdit 36 = .ok (.invokestatic 83, 3) := by decide +kernel
theorem dX6_mayBeEdit_39 : decode cX6_mayBeEdit 39 = .ok (.ifCond .eq 7, 3) := by decide +kernel
theorem dX6_mayBeEdit_42 : decode cX6_mayBeEdit 42 = .ok (.iconst 1, 1) := by decide +kernel
theorem dX6_mayBeEdit_43 : decode cX6_mayBeEdit 43 = .ok (.goto 4, 3) := by decide +kernel
theorem dX6_mayBeEdit_46 : decode cX6_mayBeEdit 46 = .ok (.iconst 0, 1) := by decide +kernel
theorem dX6_mayBeEdit_47 : decode cX6_mayBeEdit 47 = .ok (.ireturn, 1) := by decide +kernel
theorem dX6_mayBePart_0 : decode cX6_mayBePart 0 = .ok (.iload_n 0, 1) := by decide +kernel
theorem dX6_mayBePart_1 : decode cX6_mayBePart 1 = .ok (.getstatic 116, 3) := by decide +kernel
theorem dX6_mayBePart_4 : decode cX6_mayBePart 4 = .ok (.arraylength, 1) := by decide +kernel
theorem dX6_mayBePart_5 : decode cX6_mayBePart 5 = .ok (.invokestatic 60, 3) := by decide +kernel
theorem dX6_mayBePart_8 : decode cX6_mayBePart 8 = .ok (.ifCond .eq 36, 3) := by decide +kernel
theorem dX6_mayBePart_11 : decode cX6_mayBePart 11 = .ok (.iload_n 0, 1) := by decide +kernel
theorem dX6_mayBePart_12 : decode cX6_mayBePart 12 = .ok (.getstatic 119, 3) := by decide +kernel
theorem dX6_mayBePart_15 : decode cX6_mayBePart 15 = .ok (.arraylength, 1) := by decide +kernel
theorem dX6_mayBePart_16 : decode cX6_mayBePart 16 = .ok (.invokestatic 60, 3) := by decide +kernel
theorem dX6_mayBePart_19 : decode cX6_mayBePart 19 = .ok (.ifCond .eq 25, 3) := by decide +kernel
theorem dX6_mayBePart_22 : decode cX6_mayBePart 22 = .ok (.iload_n 1, 1) := by decide +kernel
theorem dX6_mayBePart_23 : decode cX6_mayBePart 23 = .ok (.getstatic 119, 3) := by decide +kernel
theorem dX6_mayBePart_26 : decode cX6_mayBePart 26 = .ok (.iload_n 0, 1) := by decide +kernel
theorem dX6_mayBePart_27 : decode cX6_mayBePart 27 = .ok (.iaload, 1) := by decide +kernel
theorem dX6_mayBePart_28 : decode cX6_mayBePart 28 = .ok (.if_icmp .lt 16, 3) := by decide +kernel
theorem dX6_mayBePart_31 : decode cX6_mayBePart 31 = .ok (.iload_n 1, 1) := by decide +kernel
theorem dX6_mayBePart_32 : decode cX6_mayBePart 32 = .ok (.getstatic 116, 3) := by decide +kernel
theorem dX6_mayBePart_35 : decode cX6_mayBePart 35 = .ok (.iload_n 0, 1) := by decide +kernel
theorem dX6_mayBePart_36 : decode cX6_mayBePart 36 = .ok (.iaload, 1) := by decide +kernel
theorem dX6_mayBePart_37 : decode cX6_mayBePart 37 = .ok (.if_icmp .gt 7, 3) := by decide +kernel
theorem dX6_mayBePart_40 : decode cX6_mayBePart 40 = .ok (.iconst 1, 1) := by decide +kernel
theorem dX6_mayBePart_41 : decode cX6_mayBePart 41 = .ok (.goto 4, 3) := by decide +kernel
theorem dX6_mayBePart_44 : decode cX6_mayBePart 44 = .ok (.iconst 0, 1) := by decide +kernel
theorem dX6_mayBePart_45 : decode cX6_mayBePart 45 = .ok (.ireturn, 1) := by decide +kernel
theorem dX6_isBelow_0 : decode cX6_isBelow 0 = .ok (.iload_n 0, 1) := by decide +kernel
theorem dX6_isBelow_1 : decode cX6_isBelow 1 = .ok (.ifCond .lt 12, 3) := by decide +kernel
theorem dX6_isBelow_4 : decode cX6_isBelow 4 = .ok (.iload_n 0, 1) := by decide +kernel
theorem dX6_isBelow_5 : decode cX6_isBelow 5 = .ok (.iload_n 1, 1) := by decide +kernel
theorem dX6_isBelow_6 : decode cX6_isBelow 6 = .ok (.if_icmp .ge 7, 3) := by decide +kernel
theorem dX6_isBelow_9 : decode cX6_isBelow 9 = .ok (.iconst 1, 1) := by decide +kernel
theorem dX6_isBelow_10 : decode cX6_isBelow 10 = .ok (.goto 4, 3) := by decide +kernel
theorem dX6_isBelow_13 : decode cX6_isBelow 13 = .ok (.iconst 0, 1) := by decide +kernel
theorem dX6_isBelow_14 : decode cX6_isBelow 14 = .ok (.ireturn, 1) := by decide +kernel
theorem dX6_isEdit_0 : decode cX6_isEdit 0 = .ok (.iload_n 1, 1) := by decide +kernel
theorem dX6_isEdit_1 : decode cX6_isEdit 1 = .ok (.iconst 2, 1) := by decide +kernel
theorem dX6_isEdit_2 : decode cX6_isEdit 2 = .ok (.invokestatic 60, 3) := by decide +kernel
theorem dX6_isEdit_5 : decode cX6_isEdit 5 = .ok (.ifCond .eq 23, 3) := by decide +kernel
theorem dX6_isEdit_8 : decode cX6_isEdit 8 = .ok (.iload_n 2, 1) := by decide +kernel
theorem dX6_isEdit_9 : decode cX6_isEdit 9 = .ok (.aload_n 0, 1) := by decide +kernel
theorem dX6_isEdit_10 : decode cX6_isEdit 10 = .ok (.getfield 11, 3) := by decide +kernel
theorem dX6_isEdit_13 : decode cX6_isEdit 13 = .ok (.iload_n 1, 1) := by decide +kernel
theorem dX6_isEdit_14 : decode cX6_isEdit 14 = .ok (.aaload, 1) := by decide +kernel
theorem dX6_isEdit_15 : decode cX6_isEdit 15 = .ok (.getfield 76, 3) := by decide +kernel
theorem dX6_isEdit_18 : decode cX6_isEdit 18 = .ok (.invokestatic 60, 3) := by decide +kernel
theorem dX6_isEdit_21 : decode cX6_isEdit 21 = .ok (.ifCond .eq 7, 3) := by decide +kernel
theorem dX6_isEdit_24 : decode cX6_isEdit 24 = .ok (.iconst 1, 1) := by decide +kernel
theorem dX6_isEdit_25 : decode cX6_isEdit 25 = .ok (.goto 4, 3) := by decide +kernel
theorem dX6_isEdit_28 : decode cX6_isEdit 28 = .ok (.iconst 0, 1) := by decide +kernel
theorem dX6_isEdit_29 : decode cX6_isEdit 29 = .ok (.ireturn, 1) := by decide +kernel
theorem dX6_found_0 : decode cX6_found 0 = .ok (.aload_n 0, 1) := by decide +kernel
theorem dX6_found_1 : decode cX6_found 1 = .ok (.iload_n 1, 1) := by decide +kernel
theorem dX6_found_2 : decode cX6_found 2 = .ok (.putfield 122, 3) := by decide +kernel
theorem dX6_found_5 : decode cX6_found 5 = .ok (.bipush (-10), 2) := by decide +kernel
theorem dX6_found_7 : decode cX6_found 7 = .ok (.iload_n 1, 1) := by decide +kernel
theorem dX6_found_8 : decode cX6_found 8 = .ok (.isub, 1) := by decide +kernel
theorem dX6_found_9 : decode cX6_found 9 = .ok (.ireturn, 1) := by decide +kernel
theorem dX6_info_0 : decode cX6_info 0 = .ok (.aload_n 0, 1) := by decide +kernel
theorem dX6_info_1 : decode cX6_info 1 = .ok (.iload_n 1, 1) := by decide +kernel
theorem dX6_info_2 : decode cX6_info 2 = .ok (.iload_n 2, 1) := by decide +kernel
theorem dX6_info_3 : decode cX6_info 3 = .ok (.invokevirtual 80, 3) := by decide +kernel
theorem dX6_info_6 : decode cX6_info 6 = .ok (.ifCond .ne 6, 3) := by decide +kernel
theorem dX6_info_9 : decode cX6_info 9 = .ok (.bipush (-2), 2) := by decide +kernel
theorem dX6_info_11 : decode cX6_info 11 = .ok (.ireturn, 1) := by decide +kernel
theorem dX6_info_12 : decode cX6_info 12 = .ok (.aload_n 0, 1) := by decide +kernel
theorem dX6_info_13 : decode cX6_info 13 = .ok (.getfield 11, 3) := by decide +kernel
theorem dX6_info_16 : decode cX6_info 16 = .ok (.iload_n 1, 1) := by decide +kernel
theorem dX6_info_17 : decode cX6_info 17 = .ok (.aaload, 1) := by decide +kernel
theorem dX6_info_18 : decode cX6_info 18 = .ok (.astore 4, 2) := by decide +kernel
theorem dX6_info_20 : decode cX6_info 20 = .ok (.aload 4, 2) := by decide +kernel
theorem dX6_info_22 : decode cX6_info 22 = .ok (.getfield 86, 3) := by decide +kernel
theorem dX6_info_25 : decode cX6_info 25 = .ok (.iload_n 2, 1) := by decide +kernel
theorem dX6_info_26 : decode cX6_info 26 = .ok (.aaload, 1) := by decide +kernel
theorem dX6_info_27 : decode cX6_info 27 = .ok (.astore 5, 2) := by decide +kernel
theorem dX6_info_29 : decode cX6_info 29 = .ok (.iload_n 3, 1) := by decide +kernel
theorem dX6_info_30 : decode cX6_info 30 = .ok (.tableswitch 95 0 7 #[46, 52, 58, 64, 70, 76, 83, 89], 46) := by decide +kernel
theorem dX6_info_76 : decode cX6_info 76 = .ok (.aload 5, 2) := by decide +kernel
theorem dX6_info_78 : decode cX6_info 78 = .ok (.getfield 125, 3) := by decide +kernel
theorem dX6_info_81 : decode cX6_info 81 = .ok (.ireturn, 1) := by decide +kernel
theorem dX6_info_82 : decode cX6_info 82 = .ok (.aload 5, 2) := by decide +kernel
theorem dX6_info_84 : decode cX6_info 84 = .ok (.getfield 128, 3) := by decide +kernel
theorem dX6_info_87 : decode cX6_info 87 = .ok (.ireturn, 1) := by decide +kernel
theorem dX6_info_88 : decode cX6_info 88 = .ok (.aload 5, 2) := by decide +kernel
theorem dX6_info_90 : decode cX6_info 90 = .ok (.getfield 131, 3) := by decide +kernel
theorem dX6_info_93 : decode cX6_info 93 = .ok (.ireturn, 1) := by decide +kernel
theorem dX6_info_94 : decode cX6_info 94 = .ok (.aload 5, 2) := by decide +kernel
theorem dX6_info_96 : decode cX6_info 96 = .ok (.getfield 134, 3) := by decide +kernel
theorem dX6_info_99 : decode cX6_info 99 = .ok (.ireturn, 1) := by decide +kernel
theorem dX6_info_100 : decode cX6_info 100 = .ok (.aload 5, 2) := by decide +kernel
theorem dX6_info_102 : decode cX6_info 102 = .ok (.getfield 137, 3) := by decide +kernel
theorem dX6_info_105 : decode cX6_info 105 = .ok (.ireturn, 1) := by decide +kernel
theorem dX6_info_106 : decode cX6_info 106 = .ok (.aload 4, 2) := by decide +kernel
theorem dX6_info_108 : decode cX6_info 108 = .ok (.iload_n 2, 1) := by decide +kernel
theorem dX6_info_109 : decode cX6_info 109 = .ok (.invokevirtual 140, 3) := by decide +kernel
theorem dX6_info_112 : decode cX6_info 112 = .ok (.ireturn, 1) := by decide +kernel
theorem dX6_info_113 : decode cX6_info 113 = .ok (.aload 5, 2) := by decide +kernel
theorem dX6_info_115 : decode cX6_info 115 = .ok (.invokevirtual 143, 3) := by decide +kernel
theorem dX6_info_118 : decode cX6_info 118 = .ok (.ireturn, 1) := by decide +kernel
theorem dX6_info_119 : decode cX6_info 119 = .ok (.aload 5, 2) := by decide +kernel
theorem dX6_info_121 : decode cX6_info 121 = .ok (.invokevirtual 147, 3) := by decide +kernel
theorem dX6_info_124 : decode cX6_info 124 = .ok (.ireturn, 1) := by decide +kernel
theorem dX6_info_125 : decode cX6_info 125 = .ok (.bipush (-2), 2) := by decide +kernel
theorem dX6_info_127 : decode cX6_info 127 = .ok (.ireturn, 1) := by decide +kernel
theorem dX6_shows_0 : decode cX6_shows 0 = .ok (.iload_n 1, 1) := by decide +kernel
theorem dX6_shows_1 : decode cX6_shows 1 = .ok (.iconst 2, 1) := by decide +kernel
theorem dX6_shows_2 : decode cX6_shows 2 = .ok (.invokestatic 60, 3) := by decide +kernel
theorem dX6_shows_5 : decode cX6_shows 5 = .ok (.ifCond .eq 21, 3) := by decide +kernel
theorem dX6_shows_8 : decode cX6_shows 8 = .ok (.iload_n 2, 1) := by decide +kernel
theorem dX6_shows_9 : decode cX6_shows 9 = .ok (.sipush 4000, 3) := by decide +kernel
theorem dX6_shows_12 : decode cX6_shows 12 = .ok (.invokestatic 60, 3) := by decide +kernel
theorem dX6_shows_15 : decode cX6_shows 15 = .ok (.ifCond .eq 11, 3) := by decide +kernel
theorem dX6_shows_18 : decode cX6_shows 18 = .ok (.iload_n 3, 1) := by decide +kernel
theorem dX6_shows_19 : decode cX6_shows 19 = .ok (.iconst 4, 1) := by decide +kernel
theorem dX6_shows_20 : decode cX6_shows 20 = .ok (.invokestatic 60, 3) := by decide +kernel
theorem dX6_shows_23 : decode cX6_shows 23 = .ok (.ifCond .ne 6, 3) := by decide +kernel
theorem dX6_shows_26 : decode cX6_shows 26 = .ok (.bipush (-2), 2) := by decide +kernel
theorem dX6_shows_28 : decode cX6_shows 28 = .ok (.ireturn, 1) := by decide +kernel
theorem dX6_shows_29 : decode cX6_shows 29 = .ok (.aload_n 0, 1) := by decide +kernel
theorem dX6_shows_30 : decode cX6_shows 30 = .ok (.getfield 11, 3) := by decide +kernel
theorem dX6_shows_33 : decode cX6_shows 33 = .ok (.iload_n 1, 1) := by decide +kernel
theorem dX6_shows_34 : decode cX6_shows 34 = .ok (.aaload, 1) := by decide +kernel
theorem dX6_shows_35 : decode cX6_shows 35 = .ok (.astore 4, 2) := by decide +kernel
theorem dX6_shows_37 : decode cX6_shows 37 = .ok (.aload 4, 2) := by decide +kernel
theorem dX6_shows_39 : decode cX6_shows 39 = .ok (.iload_n 2, 1) := by decide +kernel
theorem dX6_shows_40 : decode cX6_shows 40 = .ok (.invokevirtual 150, 3) := by decide +kernel
theorem dX6_shows_43 : decode cX6_shows 43 = .ok (.istore 5, 2) := by decide +kernel
theorem dX6_shows_45 : decode cX6_shows 45 = .ok (.iload 5, 2) := by decide +kernel
theorem dX6_shows_47 : decode cX6_shows 47 = .ok (.aload 4, 2) := by decide +kernel
theorem dX6_shows_49 : decode cX6_shows 49 = .ok (.getfield 76, 3) := by decide +kernel
theorem dX6_shows_52 : decode cX6_shows 52 = .ok (.invokestatic 60, 3) := by decide +kernel
theorem dX6_shows_55 : decode cX6_shows 55 = .ok (.ifCond .ne 5, 3) := by decide +kernel
theorem dX6_shows_58 : decode cX6_shows 58 = .ok (.iconst (-1), 1) := by decide +kernel
theorem dX6_shows_59 : decode cX6_shows 59 = .ok (.ireturn, 1) := by decide +kernel
theorem dX6_shows_60 : decode cX6_shows 60 = .ok (.aload 4, 2) := by decide +kernel
theorem dX6_shows_62 : decode cX6_shows 62 = .ok (.getfield 86, 3) := by decide +kernel
theorem dX6_shows_65 : decode cX6_shows 65 = .ok (.iload 5, 2) := by decide +kernel
theorem dX6_shows_67 : decode cX6_shows 67 = .ok (.aaload, 1) := by decide +kernel
theorem dX6_shows_68 : decode cX6_shows 68 = .ok (.astore 6, 2) := by decide +kernel
theorem dX6_shows_70 : decode cX6_shows 70 = .ok (.aload 6, 2) := by decide +kernel
theorem dX6_shows_72 : decode cX6_shows 72 = .ok (.iload_n 2, 1) := by decide +kernel
theorem dX6_shows_73 : decode cX6_shows 73 = .ok (.aload 4, 2) := by decide +kernel
theorem dX6_shows_75 : decode cX6_shows 75 = .ok (.iload 5, 2) := by decide +kernel
theorem dX6_shows_77 : decode cX6_shows 77 = .ok (.invokevirtual 140, 3) := by decide +kernel
theorem dX6_shows_80 : decode cX6_shows 80 = .ok (.isub, 1) := by decide +kernel
theorem dX6_shows_81 : decode cX6_shows 81 = .ok (.invokevirtual 153, 3) := by decide +kernel
theorem dX6_shows_84 : decode cX6_shows 84 = .ok (.istore 7, 2) := by decide +kernel
theorem dX6_shows_86 : decode cX6_shows 86 = .ok (.iload_n 3, 1) := by decide +kernel
theorem dX6_shows_87 : decode cX6_shows 87 = .ok (.tableswitch 37 0 2 #[25, 28, 34], 25) := by decide +kernel
theorem dX6_shows_112 : decode cX6_shows 112 = .ok (.iload 5, 2) := by decide +kernel
theorem dX6_shows_114 : decode cX6_shows 114 = .ok (.ireturn, 1) := by decide +kernel
theorem dX6_shows_115 : decode cX6_shows 115 = .ok (.aload 6, 2) := by decide +kernel
theorem dX6_shows_117 : decode cX6_shows 117 = .ok (.getfield 125, 3) := by decide +kernel
theorem dX6_shows_120 : decode cX6_shows 120 = .ok (.ireturn, 1) := by decide +kernel
theorem dX6_shows_121 : decode cX6_shows 121 = .ok (.iload 7, 2) := by decide +kernel
theorem dX6_shows_123 : decode cX6_shows 123 = .ok (.ireturn, 1) := by decide +kernel
theorem dX6_shows_124 : decode cX6_shows 124 = .ok (.iload 7, 2) := by decide +kernel
theorem dX6_shows_126 : decode cX6_shows 126 = .ok (.aload_n 0, 1) := by decide +kernel
theorem dX6_shows_127 : decode cX6_shows 127 = .ok (.aload 6, 2) := by decide +kernel
theorem dX6_shows_129 : decode cX6_shows 129 = .ok (.getfield 125, 3) := by decide +kernel
theorem dX6_shows_132 : decode cX6_shows 132 = .ok (.invokevirtual 156, 3) := by decide +kernel
theorem dX6_shows_135 : decode cX6_shows 135 = .ok (.if_icmp .ge 7, 3) := by decide +kernel
theorem dX6_shows_138 : decode cX6_shows 138 = .ok (.iconst 0, 1) := by decide +kernel
theorem dX6_shows_139 : decode cX6_shows 139 = .ok (.goto 4, 3) := by decide +kernel
theorem dX6_shows_142 : decode cX6_shows 142 = .ok (.iconst 1, 1) := by decide +kernel
theorem dX6_shows_143 : decode cX6_shows 143 = .ok (.ireturn, 1) := by decide +kernel
theorem dX6_seen_0 : decode cX6_seen 0 = .ok (.iload_n 1, 1) := by decide +kernel
theorem dX6_seen_1 : decode cX6_seen 1 = .ok (.iconst 2, 1) := by decide +kernel
theorem dX6_seen_2 : decode cX6_seen 2 = .ok (.invokestatic 60, 3) := by decide +kernel
theorem dX6_seen_5 : decode cX6_seen 5 = .ok (.ifCond .eq 30, 3) := by decide +kernel
theorem dX6_seen_8 : decode cX6_seen 8 = .ok (.iload_n 2, 1) := by decide +kernel
theorem dX6_seen_9 : decode cX6_seen 9 = .ok (.bipush 6, 2) := by decide +kernel
theorem dX6_seen_11 : decode cX6_seen 11 = .ok (.invokestatic 60, 3) := by decide +kernel
theorem dX6_seen_14 : decode cX6_seen 14 = .ok (.ifCond .eq 21, 3) := by decide +kernel
theorem dX6_seen_17 : decode cX6_seen 17 = .ok (.iload_n 3, 1) := by decide +kernel
theorem dX6_seen_18 : decode cX6_seen 18 = .ok (.ldc 159, 2) := by decide +kernel
theorem dX6_seen_20 : decode cX6_seen 20 = .ok (.invokestatic 60, 3) := by decide +kernel
theorem dX6_seen_23 : decode cX6_seen 23 = .ok (.ifCond .eq 12, 3) := by decide +kernel
theorem dX6_seen_26 : decode cX6_seen 26 = .ok (.iload 4, 2) := by decide +kernel
theorem dX6_seen_28 : decode cX6_seen 28 = .ok (.iconst 2, 1) := by decide +kernel
theorem dX6_seen_29 : decode cX6_seen 29 = .ok (.invokestatic 60, 3) := by decide +kernel
theorem dX6_seen_32 : decode cX6_seen 32 = .ok (.ifCond .ne 6, 3) := by decide +kernel
theorem dX6_seen_35 : decode cX6_seen 35 = .ok (.bipush (-2), 2) := by decide +kernel
theorem dX6_seen_37 : decode cX6_seen 37 = .ok (.ireturn, 1) := by decide +kernel
theorem dX6_seen_38 : decode cX6_seen 38 = .ok (.iload 4, 2) := by decide +kernel
theorem dX6_seen_40 : decode cX6_seen 40 = .ok (.ifCond .ne 17, 3) := by decide +kernel
theorem dX6_seen_43 : decode cX6_seen 43 = .ok (.aload_n 0, 1) := by decide +kernel
theorem dX6_seen_44 : decode cX6_seen 44 = .ok (.getfield 11, 3) := by decide +kernel
theorem dX6_seen_47 : decode cX6_seen 47 = .ok (.iload_n 1, 1) := by decide +kernel
theorem dX6_seen_48 : decode cX6_seen 48 = .ok (.aaload, 1) := by decide +kernel
theorem dX6_seen_49 : decode cX6_seen 49 = .ok (.iload_n 2, 1) := by decide +kernel
theorem dX6_seen_50 : decode cX6_seen 50 = .ok (.iload_n 3, 1) := by decide +kernel
theorem dX6_seen_51 : decode cX6_seen 51 = .ok (.invokevirtual 160, 3) := by decide +kernel
theorem dX6_seen_54 : decode cX6_seen 54 = .ok (.goto 14, 3) := by decide +kernel
theorem dX6_seen_57 : decode cX6_seen 57 = .ok (.aload_n 0, 1) := by decide +kernel
theorem dX6_seen_58 : decode cX6_seen 58 = .ok (.getfield 11, 3) := by decide +kernel
theorem dX6_seen_61 : decode cX6_seen 61 = .ok (.iload_n 1, 1) := by decide +kernel
theorem dX6_seen_62 : decode cX6_seen 62 = .ok (.aaload, 1) := by decide +kernel
theorem dX6_seen_63 : decode cX6_seen 63 = .ok (.iload_n 2, 1) := by decide +kernel
theorem dX6_seen_64 : decode cX6_seen 64 = .ok (.iload_n 3, 1) := by decide +kernel
theorem dX6_seen_65 : decode cX6_seen 65 = .ok (.invokevirtual 164, 3) := by decide +kernel
theorem dX6_seen_68 : decode cX6_seen 68 = .ok (.ireturn, 1) := by decide +kernel
theorem dX6_still_0 : decode cX6_still 0 = .ok (.aload_n 0, 1) := by decide +kernel
theorem dX6_still_1 : decode cX6_still 1 = .ok (.iload_n 1, 1) := by decide +kernel
theorem dX6_still_2 : decode cX6_still 2 = .ok (.iload_n 2, 1) := by decide +kernel
theorem dX6_still_3 : decode cX6_still 3 = .ok (.invokevirtual 80, 3) := by decide +kernel
theorem dX6_still_6 : decode cX6_still 6 = .ok (.ifCond .eq 11, 3) := by decide +kernel
theorem dX6_still_9 : decode cX6_still 9 = .ok (.iload_n 3, 1) := by decide +kernel
theorem dX6_still_10 : decode cX6_still 10 = .ok (.iconst 2, 1) := by decide +kernel
theorem dX6_still_11 : decode cX6_still 11 = .ok (.invokestatic 60, 3) := by decide +kernel
theorem dX6_still_14 : decode cX6_still 14 = .ok (.ifCond .ne 6, 3) := by decide +kernel
theorem dX6_still_17 : decode cX6_still 17 = .ok (.bipush (-2), 2) := by decide +kernel
theorem dX6_still_19 : decode cX6_still 19 = .ok (.ireturn, 1) := by decide +kernel
theorem dX6_still_20 : decode cX6_still 20 = .ok (.aload_n 0, 1) := by decide +kernel
theorem dX6_still_21 : decode cX6_still 21 = .ok (.getfield 11, 3) := by decide +kernel
theorem dX6_still_24 : decode cX6_still 24 = .ok (.iload_n 1, 1) := by decide +kernel
theorem dX6_still_25 : decode cX6_still 25 = .ok (.aaload, 1) := by decide +kernel
theorem dX6_still_26 : decode cX6_still 26 = .ok (.getfield 86, 3) := by decide +kernel
theorem dX6_still_29 : decode cX6_still 29 = .ok (.iload_n 2, 1) := by decide +kernel
theorem dX6_still_30 : decode cX6_still 30 = .ok (.aaload, 1) := by decide +kernel
theorem dX6_still_31 : decode cX6_still 31 = .ok (.astore 4, 2) := by decide +kernel
theorem dX6_still_33 : decode cX6_still 33 = .ok (.iload_n 3, 1) := by decide +kernel
theorem dX6_still_34 : decode cX6_still 34 = .ok (.ifCond .ne 11, 3) := by decide +kernel
theorem dX6_still_37 : decode cX6_still 37 = .ok (.aload 4, 2) := by decide +kernel
theorem dX6_still_39 : decode cX6_still 39 = .ok (.getfield 131, 3) := by decide +kernel
theorem dX6_still_42 : decode cX6_still 42 = .ok (.goto 8, 3) := by decide +kernel
theorem dX6_still_45 : decode cX6_still 45 = .ok (.aload 4, 2) := by decide +kernel
theorem dX6_still_47 : decode cX6_still 47 = .ok (.invokevirtual 167, 3) := by decide +kernel
theorem dX6_still_50 : decode cX6_still 50 = .ok (.aload 4, 2) := by decide +kernel
theorem dX6_still_52 : decode cX6_still 52 = .ok (.invokevirtual 170, 3) := by decide +kernel
theorem dX6_still_55 : decode cX6_still 55 = .ok (.isub, 1) := by decide +kernel
theorem dX6_still_56 : decode cX6_still 56 = .ok (.ireturn, 1) := by decide +kernel
theorem dX6_lengthOf_0 : decode cX6_lengthOf 0 = .ok (.iload_n 1, 1) := by decide +kernel
theorem dX6_lengthOf_1 : decode cX6_lengthOf 1 = .ok (.bipush 6, 2) := by decide +kernel
theorem dX6_lengthOf_3 : decode cX6_lengthOf 3 = .ok (.invokestatic 60, 3) := by decide +kernel
theorem dX6_lengthOf_6 : decode cX6_lengthOf 6 = .ok (.ifCond .eq 12, 3) := by decide +kernel
theorem dX6_lengthOf_9 : decode cX6_lengthOf 9 = .ok (.aload_n 0, 1) := by decide +kernel
theorem dX6_lengthOf_10 : decode cX6_lengthOf 10 = .ok (.getfield 15, 3) := by decide +kernel
theorem dX6_lengthOf_13 : decode cX6_lengthOf 13 = .ok (.iload_n 1, 1) := by decide +kernel
theorem dX6_lengthOf_14 : decode cX6_lengthOf 14 = .ok (.iaload, 1) := by decide +kernel
theorem dX6_lengthOf_15 : decode cX6_lengthOf 15 = .ok (.goto 4, 3) := by decide +kernel
theorem dX6_lengthOf_18 : decode cX6_lengthOf 18 = .ok (.iconst 0, 1) := by decide +kernel
theorem dX6_lengthOf_19 : decode cX6_lengthOf 19 = .ok (.ireturn, 1) := by decide +kernel
theorem dX6_told_0 : decode cX6_told 0 = .ok (.iload_n 1, 1) := by decide +kernel
theorem dX6_told_1 : decode cX6_told 1 = .ok (.ldc 173, 2) := by decide +kernel
theorem dX6_told_3 : decode cX6_told 3 = .ok (.invokestatic 60, 3) := by decide +kernel
theorem dX6_told_6 : decode cX6_told 6 = .ok (.ifCond .eq 11, 3) := by decide +kernel
theorem dX6_told_9 : decode cX6_told 9 = .ok (.iload_n 2, 1) := by decide +kernel
theorem dX6_told_10 : decode cX6_told 10 = .ok (.iconst 4, 1) := by decide +kernel
theorem dX6_told_11 : decode cX6_told 11 = .ok (.invokestatic 60, 3) := by decide +kernel
theorem dX6_told_14 : decode cX6_told 14 = .ok (.ifCond .ne 6, 3) := by decide +kernel
theorem dX6_told_17 : decode cX6_told 17 = .ok (.bipush (-2), 2) := by decide +kernel
theorem dX6_told_19 : decode cX6_told 19 = .ok (.ireturn, 1) := by decide +kernel
theorem dX6_told_20 : decode cX6_told 20 = .ok (.iload_n 1, 1) := by decide +kernel
theorem dX6_told_21 : decode cX6_told 21 = .ok (.aload_n 0, 1) := by decide +kernel
theorem dX6_told_22 : decode cX6_told 22 = .ok (.getfield 22, 3) := by decide +kernel
theorem dX6_told_25 : decode cX6_told 25 = .ok (.iconst 0, 1) := by decide +kernel
theorem dX6_told_26 : decode cX6_told 26 = .ok (.iaload, 1) := by decide +kernel
theorem dX6_told_27 : decode cX6_told 27 = .ok (.iload_n 2, 1) := by decide +kernel
theorem dX6_told_28 : decode cX6_told 28 = .ok (.invokestatic 174, 3) := by decide +kernel
theorem dX6_told_31 : decode cX6_told 31 = .ok (.ireturn, 1) := by decide +kernel
theorem dX6_number_0 : decode cX6_number 0 = .ok (.aload_n 0, 1) := by decide +kernel
theorem dX6_number_1 : decode cX6_number 1 = .ok (.getfield 22, 3) := by decide +kernel
theorem dX6_number_4 : decode cX6_number 4 = .ok (.iconst 0, 1) := by decide +kernel
theorem dX6_number_5 : decode cX6_number 5 = .ok (.iaload, 1) := by decide +kernel
theorem dX6_number_6 : decode cX6_number 6 = .ok (.istore 5, 2) := by decide +kernel
theorem dX6_number_8 : decode cX6_number 8 = .ok (.iload_n 1, 1) := by decide +kernel
theorem dX6_number_9 : decode cX6_number 9 = .ok (.bipush 100, 2) := by decide +kernel
theorem dX6_number_11 : decode cX6_number 11 = .ok (.invokestatic 60, 3) := by decide +kernel
theorem dX6_number_14 : decode cX6_number 14 = .ok (.ifCond .eq 34, 3) := by decide +kernel
theorem dX6_number_17 : decode cX6_number 17 = .ok (.iload_n 2, 1) := by decide +kernel
theorem dX6_number_18 : decode cX6_number 18 = .ok (.bipush 60, 2) := by decide +kernel
theorem dX6_number_20 : decode cX6_number 20 = .ok (.invokestatic 60, 3) := by decide +kernel
theorem dX6_number_23 : decode cX6_number 23 = .ok (.ifCond .eq 25, 3) := by decide +kernel
theorem dX6_number_26 : decode cX6_number 26 = .ok (.iload_n 3, 1) := by decide +kernel
theorem dX6_number_27 : decode cX6_number 27 = .ok (.bipush 60, 2) := by decide +kernel
theorem dX6_number_29 : decode cX6_number 29 = .ok (.invokestatic 60, 3) := by decide +kernel
theorem dX6_number_32 : decode cX6_number 32 = .ok (.ifCond .eq 16, 3) := by decide +kernel
theorem dX6_number_35 : decode cX6_number 35 = .ok (.iload 4, 2) := by decide +kernel
theorem dX6_number_37 : decode cX6_number 37 = .ok (.iload 5, 2) := by decide +kernel
theorem dX6_number_39 : decode cX6_number 39 = .ok (.invokestatic 179, 3) := by decide +kernel
theorem dX6_number_42 : decode cX6_number 42 = .ok (.invokestatic 60, 3) := by decide +kernel
theorem dX6_number_45 : decode cX6_number 45 = .ok (.ifCond .ne 6, 3) := by decide +kernel
theorem dX6_number_48 : decode cX6_number 48 = .ok (.bipush (-2), 2) := by decide +kernel
theorem dX6_number_50 : decode cX6_number 50 = .ok (.ireturn, 1) := by decide +kernel
theorem dX6_number_51 : decode cX6_number 51 = .ok (.iload 5, 2) := by decide +kernel
theorem dX6_number_53 : decode cX6_number 53 = .ok (.ifCond .ne 16, 3) := by decide +kernel
theorem dX6_number_56 : decode cX6_number 56 = .ok (.iload_n 2, 1) := by decide +kernel
theorem dX6_number_57 : decode cX6_number 57 = .ok (.iload_n 3, 1) := by decide +kernel
theorem dX6_number_58 : decode cX6_number 58 = .ok (.iload 4, 2) := by decide +kernel
theorem dX6_number_60 : decode cX6_number 60 = .ok (.invokestatic 182, 3) := by decide +kernel
theorem dX6_number_63 : decode cX6_number 63 = .ok (.ifCond .eq 6, 3) := by decide +kernel
theorem dX6_number_66 : decode cX6_number 66 = .ok (.bipush (-3), 2) := by decide +kernel
theorem dX6_number_68 : decode cX6_number 68 = .ok (.ireturn, 1) := by decide +kernel
theorem dX6_number_69 : decode cX6_number 69 = .ok (.iload_n 1, 1) := by decide +kernel
theorem dX6_number_70 : decode cX6_number 70 = .ok (.bipush 60, 2) := by decide +kernel
theorem dX6_number_72 : decode cX6_number 72 = .ok (.imul, 1) := by decide +kernel
theorem dX6_number_73 : decode cX6_number 73 = .ok (.iload_n 2, 1) := by decide +kernel
theorem dX6_number_74 : decode cX6_number 74 = .ok (.iadd, 1) := by decide +kernel
theorem dX6_number_75 : decode cX6_number 75 = .ok (.iload_n 3, 1) := by decide +kernel
theorem dX6_number_76 : decode cX6_number 76 = .ok (.iload 4, 2) := by decide +kernel
theorem dX6_number_78 : decode cX6_number 78 = .ok (.iload 5, 2) := by decide +kernel
theorem dX6_number_80 : decode cX6_number 80 = .ok (.invokestatic 186, 3) := by decide +kernel
theorem dX6_number_83 : decode cX6_number 83 = .ok (.ireturn, 1) := by decide +kernel
theorem dX6_pulls_0 : decode cX6_pulls 0 = .ok (.iload_n 1, 1) := by decide +kernel
theorem dX6_pulls_1 : decode cX6_pulls 1 = .ok (.iconst 2, 1) := by decide +kernel
theorem dX6_pulls_2 : decode cX6_pulls 2 = .ok (.invokestatic 60, 3) := by decide +kernel
theorem dX6_pulls_5 : decode cX6_pulls 5 = .ok (.ifCond .eq 15, 3) := by decide +kernel
theorem dX6_pulls_8 : decode cX6_pulls 8 = .ok (.aload_n 0, 1) := by decide +kernel
theorem dX6_pulls_9 : decode cX6_pulls 9 = .ok (.iload_n 1, 1) := by decide +kernel
theorem dX6_pulls_10 : decode cX6_pulls 10 = .ok (.iconst (-1), 1) := by decide +kernel
theorem dX6_pulls_11 : decode cX6_pulls 11 = .ok (.invokevirtual 190, 3) := by decide +kernel
theorem dX6_pulls_14 : decode cX6_pulls 14 = .ok (.getfield 194, 3) := by decide +kernel
theorem dX6_pulls_17 : decode cX6_pulls 17 = .ok (.goto 5, 3) := by decide +kernel
theorem dX6_pulls_20 : decode cX6_pulls 20 = .ok (.bipush (-2), 2) := by decide +kernel
theorem dX6_pulls_22 : decode cX6_pulls 22 = .ok (.ireturn, 1) := by decide +kernel
theorem dX6_pull_0 : decode cX6_pull 0 = .ok (.iload_n 1, 1) := by decide +kernel
theorem dX6_pull_1 : decode cX6_pull 1 = .ok (.iconst 2, 1) := by decide +kernel
theorem dX6_pull_2 : decode cX6_pull 2 = .ok (.invokestatic 60, 3) := by decide +kernel
theorem dX6_pull_5 : decode cX6_pull 5 = .ok (.ifCond .eq 20, 3) := by decide +kernel
theorem dX6_pull_8 : decode cX6_pull 8 = .ok (.iload_n 2, 1) := by decide +kernel
theorem dX6_pull_9 : decode cX6_pull 9 = .ok (.bipush 8, 2) := by decide +kernel
theorem dX6_pull_11 : decode cX6_pull 11 = .ok (.invokestatic 60, 3) := by decide +kernel
theorem dX6_pull_14 : decode cX6_pull 14 = .ok (.ifCond .eq 11, 3) := by decide +kernel
theorem dX6_pull_17 : decode cX6_pull 17 = .ok (.iload_n 3, 1) := by decide +kernel
theorem dX6_pull_18 : decode cX6_pull 18 = .ok (.iconst 5, 1) := by decide +kernel
theorem dX6_pull_19 : decode cX6_pull 19 = .ok (.invokestatic 60, 3) := by decide +kernel
theorem dX6_pull_22 : decode cX6_pull 22 = .ok (.ifCond .ne 6, 3) := by decide +kernel
theorem dX6_pull_25 : decode cX6_pull 25 = .ok (.bipush (-2), 2) := by decide +kernel
theorem dX6_pull_27 : decode cX6_pull 27 = .ok (.ireturn, 1) := by decide +kernel
theorem dX6_pull_28 : decode cX6_pull 28 = .ok (.aload_n 0, 1) := by decide +kernel
theorem dX6_pull_29 : decode cX6_pull 29 = .ok (.iload_n 1, 1) := by decide +kernel
theorem dX6_pull_30 : decode cX6_pull 30 = .ok (.iconst (-1), 1) := by decide +kernel
theorem dX6_pull_31 : decode cX6_pull 31 = .ok (.invokevirtual 190, 3) := by decide +kernel
theorem dX6_pull_34 : decode cX6_pull 34 = .ok (.astore 4, 2) := by decide +kernel
theorem dX6_pull_36 : decode cX6_pull 36 = .ok (.iload_n 2, 1) := by decide +kernel
theorem dX6_pull_37 : decode cX6_pull 37 = .ok (.aload 4, 2) := by decide +kernel
theorem dX6_pull_39 : decode cX6_pull 39 = .ok (.getfield 194, 3) := by decide +kernel
theorem dX6_pull_42 : decode cX6_pull 42 = .ok (.invokestatic 60, 3) := by decide +kernel
theorem dX6_pull_45 : decode cX6_pull 45 = .ok (.ifCond .ne 5, 3) := by decide +kernel
theorem dX6_pull_48 : decode cX6_pull 48 = .ok (.iconst (-1), 1) := by decide +kernel
theorem dX6_pull_49 : decode cX6_pull 49 = .ok (.ireturn, 1) := by decide +kernel
theorem dX6_pull_50 : decode cX6_pull 50 = .ok (.iload_n 3, 1) := by decide +kernel
theorem dX6_pull_51 : decode cX6_pull 51 = .ok (.tableswitch 61 0 3 #[29, 37, 45, 53], 29) := by decide +kernel
theorem dX6_pull_80 : decode cX6_pull 80 = .ok (.aload 4, 2) := by decide +kernel
theorem dX6_pull_82 : decode cX6_pull 82 = .ok (.getfield 195, 3) := by decide +kernel
theorem dX6_pull_85 : decode cX6_pull 85 = .ok (.iload_n 2, 1) := by decide +kernel
theorem dX6_pull_86 : decode cX6_pull 86 = .ok (.iaload, 1) := by decide +kernel
theorem dX6_pull_87 : decode cX6_pull 87 = .ok (.ireturn, 1) := by decide +kernel
theorem dX6_pull_88 : decode cX6_pull 88 = .ok (.aload 4, 2) := by decide +kernel
theorem dX6_pull_90 : decode cX6_pull 90 = .ok (.getfield 198, 3) := by decide +kernel
theorem dX6_pull_93 : decode cX6_pull 93 = .ok (.iload_n 2, 1) := by decide +kernel
theorem dX6_pull_94 : decode cX6_pull 94 = .ok (.iaload, 1) := by decide +kernel
theorem dX6_pull_95 : decode cX6_pull 95 = .ok (.ireturn, 1) := by decide +kernel
theorem dX6_pull_96 : decode cX6_pull 96 = .ok (.aload 4, 2) := by decide +kernel
theorem dX6_pull_98 : decode cX6_pull 98 = .ok (.getfield 201, 3) := by decide +kernel
theorem dX6_pull_101 : decode cX6_pull 101 = .ok (.iload_n 2, 1) := by decide +kernel
theorem dX6_pull_102 : decode cX6_pull 102 = .ok (.iaload, 1) := by decide +kernel
theorem dX6_pull_103 : decode cX6_pull 103 = .ok (.ireturn, 1) := by decide +kernel
theorem dX6_pull_104 : decode cX6_pull 104 = .ok (.aload 4, 2) := by decide +kernel
theorem dX6_pull_106 : decode cX6_pull 106 = .ok (.getfield 204, 3) := by decide +kernel
theorem dX6_pull_109 : decode cX6_pull 109 = .ok (.iload_n 2, 1) := by decide +kernel
theorem dX6_pull_110 : decode cX6_pull 110 = .ok (.iaload, 1) := by decide +kernel
theorem dX6_pull_111 : decode cX6_pull 111 = .ok (.ireturn, 1) := by decide +kernel
theorem dX6_pull_112 : decode cX6_pull 112 = .ok (.aload_n 0, 1) := by decide +kernel
theorem dX6_pull_113 : decode cX6_pull 113 = .ok (.aload 4, 2) := by decide +kernel
theorem dX6_pull_115 : decode cX6_pull 115 = .ok (.iload_n 2, 1) := by decide +kernel
theorem dX6_pull_116 : decode cX6_pull 116 = .ok (.invokevirtual 207, 3) := by decide +kernel
theorem dX6_pull_119 : decode cX6_pull 119 = .ok (.ireturn, 1) := by decide +kernel
theorem dX6_waste_0 : decode cX6_waste 0 = .ok (.iload_n 1, 1) := by decide +kernel
theorem dX6_waste_1 : decode cX6_waste 1 = .ok (.iconst 2, 1) := by decide +kernel
theorem dX6_waste_2 : decode cX6_waste 2 = .ok (.invokestatic 60, 3) := by decide +kernel
theorem dX6_waste_5 : decode cX6_waste 5 = .ok (.ifCond .eq 25, 3) := by decide +kernel
theorem dX6_waste_8 : decode cX6_waste 8 = .ok (.aload_n 0, 1) := by decide +kernel
theorem dX6_waste_9 : decode cX6_waste 9 = .ok (.iload_n 1, 1) := by decide +kernel
theorem dX6_waste_10 : decode cX6_waste 10 = .ok (.iconst (-1), 1) := by decide +kernel
theorem dX6_waste_11 : decode cX6_waste 11 = .ok (.invokevirtual 190, 3) := by decide +kernel
theorem dX6_waste_14 : decode cX6_waste 14 = .ok (.invokevirtual 211, 3) := by decide +kernel
theorem dX6_waste_17 : decode cX6_waste 17 = .ok (.aload_n 0, 1) := by decide +kernel
theorem dX6_waste_18 : decode cX6_waste 18 = .ok (.getfield 11, 3) := by decide +kernel
theorem dX6_waste_21 : decode cX6_waste 21 = .ok (.iload_n 1, 1) := by decide +kernel
theorem dX6_waste_22 : decode cX6_waste 22 = .ok (.aaload, 1) := by decide +kernel
theorem dX6_waste_23 : decode cX6_waste 23 = .ok (.invokevirtual 214, 3) := by decide +kernel
theorem dX6_waste_26 : decode cX6_waste 26 = .ok (.isub, 1) := by decide +kernel
theorem dX6_waste_27 : decode cX6_waste 27 = .ok (.goto 5, 3) := by decide +kernel
theorem dX6_waste_30 : decode cX6_waste 30 = .ok (.bipush (-2), 2) := by decide +kernel
theorem dX6_waste_32 : decode cX6_waste 32 = .ok (.ireturn, 1) := by decide +kernel
theorem dX6_total_0 : decode cX6_total 0 = .ok (.iload_n 1, 1) := by decide +kernel
theorem dX6_total_1 : decode cX6_total 1 = .ok (.iconst 2, 1) := by decide +kernel
theorem dX6_total_2 : decode cX6_total 2 = .ok (.invokestatic 60, 3) := by decide +kernel
theorem dX6_total_5 : decode cX6_total 5 = .ok (.ifCond .ne 6, 3) := by decide +kernel
theorem dX6_total_8 : decode cX6_total 8 = .ok (.bipush (-2), 2) := by decide +kernel
theorem dX6_total_10 : decode cX6_total 10 = .ok (.ireturn, 1) := by decide +kernel
theorem dX6_total_11 : decode cX6_total 11 = .ok (.iload_n 2, 1) := by decide +kernel
theorem dX6_total_12 : decode cX6_total 12 = .ok (.tableswitch 59 0 2 #[28, 38, 48], 28) := by decide +kernel
theorem dX6_total_40 : decode cX6_total 40 = .ok (.aload_n 0, 1) := by decide +kernel
theorem dX6_total_41 : decode cX6_total 41 = .ok (.iload_n 1, 1) := by decide +kernel
theorem dX6_total_42 : decode cX6_total 42 = .ok (.iconst (-1), 1) := by decide +kernel
theorem dX6_total_43 : decode cX6_total 43 = .ok (.invokevirtual 190, 3) := by decide +kernel
theorem dX6_total_46 : decode cX6_total 46 = .ok (.invokevirtual 211, 3) := by decide +kernel
theorem dX6_total_49 : decode cX6_total 49 = .ok (.ireturn, 1) := by decide +kernel
theorem dX6_total_50 : decode cX6_total 50 = .ok (.aload_n 0, 1) := by decide +kernel
theorem dX6_total_51 : decode cX6_total 51 = .ok (.getfield 11, 3) := by decide +kernel
theorem dX6_total_54 : decode cX6_total 54 = .ok (.iload_n 1, 1) := by decide +kernel
theorem dX6_total_55 : decode cX6_total 55 = .ok (.aaload, 1) := by decide +kernel
theorem dX6_total_56 : decode cX6_total 56 = .ok (.invokevirtual 217, 3) := by decide +kernel
theorem dX6_total_59 : decode cX6_total 59 = .ok (.ireturn, 1) := by decide +kernel
theorem dX6_total_60 : decode cX6_total 60 = .ok (.aload_n 0, 1) := by decide +kernel
theorem dX6_total_61 : decode cX6_total 61 = .ok (.aload_n 0, 1) := by decide +kernel
theorem dX6_total_62 : decode cX6_total 62 = .ok (.iload_n 1, 1) := by decide +kernel
theorem dX6_total_63 : decode cX6_total 63 = .ok (.iconst (-1), 1) := by decide +kernel
theorem dX6_total_64 : decode cX6_total 64 = .ok (.invokevirtual 190, 3) := by decide +kernel
theorem dX6_total_67 : decode cX6_total 67 = .ok (.invokevirtual 218, 3) := by decide +kernel
theorem dX6_total_70 : decode cX6_total 70 = .ok (.ireturn, 1) := by decide +kernel
theorem dX6_total_71 : decode cX6_total 71 = .ok (.bipush (-2), 2) := by decide +kernel
theorem dX6_total_73 : decode cX6_total 73 = .ok (.ireturn, 1) := by decide +kernel
theorem dX6_lackingOfAll_0 : decode cX6_lackingOfAll 0 = .ok (.iconst 0, 1) := by decide +kernel
theorem dX6_lackingOfAll_1 : decode cX6_lackingOfAll 1 = .ok (.istore_n 2, 1) := by decide +kernel
theorem dX6_lackingOfAll_2 : decode cX6_lackingOfAll 2 = .ok (.iconst 0, 1) := by decide +kernel
theorem dX6_lackingOfAll_3 : decode cX6_lackingOfAll 3 = .ok (.istore_n 3, 1) := by decide +kernel
theorem dX6_lackingOfAll_4 : decode cX6_lackingOfAll 4 = .ok (.iload_n 3, 1) := by decide +kernel
theorem dX6_lackingOfAll_5 : decode cX6_lackingOfAll 5 = .ok (.aload_n 1, 1) := by decide +kernel
theorem dX6_lackingOfAll_6 : decode cX6_lackingOfAll 6 = .ok (.getfield 194, 3) := by decide +kernel
theorem dX6_lackingOfAll_9 : decode cX6_lackingOfAll 9 = .ok (.if_icmp .ge 18, 3) := by decide +kernel
theorem dX6_lackingOfAll_12 : decode cX6_lackingOfAll 12 = .ok (.iload_n 2, 1) := by decide +kernel
theorem dX6_lackingOfAll_13 : decode cX6_lackingOfAll 13 = .ok (.aload_n 0, 1) := by decide +kernel
theorem dX6_lackingOfAll_14 : decode cX6_lackingOfAll 14 = .ok (.aload_n 1, 1) := by decide +kernel
theorem dX6_lackingOfAll_15 : decode cX6_lackingOfAll 15 = .ok (.iload_n 3, 1) := by decide +kernel
theorem dX6_lackingOfAll_16 : decode cX6_lackingOfAll 16 = .ok (.invokevirtual 207, 3) := by decide +kernel
theorem dX6_lackingOfAll_19 : decode cX6_lackingOfAll 19 = .ok (.iadd, 1) := by decide +kernel
theorem dX6_lackingOfAll_20 : decode cX6_lackingOfAll 20 = .ok (.istore_n 2, 1) := by decide +kernel
theorem dX6_lackingOfAll_21 : decode cX6_lackingOfAll 21 = .ok (.iinc 3 1, 3) := by decide +kernel
theorem dX6_lackingOfAll_24 : decode cX6_lackingOfAll 24 = .ok (.goto (-20), 3) := by decide +kernel
theorem dX6_lackingOfAll_27 : decode cX6_lackingOfAll 27 = .ok (.iload_n 2, 1) := by decide +kernel
theorem dX6_lackingOfAll_28 : decode cX6_lackingOfAll 28 = .ok (.ireturn, 1) := by decide +kernel
theorem dX6_lacking_0 : decode cX6_lacking 0 = .ok (.iload_n 2, 1) := by decide +kernel
theorem dX6_lacking_1 : decode cX6_lacking 1 = .ok (.aload_n 1, 1) := by decide +kernel
theorem dX6_lacking_2 : decode cX6_lacking 2 = .ok (.getfield 194, 3) := by decide +kernel
theorem dX6_lacking_5 : decode cX6_lacking 5 = .ok (.invokestatic 60, 3) := by decide +kernel
theorem dX6_lacking_8 : decode cX6_lacking 8 = .ok (.ifCond .ne 5, 3) := by decide +kernel
theorem dX6_lacking_11 : decode cX6_lacking 11 = .ok (.iconst 0, 1) := by decide +kernel
theorem dX6_lacking_12 : decode cX6_lacking 12 = .ok (.ireturn, 1) := by decide +kernel
theorem dX6_lacking_13 : decode cX6_lacking 13 = .ok (.aload_n 1, 1) := by decide +kernel
theorem dX6_lacking_14 : decode cX6_lacking 14 = .ok (.getfield 198, 3) := by decide +kernel
theorem dX6_lacking_17 : decode cX6_lacking 17 = .ok (.iload_n 2, 1) := by decide +kernel
theorem dX6_lacking_18 : decode cX6_lacking 18 = .ok (.iaload, 1) := by decide +kernel
theorem dX6_lacking_19 : decode cX6_lacking 19 = .ok (.aload_n 0, 1) := by decide +kernel
theorem dX6_lacking_20 : decode cX6_lacking 20 = .ok (.aload_n 1, 1) := by decide +kernel
theorem dX6_lacking_21 : decode cX6_lacking 21 = .ok (.getfield 195, 3) := by decide +kernel
theorem dX6_lacking_24 : decode cX6_lacking 24 = .ok (.iload_n 2, 1) := by decide +kernel
theorem dX6_lacking_25 : decode cX6_lacking 25 = .ok (.iaload, 1) := by decide +kernel
theorem dX6_lacking_26 : decode cX6_lacking 26 = .ok (.invokevirtual 156, 3) := by decide +kernel
theorem dX6_lacking_29 : decode cX6_lacking 29 = .ok (.invokestatic 222, 3) := by decide +kernel
theorem dX6_lacking_32 : decode cX6_lacking 32 = .ok (.istore_n 3, 1) := by decide +kernel
theorem dX6_lacking_33 : decode cX6_lacking 33 = .ok (.iconst 0, 1) := by decide +kernel
theorem dX6_lacking_34 : decode cX6_lacking 34 = .ok (.aload_n 1, 1) := by decide +kernel
theorem dX6_lacking_35 : decode cX6_lacking 35 = .ok (.getfield 201, 3) := by decide +kernel
theorem dX6_lacking_38 : decode cX6_lacking 38 = .ok (.iload_n 2, 1) := by decide +kernel
theorem dX6_lacking_39 : decode cX6_lacking 39 = .ok (.iaload, 1) := by decide +kernel
theorem dX6_lacking_40 : decode cX6_lacking 40 = .ok (.iload_n 3, 1) := by decide +kernel
theorem dX6_lacking_41 : decode cX6_lacking 41 = .ok (.isub, 1) := by decide +kernel
theorem dX6_lacking_42 : decode cX6_lacking 42 = .ok (.iconst 1, 1) := by decide +kernel
theorem dX6_lacking_43 : decode cX6_lacking 43 = .ok (.iadd, 1) := by decide +kernel
theorem dX6_lacking_44 : decode cX6_lacking 44 = .ok (.invokestatic 222, 3) := by decide +kernel
theorem dX6_lacking_47 : decode cX6_lacking 47 = .ok (.ireturn, 1) := by decide +kernel
theorem dX6_gather_0 : decode cX6_gather 0 = .ok (.aload_n 0, 1) := by decide +kernel
theorem dX6_gather_1 : decode cX6_gather 1 = .ok (.getfield 33, 3) := by decide +kernel
theorem dX6_gather_4 : decode cX6_gather 4 = .ok (.iload_n 1, 1) := by decide +kernel
theorem dX6_gather_5 : decode cX6_gather 5 = .ok (.aaload, 1) := by decide +kernel
theorem dX6_gather_6 : decode cX6_gather 6 = .ok (.astore_n 3, 1) := by decide +kernel
theorem dX6_gather_7 : decode cX6_gather 7 = .ok (.aload_n 0, 1) := by decide +kernel
theorem dX6_gather_8 : decode cX6_gather 8 = .ok (.getfield 11, 3) := by decide +kernel
theorem dX6_gather_11 : decode cX6_gather 11 = .ok (.iload_n 1, 1) := by decide +kernel
theorem dX6_gather_12 : decode cX6_gather 12 = .ok (.aaload, 1) := by decide +kernel
theorem dX6_gather_13 : decode cX6_gather 13 = .ok (.astore 4, 2) := by decide +kernel
theorem dX6_gather_15 : decode cX6_gather 15 = .ok (.aload_n 0, 1) := by decide +kernel
theorem dX6_gather_16 : decode cX6_gather 16 = .ok (.getfield 22, 3) := by decide +kernel
theorem dX6_gather_19 : decode cX6_gather 19 = .ok (.iconst 1, 1) := by decide +kernel
theorem dX6_gather_20 : decode cX6_gather 20 = .ok (.iaload, 1) := by decide +kernel
theorem dX6_gather_21 : decode cX6_gather 21 = .ok (.istore 5, 2) := by decide +kernel
theorem dX6_gather_23 : decode cX6_gather 23 = .ok (.aload_n 3, 1) := by decide +kernel
theorem dX6_gather_24 : decode cX6_gather 24 = .ok (.iconst 0, 1) := by decide +kernel
theorem dX6_gather_25 : decode cX6_gather 25 = .ok (.putfield 194, 3) := by decide +kernel
theorem dX6_gather_28 : decode cX6_gather 28 = .ok (.iconst 0, 1) := by decide +kernel
theorem dX6_gather_29 : decode cX6_gather 29 = .ok (.istore 6, 2) := by decide +kernel
theorem dX6_gather_31 : decode cX6_gather 31 = .ok (.iload 6, 2) := by decide +kernel
theorem dX6_gather_33 : decode cX6_gather 33 = .ok (.aload 4, 2) := by decide +kernel
theorem dX6_gather_35 : decode cX6_gather 35 = .ok (.getfield 76, 3) := by decide +kernel
theorem dX6_gather_38 : decode cX6_gather 38 = .ok (.if_icmp .ge 58, 3) := by decide +kernel
theorem dX6_gather_41 : decode cX6_gather 41 = .ok (.iload 6, 2) := by decide +kernel
theorem dX6_gather_43 : decode cX6_gather 43 = .ok (.iload_n 2, 1) := by decide +kernel
theorem dX6_gather_44 : decode cX6_gather 44 = .ok (.if_icmp .eq 46, 3) := by decide +kernel
theorem dX6_gather_47 : decode cX6_gather 47 = .ok (.aload 4, 2) := by decide +kernel
theorem dX6_gather_49 : decode cX6_gather 49 = .ok (.getfield 86, 3) := by decide +kernel
theorem dX6_gather_52 : decode cX6_gather 52 = .ok (.iload 6, 2) := by decide +kernel
theorem dX6_gather_54 : decode cX6_gather 54 = .ok (.aaload, 1) := by decide +kernel
theorem dX6_gather_55 : decode cX6_gather 55 = .ok (.astore 7, 2) := by decide +kernel
theorem dX6_gather_57 : decode cX6_gather 57 = .ok (.aload_n 3, 1) := by decide +kernel
theorem dX6_gather_58 : decode cX6_gather 58 = .ok (.aload 7, 2) := by decide +kernel
theorem dX6_gather_60 : decode cX6_gather 60 = .ok (.getfield 125, 3) := by decide +kernel
theorem dX6_gather_63 : decode cX6_gather 63 = .ok (.iconst 0, 1) := by decide +kernel
theorem dX6_gather_64 : decode cX6_gather 64 = .ok (.aload 7, 2) := by decide +kernel
theorem dX6_gather_66 : decode cX6_gather 66 = .ok (.invokevirtual 143, 3) := by decide +kernel
theorem dX6_gather_69 : decode cX6_gather 69 = .ok (.iload 5, 2) := by decide +kernel
theorem dX6_gather_71 : decode cX6_gather 71 = .ok (.isub, 1) := by decide +kernel
theorem dX6_gather_72 : decode cX6_gather 72 = .ok (.invokestatic 222, 3) := by decide +kernel
theorem dX6_gather_75 : decode cX6_gather 75 = .ok (.aload 7, 2) := by decide +kernel
theorem dX6_gather_77 : decode cX6_gather 77 = .ok (.invokevirtual 147, 3) := by decide +kernel
theorem dX6_gather_80 : decode cX6_gather 80 = .ok (.iload 5, 2) := by decide +kernel
theorem dX6_gather_82 : decode cX6_gather 82 = .ok (.iadd, 1) := by decide +kernel
theorem dX6_gather_83 : decode cX6_gather 83 = .ok (.iconst 1, 1) := by decide +kernel
theorem dX6_gather_84 : decode cX6_gather 84 = .ok (.iload 6, 2) := by decide +kernel
theorem dX6_gather_86 : decode cX6_gather 86 = .ok (.ishl, 1) := by decide +kernel
theorem dX6_gather_87 : decode cX6_gather 87 = .ok (.invokevirtual 227, 3) := by decide +kernel
theorem dX6_gather_90 : decode cX6_gather 90 = .ok (.iinc 6 1, 3) := by decide +kernel
theorem dX6_gather_93 : decode cX6_gather 93 = .ok (.goto (-62), 3) := by decide +kernel
theorem dX6_gather_96 : decode cX6_gather 96 = .ok (.aload_n 3, 1) := by decide +kernel
theorem dX6_gather_97 : decode cX6_gather 97 = .ok (.aload_n 0, 1) := by decide +kernel
theorem dX6_gather_98 : decode cX6_gather 98 = .ok (.getfield 22, 3) := by decide +kernel
theorem dX6_gather_101 : decode cX6_gather 101 = .ok (.iconst 2, 1) := by decide +kernel
theorem dX6_gather_102 : decode cX6_gather 102 = .ok (.iaload, 1) := by decide +kernel
theorem dX6_gather_103 : decode cX6_gather 103 = .ok (.invokevirtual 231, 3) := by decide +kernel
theorem dX6_gather_106 : decode cX6_gather 106 = .ok (.aload_n 3, 1) := by decide +kernel
theorem dX6_gather_107 : decode cX6_gather 107 = .ok (.areturn, 1) := by decide +kernel
theorem dX6_compare_0 : decode cX6_compare 0 = .ok (.aload_n 0, 1) := by decide +kernel
theorem dX6_compare_1 : decode cX6_compare 1 = .ok (.iconst 1, 1) := by decide +kernel
theorem dX6_compare_2 : decode cX6_compare 2 = .ok (.iload_n 1, 1) := by decide +kernel
theorem dX6_compare_3 : decode cX6_compare 3 = .ok (.invokevirtual 80, 3) := by decide +kernel
theorem dX6_compare_6 : decode cX6_compare 6 = .ok (.ifCond .eq 11, 3) := by decide +kernel
theorem dX6_compare_9 : decode cX6_compare 9 = .ok (.iload_n 2, 1) := by decide +kernel
theorem dX6_compare_10 : decode cX6_compare 10 = .ok (.iconst 3, 1) := by decide +kernel
theorem dX6_compare_11 : decode cX6_compare 11 = .ok (.invokestatic 60, 3) := by decide +kernel
theorem dX6_compare_14 : decode cX6_compare 14 = .ok (.ifCond .ne 6, 3) := by decide +kernel
theorem dX6_compare_17 : decode cX6_compare 17 = .ok (.bipush (-2), 2) := by decide +kernel
theorem dX6_compare_19 : decode cX6_compare 19 = .ok (.ireturn, 1) := by decide +kernel
theorem dX6_compare_20 : decode cX6_compare 20 = .ok (.aload_n 0, 1) := by decide +kernel
theorem dX6_compare_21 : decode cX6_compare 21 = .ok (.getfield 47, 3) := by decide +kernel
theorem dX6_compare_24 : decode cX6_compare 24 = .ok (.aload_n 0, 1) := by decide +kernel
theorem dX6_compare_25 : decode cX6_compare 25 = .ok (.getfield 11, 3) := by decide +kernel
theorem dX6_compare_28 : decode cX6_compare 28 = .ok (.iconst 0, 1) := by decide +kernel
theorem dX6_compare_29 : decode cX6_compare 29 = .ok (.aaload, 1) := by decide +kernel
theorem dX6_compare_30 : decode cX6_compare 30 = .ok (.aload_n 0, 1) := by decide +kernel
theorem dX6_compare_31 : decode cX6_compare 31 = .ok (.getfield 11, 3) := by decide +kernel
theorem dX6_compare_34 : decode cX6_compare 34 = .ok (.iconst 1, 1) := by decide +kernel
theorem dX6_compare_35 : decode cX6_compare 35 = .ok (.aaload, 1) := by decide +kernel
theorem dX6_compare_36 : decode cX6_compare 36 = .ok (.invokevirtual 234, 3) := by decide +kernel
theorem dX6_compare_39 : decode cX6_compare 39 = .ok (.iload_n 2, 1) := by decide +kernel
theorem dX6_compare_40 : decode cX6_compare 40 = .ok (.lookupswitch 58 #[(0, 28), (1, 49)], 28) := by decide +kernel
theorem dX6_compare_68 : decode cX6_compare 68 = .ok (.aload_n 0, 1) := by decide +kernel
theorem dX6_compare_69 : decode cX6_compare 69 = .ok (.getfield 47, 3) := by decide +kernel
theorem dX6_compare_72 : decode cX6_compare 72 = .ok (.iload_n 1, 1) := by decide +kernel
theorem dX6_compare_73 : decode cX6_compare 73 = .ok (.aload_n 0, 1) := by decide +kernel
theorem dX6_compare_74 : decode cX6_compare 74 = .ok (.getfield 11, 3) := by decide +kernel
theorem dX6_compare_77 : decode cX6_compare 77 = .ok (.iconst 0, 1) := by decide +kernel
theorem dX6_compare_78 : decode cX6_compare 78 = .ok (.aaload, 1) := by decide +kernel
theorem dX6_compare_79 : decode cX6_compare 79 = .ok (.aload_n 0, 1) := by decide +kernel
theorem dX6_compare_80 : decode cX6_compare 80 = .ok (.getfield 11, 3) := by decide +kernel
theorem dX6_compare_83 : decode cX6_compare 83 = .ok (.iconst 1, 1) := by decide +kernel
theorem dX6_compare_84 : decode cX6_compare 84 = .ok (.aaload, 1) := by decide +kernel
theorem dX6_compare_85 : decode cX6_compare 85 = .ok (.invokevirtual 238, 3) := by decide +kernel
theorem dX6_compare_88 : decode cX6_compare 88 = .ok (.ireturn, 1) := by decide +kernel
theorem dX6_compare_89 : decode cX6_compare 89 = .ok (.aload_n 0, 1) := by decide +kernel
theorem dX6_compare_90 : decode cX6_compare 90 = .ok (.getfield 47, 3) := by decide +kernel
theorem dX6_compare_93 : decode cX6_compare 93 = .ok (.iload_n 1, 1) := by decide +kernel
theorem dX6_compare_94 : decode cX6_compare 94 = .ok (.invokevirtual 242, 3) := by decide +kernel
theorem dX6_compare_97 : decode cX6_compare 97 = .ok (.ireturn, 1) := by decide +kernel
theorem dX6_compare_98 : decode cX6_compare 98 = .ok (.aload_n 0, 1) := by decide +kernel
theorem dX6_compare_99 : decode cX6_compare 99 = .ok (.getfield 47, 3) := by decide +kernel
theorem dX6_compare_102 : decode cX6_compare 102 = .ok (.iload_n 1, 1) := by decide +kernel
theorem dX6_compare_103 : decode cX6_compare 103 = .ok (.aload_n 0, 1) := by decide +kernel
theorem dX6_compare_104 : decode cX6_compare 104 = .ok (.getfield 11, 3) := by decide +kernel
theorem dX6_compare_107 : decode cX6_compare 107 = .ok (.iconst 0, 1) := by decide +kernel
theorem dX6_compare_108 : decode cX6_compare 108 = .ok (.aaload, 1) := by decide +kernel
theorem dX6_compare_109 : decode cX6_compare 109 = .ok (.aload_n 0, 1) := by decide +kernel
theorem dX6_compare_110 : decode cX6_compare 110 = .ok (.getfield 11, 3) := by decide +kernel
theorem dX6_compare_113 : decode cX6_compare 113 = .ok (.iconst 1, 1) := by decide +kernel
theorem dX6_compare_114 : decode cX6_compare 114 = .ok (.aaload, 1) := by decide +kernel
theorem dX6_compare_115 : decode cX6_compare 115 = .ok (.invokevirtual 245, 3) := by decide +kernel
theorem dX6_compare_118 : decode cX6_compare 118 = .ok (.ireturn, 1) := by decide +kernel
theorem dX6_gone_0 : decode cX6_gone 0 = .ok (.aload_n 0, 1) := by decide +kernel
theorem dX6_gone_1 : decode cX6_gone 1 = .ok (.getfield 47, 3) := by decide +kernel
theorem dX6_gone_4 : decode cX6_gone 4 = .ok (.aload_n 0, 1) := by decide +kernel
theorem dX6_gone_5 : decode cX6_gone 5 = .ok (.getfield 11, 3) := by decide +kernel
theorem dX6_gone_8 : decode cX6_gone 8 = .ok (.iconst 0, 1) := by decide +kernel
theorem dX6_gone_9 : decode cX6_gone 9 = .ok (.aaload, 1) := by decide +kernel
theorem dX6_gone_10 : decode cX6_gone 10 = .ok (.aload_n 0, 1) := by decide +kernel
theorem dX6_gone_11 : decode cX6_gone 11 = .ok (.getfield 11, 3) := by decide +kernel
theorem dX6_gone_14 : decode cX6_gone 14 = .ok (.iconst 1, 1) := by decide +kernel
theorem dX6_gone_15 : decode cX6_gone 15 = .ok (.aaload, 1) := by decide +kernel
theorem dX6_gone_16 : decode cX6_gone 16 = .ok (.invokevirtual 234, 3) := by decide +kernel
theorem dX6_gone_19 : decode cX6_gone 19 = .ok (.iconst 1, 1) := by decide +kernel
theorem dX6_gone_20 : decode cX6_gone 20 = .ok (.aload_n 0, 1) := by decide +kernel
theorem dX6_gone_21 : decode cX6_gone 21 = .ok (.getfield 11, 3) := by decide +kernel
theorem dX6_gone_24 : decode cX6_gone 24 = .ok (.iconst 0, 1) := by decide +kernel
theorem dX6_gone_25 : decode cX6_gone 25 = .ok (.aaload, 1) := by decide +kernel
theorem dX6_gone_26 : decode cX6_gone 26 = .ok (.getfield 76, 3) := by decide +kernel
theorem dX6_gone_29 : decode cX6_gone 29 = .ok (.ishl, 1) := by decide +kernel
theorem dX6_gone_30 : decode cX6_gone 30 = .ok (.iconst 1, 1) := by decide +kernel
theorem dX6_gone_31 : decode cX6_gone 31 = .ok (.isub, 1) := by decide +kernel
theorem dX6_gone_32 : decode cX6_gone 32 = .ok (.aload_n 0, 1) := by decide +kernel
theorem dX6_gone_33 : decode cX6_gone 33 = .ok (.getfield 47, 3) := by decide +kernel
theorem dX6_gone_36 : decode cX6_gone 36 = .ok (.getfield 248, 3) := by decide +kernel
theorem dX6_gone_39 : decode cX6_gone 39 = .ok (.iconst (-1), 1) := by decide +kernel
theorem dX6_gone_40 : decode cX6_gone 40 = .ok (.ixor, 1) := by decide +kernel
theorem dX6_gone_41 : decode cX6_gone 41 = .ok (.iand, 1) := by decide +kernel
theorem dX6_gone_42 : decode cX6_gone 42 = .ok (.ireturn, 1) := by decide +kernel
theorem dX6_anew_0 : decode cX6_anew 0 = .ok (.iload_n 1, 1) := by decide +kernel
theorem dX6_anew_1 : decode cX6_anew 1 = .ok (.iconst (-1), 1) := by decide +kernel
theorem dX6_anew_2 : decode cX6_anew 2 = .ok (.if_icmp .eq 16, 3) := by decide +kernel
theorem dX6_anew_5 : decode cX6_anew 5 = .ok (.iload_n 1, 1) := by decide +kernel
theorem dX6_anew_6 : decode cX6_anew 6 = .ok (.sipush 10000, 3) := by decide +kernel
theorem dX6_anew_9 : decode cX6_anew 9 = .ok (.invokestatic 60, 3) := by decide +kernel
theorem dX6_anew_12 : decode cX6_anew 12 = .ok (.ifCond .ne 6, 3) := by decide +kernel
theorem dX6_anew_15 : decode cX6_anew 15 = .ok (.bipush (-2), 2) := by decide +kernel
theorem dX6_anew_17 : decode cX6_anew 17 = .ok (.ireturn, 1) := by decide +kernel
theorem dX6_anew_18 : decode cX6_anew 18 = .ok (.aload_n 0, 1) := by decide +kernel
theorem dX6_anew_19 : decode cX6_anew 19 = .ok (.invokevirtual 251, 3) := by decide +kernel
theorem dX6_anew_22 : decode cX6_anew 22 = .ok (.iload_n 1, 1) := by decide +kernel
theorem dX6_anew_23 : decode cX6_anew 23 = .ok (.iconst (-1), 1) := by decide +kernel
theorem dX6_anew_24 : decode cX6_anew 24 = .ok (.if_icmp .ne 13, 3) := by decide +kernel
theorem dX6_anew_27 : decode cX6_anew 27 = .ok (.aload_n 0, 1) := by decide +kernel
theorem dX6_anew_28 : decode cX6_anew 28 = .ok (.getfield 40, 3) := by decide +kernel
theorem dX6_anew_31 : decode cX6_anew 31 = .ok (.invokevirtual 211, 3) := by decide +kernel
theorem dX6_anew_34 : decode cX6_anew 34 = .ok (.goto 11, 3) := by decide +kernel
theorem dX6_anew_37 : decode cX6_anew 37 = .ok (.aload_n 0, 1) := by decide +kernel
theorem dX6_anew_38 : decode cX6_anew 38 = .ok (.getfield 40, 3) := by decide +kernel
theorem dX6_anew_41 : decode cX6_anew 41 = .ok (.iload_n 1, 1) := by decide +kernel
theorem dX6_anew_42 : decode cX6_anew 42 = .ok (.invokevirtual 254, 3) := by decide +kernel
theorem dX6_anew_45 : decode cX6_anew 45 = .ok (.ireturn, 1) := by decide +kernel
theorem dX6_saving_0 : decode cX6_saving 0 = .ok (.iload_n 1, 1) := by decide +kernel
theorem dX6_saving_1 : decode cX6_saving 1 = .ok (.iconst 2, 1) := by decide +kernel
theorem dX6_saving_2 : decode cX6_saving 2 = .ok (.invokestatic 60, 3) := by decide +kernel
theorem dX6_saving_5 : decode cX6_saving 5 = .ok (.ifCond .ne 6, 3) := by decide +kernel
theorem dX6_saving_8 : decode cX6_saving 8 = .ok (.bipush (-2), 2) := by decide +kernel
theorem dX6_saving_10 : decode cX6_saving 10 = .ok (.ireturn, 1) := by decide +kernel
theorem dX6_saving_11 : decode cX6_saving 11 = .ok (.iconst (-1), 1) := by decide +kernel
theorem dX6_saving_12 : decode cX6_saving 12 = .ok (.istore_n 2, 1) := by decide +kernel
theorem dX6_saving_13 : decode cX6_saving 13 = .ok (.iconst (-1), 1) := by decide +kernel
theorem dX6_saving_14 : decode cX6_saving 14 = .ok (.istore_n 3, 1) := by decide +kernel
theorem dX6_saving_15 : decode cX6_saving 15 = .ok (.iconst 0, 1) := by decide +kernel
theorem dX6_saving_16 : decode cX6_saving 16 = .ok (.istore 4, 2) := by decide +kernel
theorem dX6_saving_18 : decode cX6_saving 18 = .ok (.iload 4, 2) := by decide +kernel
theorem dX6_saving_20 : decode cX6_saving 20 = .ok (.aload_n 0, 1) := by decide +kernel
theorem dX6_saving_21 : decode cX6_saving 21 = .ok (.getfield 11, 3) := by decide +kernel
theorem dX6_saving_24 : decode cX6_saving 24 = .ok (.iconst 1, 1) := by decide +kernel
theorem dX6_saving_25 : decode cX6_saving 25 = .ok (.aaload, 1) := by decide +kernel
theorem dX6_saving_26 : decode cX6_saving 26 = .ok (.getfield 76, 3) := by decide +kernel
theorem dX6_saving_29 : decode cX6_saving 29 = .ok (.if_icmp .ge 38, 3) := by decide +kernel
theorem dX6_saving_32 : decode cX6_saving 32 = .ok (.aload_n 0, 1) := by decide +kernel
theorem dX6_saving_33 : decode cX6_saving 33 = .ok (.iconst 1, 1) := by decide +kernel
theorem dX6_saving_34 : decode cX6_saving 34 = .ok (.iload 4, 2) := by decide +kernel
theorem dX6_saving_36 : decode cX6_saving 36 = .ok (.invokevirtual 190, 3) := by decide +kernel
theorem dX6_saving_39 : decode cX6_saving 39 = .ok (.invokevirtual 211, 3) := by decide +kernel
theorem dX6_saving_42 : decode cX6_saving 42 = .ok (.istore 5, 2) := by decide +kernel
theorem dX6_saving_44 : decode cX6_saving 44 = .ok (.iload_n 2, 1) := by decide +kernel
theorem dX6_saving_45 : decode cX6_saving 45 = .ok (.iconst (-1), 1) := by decide +kernel
theorem dX6_saving_46 : decode cX6_saving 46 = .ok (.if_icmp .eq 9, 3) := by decide +kernel
theorem dX6_saving_49 : decode cX6_saving 49 = .ok (.iload 5, 2) := by decide +kernel
theorem dX6_saving_51 : decode cX6_saving 51 = .ok (.iload_n 3, 1) := by decide +kernel
theorem dX6_saving_52 : decode cX6_saving 52 = .ok (.if_icmp .ge 9, 3) := by decide +kernel
theorem dX6_saving_55 : decode cX6_saving 55 = .ok (.iload 4, 2) := by decide +kernel
theorem dX6_saving_57 : decode cX6_saving 57 = .ok (.istore_n 2, 1) := by decide +kernel
theorem dX6_saving_58 : decode cX6_saving 58 = .ok (.iload 5, 2) := by decide +kernel
theorem dX6_saving_60 : decode cX6_saving 60 = .ok (.istore_n 3, 1) := by decide +kernel
theorem dX6_saving_61 : decode cX6_saving 61 = .ok (.iinc 4 1, 3) := by decide +kernel
theorem dX6_saving_64 : decode cX6_saving 64 = .ok (.goto (-46), 3) := by decide +kernel
theorem dX6_saving_67 : decode cX6_saving 67 = .ok (.iload_n 1, 1) := by decide +kernel
theorem dX6_saving_68 : decode cX6_saving 68 = .ok (.ifCond .ne 7, 3) := by decide +kernel
theorem dX6_saving_71 : decode cX6_saving 71 = .ok (.iload_n 2, 1) := by decide +kernel
theorem dX6_saving_72 : decode cX6_saving 72 = .ok (.goto 4, 3) := by decide +kernel
theorem dX6_saving_75 : decode cX6_saving 75 = .ok (.iload_n 3, 1) := by decide +kernel
theorem dX6_saving_76 : decode cX6_saving 76 = .ok (.ireturn, 1) := by decide +kernel
theorem dX6_keptEdits_0 : decode cX6_keptEdits 0 = .ok (.aload_n 0, 1) := by decide +kernel
theorem dX6_keptEdits_1 : decode cX6_keptEdits 1 = .ok (.getfield 47, 3) := by decide +kernel
theorem dX6_keptEdits_4 : decode cX6_keptEdits 4 = .ok (.aload_n 0, 1) := by decide +kernel
theorem dX6_keptEdits_5 : decode cX6_keptEdits 5 = .ok (.getfield 11, 3) := by decide +kernel
theorem dX6_keptEdits_8 : decode cX6_keptEdits 8 = .ok (.iconst 0, 1) := by decide +kernel
theorem dX6_keptEdits_9 : decode cX6_keptEdits 9 = .ok (.aaload, 1) := by decide +kernel
theorem dX6_keptEdits_10 : decode cX6_keptEdits 10 = .ok (.aload_n 0, 1) := by decide +kernel
theorem dX6_keptEdits_11 : decode cX6_keptEdits 11 = .ok (.getfield 11, 3) := by decide +kernel
theorem dX6_keptEdits_14 : decode cX6_keptEdits 14 = .ok (.iconst 1, 1) := by decide +kernel
theorem dX6_keptEdits_15 : decode cX6_keptEdits 15 = .ok (.aaload, 1) := by decide +kernel
theorem dX6_keptEdits_16 : decode cX6_keptEdits 16 = .ok (.invokevirtual 234, 3) := by decide +kernel
theorem dX6_keptEdits_19 : decode cX6_keptEdits 19 = .ok (.iconst 0, 1) := by decide +kernel
theorem dX6_keptEdits_20 : decode cX6_keptEdits 20 = .ok (.istore_n 1, 1) := by decide +kernel
theorem dX6_keptEdits_21 : decode cX6_keptEdits 21 = .ok (.iconst 0, 1) := by decide +kernel
theorem dX6_keptEdits_22 : decode cX6_keptEdits 22 = .ok (.istore_n 2, 1) := by decide +kernel
theorem dX6_keptEdits_23 : decode cX6_keptEdits 23 = .ok (.iload_n 2, 1) := by decide +kernel
theorem dX6_keptEdits_24 : decode cX6_keptEdits 24 = .ok (.aload_n 0, 1) := by decide +kernel
theorem dX6_keptEdits_25 : decode cX6_keptEdits 25 = .ok (.getfield 11, 3) := by decide +kernel
theorem dX6_keptEdits_28 : decode cX6_keptEdits 28 = .ok (.iconst 1, 1) := by decide +kernel
theorem dX6_keptEdits_29 : decode cX6_keptEdits 29 = .ok (.aaload, 1) := by decide +kernel
theorem dX6_keptEdits_30 : decode cX6_keptEdits 30 = .ok (.getfield 76, 3) := by decide +kernel
theorem dX6_keptEdits_33 : decode cX6_keptEdits 33 = .ok (.if_icmp .ge 36, 3) := by decide +kernel
theorem dX6_keptEdits_36 : decode cX6_keptEdits 36 = .ok (.aload_n 0, 1) := by decide +kernel
theorem dX6_keptEdits_37 : decode cX6_keptEdits 37 = .ok (.getfield 47, 3) := by decide +kernel
theorem dX6_keptEdits_40 : decode cX6_keptEdits 40 = .ok (.iload_n 2, 1) := by decide +kernel
theorem dX6_keptEdits_41 : decode cX6_keptEdits 41 = .ok (.aload_n 0, 1) := by decide +kernel
theorem dX6_keptEdits_42 : decode cX6_keptEdits 42 = .ok (.getfield 11, 3) := by decide +kernel
theorem dX6_keptEdits_45 : decode cX6_keptEdits 45 = .ok (.iconst 0, 1) := by decide +kernel
theorem dX6_keptEdits_46 : decode cX6_keptEdits 46 = .ok (.aaload, 1) := by decide +kernel
theorem dX6_keptEdits_47 : decode cX6_keptEdits 47 = .ok (.aload_n 0, 1) := by decide +kernel
theorem dX6_keptEdits_48 : decode cX6_keptEdits 48 = .ok (.getfield 11, 3) := by decide +kernel
theorem dX6_keptEdits_51 : decode cX6_keptEdits 51 = .ok (.iconst 1, 1) := by decide +kernel
theorem dX6_keptEdits_52 : decode cX6_keptEdits 52 = .ok (.aaload, 1) := by decide +kernel
theorem dX6_keptEdits_53 : decode cX6_keptEdits 53 = .ok (.invokevirtual 238, 3) := by decide +kernel
theorem dX6_keptEdits_56 : decode cX6_keptEdits 56 = .ok (.iconst 1, 1) := by decide +kernel
theorem dX6_keptEdits_57 : decode cX6_keptEdits 57 = .ok (.if_icmp .ne 6, 3) := by decide +kernel
theorem dX6_keptEdits_60 : decode cX6_keptEdits 60 = .ok (.iinc 1 1, 3) := by decide +kernel
theorem dX6_keptEdits_63 : decode cX6_keptEdits 63 = .ok (.iinc 2 1, 3) := by decide +kernel
theorem dX6_keptEdits_66 : decode cX6_keptEdits 66 = .ok (.goto (-43), 3) := by decide +kernel
theorem dX6_keptEdits_69 : decode cX6_keptEdits 69 = .ok (.iload_n 1, 1) := by decide +kernel
theorem dX6_keptEdits_70 : decode cX6_keptEdits 70 = .ok (.ireturn, 1) := by decide +kernel
theorem dX6_gatherFresh_0 : decode cX6_gatherFresh 0 = .ok (.aload_n 0, 1) := by decide +kernel
theorem dX6_gatherFresh_1 : decode cX6_gatherFresh 1 = .ok (.iconst 0, 1) := by decide +kernel
theorem dX6_gatherFresh_2 : decode cX6_gatherFresh 2 = .ok (.iconst (-1), 1) := by decide +kernel
theorem dX6_gatherFresh_3 : decode cX6_gatherFresh 3 = .ok (.invokevirtual 190, 3) := by decide +kernel
theorem dX6_gatherFresh_6 : decode cX6_gatherFresh 6 = .ok (.astore_n 1, 1) := by decide +kernel
theorem dX6_gatherFresh_7 : decode cX6_gatherFresh 7 = .ok (.aload_n 0, 1) := by decide +kernel
theorem dX6_gatherFresh_8 : decode cX6_gatherFresh 8 = .ok (.iconst 1, 1) := by decide +kernel
theorem dX6_gatherFresh_9 : decode cX6_gatherFresh 9 = .ok (.iconst (-1), 1) := by decide +kernel
theorem dX6_gatherFresh_10 : decode cX6_gatherFresh 10 = .ok (.invokevirtual 190, 3) := by decide +kernel
theorem dX6_gatherFresh_13 : decode cX6_gatherFresh 13 = .ok (.astore_n 2, 1) := by decide +kernel
theorem dX6_gatherFresh_14 : decode cX6_gatherFresh 14 = .ok (.aload_n 0, 1) := by decide +kernel
theorem dX6_gatherFresh_15 : decode cX6_gatherFresh 15 = .ok (.getfield 40, 3) := by decide +kernel
theorem dX6_gatherFresh_18 : decode cX6_gatherFresh 18 = .ok (.iconst 0, 1) := by decide +kernel
theorem dX6_gatherFresh_19 : decode cX6_gatherFresh 19 = .ok (.putfield 194, 3) := by decide +kernel
theorem dX6_gatherFresh_22 : decode cX6_gatherFresh 22 = .ok (.iconst 0, 1) := by decide +kernel
theorem dX6_gatherFresh_23 : decode cX6_gatherFresh 23 = .ok (.istore_n 3, 1) := by decide +kernel
theorem dX6_gatherFresh_24 : decode cX6_gatherFresh 24 = .ok (.iload_n 3, 1) := by decide +kernel
theorem dX6_gatherFresh_25 : decode cX6_gatherFresh 25 = .ok (.aload_n 2, 1) := by decide +kernel
theorem dX6_gatherFresh_26 : decode cX6_gatherFresh 26 = .ok (.getfield 194, 3) := by decide +kernel
theorem dX6_gatherFresh_29 : decode cX6_gatherFresh 29 = .ok (.if_icmp .ge 51, 3) := by decide +kernel
theorem dX6_gatherFresh_32 : decode cX6_gatherFresh 32 = .ok (.aload_n 2, 1) := by decide +kernel
theorem dX6_gatherFresh_33 : decode cX6_gatherFresh 33 = .ok (.getfield 195, 3) := by decide +kernel
theorem dX6_gatherFresh_36 : decode cX6_gatherFresh 36 = .ok (.iload_n 3, 1) := by decide +kernel
theorem dX6_gatherFresh_37 : decode cX6_gatherFresh 37 = .ok (.iaload, 1) := by decide +kernel
theorem dX6_gatherFresh_38 : decode cX6_gatherFresh 38 = .ok (.istore 4, 2) := by decide +kernel
theorem dX6_gatherFresh_40 : decode cX6_gatherFresh 40 = .ok (.aload_n 2, 1) := by decide +kernel
theorem dX6_gatherFresh_41 : decode cX6_gatherFresh 41 = .ok (.getfield 201, 3) := by decide +kernel
theorem dX6_gatherFresh_44 : decode cX6_gatherFresh 44 = .ok (.iload_n 3, 1) := by decide +kernel
theorem dX6_gatherFresh_45 : decode cX6_gatherFresh 45 = .ok (.iaload, 1) := by decide +kernel
theorem dX6_gatherFresh_46 : decode cX6_gatherFresh 46 = .ok (.aload_n 0, 1) := by decide +kernel
theorem dX6_gatherFresh_47 : decode cX6_gatherFresh 47 = .ok (.iload 4, 2) := by decide +kernel
theorem dX6_gatherFresh_49 : decode cX6_gatherFresh 49 = .ok (.invokevirtual 156, 3) := by decide +kernel
theorem dX6_gatherFresh_52 : decode cX6_gatherFresh 52 = .ok (.iconst 1, 1) := by decide +kernel
theorem dX6_gatherFresh_53 : decode cX6_gatherFresh 53 = .ok (.isub, 1) := by decide +kernel
theorem dX6_gatherFresh_54 : decode cX6_gatherFresh 54 = .ok (.invokestatic 257, 3) := by decide +kernel
theorem dX6_gatherFresh_57 : decode cX6_gatherFresh 57 = .ok (.istore 5, 2) := by decide +kernel
theorem dX6_gatherFresh_59 : decode cX6_gatherFresh 59 = .ok (.aload_n 0, 1) := by decide +kernel
theorem dX6_gatherFresh_60 : decode cX6_gatherFresh 60 = .ok (.aload_n 1, 1) := by decide +kernel
theorem dX6_gatherFresh_61 : decode cX6_gatherFresh 61 = .ok (.iload 4, 2) := by decide +kernel
theorem dX6_gatherFresh_63 : decode cX6_gatherFresh 63 = .ok (.aload_n 2, 1) := by decide +kernel
theorem dX6_gatherFresh_64 : decode cX6_gatherFresh 64 = .ok (.getfield 198, 3) := by decide +kernel
theorem dX6_gatherFresh_67 : decode cX6_gatherFresh 67 = .ok (.iload_n 3, 1) := by decide +kernel
theorem dX6_gatherFresh_68 : decode cX6_gatherFresh 68 = .ok (.iaload, 1) := by decide +kernel
theorem dX6_gatherFresh_69 : decode cX6_gatherFresh 69 = .ok (.iload 5, 2) := by decide +kernel
theorem dX6_gatherFresh_71 : decode cX6_gatherFresh 71 = .ok (.invokevirtual 260, 3) := by decide +kernel
theorem dX6_gatherFresh_74 : decode cX6_gatherFresh 74 = .ok (.iinc 3 1, 3) := by decide +kernel
theorem dX6_gatherFresh_77 : decode cX6_gatherFresh 77 = .ok (.goto (-53), 3) := by decide +kernel
theorem dX6_gatherFresh_80 : decode cX6_gatherFresh 80 = .ok (.return_, 1) := by decide +kernel
theorem dX6_addWithout_0 : decode cX6_addWithout 0 = .ok (.iload_n 3, 1) := by decide +kernel
theorem dX6_addWithout_1 : decode cX6_addWithout 1 = .ok (.istore 5, 2) := by decide +kernel
theorem dX6_addWithout_3 : decode cX6_addWithout 3 = .ok (.iconst 0, 1) := by decide +kernel
theorem dX6_addWithout_4 : decode cX6_addWithout 4 = .ok (.istore 6, 2) := by decide +kernel
theorem dX6_addWithout_6 : decode cX6_addWithout 6 = .ok (.iload 6, 2) := by decide +kernel
theorem dX6_addWithout_8 : decode cX6_addWithout 8 = .ok (.aload_n 1, 1) := by decide +kernel
theorem dX6_addWithout_9 : decode cX6_addWithout 9 = .ok (.getfield 194, 3) := by decide +kernel
theorem dX6_addWithout_12 : decode cX6_addWithout 12 = .ok (.if_icmp .ge 60, 3) := by decide +kernel
theorem dX6_addWithout_15 : decode cX6_addWithout 15 = .ok (.aload_n 1, 1) := by decide +kernel
theorem dX6_addWithout_16 : decode cX6_addWithout 16 = .ok (.getfield 195, 3) := by decide +kernel
theorem dX6_addWithout_19 : decode cX6_addWithout 19 = .ok (.iload 6, 2) := by decide +kernel
theorem dX6_addWithout_21 : decode cX6_addWithout 21 = .ok (.iaload, 1) := by decide +kernel
theorem dX6_addWithout_22 : decode cX6_addWithout 22 = .ok (.iload_n 2, 1) := by decide +kernel
theorem dX6_addWithout_23 : decode cX6_addWithout 23 = .ok (.if_icmp .ne 43, 3) := by decide +kernel
theorem dX6_addWithout_26 : decode cX6_addWithout 26 = .ok (.aload_n 0, 1) := by decide +kernel
theorem dX6_addWithout_27 : decode cX6_addWithout 27 = .ok (.getfield 40, 3) := by decide +kernel
theorem dX6_addWithout_30 : decode cX6_addWithout 30 = .ok (.iload_n 2, 1) := by decide +kernel
theorem dX6_addWithout_31 : decode cX6_addWithout 31 = .ok (.iload 5, 2) := by decide +kernel
theorem dX6_addWithout_33 : decode cX6_addWithout 33 = .ok (.iload 4, 2) := by decide +kernel
theorem dX6_addWithout_35 : decode cX6_addWithout 35 = .ok (.aload_n 1, 1) := by decide +kernel
theorem dX6_addWithout_36 : decode cX6_addWithout 36 = .ok (.getfield 198, 3) := by decide +kernel
theorem dX6_addWithout_39 : decode cX6_addWithout 39 = .ok (.iload 6, 2) := by decide +kernel
theorem dX6_addWithout_41 : decode cX6_addWithout 41 = .ok (.iaload, 1) := by decide +kernel
theorem dX6_addWithout_42 : decode cX6_addWithout 42 = .ok (.iconst 1, 1) := by decide +kernel
theorem dX6_addWithout_43 : decode cX6_addWithout 43 = .ok (.isub, 1) := by decide +kernel
theorem dX6_addWithout_44 : decode cX6_addWithout 44 = .ok (.invokestatic 257, 3) := by decide +kernel
theorem dX6_addWithout_47 : decode cX6_addWithout 47 = .ok (.invokevirtual 264, 3) := by decide +kernel
theorem dX6_addWithout_50 : decode cX6_addWithout 50 = .ok (.iload 5, 2) := by decide +kernel
theorem dX6_addWithout_52 : decode cX6_addWithout 52 = .ok (.aload_n 1, 1) := by decide +kernel
theorem dX6_addWithout_53 : decode cX6_addWithout 53 = .ok (.getfield 201, 3) := by decide +kernel
theorem dX6_addWithout_56 : decode cX6_addWithout 56 = .ok (.iload 6, 2) := by decide +kernel
theorem dX6_addWithout_58 : decode cX6_addWithout 58 = .ok (.iaload, 1) := by decide +kernel
theorem dX6_addWithout_59 : decode cX6_addWithout 59 = .ok (.iconst 1, 1) := by decide +kernel
theorem dX6_addWithout_60 : decode cX6_addWithout 60 = .ok (.iadd, 1) := by decide +kernel
theorem dX6_addWithout_61 : decode cX6_addWithout 61 = .ok (.invokestatic 222, 3) := by decide +kernel
theorem dX6_addWithout_64 : decode cX6_addWithout 64 = .ok (.istore 5, 2) := by decide +kernel
theorem dX6_addWithout_66 : decode cX6_addWithout 66 = .ok (.iinc 6 1, 3) := by decide +kernel
theorem dX6_addWithout_69 : decode cX6_addWithout 69 = .ok (.goto (-63), 3) := by decide +kernel
theorem dX6_addWithout_72 : decode cX6_addWithout 72 = .ok (.aload_n 0, 1) := by decide +kernel
theorem dX6_addWithout_73 : decode cX6_addWithout 73 = .ok (.getfield 40, 3) := by decide +kernel
theorem dX6_addWithout_76 : decode cX6_addWithout 76 = .ok (.iload_n 2, 1) := by decide +kernel
theorem dX6_addWithout_77 : decode cX6_addWithout 77 = .ok (.iload 5, 2) := by decide +kernel
theorem dX6_addWithout_79 : decode cX6_addWithout 79 = .ok (.iload 4, 2) := by decide +kernel
theorem dX6_addWithout_81 : decode cX6_addWithout 81 = .ok (.invokevirtual 264, 3) := by decide +kernel
theorem dX6_addWithout_84 : decode cX6_addWithout 84 = .ok (.return_, 1) := by decide +kernel
theorem dX6_sheet_0 : decode cX6_sheet 0 = .ok (.iload_n 1, 1) := by decide +kernel
theorem dX6_sheet_1 : decode cX6_sheet 1 = .ok (.iconst 4, 1) := by decide +kernel
theorem dX6_sheet_2 : decode cX6_sheet 2 = .ok (.invokestatic 60, 3) := by decide +kernel
theorem dX6_sheet_5 : decode cX6_sheet 5 = .ok (.ifCond .eq 17, 3) := by decide +kernel
theorem dX6_sheet_8 : decode cX6_sheet 8 = .ok (.iload_n 2, 1) := by decide +kernel
theorem dX6_sheet_9 : decode cX6_sheet 9 = .ok (.iconst 3, 1) := by decide +kernel
theorem dX6_sheet_10 : decode cX6_sheet 10 = .ok (.invokestatic 60, 3) := by decide +kernel
theorem dX6_sheet_13 : decode cX6_sheet 13 = .ok (.ifCond .eq 9, 3) := by decide +kernel
theorem dX6_sheet_16 : decode cX6_sheet 16 = .ok (.iload_n 3, 1) := by decide +kernel
theorem dX6_sheet_17 : decode cX6_sheet 17 = .ok (.bipush 60, 2) := by decide +kernel
theorem dX6_sheet_19 : decode cX6_sheet 19 = .ok (.if_icmp .le 6, 3) := by decide +kernel
theorem dX6_sheet_22 : decode cX6_sheet 22 = .ok (.bipush (-2), 2) := by decide +kernel
theorem dX6_sheet_24 : decode cX6_sheet 24 = .ok (.ireturn, 1) := by decide +kernel
theorem dX6_sheet_25 : decode cX6_sheet 25 = .ok (.iload_n 3, 1) := by decide +kernel
theorem dX6_sheet_26 : decode cX6_sheet 26 = .ok (.ifCond .ge 9, 3) := by decide +kernel
theorem dX6_sheet_29 : decode cX6_sheet 29 = .ok (.aload_n 0, 1) := by decide +kernel
theorem dX6_sheet_30 : decode cX6_sheet 30 = .ok (.iconst 5, 1) := by decide +kernel
theorem dX6_sheet_31 : decode cX6_sheet 31 = .ok (.invokevirtual 105, 3) := by decide +kernel
theorem dX6_sheet_34 : decode cX6_sheet 34 = .ok (.ireturn, 1) := by decide +kernel
theorem dX6_sheet_35 : decode cX6_sheet 35 = .ok (.aload_n 0, 1) := by decide +kernel
theorem dX6_sheet_36 : decode cX6_sheet 36 = .ok (.getfield 27, 3) := by decide +kernel
theorem dX6_sheet_39 : decode cX6_sheet 39 = .ok (.iload_n 1, 1) := by decide +kernel
theorem dX6_sheet_40 : decode cX6_sheet 40 = .ok (.aaload, 1) := by decide +kernel
theorem dX6_sheet_41 : decode cX6_sheet 41 = .ok (.iload_n 2, 1) := by decide +kernel
theorem dX6_sheet_42 : decode cX6_sheet 42 = .ok (.iload_n 3, 1) := by decide +kernel
theorem dX6_sheet_43 : decode cX6_sheet 43 = .ok (.invokevirtual 267, 3) := by decide +kernel
theorem dX6_sheet_46 : decode cX6_sheet 46 = .ok (.iload_n 3, 1) := by decide +kernel
theorem dX6_sheet_47 : decode cX6_sheet 47 = .ok (.ireturn, 1) := by decide +kernel
theorem dX6_lose_0 : decode cX6_lose 0 = .ok (.iload_n 1, 1) := by decide +kernel
theorem dX6_lose_1 : decode cX6_lose 1 = .ok (.iconst 4, 1) := by decide +kernel
theorem dX6_lose_2 : decode cX6_lose 2 = .ok (.invokestatic 60, 3) := by decide +kernel
theorem dX6_lose_5 : decode cX6_lose 5 = .ok (.ifCond .ne 6, 3) := by decide +kernel
theorem dX6_lose_8 : decode cX6_lose 8 = .ok (.bipush (-2), 2) := by decide +kernel
theorem dX6_lose_10 : decode cX6_lose 10 = .ok (.ireturn, 1) := by decide +kernel
theorem dX6_lose_11 : decode cX6_lose 11 = .ok (.aload_n 0, 1) := by decide +kernel
theorem dX6_lose_12 : decode cX6_lose 12 = .ok (.getfield 27, 3) := by decide +kernel
theorem dX6_lose_15 : decode cX6_lose 15 = .ok (.iload_n 1, 1) := by decide +kernel
theorem dX6_lose_16 : decode cX6_lose 16 = .ok (.aaload, 1) := by decide +kernel
theorem dX6_lose_17 : decode cX6_lose 17 = .ok (.astore_n 2, 1) := by decide +kernel
theorem dX6_lose_18 : decode cX6_lose 18 = .ok (.aload_n 2, 1) := by decide +kernel
theorem dX6_lose_19 : decode cX6_lose 19 = .ok (.getfield 101, 3) := by decide +kernel
theorem dX6_lose_22 : decode cX6_lose 22 = .ok (.ifCond .eq 9, 3) := by decide +kernel
theorem dX6_lose_25 : decode cX6_lose 25 = .ok (.aload_n 0, 1) := by decide +kernel
theorem dX6_lose_26 : decode cX6_lose 26 = .ok (.iconst 1, 1) := by decide +kernel
theorem dX6_lose_27 : decode cX6_lose 27 = .ok (.invokevirtual 105, 3) := by decide +kernel
theorem dX6_lose_30 : decode cX6_lose 30 = .ok (.ireturn, 1) := by decide +kernel
theorem dX6_lose_31 : decode cX6_lose 31 = .ok (.aload_n 2, 1) := by decide +kernel
theorem dX6_lose_32 : decode cX6_lose 32 = .ok (.iconst 1, 1) := by decide +kernel
theorem dX6_lose_33 : decode cX6_lose 33 = .ok (.putfield 101, 3) := by decide +kernel
theorem dX6_lose_36 : decode cX6_lose 36 = .ok (.aload_n 2, 1) := by decide +kernel
theorem dX6_lose_37 : decode cX6_lose 37 = .ok (.getfield 108, 3) := by decide +kernel
theorem dX6_lose_40 : decode cX6_lose 40 = .ok (.ireturn, 1) := by decide +kernel
theorem dX6_put_0 : decode cX6_put 0 = .ok (.iload_n 1, 1) := by decide +kernel
theorem dX6_put_1 : decode cX6_put 1 = .ok (.iconst 4, 1) := by decide +kernel
theorem dX6_put_2 : decode cX6_put 2 = .ok (.invokestatic 60, 3) := by decide +kernel
theorem dX6_put_5 : decode cX6_put 5 = .ok (.ifCond .eq 11, 3) := by decide +kernel
theorem dX6_put_8 : decode cX6_put 8 = .ok (.iload_n 2, 1) := by decide +kernel
theorem dX6_put_9 : decode cX6_put 9 = .ok (.iconst 3, 1) := by decide +kernel
theorem dX6_put_10 : decode cX6_put 10 = .ok (.invokestatic 60, 3) := by decide +kernel
theorem dX6_put_13 : decode cX6_put 13 = .ok (.ifCond .ne 6, 3) := by decide +kernel
theorem dX6_put_16 : decode cX6_put 16 = .ok (.bipush (-2), 2) := by decide +kernel
theorem dX6_put_18 : decode cX6_put 18 = .ok (.ireturn, 1) := by decide +kernel
theorem dX6_put_19 : decode cX6_put 19 = .ok (.aload_n 0, 1) := by decide +kernel
theorem dX6_put_20 : decode cX6_put 20 = .ok (.getfield 27, 3) := by decide +kernel
theorem dX6_put_23 : decode cX6_put 23 = .ok (.iload_n 1, 1) := by decide +kernel
theorem dX6_put_24 : decode cX6_put 24 = .ok (.aaload, 1) := by decide +kernel
theorem dX6_put_25 : decode cX6_put 25 = .ok (.iload_n 2, 1) := by decide +kernel
theorem dX6_put_26 : decode cX6_put 26 = .ok (.iload_n 3, 1) := by decide +kernel
theorem dX6_put_27 : decode cX6_put 27 = .ok (.invokevirtual 269, 3) := by decide +kernel
theorem dX6_put_30 : decode cX6_put 30 = .ok (.istore 5, 2) := by decide +kernel
theorem dX6_put_32 : decode cX6_put 32 = .ok (.iload 5, 2) := by decide +kernel
theorem dX6_put_34 : decode cX6_put 34 = .ok (.ifCond .eq 10, 3) := by decide +kernel
theorem dX6_put_37 : decode cX6_put 37 = .ok (.aload_n 0, 1) := by decide +kernel
theorem dX6_put_38 : decode cX6_put 38 = .ok (.iload 5, 2) := by decide +kernel
theorem dX6_put_40 : decode cX6_put 40 = .ok (.invokevirtual 105, 3) := by decide +kernel
theorem dX6_put_43 : decode cX6_put 43 = .ok (.ireturn, 1) := by decide +kernel
theorem dX6_put_44 : decode cX6_put 44 = .ok (.aload_n 0, 1) := by decide +kernel
theorem dX6_put_45 : decode cX6_put 45 = .ok (.getfield 27, 3) := by decide +kernel
theorem dX6_put_48 : decode cX6_put 48 = .ok (.iload_n 1, 1) := by decide +kernel
theorem dX6_put_49 : decode cX6_put 49 = .ok (.aaload, 1) := by decide +kernel
theorem dX6_put_50 : decode cX6_put 50 = .ok (.iload_n 3, 1) := by decide +kernel
theorem dX6_put_51 : decode cX6_put 51 = .ok (.iload 4, 2) := by decide +kernel
theorem dX6_put_53 : decode cX6_put 53 = .ok (.invokevirtual 272, 3) := by decide +kernel
theorem dX6_put_56 : decode cX6_put 56 = .ok (.iconst 1, 1) := by decide +kernel
theorem dX6_put_57 : decode cX6_put 57 = .ok (.ireturn, 1) := by decide +kernel
theorem dX6_get_0 : decode cX6_get 0 = .ok (.iload_n 1, 1) := by decide +kernel
theorem dX6_get_1 : decode cX6_get 1 = .ok (.iconst 4, 1) := by decide +kernel
theorem dX6_get_2 : decode cX6_get 2 = .ok (.invokestatic 60, 3) := by decide +kernel
theorem dX6_get_5 : decode cX6_get 5 = .ok (.ifCond .eq 11, 3) := by decide +kernel
theorem dX6_get_8 : decode cX6_get 8 = .ok (.iload_n 2, 1) := by decide +kernel
theorem dX6_get_9 : decode cX6_get 9 = .ok (.iconst 3, 1) := by decide +kernel
theorem dX6_get_10 : decode cX6_get 10 = .ok (.invokestatic 60, 3) := by decide +kernel
theorem dX6_get_13 : decode cX6_get 13 = .ok (.ifCond .ne 7, 3) := by decide +kernel
theorem dX6_get_16 : decode cX6_get 16 = .ok (.ldc_w 275, 3) := by decide +kernel
theorem dX6_get_19 : decode cX6_get 19 = .ok (.ireturn, 1) := by decide +kernel
theorem dX6_get_20 : decode cX6_get 20 = .ok (.aload_n 0, 1) := by decide +kernel
theorem dX6_get_21 : decode cX6_get 21 = .ok (.getfield 27, 3) := by decide +kernel
theorem dX6_get_24 : decode cX6_get 24 = .ok (.iload_n 1, 1) := by decide +kernel
theorem dX6_get_25 : decode cX6_get 25 = .ok (.aaload, 1) := by decide +kernel
theorem dX6_get_26 : decode cX6_get 26 = .ok (.iload_n 2, 1) := by decide +kernel
theorem dX6_get_27 : decode cX6_get 27 = .ok (.iload_n 3, 1) := by decide +kernel
theorem dX6_get_28 : decode cX6_get 28 = .ok (.invokevirtual 269, 3) := by decide +kernel
theorem dX6_get_31 : decode cX6_get 31 = .ok (.istore 4, 2) := by decide +kernel
theorem dX6_get_33 : decode cX6_get 33 = .ok (.iload 4, 2) := by decide +kernel
theorem dX6_get_35 : decode cX6_get 35 = .ok (.ifCond .eq 13, 3) := by decide +kernel
theorem dX6_get_38 : decode cX6_get 38 = .ok (.aload_n 0, 1) := by decide +kernel
theorem dX6_get_39 : decode cX6_get 39 = .ok (.iload 4, 2) := by decide +kernel
theorem dX6_get_41 : decode cX6_get 41 = .ok (.putfield 122, 3) := by decide +kernel
theorem dX6_get_44 : decode cX6_get 44 = .ok (.ldc_w 275, 3) := by decide +kernel
theorem dX6_get_47 : decode cX6_get 47 = .ok (.ireturn, 1) := by decide +kernel
theorem dX6_get_48 : decode cX6_get 48 = .ok (.aload_n 0, 1) := by decide +kernel
theorem dX6_get_49 : decode cX6_get 49 = .ok (.getfield 27, 3) := by decide +kernel
theorem dX6_get_52 : decode cX6_get 52 = .ok (.iload_n 1, 1) := by decide +kernel
theorem dX6_get_53 : decode cX6_get 53 = .ok (.aaload, 1) := by decide +kernel
theorem dX6_get_54 : decode cX6_get 54 = .ok (.iload_n 3, 1) := by decide +kernel
theorem dX6_get_55 : decode cX6_get 55 = .ok (.invokevirtual 113, 3) := by decide +kernel
theorem dX6_get_58 : decode cX6_get 58 = .ok (.ireturn, 1) := by decide +kernel
theorem dX6_copy_0 : decode cX6_copy 0 = .ok (.iload_n 1, 1) := by decide +kernel
theorem dX6_copy_1 : decode cX6_copy 1 = .ok (.iconst 4, 1) := by decide +kernel
theorem dX6_copy_2 : decode cX6_copy 2 = .ok (.invokestatic 60, 3) := by decide +kernel
theorem dX6_copy_5 : decode cX6_copy 5 = .ok (.ifCond .eq 11, 3) := by decide +kernel
theorem dX6_copy_8 : decode cX6_copy 8 = .ok (.iload_n 3, 1) := by decide +kernel
theorem dX6_copy_9 : decode cX6_copy 9 = .ok (.iconst 4, 1) := by decide +kernel
theorem dX6_copy_10 : decode cX6_copy 10 = .ok (.invokestatic 60, 3) := by decide +kernel
theorem dX6_copy_13 : decode cX6_copy 13 = .ok (.ifCond .ne 6, 3) := by decide +kernel
theorem dX6_copy_16 : decode cX6_copy 16 = .ok (.bipush (-2), 2) := by decide +kernel
theorem dX6_copy_18 : decode cX6_copy 18 = .ok (.ireturn, 1) := by decide +kernel
theorem dX6_copy_19 : decode cX6_copy 19 = .ok (.aload_n 0, 1) := by decide +kernel
theorem dX6_copy_20 : decode cX6_copy 20 = .ok (.getfield 27, 3) := by decide +kernel
theorem dX6_copy_23 : decode cX6_copy 23 = .ok (.iload_n 1, 1) := by decide +kernel
theorem dX6_copy_24 : decode cX6_copy 24 = .ok (.aaload, 1) := by decide +kernel
theorem dX6_copy_25 : decode cX6_copy 25 = .ok (.astore 6, 2) := by decide +kernel
theorem dX6_copy_27 : decode cX6_copy 27 = .ok (.aload_n 0, 1) := by decide +kernel
theorem dX6_copy_28 : decode cX6_copy 28 = .ok (.getfield 27, 3) := by decide +kernel
theorem dX6_copy_31 : decode cX6_copy 31 = .ok (.iload_n 3, 1) := by decide +kernel
theorem dX6_copy_32 : decode cX6_copy 32 = .ok (.aaload, 1) := by decide +kernel
theorem dX6_copy_33 : decode cX6_copy 33 = .ok (.astore 7, 2) := by decide +kernel
theorem dX6_copy_35 : decode cX6_copy 35 = .ok (.aload 6, 2) := by decide +kernel
theorem dX6_copy_37 : decode cX6_copy 37 = .ok (.getfield 101, 3) := by decide +kernel
theorem dX6_copy_40 : decode cX6_copy 40 = .ok (.ifCond .ne 11, 3) := by decide +kernel
theorem dX6_copy_43 : decode cX6_copy 43 = .ok (.aload 7, 2) := by decide +kernel
theorem dX6_copy_45 : decode cX6_copy 45 = .ok (.getfield 101, 3) := by decide +kernel
theorem dX6_copy_48 : decode cX6_copy 48 = .ok (.ifCond .eq 9, 3) := by decide +kernel
theorem dX6_copy_51 : decode cX6_copy 51 = .ok (.aload_n 0, 1) := by decide +kernel
theorem dX6_copy_52 : decode cX6_copy 52 = .ok (.iconst 1, 1) := by decide +kernel
theorem dX6_copy_53 : decode cX6_copy 53 = .ok (.invokevirtual 105, 3) := by decide +kernel
theorem dX6_copy_56 : decode cX6_copy 56 = .ok (.ireturn, 1) := by decide +kernel
theorem dX6_copy_57 : decode cX6_copy 57 = .ok (.aload 6, 2) := by decide +kernel
theorem dX6_copy_59 : decode cX6_copy 59 = .ok (.getfield 276, 3) := by decide +kernel
theorem dX6_copy_62 : decode cX6_copy 62 = .ok (.aload 7, 2) := by decide +kernel
theorem dX6_copy_64 : decode cX6_copy 64 = .ok (.getfield 276, 3) := by decide +kernel
theorem dX6_copy_67 : decode cX6_copy 67 = .ok (.if_icmp .eq 9, 3) := by decide +kernel
theorem dX6_copy_70 : decode cX6_copy 70 = .ok (.aload_n 0, 1) := by decide +kernel
theorem dX6_copy_71 : decode cX6_copy 71 = .ok (.iconst 4, 1) := by decide +kernel
theorem dX6_copy_72 : decode cX6_copy 72 = .ok (.invokevirtual 105, 3) := by decide +kernel
theorem dX6_copy_75 : decode cX6_copy 75 = .ok (.ireturn, 1) := by decide +kernel
theorem dX6_copy_76 : decode cX6_copy 76 = .ok (.aload 6, 2) := by decide +kernel
theorem dX6_copy_78 : decode cX6_copy 78 = .ok (.iload_n 2, 1) := by decide +kernel
theorem dX6_copy_79 : decode cX6_copy 79 = .ok (.iload 5, 2) := by decide +kernel
theorem dX6_copy_81 : decode cX6_copy 81 = .ok (.invokevirtual 279, 3) := by decide +kernel
theorem dX6_copy_84 : decode cX6_copy 84 = .ok (.ifCond .eq 15, 3) := by decide +kernel
theorem dX6_copy_87 : decode cX6_copy 87 = .ok (.aload 7, 2) := by decide +kernel
theorem dX6_copy_89 : decode cX6_copy 89 = .ok (.iload 4, 2) := by decide +kernel
theorem dX6_copy_91 : decode cX6_copy 91 = .ok (.iload 5, 2) := by decide +kernel
theorem dX6_copy_93 : decode cX6_copy 93 = .ok (.invokevirtual 279, 3) := by decide +kernel
theorem dX6_copy_96 : decode cX6_copy 96 = .ok (.ifCond .ne 9, 3) := by decide +kernel
theorem dX6_copy_99 : decode cX6_copy 99 = .ok (.aload_n 0, 1) := by decide +kernel
theorem dX6_copy_100 : decode cX6_copy 100 = .ok (.iconst 2, 1) := by decide +kernel
theorem dX6_copy_101 : decode cX6_copy 101 = .ok (.invokevirtual 105, 3) := by decide +kernel
theorem dX6_copy_104 : decode cX6_copy 104 = .ok (.ireturn, 1) := by decide +kernel
theorem dX6_copy_105 : decode cX6_copy 105 = .ok (.aload 6, 2) := by decide +kernel
theorem dX6_copy_107 : decode cX6_copy 107 = .ok (.getfield 282, 3) := by decide +kernel
theorem dX6_copy_110 : decode cX6_copy 110 = .ok (.iload_n 2, 1) := by decide +kernel
theorem dX6_copy_111 : decode cX6_copy 111 = .ok (.aload 7, 2) := by decide +kernel
theorem dX6_copy_113 : decode cX6_copy 113 = .ok (.getfield 282, 3) := by decide +kernel
theorem dX6_copy_116 : decode cX6_copy 116 = .ok (.iload 4, 2) := by decide +kernel
theorem dX6_copy_118 : decode cX6_copy 118 = .ok (.iload 5, 2) := by decide +kernel
theorem dX6_copy_120 : decode cX6_copy 120 = .ok (.invokestatic 285, 3) := by decide +kernel
theorem dX6_copy_123 : decode cX6_copy 123 = .ok (.iconst 1, 1) := by decide +kernel
theorem dX6_copy_124 : decode cX6_copy 124 = .ok (.ireturn, 1) := by decide +kernel
theorem dX6_write_0 : decode cX6_write 0 = .ok (.iload_n 1, 1) := by decide +kernel
theorem dX6_write_1 : decode cX6_write 1 = .ok (.iconst 2, 1) := by decide +kernel
theorem dX6_write_2 : decode cX6_write 2 = .ok (.invokestatic 60, 3) := by decide +kernel
theorem dX6_write_5 : decode cX6_write 5 = .ok (.ifCond .eq 11, 3) := by decide +kernel
theorem dX6_write_8 : decode cX6_write 8 = .ok (.iload_n 2, 1) := by decide +kernel
theorem dX6_write_9 : decode cX6_write 9 = .ok (.iconst 4, 1) := by decide +kernel
theorem dX6_write_10 : decode cX6_write 10 = .ok (.invokestatic 60, 3) := by decide +kernel
theorem dX6_write_13 : decode cX6_write 13 = .ok (.ifCond .ne 6, 3) := by decide +kernel
theorem dX6_write_16 : decode cX6_write 16 = .ok (.bipush (-2), 2) := by decide +kernel
theorem dX6_write_18 : decode cX6_write 18 = .ok (.ireturn, 1) := by decide +kernel
theorem dX6_write_19 : decode cX6_write 19 = .ok (.aload_n 0, 1) := by decide +kernel
theorem dX6_write_20 : decode cX6_write 20 = .ok (.getfield 27, 3) := by decide +kernel
theorem dX6_write_23 : decode cX6_write 23 = .ok (.iload_n 2, 1) := by decide +kernel
theorem dX6_write_24 : decode cX6_write 24 = .ok (.aaload, 1) := by decide +kernel
theorem dX6_write_25 : decode cX6_write 25 = .ok (.astore_n 3, 1) := by decide +kernel
theorem dX6_write_26 : decode cX6_write 26 = .ok (.aload_n 3, 1) := by decide +kernel
theorem dX6_write_27 : decode cX6_write 27 = .ok (.getfield 101, 3) := by decide +kernel
theorem dX6_write_30 : decode cX6_write 30 = .ok (.ifCond .eq 9, 3) := by decide +kernel
theorem dX6_write_33 : decode cX6_write 33 = .ok (.aload_n 0, 1) := by decide +kernel
theorem dX6_write_34 : decode cX6_write 34 = .ok (.iconst 1, 1) := by decide +kernel
theorem dX6_write_35 : decode cX6_write 35 = .ok (.invokevirtual 105, 3) := by decide +kernel
theorem dX6_write_38 : decode cX6_write 38 = .ok (.ireturn, 1) := by decide +kernel
theorem dX6_write_39 : decode cX6_write 39 = .ok (.aload_n 0, 1) := by decide +kernel
theorem dX6_write_40 : decode cX6_write 40 = .ok (.iload_n 1, 1) := by decide +kernel
theorem dX6_write_41 : decode cX6_write 41 = .ok (.iconst (-1), 1) := by decide +kernel
theorem dX6_write_42 : decode cX6_write 42 = .ok (.invokevirtual 190, 3) := by decide +kernel
theorem dX6_write_45 : decode cX6_write 45 = .ok (.astore 4, 2) := by decide +kernel
theorem dX6_write_47 : decode cX6_write 47 = .ok (.iconst 2, 1) := by decide +kernel
theorem dX6_write_48 : decode cX6_write 48 = .ok (.aload 4, 2) := by decide +kernel
theorem dX6_write_50 : decode cX6_write 50 = .ok (.getfield 194, 3) := by decide +kernel
theorem dX6_write_53 : decode cX6_write 53 = .ok (.imul, 1) := by decide +kernel
theorem dX6_write_54 : decode cX6_write 54 = .ok (.aload_n 3, 1) := by decide +kernel
theorem dX6_write_55 : decode cX6_write 55 = .ok (.getfield 108, 3) := by decide +kernel
theorem dX6_write_58 : decode cX6_write 58 = .ok (.invokestatic 257, 3) := by decide +kernel
theorem dX6_write_61 : decode cX6_write 61 = .ok (.istore 5, 2) := by decide +kernel
theorem dX6_write_63 : decode cX6_write 63 = .ok (.iconst 0, 1) := by decide +kernel
theorem dX6_write_64 : decode cX6_write 64 = .ok (.istore 6, 2) := by decide +kernel
theorem dX6_write_66 : decode cX6_write 66 = .ok (.iload 6, 2) := by decide +kernel
theorem dX6_write_68 : decode cX6_write 68 = .ok (.iload 5, 2) := by decide +kernel
theorem dX6_write_70 : decode cX6_write 70 = .ok (.if_icmp .ge 45, 3) := by decide +kernel
theorem dX6_write_73 : decode cX6_write 73 = .ok (.aload_n 3, 1) := by decide +kernel
theorem dX6_write_74 : decode cX6_write 74 = .ok (.iload 6, 2) := by decide +kernel
theorem dX6_write_76 : decode cX6_write 76 = .ok (.iload 6, 2) := by decide +kernel
theorem dX6_write_78 : decode cX6_write 78 = .ok (.iconst 2, 1) := by decide +kernel
theorem dX6_write_79 : decode cX6_write 79 = .ok (.irem, 1) := by decide +kernel
theorem dX6_write_80 : decode cX6_write 80 = .ok (.ifCond .ne 16, 3) := by decide +kernel
theorem dX6_write_83 : decode cX6_write 83 = .ok (.aload 4, 2) := by decide +kernel
theorem dX6_write_85 : decode cX6_write 85 = .ok (.getfield 198, 3) := by decide +kernel
theorem dX6_write_88 : decode cX6_write 88 = .ok (.iload 6, 2) := by decide +kernel
theorem dX6_write_90 : decode cX6_write 90 = .ok (.iconst 2, 1) := by decide +kernel
theorem dX6_write_91 : decode cX6_write 91 = .ok (.idiv, 1) := by decide +kernel
theorem dX6_write_92 : decode cX6_write 92 = .ok (.iaload, 1) := by decide +kernel
theorem dX6_write_93 : decode cX6_write 93 = .ok (.goto 13, 3) := by decide +kernel
theorem dX6_write_96 : decode cX6_write 96 = .ok (.aload 4, 2) := by decide +kernel
theorem dX6_write_98 : decode cX6_write 98 = .ok (.getfield 201, 3) := by decide +kernel
theorem dX6_write_101 : decode cX6_write 101 = .ok (.iload 6, 2) := by decide +kernel
theorem dX6_write_103 : decode cX6_write 103 = .ok (.iconst 2, 1) := by decide +kernel
theorem dX6_write_104 : decode cX6_write 104 = .ok (.idiv, 1) := by decide +kernel
theorem dX6_write_105 : decode cX6_write 105 = .ok (.iaload, 1) := by decide +kernel
theorem dX6_write_106 : decode cX6_write 106 = .ok (.invokevirtual 272, 3) := by decide +kernel
theorem dX6_write_109 : decode cX6_write 109 = .ok (.iinc 6 1, 3) := by decide +kernel
theorem dX6_write_112 : decode cX6_write 112 = .ok (.goto (-46), 3) := by decide +kernel
theorem dX6_write_115 : decode cX6_write 115 = .ok (.iload 5, 2) := by decide +kernel
theorem dX6_write_117 : decode cX6_write 117 = .ok (.ireturn, 1) := by decide +kernel
theorem dX6_count_0 : decode cX6_count 0 = .ok (.iload_n 1, 1) := by decide +kernel
theorem dX6_count_1 : decode cX6_count 1 = .ok (.tableswitch 120 0 8 #[51, 61, 71, 81, 91, 97, 102, 109, 115], 51) := by decide +kernel
theorem dX6_count_52 : decode cX6_count 52 = .ok (.aload_n 0, 1) := by decide +kernel
theorem dX6_count_53 : decode cX6_count 53 = .ok (.getfield 11, 3) := by decide +kernel
theorem dX6_count_56 : decode cX6_count 56 = .ok (.iconst 0, 1) := by decide +kernel
theorem dX6_count_57 : decode cX6_count 57 = .ok (.aaload, 1) := by decide +kernel
theorem dX6_count_58 : decode cX6_count 58 = .ok (.getfield 76, 3) := by decide +kernel
theorem dX6_count_61 : decode cX6_count 61 = .ok (.ireturn, 1) := by decide +kernel
theorem dX6_count_62 : decode cX6_count 62 = .ok (.aload_n 0, 1) := by decide +kernel
theorem dX6_count_63 : decode cX6_count 63 = .ok (.getfield 11, 3) := by decide +kernel
theorem dX6_count_66 : decode cX6_count 66 = .ok (.iconst 1, 1) := by decide +kernel
theorem dX6_count_67 : decode cX6_count 67 = .ok (.aaload, 1) := by decide +kernel
theorem dX6_count_68 : decode cX6_count 68 = .ok (.getfield 76, 3) := by decide +kernel
theorem dX6_count_71 : decode cX6_count 71 = .ok (.ireturn, 1) := by decide +kernel
theorem dX6_count_72 : decode cX6_count 72 = .ok (.aload_n 0, 1) := by decide +kernel
theorem dX6_count_73 : decode cX6_count 73 = .ok (.getfield 11, 3) := by decide +kernel
theorem dX6_count_76 : decode cX6_count 76 = .ok (.iconst 0, 1) := by decide +kernel
theorem dX6_count_77 : decode cX6_count 77 = .ok (.aaload, 1) := by decide +kernel
theorem dX6_count_78 : decode cX6_count 78 = .ok (.invokevirtual 217, 3) := by decide +kernel
theorem dX6_count_81 : decode cX6_count 81 = .ok (.ireturn, 1) := by decide +kernel
theorem dX6_count_82 : decode cX6_count 82 = .ok (.aload_n 0, 1) := by decide +kernel
theorem dX6_count_83 : decode cX6_count 83 = .ok (.getfield 11, 3) := by decide +kernel
theorem dX6_count_86 : decode cX6_count 86 = .ok (.iconst 1, 1) := by decide +kernel
theorem dX6_count_87 : decode cX6_count 87 = .ok (.aaload, 1) := by decide +kernel
theorem dX6_count_88 : decode cX6_count 88 = .ok (.invokevirtual 217, 3) := by decide +kernel
theorem dX6_count_91 : decode cX6_count 91 = .ok (.ireturn, 1) := by decide +kernel
theorem dX6_count_92 : decode cX6_count 92 = .ok (.aload_n 0, 1) := by decide +kernel
theorem dX6_count_93 : decode cX6_count 93 = .ok (.iconst 1, 1) := by decide +kernel
theorem dX6_count_94 : decode cX6_count 94 = .ok (.invokevirtual 291, 3) := by decide +kernel
theorem dX6_count_97 : decode cX6_count 97 = .ok (.ireturn, 1) := by decide +kernel
theorem dX6_count_98 : decode cX6_count 98 = .ok (.aload_n 0, 1) := by decide +kernel
theorem dX6_count_99 : decode cX6_count 99 = .ok (.invokevirtual 294, 3) := by decide +kernel
theorem dX6_count_102 : decode cX6_count 102 = .ok (.ireturn, 1) := by decide +kernel
theorem dX6_count_103 : decode cX6_count 103 = .ok (.aload_n 0, 1) := by decide +kernel
theorem dX6_count_104 : decode cX6_count 104 = .ok (.getfield 22, 3) := by decide +kernel
theorem dX6_count_107 : decode cX6_count 107 = .ok (.iconst 0, 1) := by decide +kernel
theorem dX6_count_108 : decode cX6_count 108 = .ok (.iaload, 1) := by decide +kernel
theorem dX6_count_109 : decode cX6_count 109 = .ok (.ireturn, 1) := by decide +kernel
theorem dX6_count_110 : decode cX6_count 110 = .ok (.aload_n 0, 1) := by decide +kernel
theorem dX6_count_111 : decode cX6_count 111 = .ok (.iconst (-1), 1) := by decide +kernel
theorem dX6_count_112 : decode cX6_count 112 = .ok (.invokevirtual 297, 3) := by decide +kernel
theorem dX6_count_115 : decode cX6_count 115 = .ok (.ireturn, 1) := by decide +kernel
theorem dX6_count_116 : decode cX6_count 116 = .ok (.aload_n 0, 1) := by decide +kernel
theorem dX6_count_117 : decode cX6_count 117 = .ok (.getfield 122, 3) := by decide +kernel
theorem dX6_count_120 : decode cX6_count 120 = .ok (.ireturn, 1) := by decide +kernel
theorem dX6_count_121 : decode cX6_count 121 = .ok (.bipush (-2), 2) := by decide +kernel
theorem dX6_count_123 : decode cX6_count 123 = .ok (.ireturn, 1) := by decide +kernel
theorem dX6_digest_0 : decode cX6_digest 0 = .ok (.ldc2_w 300, 3) := by decide +kernel
theorem dX6_digest_3 : decode cX6_digest 3 = .ok (.lstore_n 1, 1) := by decide +kernel
theorem dX6_digest_4 : decode cX6_digest 4 = .ok (.iconst 0, 1) := by decide +kernel
theorem dX6_digest_5 : decode cX6_digest 5 = .ok (.istore_n 3, 1) := by decide +kernel
theorem dX6_digest_6 : decode cX6_digest 6 = .ok (.iload_n 3, 1) := by decide +kernel
theorem dX6_digest_7 : decode cX6_digest 7 = .ok (.bipush 7, 2) := by decide +kernel
theorem dX6_digest_9 : decode cX6_digest 9 = .ok (.if_icmp .gt 22, 3) := by decide +kernel
theorem dX6_digest_12 : decode cX6_digest 12 = .ok (.ldc2_w 302, 3) := by decide +kernel
theorem dX6_digest_15 : decode cX6_digest 15 = .ok (.lload_n 1, 1) := by decide +kernel
theorem dX6_digest_16 : decode cX6_digest 16 = .ok (.lmul, 1) := by decide +kernel
theorem dX6_digest_17 : decode cX6_digest 17 = .ok (.aload_n 0, 1) := by decide +kernel
theorem dX6_digest_18 : decode cX6_digest 18 = .ok (.iload_n 3, 1) := by decide +kernel
theorem dX6_digest_19 : decode cX6_digest 19 = .ok (.invokevirtual 304, 3) := by decide +kernel
theorem dX6_digest_22 : decode cX6_digest 22 = .ok (.i2l, 1) := by decide +kernel
theorem dX6_digest_23 : decode cX6_digest 23 = .ok (.ladd, 1) := by decide +kernel
theorem dX6_digest_24 : decode cX6_digest 24 = .ok (.lstore_n 1, 1) := by decide +kernel
theorem dX6_digest_25 : decode cX6_digest 25 = .ok (.iinc 3 1, 3) := by decide +kernel
theorem dX6_digest_28 : decode cX6_digest 28 = .ok (.goto (-22), 3) := by decide +kernel
theorem dX6_digest_31 : decode cX6_digest 31 = .ok (.iconst 0, 1) := by decide +kernel
theorem dX6_digest_32 : decode cX6_digest 32 = .ok (.istore_n 3, 1) := by decide +kernel
theorem dX6_digest_33 : decode cX6_digest 33 = .ok (.iload_n 3, 1) := by decide +kernel
theorem dX6_digest_34 : decode cX6_digest 34 = .ok (.iconst 2, 1) := by decide +kernel
theorem dX6_digest_35 : decode cX6_digest 35 = .ok (.if_icmp .ge 21, 3) := by decide +kernel
theorem dX6_digest_38 : decode cX6_digest 38 = .ok (.aload_n 0, 1) := by decide +kernel
theorem dX6_digest_39 : decode cX6_digest 39 = .ok (.aload_n 0, 1) := by decide +kernel
theorem dX6_digest_40 : decode cX6_digest 40 = .ok (.lload_n 1, 1) := by decide +kernel
theorem dX6_digest_41 : decode cX6_digest 41 = .ok (.iload_n 3, 1) := by decide +kernel
theorem dX6_digest_42 : decode cX6_digest 42 = .ok (.invokevirtual 307, 3) := by decide +kernel
theorem dX6_digest_45 : decode cX6_digest 45 = .ok (.iload_n 3, 1) := by decide +kernel
theorem dX6_digest_46 : decode cX6_digest 46 = .ok (.invokevirtual 311, 3) := by decide +kernel
theorem dX6_digest_49 : decode cX6_digest 49 = .ok (.lstore_n 1, 1) := by decide +kernel
theorem dX6_digest_50 : decode cX6_digest 50 = .ok (.iinc 3 1, 3) := by decide +kernel
theorem dX6_digest_53 : decode cX6_digest 53 = .ok (.goto (-20), 3) := by decide +kernel
theorem dX6_digest_56 : decode cX6_digest 56 = .ok (.iconst 0, 1) := by decide +kernel
theorem dX6_digest_57 : decode cX6_digest 57 = .ok (.istore_n 3, 1) := by decide +kernel
theorem dX6_digest_58 : decode cX6_digest 58 = .ok (.iload_n 3, 1) := by decide +kernel
theorem dX6_digest_59 : decode cX6_digest 59 = .ok (.aload_n 0, 1) := by decide +kernel
theorem dX6_digest_60 : decode cX6_digest 60 = .ok (.getfield 11, 3) := by decide +kernel
theorem dX6_digest_63 : decode cX6_digest 63 = .ok (.iconst 1, 1) := by decide +kernel
theorem dX6_digest_64 : decode cX6_digest 64 = .ok (.aaload, 1) := by decide +kernel
theorem dX6_digest_65 : decode cX6_digest 65 = .ok (.getfield 76, 3) := by decide +kernel
theorem dX6_digest_68 : decode cX6_digest 68 = .ok (.if_icmp .ge 39, 3) := by decide +kernel
theorem dX6_digest_71 : decode cX6_digest 71 = .ok (.iconst 0, 1) := by decide +kernel
theorem dX6_digest_72 : decode cX6_digest 72 = .ok (.istore 4, 2) := by decide +kernel
theorem dX6_digest_74 : decode cX6_digest 74 = .ok (.iload 4, 2) := by decide +kernel
theorem dX6_digest_76 : decode cX6_digest 76 = .ok (.iconst 2, 1) := by decide +kernel
theorem dX6_digest_77 : decode cX6_digest 77 = .ok (.if_icmp .gt 24, 3) := by decide +kernel
theorem dX6_digest_80 : decode cX6_digest 80 = .ok (.ldc2_w 302, 3) := by decide +kernel
theorem dX6_digest_83 : decode cX6_digest 83 = .ok (.lload_n 1, 1) := by decide +kernel
theorem dX6_digest_84 : decode cX6_digest 84 = .ok (.lmul, 1) := by decide +kernel
theorem dX6_digest_85 : decode cX6_digest 85 = .ok (.aload_n 0, 1) := by decide +kernel
theorem dX6_digest_86 : decode cX6_digest 86 = .ok (.iload_n 3, 1) := by decide +kernel
theorem dX6_digest_87 : decode cX6_digest 87 = .ok (.iload 4, 2) := by decide +kernel
theorem dX6_digest_89 : decode cX6_digest 89 = .ok (.invokevirtual 314, 3) := by decide +kernel
theorem dX6_digest_92 : decode cX6_digest 92 = .ok (.i2l, 1) := by decide +kernel
theorem dX6_digest_93 : decode cX6_digest 93 = .ok (.ladd, 1) := by decide +kernel
theorem dX6_digest_94 : decode cX6_digest 94 = .ok (.lstore_n 1, 1) := by decide +kernel
theorem dX6_digest_95 : decode cX6_digest 95 = .ok (.iinc 4 1, 3) := by decide +kernel
theorem dX6_digest_98 : decode cX6_digest 98 = .ok (.goto (-24), 3) := by decide +kernel
theorem dX6_digest_101 : decode cX6_digest 101 = .ok (.iinc 3 1, 3) := by decide +kernel
theorem dX6_digest_104 : decode cX6_digest 104 = .ok (.goto (-46), 3) := by decide +kernel
theorem dX6_digest_107 : decode cX6_digest 107 = .ok (.ldc2_w 302, 3) := by decide +kernel
theorem dX6_digest_110 : decode cX6_digest 110 = .ok (.lload_n 1, 1) := by decide +kernel
theorem dX6_digest_111 : decode cX6_digest 111 = .ok (.lmul, 1) := by decide +kernel
theorem dX6_digest_112 : decode cX6_digest 112 = .ok (.aload_n 0, 1) := by decide +kernel
theorem dX6_digest_113 : decode cX6_digest 113 = .ok (.invokevirtual 317, 3) := by decide +kernel
theorem dX6_digest_116 : decode cX6_digest 116 = .ok (.i2l, 1) := by decide +kernel
theorem dX6_digest_117 : decode cX6_digest 117 = .ok (.ladd, 1) := by decide +kernel
theorem dX6_digest_118 : decode cX6_digest 118 = .ok (.lstore_n 1, 1) := by decide +kernel
theorem dX6_digest_119 : decode cX6_digest 119 = .ok (.ldc2_w 302, 3) := by decide +kernel
theorem dX6_digest_122 : decode cX6_digest 122 = .ok (.lload_n 1, 1) := by decide +kernel
theorem dX6_digest_123 : decode cX6_digest 123 = .ok (.lmul, 1) := by decide +kernel
theorem dX6_digest_124 : decode cX6_digest 124 = .ok (.aload_n 0, 1) := by decide +kernel
theorem dX6_digest_125 : decode cX6_digest 125 = .ok (.iconst (-1), 1) := by decide +kernel
theorem dX6_digest_126 : decode cX6_digest 126 = .ok (.invokevirtual 297, 3) := by decide +kernel
theorem dX6_digest_129 : decode cX6_digest 129 = .ok (.i2l, 1) := by decide +kernel
theorem dX6_digest_130 : decode cX6_digest 130 = .ok (.ladd, 1) := by decide +kernel
theorem dX6_digest_131 : decode cX6_digest 131 = .ok (.lstore_n 1, 1) := by decide +kernel
theorem dX6_digest_132 : decode cX6_digest 132 = .ok (.ldc2_w 302, 3) := by decide +kernel
theorem dX6_digest_135 : decode cX6_digest 135 = .ok (.lload_n 1, 1) := by decide +kernel
theorem dX6_digest_136 : decode cX6_digest 136 = .ok (.lmul, 1) := by decide +kernel
theorem dX6_digest_137 : decode cX6_digest 137 = .ok (.aload_n 0, 1) := by decide +kernel
theorem dX6_digest_138 : decode cX6_digest 138 = .ok (.iconst 0, 1) := by decide +kernel
theorem dX6_digest_139 : decode cX6_digest 139 = .ok (.invokevirtual 297, 3) := by decide +kernel
theorem dX6_digest_142 : decode cX6_digest 142 = .ok (.i2l, 1) := by decide +kernel
theorem dX6_digest_143 : decode cX6_digest 143 = .ok (.ladd, 1) := by decide +kernel
theorem dX6_digest_144 : decode cX6_digest 144 = .ok (.lstore_n 1, 1) := by decide +kernel
theorem dX6_digest_145 : decode cX6_digest 145 = .ok (.ldc2_w 302, 3) := by decide +kernel
theorem dX6_digest_148 : decode cX6_digest 148 = .ok (.lload_n 1, 1) := by decide +kernel
theorem dX6_digest_149 : decode cX6_digest 149 = .ok (.lmul, 1) := by decide +kernel
theorem dX6_digest_150 : decode cX6_digest 150 = .ok (.aload_n 0, 1) := by decide +kernel
theorem dX6_digest_151 : decode cX6_digest 151 = .ok (.bipush 25, 2) := by decide +kernel
theorem dX6_digest_153 : decode cX6_digest 153 = .ok (.invokevirtual 297, 3) := by decide +kernel
theorem dX6_digest_156 : decode cX6_digest 156 = .ok (.i2l, 1) := by decide +kernel
theorem dX6_digest_157 : decode cX6_digest 157 = .ok (.ladd, 1) := by decide +kernel
theorem dX6_digest_158 : decode cX6_digest 158 = .ok (.lstore_n 1, 1) := by decide +kernel
theorem dX6_digest_159 : decode cX6_digest 159 = .ok (.ldc2_w 302, 3) := by decide +kernel
theorem dX6_digest_162 : decode cX6_digest 162 = .ok (.lload_n 1, 1) := by decide +kernel
theorem dX6_digest_163 : decode cX6_digest 163 = .ok (.lmul, 1) := by decide +kernel
theorem dX6_digest_164 : decode cX6_digest 164 = .ok (.aload_n 0, 1) := by decide +kernel
theorem dX6_digest_165 : decode cX6_digest 165 = .ok (.iconst 0, 1) := by decide +kernel
theorem dX6_digest_166 : decode cX6_digest 166 = .ok (.invokevirtual 320, 3) := by decide +kernel
theorem dX6_digest_169 : decode cX6_digest 169 = .ok (.i2l, 1) := by decide +kernel
theorem dX6_digest_170 : decode cX6_digest 170 = .ok (.ladd, 1) := by decide +kernel
theorem dX6_digest_171 : decode cX6_digest 171 = .ok (.lstore_n 1, 1) := by decide +kernel
theorem dX6_digest_172 : decode cX6_digest 172 = .ok (.ldc2_w 302, 3) := by decide +kernel
theorem dX6_digest_175 : decode cX6_digest 175 = .ok (.lload_n 1, 1) := by decide +kernel
theorem dX6_digest_176 : decode cX6_digest 176 = .ok (.lmul, 1) := by decide +kernel
theorem dX6_digest_177 : decode cX6_digest 177 = .ok (.aload_n 0, 1) := by decide +kernel
theorem dX6_digest_178 : decode cX6_digest 178 = .ok (.iconst 1, 1) := by decide +kernel
theorem dX6_digest_179 : decode cX6_digest 179 = .ok (.invokevirtual 320, 3) := by decide +kernel
theorem dX6_digest_182 : decode cX6_digest 182 = .ok (.i2l, 1) := by decide +kernel
theorem dX6_digest_183 : decode cX6_digest 183 = .ok (.ladd, 1) := by decide +kernel
theorem dX6_digest_184 : decode cX6_digest 184 = .ok (.lstore_n 1, 1) := by decide +kernel
theorem dX6_digest_185 : decode cX6_digest 185 = .ok (.aload_n 0, 1) := by decide +kernel
theorem dX6_digest_186 : decode cX6_digest 186 = .ok (.aload_n 0, 1) := by decide +kernel
theorem dX6_digest_187 : decode cX6_digest 187 = .ok (.aload_n 0, 1) := by decide +kernel
theorem dX6_digest_188 : decode cX6_digest 188 = .ok (.lload_n 1, 1) := by decide +kernel
theorem dX6_digest_189 : decode cX6_digest 189 = .ok (.sipush 1799, 3) := by decide +kernel
theorem dX6_digest_192 : decode cX6_digest 192 = .ok (.invokevirtual 323, 3) := by decide +kernel
theorem dX6_digest_195 : decode cX6_digest 195 = .ok (.sipush 1800, 3) := by decide +kernel
theorem dX6_digest_198 : decode cX6_digest 198 = .ok (.invokevirtual 323, 3) := by decide +kernel
theorem dX6_digest_201 : decode cX6_digest 201 = .ok (.sipush 17982, 3) := by decide +kernel
theorem dX6_digest_204 : decode cX6_digest 204 = .ok (.invokevirtual 323, 3) := by decide +kernel
theorem dX6_digest_207 : decode cX6_digest 207 = .ok (.lstore_n 1, 1) := by decide +kernel
theorem dX6_digest_208 : decode cX6_digest 208 = .ok (.ldc2_w 302, 3) := by decide +kernel
theorem dX6_digest_211 : decode cX6_digest 211 = .ok (.lload_n 1, 1) := by decide +kernel
theorem dX6_digest_212 : decode cX6_digest 212 = .ok (.lmul, 1) := by decide +kernel
theorem dX6_digest_213 : decode cX6_digest 213 = .ok (.aload_n 0, 1) := by decide +kernel
theorem dX6_digest_214 : decode cX6_digest 214 = .ok (.iconst 0, 1) := by decide +kernel
theorem dX6_digest_215 : decode cX6_digest 215 = .ok (.iconst 1, 1) := by decide +kernel
theorem dX6_digest_216 : decode cX6_digest 216 = .ok (.iconst 0, 1) := by decide +kernel
theorem dX6_digest_217 : decode cX6_digest 217 = .ok (.iconst 0, 1) := by decide +kernel
theorem dX6_digest_218 : decode cX6_digest 218 = .ok (.invokevirtual 326, 3) := by decide +kernel
theorem dX6_digest_221 : decode cX6_digest 221 = .ok (.i2l, 1) := by decide +kernel
theorem dX6_digest_222 : decode cX6_digest 222 = .ok (.ladd, 1) := by decide +kernel
theorem dX6_digest_223 : decode cX6_digest 223 = .ok (.lstore_n 1, 1) := by decide +kernel
theorem dX6_digest_224 : decode cX6_digest 224 = .ok (.ldc2_w 302, 3) := by decide +kernel
theorem dX6_digest_227 : decode cX6_digest 227 = .ok (.lload_n 1, 1) := by decide +kernel
theorem dX6_digest_228 : decode cX6_digest 228 = .ok (.lmul, 1) := by decide +kernel
theorem dX6_digest_229 : decode cX6_digest 229 = .ok (.aload_n 0, 1) := by decide +kernel
theorem dX6_digest_230 : decode cX6_digest 230 = .ok (.iconst 0, 1) := by decide +kernel
theorem dX6_digest_231 : decode cX6_digest 231 = .ok (.bipush 10, 2) := by decide +kernel
theorem dX6_digest_233 : decode cX6_digest 233 = .ok (.iconst 0, 1) := by decide +kernel
theorem dX6_digest_234 : decode cX6_digest 234 = .ok (.iconst 0, 1) := by decide +kernel
theorem dX6_digest_235 : decode cX6_digest 235 = .ok (.invokevirtual 326, 3) := by decide +kernel
theorem dX6_digest_238 : decode cX6_digest 238 = .ok (.i2l, 1) := by decide +kernel
theorem dX6_digest_239 : decode cX6_digest 239 = .ok (.ladd, 1) := by decide +kernel
theorem dX6_digest_240 : decode cX6_digest 240 = .ok (.lstore_n 1, 1) := by decide +kernel
theorem dX6_digest_241 : decode cX6_digest 241 = .ok (.ldc2_w 302, 3) := by decide +kernel
theorem dX6_digest_244 : decode cX6_digest 244 = .ok (.lload_n 1, 1) := by decide +kernel
theorem dX6_digest_245 : decode cX6_digest 245 = .ok (.lmul, 1) := by decide +kernel
theorem dX6_digest_246 : decode cX6_digest 246 = .ok (.aload_n 0, 1) := by decide +kernel
theorem dX6_digest_247 : decode cX6_digest 247 = .ok (.iconst 1, 1) := by decide +kernel
theorem dX6_digest_248 : decode cX6_digest 248 = .ok (.iconst 2, 1) := by decide +kernel
theorem dX6_digest_249 : decode cX6_digest 249 = .ok (.iconst 3, 1) := by decide +kernel
theorem dX6_digest_250 : decode cX6_digest 250 = .ok (.iconst 4, 1) := by decide +kernel
theorem dX6_digest_251 : decode cX6_digest 251 = .ok (.invokevirtual 326, 3) := by decide +kernel
theorem dX6_digest_254 : decode cX6_digest 254 = .ok (.i2l, 1) := by decide +kernel
theorem dX6_digest_255 : decode cX6_digest 255 = .ok (.ladd, 1) := by decide +kernel
theorem dX6_digest_256 : decode cX6_digest 256 = .ok (.lreturn, 1) := by decide +kernel
theorem dX6_digestOfEdits_0 : decode cX6_digestOfEdits 0 = .ok (.lload_n 1, 1) := by decide +kernel
theorem dX6_digestOfEdits_1 : decode cX6_digestOfEdits 1 = .ok (.lstore 4, 2) := by decide +kernel
theorem dX6_digestOfEdits_3 : decode cX6_digestOfEdits 3 = .ok (.iconst 0, 1) := by decide +kernel
theorem dX6_digestOfEdits_4 : decode cX6_digestOfEdits 4 = .ok (.istore 6, 2) := by decide +kernel
theorem dX6_digestOfEdits_6 : decode cX6_digestOfEdits 6 = .ok (.iload 6, 2) := by decide +kernel
theorem dX6_digestOfEdits_8 : decode cX6_digestOfEdits 8 = .ok (.aload_n 0, 1) := by decide +kernel
theorem dX6_digestOfEdits_9 : decode cX6_digestOfEdits 9 = .ok (.getfield 11, 3) := by decide +kernel
theorem dX6_digestOfEdits_12 : decode cX6_digestOfEdits 12 = .ok (.iload_n 3, 1) := by decide +kernel
theorem dX6_digestOfEdits_13 : decode cX6_digestOfEdits 13 = .ok (.aaload, 1) := by decide +kernel
theorem dX6_digestOfEdits_14 : decode cX6_digestOfEdits 14 = .ok (.getfield 76, 3) := by decide +kernel
theorem dX6_digestOfEdits_17 : decode cX6_digestOfEdits 17 = .ok (.if_icmp .ge 80, 3) := by decide +kernel
theorem dX6_digestOfEdits_20 : decode cX6_digestOfEdits 20 = .ok (.iconst 0, 1) := by decide +kernel
theorem dX6_digestOfEdits_21 : decode cX6_digestOfEdits 21 = .ok (.istore 7, 2) := by decide +kernel
theorem dX6_digestOfEdits_23 : decode cX6_digestOfEdits 23 = .ok (.iload 7, 2) := by decide +kernel
theorem dX6_digestOfEdits_25 : decode cX6_digestOfEdits 25 = .ok (.bipush 7, 2) := by decide +kernel
theorem dX6_digestOfEdits_27 : decode cX6_digestOfEdits 27 = .ok (.if_icmp .gt 28, 3) := by decide +kernel
theorem dX6_digestOfEdits_30 : decode cX6_digestOfEdits 30 = .ok (.ldc2_w 302, 3) := by decide +kernel
theorem dX6_digestOfEdits_33 : decode cX6_digestOfEdits 33 = .ok (.lload 4, 2) := by decide +kernel
theorem dX6_digestOfEdits_35 : decode cX6_digestOfEdits 35 = .ok (.lmul, 1) := by decide +kernel
theorem dX6_digestOfEdits_36 : decode cX6_digestOfEdits 36 = .ok (.aload_n 0, 1) := by decide +kernel
theorem dX6_digestOfEdits_37 : decode cX6_digestOfEdits 37 = .ok (.iload_n 3, 1) := by decide +kernel
theorem dX6_digestOfEdits_38 : decode cX6_digestOfEdits 38 = .ok (.iload 6, 2) := by decide +kernel
theorem dX6_digestOfEdits_40 : decode cX6_digestOfEdits 40 = .ok (.iload 7, 2) := by decide +kernel
theorem dX6_digestOfEdits_42 : decode cX6_digestOfEdits 42 = .ok (.invokevirtual 329, 3) := by decide +kernel
theorem dX6_digestOfEdits_45 : decode cX6_digestOfEdits 45 = .ok (.i2l, 1) := by decide +kernel
theorem dX6_digestOfEdits_46 : decode cX6_digestOfEdits 46 = .ok (.ladd, 1) := by decide +kernel
theorem dX6_digestOfEdits_47 : decode cX6_digestOfEdits 47 = .ok (.lstore 4, 2) := by decide +kernel
theorem dX6_digestOfEdits_49 : decode cX6_digestOfEdits 49 = .ok (.iinc 7 1, 3) := by decide +kernel
theorem dX6_digestOfEdits_52 : decode cX6_digestOfEdits 52 = .ok (.goto (-29), 3) := by decide +kernel
theorem dX6_digestOfEdits_55 : decode cX6_digestOfEdits 55 = .ok (.ldc2_w 302, 3) := by decide +kernel
theorem dX6_digestOfEdits_58 : decode cX6_digestOfEdits 58 = .ok (.lload 4, 2) := by decide +kernel
theorem dX6_digestOfEdits_60 : decode cX6_digestOfEdits 60 = .ok (.lmul, 1) := by decide +kernel
theorem dX6_digestOfEdits_61 : decode cX6_digestOfEdits 61 = .ok (.aload_n 0, 1) := by decide +kernel
theorem dX6_digestOfEdits_62 : decode cX6_digestOfEdits 62 = .ok (.iload_n 3, 1) := by decide +kernel
theorem dX6_digestOfEdits_63 : decode cX6_digestOfEdits 63 = .ok (.iload 6, 2) := by decide +kernel
theorem dX6_digestOfEdits_65 : decode cX6_digestOfEdits 65 = .ok (.iconst 0, 1) := by decide +kernel
theorem dX6_digestOfEdits_66 : decode cX6_digestOfEdits 66 = .ok (.invokevirtual 332, 3) := by decide +kernel
theorem dX6_digestOfEdits_69 : decode cX6_digestOfEdits 69 = .ok (.i2l, 1) := by decide +kernel
theorem dX6_digestOfEdits_70 : decode cX6_digestOfEdits 70 = .ok (.ladd, 1) := by decide +kernel
theorem dX6_digestOfEdits_71 : decode cX6_digestOfEdits 71 = .ok (.lstore 4, 2) := by decide +kernel
theorem dX6_digestOfEdits_73 : decode cX6_digestOfEdits 73 = .ok (.ldc2_w 302, 3) := by decide +kernel
theorem dX6_digestOfEdits_76 : decode cX6_digestOfEdits 76 = .ok (.lload 4, 2) := by decide +kernel
theorem dX6_digestOfEdits_78 : decode cX6_digestOfEdits 78 = .ok (.lmul, 1) := by decide +kernel
theorem dX6_digestOfEdits_79 : decode cX6_digestOfEdits 79 = .ok (.aload_n 0, 1) := by decide +kernel
theorem dX6_digestOfEdits_80 : decode cX6_digestOfEdits 80 = .ok (.iload_n 3, 1) := by decide +kernel
theorem dX6_digestOfEdits_81 : decode cX6_digestOfEdits 81 = .ok (.iload 6, 2) := by decide +kernel
theorem dX6_digestOfEdits_83 : decode cX6_digestOfEdits 83 = .ok (.iconst 1, 1) := by decide +kernel
theorem dX6_digestOfEdits_84 : decode cX6_digestOfEdits 84 = .ok (.invokevirtual 332, 3) := by decide +kernel
theorem dX6_digestOfEdits_87 : decode cX6_digestOfEdits 87 = .ok (.i2l, 1) := by decide +kernel
theorem dX6_digestOfEdits_88 : decode cX6_digestOfEdits 88 = .ok (.ladd, 1) := by decide +kernel
theorem dX6_digestOfEdits_89 : decode cX6_digestOfEdits 89 = .ok (.lstore 4, 2) := by decide +kernel
theorem dX6_digestOfEdits_91 : decode cX6_digestOfEdits 91 = .ok (.iinc 6 1, 3) := by decide +kernel
theorem dX6_digestOfEdits_94 : decode cX6_digestOfEdits 94 = .ok (.goto (-88), 3) := by decide +kernel
theorem dX6_digestOfEdits_97 : decode cX6_digestOfEdits 97 = .ok (.lload 4, 2) := by decide +kernel
theorem dX6_digestOfEdits_99 : decode cX6_digestOfEdits 99 = .ok (.lreturn, 1) := by decide +kernel
theorem dX6_digestOfList_0 : decode cX6_digestOfList 0 = .ok (.lload_n 1, 1) := by decide +kernel
theorem dX6_digestOfList_1 : decode cX6_digestOfList 1 = .ok (.lstore 4, 2) := by decide +kernel
theorem dX6_digestOfList_3 : decode cX6_digestOfList 3 = .ok (.iconst 0, 1) := by decide +kernel
theorem dX6_digestOfList_4 : decode cX6_digestOfList 4 = .ok (.istore 6, 2) := by decide +kernel
theorem dX6_digestOfList_6 : decode cX6_digestOfList 6 = .ok (.iload 6, 2) := by decide +kernel
theorem dX6_digestOfList_8 : decode cX6_digestOfList 8 = .ok (.bipush 8, 2) := by decide +kernel
theorem dX6_digestOfList_10 : decode cX6_digestOfList 10 = .ok (.if_icmp .ge 43, 3) := by decide +kernel
theorem dX6_digestOfList_13 : decode cX6_digestOfList 13 = .ok (.iconst 0, 1) := by decide +kernel
theorem dX6_digestOfList_14 : decode cX6_digestOfList 14 = .ok (.istore 7, 2) := by decide +kernel
theorem dX6_digestOfList_16 : decode cX6_digestOfList 16 = .ok (.iload 7, 2) := by decide +kernel
theorem dX6_digestOfList_18 : decode cX6_digestOfList 18 = .ok (.iconst 4, 1) := by decide +kernel
theorem dX6_digestOfList_19 : decode cX6_digestOfList 19 = .ok (.if_icmp .gt 28, 3) := by decide +kernel
theorem dX6_digestOfList_22 : decode cX6_digestOfList 22 = .ok (.ldc2_w 302, 3) := by decide +kernel
theorem dX6_digestOfList_25 : decode cX6_digestOfList 25 = .ok (.lload 4, 2) := by decide +kernel
theorem dX6_digestOfList_27 : decode cX6_digestOfList 27 = .ok (.lmul, 1) := by decide +kernel
theorem dX6_digestOfList_28 : decode cX6_digestOfList 28 = .ok (.aload_n 0, 1) := by decide +kernel
theorem dX6_digestOfList_29 : decode cX6_digestOfList 29 = .ok (.iload_n 3, 1) := by decide +kernel
theorem dX6_digestOfList_30 : decode cX6_digestOfList 30 = .ok (.iload 6, 2) := by decide +kernel
theorem dX6_digestOfList_32 : decode cX6_digestOfList 32 = .ok (.iload 7, 2) := by decide +kernel
theorem dX6_digestOfList_34 : decode cX6_digestOfList 34 = .ok (.invokevirtual 335, 3) := by decide +kernel
theorem dX6_digestOfList_37 : decode cX6_digestOfList 37 = .ok (.i2l, 1) := by decide +kernel
theorem dX6_digestOfList_38 : decode cX6_digestOfList 38 = .ok (.ladd, 1) := by decide +kernel
theorem dX6_digestOfList_39 : decode cX6_digestOfList 39 = .ok (.lstore 4, 2) := by decide +kernel
theorem dX6_digestOfList_41 : decode cX6_digestOfList 41 = .ok (.iinc 7 1, 3) := by decide +kernel
theorem dX6_digestOfList_44 : decode cX6_digestOfList 44 = .ok (.goto (-28), 3) := by decide +kernel
theorem dX6_digestOfList_47 : decode cX6_digestOfList 47 = .ok (.iinc 6 1, 3) := by decide +kernel
theorem dX6_digestOfList_50 : decode cX6_digestOfList 50 = .ok (.goto (-44), 3) := by decide +kernel
theorem dX6_digestOfList_53 : decode cX6_digestOfList 53 = .ok (.ldc2_w 302, 3) := by decide +kernel
theorem dX6_digestOfList_56 : decode cX6_digestOfList 56 = .ok (.lload 4, 2) := by decide +kernel
theorem dX6_digestOfList_58 : decode cX6_digestOfList 58 = .ok (.lmul, 1) := by decide +kernel
theorem dX6_digestOfList_59 : decode cX6_digestOfList 59 = .ok (.aload_n 0, 1) := by decide +kernel
theorem dX6_digestOfList_60 : decode cX6_digestOfList 60 = .ok (.iload_n 3, 1) := by decide +kernel
theorem dX6_digestOfList_61 : decode cX6_digestOfList 61 = .ok (.invokevirtual 338, 3) := by decide +kernel
theorem dX6_digestOfList_64 : decode cX6_digestOfList 64 = .ok (.i2l, 1) := by decide +kernel
theorem dX6_digestOfList_65 : decode cX6_digestOfList 65 = .ok (.ladd, 1) := by decide +kernel
theorem dX6_digestOfList_66 : decode cX6_digestOfList 66 = .ok (.lstore 4, 2) := by decide +kernel
theorem dX6_digestOfList_68 : decode cX6_digestOfList 68 = .ok (.iconst 0, 1) := by decide +kernel
theorem dX6_digestOfList_69 : decode cX6_digestOfList 69 = .ok (.istore 6, 2) := by decide +kernel
theorem dX6_digestOfList_71 : decode cX6_digestOfList 71 = .ok (.iload 6, 2) := by decide +kernel
theorem dX6_digestOfList_73 : decode cX6_digestOfList 73 = .ok (.iconst 2, 1) := by decide +kernel
theorem dX6_digestOfList_74 : decode cX6_digestOfList 74 = .ok (.if_icmp .gt 26, 3) := by decide +kernel
theorem dX6_digestOfList_77 : decode cX6_digestOfList 77 = .ok (.ldc2_w 302, 3) := by decide +kernel
theorem dX6_digestOfList_80 : decode cX6_digestOfList 80 = .ok (.lload 4, 2) := by decide +kernel
theorem dX6_digestOfList_82 : decode cX6_digestOfList 82 = .ok (.lmul, 1) := by decide +kernel
theorem dX6_digestOfList_83 : decode cX6_digestOfList 83 = .ok (.aload_n 0, 1) := by decide +kernel
theorem dX6_digestOfList_84 : decode cX6_digestOfList 84 = .ok (.iload_n 3, 1) := by decide +kernel
theorem dX6_digestOfList_85 : decode cX6_digestOfList 85 = .ok (.iload 6, 2) := by decide +kernel
theorem dX6_digestOfList_87 : decode cX6_digestOfList 87 = .ok (.invokevirtual 341, 3) := by decide +kernel
theorem dX6_digestOfList_90 : decode cX6_digestOfList 90 = .ok (.i2l, 1) := by decide +kernel
theorem dX6_digestOfList_91 : decode cX6_digestOfList 91 = .ok (.ladd, 1) := by decide +kernel
theorem dX6_digestOfList_92 : decode cX6_digestOfList 92 = .ok (.lstore 4, 2) := by decide +kernel
theorem dX6_digestOfList_94 : decode cX6_digestOfList 94 = .ok (.iinc 6 1, 3) := by decide +kernel
theorem dX6_digestOfList_97 : decode cX6_digestOfList 97 = .ok (.goto (-26), 3) := by decide +kernel
theorem dX6_digestOfList_100 : decode cX6_digestOfList 100 = .ok (.iconst 0, 1) := by decide +kernel
theorem dX6_digestOfList_101 : decode cX6_digestOfList 101 = .ok (.istore 6, 2) := by decide +kernel
theorem dX6_digestOfList_103 : decode cX6_digestOfList 103 = .ok (.iload 6, 2) := by decide +kernel
theorem dX6_digestOfList_105 : decode cX6_digestOfList 105 = .ok (.iconst 3, 1) := by decide +kernel
theorem dX6_digestOfList_106 : decode cX6_digestOfList 106 = .ok (.if_icmp .gt 28, 3) := by decide +kernel
theorem dX6_digestOfList_109 : decode cX6_digestOfList 109 = .ok (.ldc2_w 302, 3) := by decide +kernel
theorem dX6_digestOfList_112 : decode cX6_digestOfList 112 = .ok (.lload 4, 2) := by decide +kernel
theorem dX6_digestOfList_114 : decode cX6_digestOfList 114 = .ok (.lmul, 1) := by decide +kernel
theorem dX6_digestOfList_115 : decode cX6_digestOfList 115 = .ok (.aload_n 0, 1) := by decide +kernel
theorem dX6_digestOfList_116 : decode cX6_digestOfList 116 = .ok (.iload_n 3, 1) := by decide +kernel
theorem dX6_digestOfList_117 : decode cX6_digestOfList 117 = .ok (.bipush 7, 2) := by decide +kernel
theorem dX6_digestOfList_119 : decode cX6_digestOfList 119 = .ok (.iload 6, 2) := by decide +kernel
theorem dX6_digestOfList_121 : decode cX6_digestOfList 121 = .ok (.invokevirtual 344, 3) := by decide +kernel
theorem dX6_digestOfList_124 : decode cX6_digestOfList 124 = .ok (.i2l, 1) := by decide +kernel
theorem dX6_digestOfList_125 : decode cX6_digestOfList 125 = .ok (.ladd, 1) := by decide +kernel
theorem dX6_digestOfList_126 : decode cX6_digestOfList 126 = .ok (.lstore 4, 2) := by decide +kernel
theorem dX6_digestOfList_128 : decode cX6_digestOfList 128 = .ok (.iinc 6 1, 3) := by decide +kernel
theorem dX6_digestOfList_131 : decode cX6_digestOfList 131 = .ok (.goto (-28), 3) := by decide +kernel
theorem dX6_digestOfList_134 : decode cX6_digestOfList 134 = .ok (.ldc2_w 302, 3) := by decide +kernel
theorem dX6_digestOfList_137 : decode cX6_digestOfList 137 = .ok (.lload 4, 2) := by decide +kernel
theorem dX6_digestOfList_139 : decode cX6_digestOfList 139 = .ok (.lmul, 1) := by decide +kernel
theorem dX6_digestOfList_140 : decode cX6_digestOfList 140 = .ok (.aload_n 0, 1) := by decide +kernel
theorem dX6_digestOfList_141 : decode cX6_digestOfList 141 = .ok (.iload_n 3, 1) := by decide +kernel
theorem dX6_digestOfList_142 : decode cX6_digestOfList 142 = .ok (.iconst 1, 1) := by decide +kernel
theorem dX6_digestOfList_143 : decode cX6_digestOfList 143 = .ok (.bipush 100, 2) := by decide +kernel
theorem dX6_digestOfList_145 : decode cX6_digestOfList 145 = .ok (.iconst 0, 1) := by decide +kernel
theorem dX6_digestOfList_146 : decode cX6_digestOfList 146 = .ok (.invokevirtual 347, 3) := by decide +kernel
theorem dX6_digestOfList_149 : decode cX6_digestOfList 149 = .ok (.i2l, 1) := by decide +kernel
theorem dX6_digestOfList_150 : decode cX6_digestOfList 150 = .ok (.ladd, 1) := by decide +kernel
theorem dX6_digestOfList_151 : decode cX6_digestOfList 151 = .ok (.lstore 4, 2) := by decide +kernel
theorem dX6_digestOfList_153 : decode cX6_digestOfList 153 = .ok (.ldc2_w 302, 3) := by decide +kernel
theorem dX6_digestOfList_156 : decode cX6_digestOfList 156 = .ok (.lload 4, 2) := by decide +kernel
theorem dX6_digestOfList_158 : decode cX6_digestOfList 158 = .ok (.lmul, 1) := by decide +kernel
theorem dX6_digestOfList_159 : decode cX6_digestOfList 159 = .ok (.aload_n 0, 1) := by decide +kernel
theorem dX6_digestOfList_160 : decode cX6_digestOfList 160 = .ok (.iload_n 3, 1) := by decide +kernel
theorem dX6_digestOfList_161 : decode cX6_digestOfList 161 = .ok (.iconst 1, 1) := by decide +kernel
theorem dX6_digestOfList_162 : decode cX6_digestOfList 162 = .ok (.bipush 100, 2) := by decide +kernel
theorem dX6_digestOfList_164 : decode cX6_digestOfList 164 = .ok (.iconst 1, 1) := by decide +kernel
theorem dX6_digestOfList_165 : decode cX6_digestOfList 165 = .ok (.invokevirtual 347, 3) := by decide +kernel
theorem dX6_digestOfList_168 : decode cX6_digestOfList 168 = .ok (.i2l, 1) := by decide +kernel
theorem dX6_digestOfList_169 : decode cX6_digestOfList 169 = .ok (.ladd, 1) := by decide +kernel
theorem dX6_digestOfList_170 : decode cX6_digestOfList 170 = .ok (.lreturn, 1) := by decide +kernel
theorem dX6_digestOfTold_0 : decode cX6_digestOfTold 0 = .ok (.lload_n 1, 1) := by decide +kernel
theorem dX6_digestOfTold_1 : decode cX6_digestOfTold 1 = .ok (.lstore 4, 2) := by decide +kernel
theorem dX6_digestOfTold_3 : decode cX6_digestOfTold 3 = .ok (.iconst 0, 1) := by decide +kernel
theorem dX6_digestOfTold_4 : decode cX6_digestOfTold 4 = .ok (.istore 6, 2) := by decide +kernel
theorem dX6_digestOfTold_6 : decode cX6_digestOfTold 6 = .ok (.iload 6, 2) := by decide +kernel
theorem dX6_digestOfTold_8 : decode cX6_digestOfTold 8 = .ok (.iconst 3, 1) := by decide +kernel
theorem dX6_digestOfTold_9 : decode cX6_digestOfTold 9 = .ok (.if_icmp .gt 26, 3) := by decide +kernel
theorem dX6_digestOfTold_12 : decode cX6_digestOfTold 12 = .ok (.ldc2_w 302, 3) := by decide +kernel
theorem dX6_digestOfTold_15 : decode cX6_digestOfTold 15 = .ok (.lload 4, 2) := by decide +kernel
theorem dX6_digestOfTold_17 : decode cX6_digestOfTold 17 = .ok (.lmul, 1) := by decide +kernel
theorem dX6_digestOfTold_18 : decode cX6_digestOfTold 18 = .ok (.aload_n 0, 1) := by decide +kernel
theorem dX6_digestOfTold_19 : decode cX6_digestOfTold 19 = .ok (.iload_n 3, 1) := by decide +kernel
theorem dX6_digestOfTold_20 : decode cX6_digestOfTold 20 = .ok (.iload 6, 2) := by decide +kernel
theorem dX6_digestOfTold_22 : decode cX6_digestOfTold 22 = .ok (.invokevirtual 350, 3) := by decide +kernel
theorem dX6_digestOfTold_25 : decode cX6_digestOfTold 25 = .ok (.i2l, 1) := by decide +kernel
theorem dX6_digestOfTold_26 : decode cX6_digestOfTold 26 = .ok (.ladd, 1) := by decide +kernel
theorem dX6_digestOfTold_27 : decode cX6_digestOfTold 27 = .ok (.lstore 4, 2) := by decide +kernel
theorem dX6_digestOfTold_29 : decode cX6_digestOfTold 29 = .ok (.iinc 6 1, 3) := by decide +kernel
theorem dX6_digestOfTold_32 : decode cX6_digestOfTold 32 = .ok (.goto (-26), 3) := by decide +kernel
theorem dX6_digestOfTold_35 : decode cX6_digestOfTold 35 = .ok (.lload 4, 2) := by decide +kernel
theorem dX6_digestOfTold_37 : decode cX6_digestOfTold 37 = .ok (.lreturn, 1) := by decide +kernel
