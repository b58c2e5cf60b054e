theorem dX0_rate_0 : decode cX0_rate 0 = .ok (.iload_n 0, 1) := by decide +kernel
theorem dX0_rate_1 : decode cX0_rate 1 = .ok (.iconst 2, 1) := by decide +kernel
theorem dX0_rate_2 : decode cX0_rate 2 = .ok (.if_icmp .ne 8, 3) := by decide +kernel
theorem dX0_rate_5 : decode cX0_rate 5 = .ok (.bipush 25, 2) := by decide +kernel
theorem dX0_rate_7 : decode cX0_rate 7 = .ok (.goto 5, 3) := by decide +kernel
theorem dX0_rate_10 : decode cX0_rate 10 = .ok (.bipush 30, 2) := by decide +kernel
theorem dX0_rate_12 : decode cX0_rate 12 = .ok (.ireturn, 1) := by decide +kernel
theorem dX0_part_0 : decode cX0_part 0 = .ok (.iload_n 1, 1) := by decide +kernel
theorem dX0_part_1 : decode cX0_part 1 = .ok (.invokestatic 9, 3) := by decide +kernel
theorem dX0_part_4 : decode cX0_part 4 = .ok (.istore_n 3, 1) := by decide +kernel
theorem dX0_part_5 : decode cX0_part 5 = .ok (.iload_n 1, 1) := by decide +kernel
theorem dX0_part_6 : decode cX0_part 6 = .ok (.ifCond .ne 12, 3) := by decide +kernel
theorem dX0_part_9 : decode cX0_part 9 = .ok (.iload_n 0, 1) := by decide +kernel
theorem dX0_part_10 : decode cX0_part 10 = .ok (.iload_n 0, 1) := by decide +kernel
theorem dX0_part_11 : decode cX0_part 11 = .ok (.invokestatic 13, 3) := by decide +kernel
theorem dX0_part_14 : decode cX0_part 14 = .ok (.iadd, 1) := by decide +kernel
theorem dX0_part_15 : decode cX0_part 15 = .ok (.goto 4, 3) := by decide +kernel
theorem dX0_part_18 : decode cX0_part 18 = .ok (.iload_n 0, 1) := by decide +kernel
theorem dX0_part_19 : decode cX0_part 19 = .ok (.istore 4, 2) := by decide +kernel
theorem dX0_part_21 : decode cX0_part 21 = .ok (.iload_n 3, 1) := by decide +kernel
theorem dX0_part_22 : decode cX0_part 22 = .ok (.ifCond .ne 7, 3) := by decide +kernel
theorem dX0_part_25 : decode cX0_part 25 = .ok (.iconst 0, 1) := by decide +kernel
theorem dX0_part_26 : decode cX0_part 26 = .ok (.goto 7, 3) := by decide +kernel
theorem dX0_part_29 : decode cX0_part 29 = .ok (.iload 4, 2) := by decide +kernel
theorem dX0_part_31 : decode cX0_part 31 = .ok (.iload_n 3, 1) := by decide +kernel
theorem dX0_part_32 : decode cX0_part 32 = .ok (.idiv, 1) := by decide +kernel
theorem dX0_part_33 : decode cX0_part 33 = .ok (.istore 5, 2) := by decide +kernel
theorem dX0_part_35 : decode cX0_part 35 = .ok (.iload_n 2, 1) := by decide +kernel
theorem dX0_part_36 : decode cX0_part 36 = .ok (.tableswitch 50 0 2 #[28, 35, 44], 28) := by decide +kernel
theorem dX0_part_64 : decode cX0_part 64 = .ok (.iload 5, 2) := by decide +kernel
theorem dX0_part_66 : decode cX0_part 66 = .ok (.sipush 3600, 3) := by decide +kernel
theorem dX0_part_69 : decode cX0_part 69 = .ok (.idiv, 1) := by decide +kernel
theorem dX0_part_70 : decode cX0_part 70 = .ok (.ireturn, 1) := by decide +kernel
theorem dX0_part_71 : decode cX0_part 71 = .ok (.iload 5, 2) := by decide +kernel
theorem dX0_part_73 : decode cX0_part 73 = .ok (.bipush 60, 2) := by decide +kernel
theorem dX0_part_75 : decode cX0_part 75 = .ok (.idiv, 1) := by decide +kernel
theorem dX0_part_76 : decode cX0_part 76 = .ok (.bipush 60, 2) := by decide +kernel
theorem dX0_part_78 : decode cX0_part 78 = .ok (.irem, 1) := by decide +kernel
theorem dX0_part_79 : decode cX0_part 79 = .ok (.ireturn, 1) := by decide +kernel
theorem dX0_part_80 : decode cX0_part 80 = .ok (.iload 5, 2) := by decide +kernel
theorem dX0_part_82 : decode cX0_part 82 = .ok (.bipush 60, 2) := by decide +kernel
theorem dX0_part_84 : decode cX0_part 84 = .ok (.irem, 1) := by decide +kernel
theorem dX0_part_85 : decode cX0_part 85 = .ok (.ireturn, 1) := by decide +kernel
theorem dX0_part_86 : decode cX0_part 86 = .ok (.iload 4, 2) := by decide +kernel
theorem dX0_part_88 : decode cX0_part 88 = .ok (.iload 5, 2) := by decide +kernel
theorem dX0_part_90 : decode cX0_part 90 = .ok (.iload_n 3, 1) := by decide +kernel
theorem dX0_part_91 : decode cX0_part 91 = .ok (.imul, 1) := by decide +kernel
theorem dX0_part_92 : decode cX0_part 92 = .ok (.isub, 1) := by decide +kernel
theorem dX0_part_93 : decode cX0_part 93 = .ok (.ireturn, 1) := by decide +kernel
theorem dX0_leftOutBefore_0 : decode cX0_leftOutBefore 0 = .ok (.iload_n 0, 1) := by decide +kernel
theorem dX0_leftOutBefore_1 : decode cX0_leftOutBefore 1 = .ok (.sipush 17982, 3) := by decide +kernel
theorem dX0_leftOutBefore_4 : decode cX0_leftOutBefore 4 = .ok (.irem, 1) := by decide +kernel
theorem dX0_leftOutBefore_5 : decode cX0_leftOutBefore 5 = .ok (.istore_n 1, 1) := by decide +kernel
theorem dX0_leftOutBefore_6 : decode cX0_leftOutBefore 6 = .ok (.iload_n 1, 1) := by decide +kernel
theorem dX0_leftOutBefore_7 : decode cX0_leftOutBefore 7 = .ok (.sipush 1800, 3) := by decide +kernel
theorem dX0_leftOutBefore_10 : decode cX0_leftOutBefore 10 = .ok (.if_icmp .ge 7, 3) := by decide +kernel
theorem dX0_leftOutBefore_13 : decode cX0_leftOutBefore 13 = .ok (.iconst 0, 1) := by decide +kernel
theorem dX0_leftOutBefore_14 : decode cX0_leftOutBefore 14 = .ok (.goto 14, 3) := by decide +kernel
theorem dX0_leftOutBefore_17 : decode cX0_leftOutBefore 17 = .ok (.iconst 1, 1) := by decide +kernel
theorem dX0_leftOutBefore_18 : decode cX0_leftOutBefore 18 = .ok (.iload_n 1, 1) := by decide +kernel
theorem dX0_leftOutBefore_19 : decode cX0_leftOutBefore 19 = .ok (.sipush 1800, 3) := by decide +kernel
theorem dX0_leftOutBefore_22 : decode cX0_leftOutBefore 22 = .ok (.isub, 1) := by decide +kernel
theorem dX0_leftOutBefore_23 : decode cX0_leftOutBefore 23 = .ok (.sipush 1798, 3) := by decide +kernel
theorem dX0_leftOutBefore_26 : decode cX0_leftOutBefore 26 = .ok (.idiv, 1) := by decide +kernel
theorem dX0_leftOutBefore_27 : decode cX0_leftOutBefore 27 = .ok (.iadd, 1) := by decide +kernel
theorem dX0_leftOutBefore_28 : decode cX0_leftOutBefore 28 = .ok (.istore_n 2, 1) := by decide +kernel
theorem dX0_leftOutBefore_29 : decode cX0_leftOutBefore 29 = .ok (.iconst 2, 1) := by decide +kernel
theorem dX0_leftOutBefore_30 : decode cX0_leftOutBefore 30 = .ok (.iload_n 0, 1) := by decide +kernel
theorem dX0_leftOutBefore_31 : decode cX0_leftOutBefore 31 = .ok (.sipush 17982, 3) := by decide +kernel
theorem dX0_leftOutBefore_34 : decode cX0_leftOutBefore 34 = .ok (.idiv, 1) := by decide +kernel
theorem dX0_leftOutBefore_35 : decode cX0_leftOutBefore 35 = .ok (.bipush 9, 2) := by decide +kernel
theorem dX0_leftOutBefore_37 : decode cX0_leftOutBefore 37 = .ok (.imul, 1) := by decide +kernel
theorem dX0_leftOutBefore_38 : decode cX0_leftOutBefore 38 = .ok (.iload_n 2, 1) := by decide +kernel
theorem dX0_leftOutBefore_39 : decode cX0_leftOutBefore 39 = .ok (.iadd, 1) := by decide +kernel
theorem dX0_leftOutBefore_40 : decode cX0_leftOutBefore 40 = .ok (.imul, 1) := by decide +kernel
theorem dX0_leftOutBefore_41 : decode cX0_leftOutBefore 41 = .ok (.ireturn, 1) := by decide +kernel
theorem dX0_isLeftOut_0 : decode cX0_isLeftOut 0 = .ok (.iload_n 0, 1) := by decide +kernel
theorem dX0_isLeftOut_1 : decode cX0_isLeftOut 1 = .ok (.bipush 10, 2) := by decide +kernel
theorem dX0_isLeftOut_3 : decode cX0_isLeftOut 3 = .ok (.irem, 1) := by decide +kernel
theorem dX0_isLeftOut_4 : decode cX0_isLeftOut 4 = .ok (.ifCond .eq 16, 3) := by decide +kernel
theorem dX0_isLeftOut_7 : decode cX0_isLeftOut 7 = .ok (.iload_n 1, 1) := by decide +kernel
theorem dX0_isLeftOut_8 : decode cX0_isLeftOut 8 = .ok (.ifCond .ne 12, 3) := by decide +kernel
theorem dX0_isLeftOut_11 : decode cX0_isLeftOut 11 = .ok (.iload_n 2, 1) := by decide +kernel
theorem dX0_isLeftOut_12 : decode cX0_isLeftOut 12 = .ok (.iconst 2, 1) := by decide +kernel
theorem dX0_isLeftOut_13 : decode cX0_isLeftOut 13 = .ok (.if_icmp .ge 7, 3) := by decide +kernel
theorem dX0_isLeftOut_16 : decode cX0_isLeftOut 16 = .ok (.iconst 1, 1) := by decide +kernel
theorem dX0_isLeftOut_17 : decode cX0_isLeftOut 17 = .ok (.goto 4, 3) := by decide +kernel
theorem dX0_isLeftOut_20 : decode cX0_isLeftOut 20 = .ok (.iconst 0, 1) := by decide +kernel
theorem dX0_isLeftOut_21 : decode cX0_isLeftOut 21 = .ok (.ireturn, 1) := by decide +kernel
theorem dX0_frame_0 : decode cX0_frame 0 = .ok (.iload_n 0, 1) := by decide +kernel
theorem dX0_frame_1 : decode cX0_frame 1 = .ok (.bipush 60, 2) := by decide +kernel
theorem dX0_frame_3 : decode cX0_frame 3 = .ok (.imul, 1) := by decide +kernel
theorem dX0_frame_4 : decode cX0_frame 4 = .ok (.iload_n 1, 1) := by decide +kernel
theorem dX0_frame_5 : decode cX0_frame 5 = .ok (.iadd, 1) := by decide +kernel
theorem dX0_frame_6 : decode cX0_frame 6 = .ok (.iload_n 3, 1) := by decide +kernel
theorem dX0_frame_7 : decode cX0_frame 7 = .ok (.invokestatic 9, 3) := by decide +kernel
theorem dX0_frame_10 : decode cX0_frame 10 = .ok (.imul, 1) := by decide +kernel
theorem dX0_frame_11 : decode cX0_frame 11 = .ok (.iload_n 2, 1) := by decide +kernel
theorem dX0_frame_12 : decode cX0_frame 12 = .ok (.iadd, 1) := by decide +kernel
theorem dX0_frame_13 : decode cX0_frame 13 = .ok (.istore 4, 2) := by decide +kernel
theorem dX0_frame_15 : decode cX0_frame 15 = .ok (.iload_n 3, 1) := by decide +kernel
theorem dX0_frame_16 : decode cX0_frame 16 = .ok (.ifCond .ne 17, 3) := by decide +kernel
theorem dX0_frame_19 : decode cX0_frame 19 = .ok (.iload 4, 2) := by decide +kernel
theorem dX0_frame_21 : decode cX0_frame 21 = .ok (.iconst 2, 1) := by decide +kernel
theorem dX0_frame_22 : decode cX0_frame 22 = .ok (.iload_n 0, 1) := by decide +kernel
theorem dX0_frame_23 : decode cX0_frame 23 = .ok (.iload_n 0, 1) := by decide +kernel
theorem dX0_frame_24 : decode cX0_frame 24 = .ok (.bipush 10, 2) := by decide +kernel
theorem dX0_frame_26 : decode cX0_frame 26 = .ok (.idiv, 1) := by decide +kernel
theorem dX0_frame_27 : decode cX0_frame 27 = .ok (.isub, 1) := by decide +kernel
theorem dX0_frame_28 : decode cX0_frame 28 = .ok (.imul, 1) := by decide +kernel
theorem dX0_frame_29 : decode cX0_frame 29 = .ok (.isub, 1) := by decide +kernel
theorem dX0_frame_30 : decode cX0_frame 30 = .ok (.goto 5, 3) := by decide +kernel
theorem dX0_frame_33 : decode cX0_frame 33 = .ok (.iload 4, 2) := by decide +kernel
theorem dX0_frame_35 : decode cX0_frame 35 = .ok (.ireturn, 1) := by decide +kernel
theorem dX1_init_0 : decode cX1_init 0 = .ok (.aload_n 0, 1) := by decide +kernel
theorem dX1_init_1 : decode cX1_init 1 = .ok (.invokespecial 3, 3) := by decide +kernel
theorem dX1_init_4 : decode cX1_init 4 = .ok (.aload_n 0, 1) := by decide +kernel
theorem dX1_init_5 : decode cX1_init 5 = .ok (.bipush 8, 2) := by decide +kernel
theorem dX1_init_7 : decode cX1_init 7 = .ok (.anewarray 9, 3) := by decide +kernel
theorem dX1_init_10 : decode cX1_init 10 = .ok (.putfield 11, 3) := by decide +kernel
theorem dX1_init_13 : decode cX1_init 13 = .ok (.iconst 0, 1) := by decide +kernel
theorem dX1_init_14 : decode cX1_init 14 = .ok (.istore_n 1, 1) := by decide +kernel
theorem dX1_init_15 : decode cX1_init 15 = .ok (.iload_n 1, 1) := by decide +kernel
theorem dX1_init_16 : decode cX1_init 16 = .ok (.bipush 8, 2) := by decide +kernel
theorem dX1_init_18 : decode cX1_init 18 = .ok (.if_icmp .ge 22, 3) := by decide +kernel
theorem dX1_init_21 : decode cX1_init 21 = .ok (.aload_n 0, 1) := by decide +kernel
theorem dX1_init_22 : decode cX1_init 22 = .ok (.getfield 11, 3) := by decide +kernel
theorem dX1_init_25 : decode cX1_init 25 = .ok (.iload_n 1, 1) := by decide +kernel
theorem dX1_init_26 : decode cX1_init 26 = .ok (.new 9, 3) := by decide +kernel
theorem dX1_init_29 : decode cX1_init 29 = .ok (.dup, 1) := by decide +kernel
theorem dX1_init_30 : decode cX1_init 30 = .ok (.invokespecial 17, 3) := by decide +kernel
theorem dX1_init_33 : decode cX1_init 33 = .ok (.aastore, 1) := by decide +kernel
theorem dX1_init_34 : decode cX1_init 34 = .ok (.iinc 1 1, 3) := by decide +kernel
theorem dX1_init_37 : decode cX1_init 37 = .ok (.goto (-22), 3) := by decide +kernel
theorem dX1_init_40 : decode cX1_init 40 = .ok (.return_, 1) := by decide +kernel
theorem dX1_isFull_0 : decode cX1_isFull 0 = .ok (.aload_n 0, 1) := by decide +kernel
theorem dX1_isFull_1 : decode cX1_isFull 1 = .ok (.getfield 18, 3) := by decide +kernel
theorem dX1_isFull_4 : decode cX1_isFull 4 = .ok (.bipush 8, 2) := by decide +kernel
theorem dX1_isFull_6 : decode cX1_isFull 6 = .ok (.if_icmp .lt 7, 3) := by decide +kernel
theorem dX1_isFull_9 : decode cX1_isFull 9 = .ok (.iconst 1, 1) := by decide +kernel
theorem dX1_isFull_10 : decode cX1_isFull 10 = .ok (.goto 4, 3) := by decide +kernel
theorem dX1_isFull_13 : decode cX1_isFull 13 = .ok (.iconst 0, 1) := by decide +kernel
theorem dX1_isFull_14 : decode cX1_isFull 14 = .ok (.ireturn, 1) := by decide +kernel
theorem dX1_append_0 : decode cX1_append 0 = .ok (.aload_n 0, 1) := by decide +kernel
theorem dX1_append_1 : decode cX1_append 1 = .ok (.invokevirtual 22, 3) := by decide +kernel
theorem dX1_append_4 : decode cX1_append 4 = .ok (.ifCond .eq 4, 3) := by decide +kernel
theorem dX1_append_7 : decode cX1_append 7 = .ok (.return_, 1) := by decide +kernel
theorem dX1_append_8 : decode cX1_append 8 = .ok (.aload_n 0, 1) := by decide +kernel
theorem dX1_append_9 : decode cX1_append 9 = .ok (.getfield 11, 3) := by decide +kernel
theorem dX1_append_12 : decode cX1_append 12 = .ok (.aload_n 0, 1) := by decide +kernel
theorem dX1_append_13 : decode cX1_append 13 = .ok (.getfield 18, 3) := by decide +kernel
theorem dX1_append_16 : decode cX1_append 16 = .ok (.aaload, 1) := by decide +kernel
theorem dX1_append_17 : decode cX1_append 17 = .ok (.astore 6, 2) := by decide +kernel
theorem dX1_append_19 : decode cX1_append 19 = .ok (.aload 6, 2) := by decide +kernel
theorem dX1_append_21 : decode cX1_append 21 = .ok (.iload_n 1, 1) := by decide +kernel
theorem dX1_append_22 : decode cX1_append 22 = .ok (.putfield 26, 3) := by decide +kernel
theorem dX1_append_25 : decode cX1_append 25 = .ok (.aload 6, 2) := by decide +kernel
theorem dX1_append_27 : decode cX1_append 27 = .ok (.iload_n 2, 1) := by decide +kernel
theorem dX1_append_28 : decode cX1_append 28 = .ok (.putfield 29, 3) := by decide +kernel
theorem dX1_append_31 : decode cX1_append 31 = .ok (.aload 6, 2) := by decide +kernel
theorem dX1_append_33 : decode cX1_append 33 = .ok (.iload_n 3, 1) := by decide +kernel
theorem dX1_append_34 : decode cX1_append 34 = .ok (.putfield 32, 3) := by decide +kernel
theorem dX1_append_37 : decode cX1_append 37 = .ok (.aload 6, 2) := by decide +kernel
theorem dX1_append_39 : decode cX1_append 39 = .ok (.iload 4, 2) := by decide +kernel
theorem dX1_append_41 : decode cX1_append 41 = .ok (.putfield 35, 3) := by decide +kernel
theorem dX1_append_44 : decode cX1_append 44 = .ok (.aload 6, 2) := by decide +kernel
theorem dX1_append_46 : decode cX1_append 46 = .ok (.iload 5, 2) := by decide +kernel
theorem dX1_append_48 : decode cX1_append 48 = .ok (.putfield 38, 3) := by decide +kernel
theorem dX1_append_51 : decode cX1_append 51 = .ok (.aload_n 0, 1) := by decide +kernel
theorem dX1_append_52 : decode cX1_append 52 = .ok (.dup, 1) := by decide +kernel
theorem dX1_append_53 : decode cX1_append 53 = .ok (.getfield 18, 3) := by decide +kernel
theorem dX1_append_56 : decode cX1_append 56 = .ok (.iconst 1, 1) := by decide +kernel
theorem dX1_append_57 : decode cX1_append 57 = .ok (.iadd, 1) := by decide +kernel
theorem dX1_append_58 : decode cX1_append 58 = .ok (.putfield 18, 3) := by decide +kernel
theorem dX1_append_61 : decode cX1_append 61 = .ok (.return_, 1) := by decide +kernel
theorem dX1_begin_0 : decode cX1_begin 0 = .ok (.iconst 0, 1) := by decide +kernel
theorem dX1_begin_1 : decode cX1_begin 1 = .ok (.istore_n 2, 1) := by decide +kernel
theorem dX1_begin_2 : decode cX1_begin 2 = .ok (.iconst 0, 1) := by decide +kernel
theorem dX1_begin_3 : decode cX1_begin 3 = .ok (.istore_n 3, 1) := by decide +kernel
theorem dX1_begin_4 : decode cX1_begin 4 = .ok (.iload_n 3, 1) := by decide +kernel
theorem dX1_begin_5 : decode cX1_begin 5 = .ok (.iload_n 1, 1) := by decide +kernel
theorem dX1_begin_6 : decode cX1_begin 6 = .ok (.if_icmp .ge 29, 3) := by decide +kernel
theorem dX1_begin_9 : decode cX1_begin 9 = .ok (.iload_n 3, 1) := by decide +kernel
theorem dX1_begin_10 : decode cX1_begin 10 = .ok (.aload_n 0, 1) := by decide +kernel
theorem dX1_begin_11 : decode cX1_begin 11 = .ok (.getfield 18, 3) := by decide +kernel
theorem dX1_begin_14 : decode cX1_begin 14 = .ok (.if_icmp .ge 21, 3) := by decide +kernel
theorem dX1_begin_17 : decode cX1_begin 17 = .ok (.iload_n 2, 1) := by decide +kernel
theorem dX1_begin_18 : decode cX1_begin 18 = .ok (.aload_n 0, 1) := by decide +kernel
theorem dX1_begin_19 : decode cX1_begin 19 = .ok (.getfield 11, 3) := by decide +kernel
theorem dX1_begin_22 : decode cX1_begin 22 = .ok (.iload_n 3, 1) := by decide +kernel
theorem dX1_begin_23 : decode cX1_begin 23 = .ok (.aaload, 1) := by decide +kernel
theorem dX1_begin_24 : decode cX1_begin 24 = .ok (.getfield 32, 3) := by decide +kernel
theorem dX1_begin_27 : decode cX1_begin 27 = .ok (.iadd, 1) := by decide +kernel
theorem dX1_begin_28 : decode cX1_begin 28 = .ok (.istore_n 2, 1) := by decide +kernel
theorem dX1_begin_29 : decode cX1_begin 29 = .ok (.iinc 3 1, 3) := by decide +kernel
theorem dX1_begin_32 : decode cX1_begin 32 = .ok (.goto (-28), 3) := by decide +kernel
theorem dX1_begin_35 : decode cX1_begin 35 = .ok (.iload_n 2, 1) := by decide +kernel
theorem dX1_begin_36 : decode cX1_begin 36 = .ok (.ireturn, 1) := by decide +kernel
theorem dX1_frames_0 : decode cX1_frames 0 = .ok (.aload_n 0, 1) := by decide +kernel
theorem dX1_frames_1 : decode cX1_frames 1 = .ok (.aload_n 0, 1) := by decide +kernel
theorem dX1_frames_2 : decode cX1_frames 2 = .ok (.getfield 18, 3) := by decide +kernel
theorem dX1_frames_5 : decode cX1_frames 5 = .ok (.invokevirtual 41, 3) := by decide +kernel
theorem dX1_frames_8 : decode cX1_frames 8 = .ok (.ireturn, 1) := by decide +kernel
theorem dX1_holder_0 : decode cX1_holder 0 = .ok (.iconst 0, 1) := by decide +kernel
theorem dX1_holder_1 : decode cX1_holder 1 = .ok (.istore_n 2, 1) := by decide +kernel
theorem dX1_holder_2 : decode cX1_holder 2 = .ok (.iconst 0, 1) := by decide +kernel
theorem dX1_holder_3 : decode cX1_holder 3 = .ok (.istore_n 3, 1) := by decide +kernel
theorem dX1_holder_4 : decode cX1_holder 4 = .ok (.iload_n 3, 1) := by decide +kernel
theorem dX1_holder_5 : decode cX1_holder 5 = .ok (.aload_n 0, 1) := by decide +kernel
theorem dX1_holder_6 : decode cX1_holder 6 = .ok (.getfield 18, 3) := by decide +kernel
theorem dX1_holder_9 : decode cX1_holder 9 = .ok (.if_icmp .ge 28, 3) := by decide +kernel
theorem dX1_holder_12 : decode cX1_holder 12 = .ok (.iload_n 2, 1) := by decide +kernel
theorem dX1_holder_13 : decode cX1_holder 13 = .ok (.aload_n 0, 1) := by decide +kernel
theorem dX1_holder_14 : decode cX1_holder 14 = .ok (.getfield 11, 3) := by decide +kernel
theorem dX1_holder_17 : decode cX1_holder 17 = .ok (.iload_n 3, 1) := by decide +kernel
theorem dX1_holder_18 : decode cX1_holder 18 = .ok (.aaload, 1) := by decide +kernel
theorem dX1_holder_19 : decode cX1_holder 19 = .ok (.getfield 32, 3) := by decide +kernel
theorem dX1_holder_22 : decode cX1_holder 22 = .ok (.iadd, 1) := by decide +kernel
theorem dX1_holder_23 : decode cX1_holder 23 = .ok (.istore_n 2, 1) := by decide +kernel
theorem dX1_holder_24 : decode cX1_holder 24 = .ok (.iload_n 1, 1) := by decide +kernel
theorem dX1_holder_25 : decode cX1_holder 25 = .ok (.iload_n 2, 1) := by decide +kernel
theorem dX1_holder_26 : decode cX1_holder 26 = .ok (.if_icmp .ge 5, 3) := by decide +kernel
theorem dX1_holder_29 : decode cX1_holder 29 = .ok (.iload_n 3, 1) := by decide +kernel
theorem dX1_holder_30 : decode cX1_holder 30 = .ok (.ireturn, 1) := by decide +kernel
theorem dX1_holder_31 : decode cX1_holder 31 = .ok (.iinc 3 1, 3) := by decide +kernel
theorem dX1_holder_34 : decode cX1_holder 34 = .ok (.goto (-30), 3) := by decide +kernel
theorem dX1_holder_37 : decode cX1_holder 37 = .ok (.iconst (-1), 1) := by decide +kernel
theorem dX1_holder_38 : decode cX1_holder 38 = .ok (.ireturn, 1) := by decide +kernel
theorem dX1_times_0 : decode cX1_times 0 = .ok (.iconst 0, 1) := by decide +kernel
theorem dX1_times_1 : decode cX1_times 1 = .ok (.istore_n 3, 1) := by decide +kernel
theorem dX1_times_2 : decode cX1_times 2 = .ok (.iconst 0, 1) := by decide +kernel
theorem dX1_times_3 : decode cX1_times 3 = .ok (.istore 4, 2) := by decide +kernel
theorem dX1_times_5 : decode cX1_times 5 = .ok (.iload 4, 2) := by decide +kernel
theorem dX1_times_7 : decode cX1_times 7 = .ok (.aload_n 0, 1) := by decide +kernel
theorem dX1_times_8 : decode cX1_times 8 = .ok (.getfield 18, 3) := by decide +kernel
theorem dX1_times_11 : decode cX1_times 11 = .ok (.if_icmp .ge 37, 3) := by decide +kernel
theorem dX1_times_14 : decode cX1_times 14 = .ok (.aload_n 0, 1) := by decide +kernel
theorem dX1_times_15 : decode cX1_times 15 = .ok (.getfield 11, 3) := by decide +kernel
theorem dX1_times_18 : decode cX1_times 18 = .ok (.iload 4, 2) := by decide +kernel
theorem dX1_times_20 : decode cX1_times 20 = .ok (.aaload, 1) := by decide +kernel
theorem dX1_times_21 : decode cX1_times 21 = .ok (.getfield 26, 3) := by decide +kernel
theorem dX1_times_24 : decode cX1_times 24 = .ok (.iload_n 1, 1) := by decide +kernel
theorem dX1_times_25 : decode cX1_times 25 = .ok (.if_icmp .ne 17, 3) := by decide +kernel
theorem dX1_times_28 : decode cX1_times 28 = .ok (.iload_n 3, 1) := by decide +kernel
theorem dX1_times_29 : decode cX1_times 29 = .ok (.aload_n 0, 1) := by decide +kernel
theorem dX1_times_30 : decode cX1_times 30 = .ok (.getfield 11, 3) := by decide +kernel
theorem dX1_times_33 : decode cX1_times 33 = .ok (.iload 4, 2) := by decide +kernel
theorem dX1_times_35 : decode cX1_times 35 = .ok (.aaload, 1) := by decide +kernel
theorem dX1_times_36 : decode cX1_times 36 = .ok (.iload_n 2, 1) := by decide +kernel
theorem dX1_times_37 : decode cX1_times 37 = .ok (.invokevirtual 45, 3) := by decide +kernel
theorem dX1_times_40 : decode cX1_times 40 = .ok (.iadd, 1) := by decide +kernel
theorem dX1_times_41 : decode cX1_times 41 = .ok (.istore_n 3, 1) := by decide +kernel
theorem dX1_times_42 : decode cX1_times 42 = .ok (.iinc 4 1, 3) := by decide +kernel
theorem dX1_times_45 : decode cX1_times 45 = .ok (.goto (-40), 3) := by decide +kernel
theorem dX1_times_48 : decode cX1_times 48 = .ok (.iload_n 3, 1) := by decide +kernel
theorem dX1_times_49 : decode cX1_times 49 = .ok (.ireturn, 1) := by decide +kernel
theorem dX1_firstShowing_0 : decode cX1_firstShowing 0 = .ok (.iconst 0, 1) := by decide +kernel
theorem dX1_firstShowing_1 : decode cX1_firstShowing 1 = .ok (.istore_n 3, 1) := by decide +kernel
theorem dX1_firstShowing_2 : decode cX1_firstShowing 2 = .ok (.iload_n 3, 1) := by decide +kernel
theorem dX1_firstShowing_3 : decode cX1_firstShowing 3 = .ok (.aload_n 0, 1) := by decide +kernel
theorem dX1_firstShowing_4 : decode cX1_firstShowing 4 = .ok (.getfield 18, 3) := by decide +kernel
theorem dX1_firstShowing_7 : decode cX1_firstShowing 7 = .ok (.if_icmp .ge 53, 3) := by decide +kernel
theorem dX1_firstShowing_10 : decode cX1_firstShowing 10 = .ok (.aload_n 0, 1) := by decide +kernel
theorem dX1_firstShowing_11 : decode cX1_firstShowing 11 = .ok (.getfield 11, 3) := by decide +kernel
theorem dX1_firstShowing_14 : decode cX1_firstShowing 14 = .ok (.iload_n 3, 1) := by decide +kernel
theorem dX1_firstShowing_15 : decode cX1_firstShowing 15 = .ok (.aaload, 1) := by decide +kernel
theorem dX1_firstShowing_16 : decode cX1_firstShowing 16 = .ok (.getfield 26, 3) := by decide +kernel
theorem dX1_firstShowing_19 : decode cX1_firstShowing 19 = .ok (.iload_n 1, 1) := by decide +kernel
theorem dX1_firstShowing_20 : decode cX1_firstShowing 20 = .ok (.if_icmp .ne 16, 3) := by decide +kernel
theorem dX1_firstShowing_23 : decode cX1_firstShowing 23 = .ok (.aload_n 0, 1) := by decide +kernel
theorem dX1_firstShowing_24 : decode cX1_firstShowing 24 = .ok (.getfield 11, 3) := by decide +kernel
theorem dX1_firstShowing_27 : decode cX1_firstShowing 27 = .ok (.iload_n 3, 1) := by decide +kernel
theorem dX1_firstShowing_28 : decode cX1_firstShowing 28 = .ok (.aaload, 1) := by decide +kernel
theorem dX1_firstShowing_29 : decode cX1_firstShowing 29 = .ok (.iload_n 2, 1) := by decide +kernel
theorem dX1_firstShowing_30 : decode cX1_firstShowing 30 = .ok (.invokevirtual 48, 3) := by decide +kernel
theorem dX1_firstShowing_33 : decode cX1_firstShowing 33 = .ok (.goto 4, 3) := by decide +kernel
theorem dX1_firstShowing_36 : decode cX1_firstShowing 36 = .ok (.iconst (-1), 1) := by decide +kernel
theorem dX1_firstShowing_37 : decode cX1_firstShowing 37 = .ok (.istore 4, 2) := by decide +kernel
theorem dX1_firstShowing_39 : decode cX1_firstShowing 39 = .ok (.iload 4, 2) := by decide +kernel
theorem dX1_firstShowing_41 : decode cX1_firstShowing 41 = .ok (.iconst (-1), 1) := by decide +kernel
theorem dX1_firstShowing_42 : decode cX1_firstShowing 42 = .ok (.if_icmp .eq 12, 3) := by decide +kernel
theorem dX1_firstShowing_45 : decode cX1_firstShowing 45 = .ok (.aload_n 0, 1) := by decide +kernel
theorem dX1_firstShowing_46 : decode cX1_firstShowing 46 = .ok (.iload_n 3, 1) := by decide +kernel
theorem dX1_firstShowing_47 : decode cX1_firstShowing 47 = .ok (.invokevirtual 41, 3) := by decide +kernel
theorem dX1_firstShowing_50 : decode cX1_firstShowing 50 = .ok (.iload 4, 2) := by decide +kernel
theorem dX1_firstShowing_52 : decode cX1_firstShowing 52 = .ok (.iadd, 1) := by decide +kernel
theorem dX1_firstShowing_53 : decode cX1_firstShowing 53 = .ok (.ireturn, 1) := by decide +kernel
theorem dX1_firstShowing_54 : decode cX1_firstShowing 54 = .ok (.iinc 3 1, 3) := by decide +kernel
theorem dX1_firstShowing_57 : decode cX1_firstShowing 57 = .ok (.goto (-55), 3) := by decide +kernel
theorem dX1_firstShowing_60 : decode cX1_firstShowing 60 = .ok (.iconst (-1), 1) := by decide +kernel
theorem dX1_firstShowing_61 : decode cX1_firstShowing 61 = .ok (.ireturn, 1) := by decide +kernel
theorem dX1_shownFrames_0 : decode cX1_shownFrames 0 = .ok (.iconst 0, 1) := by decide +kernel
theorem dX1_shownFrames_1 : decode cX1_shownFrames 1 = .ok (.istore_n 1, 1) := by decide +kernel
theorem dX1_shownFrames_2 : decode cX1_shownFrames 2 = .ok (.iconst 0, 1) := by decide +kernel
theorem dX1_shownFrames_3 : decode cX1_shownFrames 3 = .ok (.istore_n 2, 1) := by decide +kernel
theorem dX1_shownFrames_4 : decode cX1_shownFrames 4 = .ok (.iload_n 2, 1) := by decide +kernel
theorem dX1_shownFrames_5 : decode cX1_shownFrames 5 = .ok (.aload_n 0, 1) := by decide +kernel
theorem dX1_shownFrames_6 : decode cX1_shownFrames 6 = .ok (.getfield 18, 3) := by decide +kernel
theorem dX1_shownFrames_9 : decode cX1_shownFrames 9 = .ok (.if_icmp .ge 66, 3) := by decide +kernel
theorem dX1_shownFrames_12 : decode cX1_shownFrames 12 = .ok (.aload_n 0, 1) := by decide +kernel
theorem dX1_shownFrames_13 : decode cX1_shownFrames 13 = .ok (.getfield 11, 3) := by decide +kernel
theorem dX1_shownFrames_16 : decode cX1_shownFrames 16 = .ok (.iload_n 2, 1) := by decide +kernel
theorem dX1_shownFrames_17 : decode cX1_shownFrames 17 = .ok (.aaload, 1) := by decide +kernel
theorem dX1_shownFrames_18 : decode cX1_shownFrames 18 = .ok (.astore_n 3, 1) := by decide +kernel
theorem dX1_shownFrames_19 : decode cX1_shownFrames 19 = .ok (.aload_n 0, 1) := by decide +kernel
theorem dX1_shownFrames_20 : decode cX1_shownFrames 20 = .ok (.iload_n 2, 1) := by decide +kernel
theorem dX1_shownFrames_21 : decode cX1_shownFrames 21 = .ok (.invokevirtual 41, 3) := by decide +kernel
theorem dX1_shownFrames_24 : decode cX1_shownFrames 24 = .ok (.istore 4, 2) := by decide +kernel
theorem dX1_shownFrames_26 : decode cX1_shownFrames 26 = .ok (.iconst 0, 1) := by decide +kernel
theorem dX1_shownFrames_27 : decode cX1_shownFrames 27 = .ok (.istore 5, 2) := by decide +kernel
theorem dX1_shownFrames_29 : decode cX1_shownFrames 29 = .ok (.iload 5, 2) := by decide +kernel
theorem dX1_shownFrames_31 : decode cX1_shownFrames 31 = .ok (.aload_n 3, 1) := by decide +kernel
theorem dX1_shownFrames_32 : decode cX1_shownFrames 32 = .ok (.getfield 32, 3) := by decide +kernel
theorem dX1_shownFrames_35 : decode cX1_shownFrames 35 = .ok (.if_icmp .ge 34, 3) := by decide +kernel
theorem dX1_shownFrames_38 : decode cX1_shownFrames 38 = .ok (.aload_n 0, 1) := by decide +kernel
theorem dX1_shownFrames_39 : decode cX1_shownFrames 39 = .ok (.aload_n 3, 1) := by decide +kernel
theorem dX1_shownFrames_40 : decode cX1_shownFrames 40 = .ok (.getfield 26, 3) := by decide +kernel
theorem dX1_shownFrames_43 : decode cX1_shownFrames 43 = .ok (.aload_n 3, 1) := by decide +kernel
theorem dX1_shownFrames_44 : decode cX1_shownFrames 44 = .ok (.iload 5, 2) := by decide +kernel
theorem dX1_shownFrames_46 : decode cX1_shownFrames 46 = .ok (.invokevirtual 51, 3) := by decide +kernel
theorem dX1_shownFrames_49 : decode cX1_shownFrames 49 = .ok (.invokevirtual 54, 3) := by decide +kernel
theorem dX1_shownFrames_52 : decode cX1_shownFrames 52 = .ok (.iload 4, 2) := by decide +kernel
theorem dX1_shownFrames_54 : decode cX1_shownFrames 54 = .ok (.iload 5, 2) := by decide +kernel
theorem dX1_shownFrames_56 : decode cX1_shownFrames 56 = .ok (.iadd, 1) := by decide +kernel
theorem dX1_shownFrames_57 : decode cX1_shownFrames 57 = .ok (.if_icmp .ne 6, 3) := by decide +kernel
theorem dX1_shownFrames_60 : decode cX1_shownFrames 60 = .ok (.iinc 1 1, 3) := by decide +kernel
theorem dX1_shownFrames_63 : decode cX1_shownFrames 63 = .ok (.iinc 5 1, 3) := by decide +kernel
theorem dX1_shownFrames_66 : decode cX1_shownFrames 66 = .ok (.goto (-37), 3) := by decide +kernel
theorem dX1_shownFrames_69 : decode cX1_shownFrames 69 = .ok (.iinc 2 1, 3) := by decide +kernel
theorem dX1_shownFrames_72 : decode cX1_shownFrames 72 = .ok (.goto (-68), 3) := by decide +kernel
theorem dX1_shownFrames_75 : decode cX1_shownFrames 75 = .ok (.iload_n 1, 1) := by decide +kernel
theorem dX1_shownFrames_76 : decode cX1_shownFrames 76 = .ok (.ireturn, 1) := by decide +kernel
theorem dX2_init_0 : decode cX2_init 0 = .ok (.aload_n 0, 1) := by decide +kernel
theorem dX2_init_1 : decode cX2_init 1 = .ok (.invokespecial 3, 3) := by decide +kernel
theorem dX2_init_4 : decode cX2_init 4 = .ok (.aload_n 0, 1) := by decide +kernel
theorem dX2_init_5 : decode cX2_init 5 = .ok (.iconst 1, 1) := by decide +kernel
theorem dX2_init_6 : decode cX2_init 6 = .ok (.putfield 9, 3) := by decide +kernel
theorem dX2_init_9 : decode cX2_init 9 = .ok (.aload_n 0, 1) := by decide +kernel
theorem dX2_init_10 : decode cX2_init 10 = .ok (.iconst 1, 1) := by decide +kernel
theorem dX2_init_11 : decode cX2_init 11 = .ok (.putfield 15, 3) := by decide +kernel
theorem dX2_init_14 : decode cX2_init 14 = .ok (.return_, 1) := by decide +kernel
theorem dX2_part_0 : decode cX2_part 0 = .ok (.iload_n 1, 1) := by decide +kernel
theorem dX2_part_1 : decode cX2_part 1 = .ok (.tableswitch 42 0 2 #[27, 32, 37], 27) := by decide +kernel
theorem dX2_part_28 : decode cX2_part 28 = .ok (.aload_n 0, 1) := by decide +kernel
theorem dX2_part_29 : decode cX2_part 29 = .ok (.getfield 18, 3) := by decide +kernel
theorem dX2_part_32 : decode cX2_part 32 = .ok (.ireturn, 1) := by decide +kernel
theorem dX2_part_33 : decode cX2_part 33 = .ok (.aload_n 0, 1) := by decide +kernel
theorem dX2_part_34 : decode cX2_part 34 = .ok (.getfield 9, 3) := by decide +kernel
theorem dX2_part_37 : decode cX2_part 37 = .ok (.ireturn, 1) := by decide +kernel
theorem dX2_part_38 : decode cX2_part 38 = .ok (.aload_n 0, 1) := by decide +kernel
theorem dX2_part_39 : decode cX2_part 39 = .ok (.getfield 21, 3) := by decide +kernel
theorem dX2_part_42 : decode cX2_part 42 = .ok (.ireturn, 1) := by decide +kernel
theorem dX2_part_43 : decode cX2_part 43 = .ok (.aload_n 0, 1) := by decide +kernel
theorem dX2_part_44 : decode cX2_part 44 = .ok (.getfield 15, 3) := by decide +kernel
theorem dX2_part_47 : decode cX2_part 47 = .ok (.ireturn, 1) := by decide +kernel
theorem dX2_become_0 : decode cX2_become 0 = .ok (.iload_n 1, 1) := by decide +kernel
theorem dX2_become_1 : decode cX2_become 1 = .ok (.tableswitch 51 0 2 #[27, 35, 43], 27) := by decide +kernel
theorem dX2_become_28 : decode cX2_become 28 = .ok (.aload_n 0, 1) := by decide +kernel
theorem dX2_become_29 : decode cX2_become 29 = .ok (.iload_n 2, 1) := by decide +kernel
theorem dX2_become_30 : decode cX2_become 30 = .ok (.putfield 18, 3) := by decide +kernel
theorem dX2_become_33 : decode cX2_become 33 = .ok (.goto 24, 3) := by decide +kernel
theorem dX2_become_36 : decode cX2_become 36 = .ok (.aload_n 0, 1) := by decide +kernel
theorem dX2_become_37 : decode cX2_become 37 = .ok (.iload_n 2, 1) := by decide +kernel
theorem dX2_become_38 : decode cX2_become 38 = .ok (.putfield 9, 3) := by decide +kernel
theorem dX2_become_41 : decode cX2_become 41 = .ok (.goto 16, 3) := by decide +kernel
theorem dX2_become_44 : decode cX2_become 44 = .ok (.aload_n 0, 1) := by decide +kernel
theorem dX2_become_45 : decode cX2_become 45 = .ok (.iload_n 2, 1) := by decide +kernel
theorem dX2_become_46 : decode cX2_become 46 = .ok (.putfield 21, 3) := by decide +kernel
theorem dX2_become_49 : decode cX2_become 49 = .ok (.goto 8, 3) := by decide +kernel
theorem dX2_become_52 : decode cX2_become 52 = .ok (.aload_n 0, 1) := by decide +kernel
theorem dX2_become_53 : decode cX2_become 53 = .ok (.iload_n 2, 1) := by decide +kernel
theorem dX2_become_54 : decode cX2_become 54 = .ok (.putfield 15, 3) := by decide +kernel
theorem dX2_become_57 : decode cX2_become 57 = .ok (.return_, 1) := by decide +kernel
theorem dX2_frameAt_0 : decode cX2_frameAt 0 = .ok (.aload_n 0, 1) := by decide +kernel
theorem dX2_frameAt_1 : decode cX2_frameAt 1 = .ok (.getfield 15, 3) := by decide +kernel
theorem dX2_frameAt_4 : decode cX2_frameAt 4 = .ok (.ifCond .ne 10, 3) := by decide +kernel
theorem dX2_frameAt_7 : decode cX2_frameAt 7 = .ok (.aload_n 0, 1) := by decide +kernel
theorem dX2_frameAt_8 : decode cX2_frameAt 8 = .ok (.getfield 18, 3) := by decide +kernel
theorem dX2_frameAt_11 : decode cX2_frameAt 11 = .ok (.goto 19, 3) := by decide +kernel
theorem dX2_frameAt_14 : decode cX2_frameAt 14 = .ok (.aload_n 0, 1) := by decide +kernel
theorem dX2_frameAt_15 : decode cX2_frameAt 15 = .ok (.getfield 18, 3) := by decide +kernel
theorem dX2_frameAt_18 : decode cX2_frameAt 18 = .ok (.iload_n 1, 1) := by decide +kernel
theorem dX2_frameAt_19 : decode cX2_frameAt 19 = .ok (.aload_n 0, 1) := by decide +kernel
theorem dX2_frameAt_20 : decode cX2_frameAt 20 = .ok (.getfield 21, 3) := by decide +kernel
theorem dX2_frameAt_23 : decode cX2_frameAt 23 = .ok (.imul, 1) := by decide +kernel
theorem dX2_frameAt_24 : decode cX2_frameAt 24 = .ok (.aload_n 0, 1) := by decide +kernel
theorem dX2_frameAt_25 : decode cX2_frameAt 25 = .ok (.getfield 15, 3) := by decide +kernel
theorem dX2_frameAt_28 : decode cX2_frameAt 28 = .ok (.idiv, 1) := by decide +kernel
theorem dX2_frameAt_29 : decode cX2_frameAt 29 = .ok (.iadd, 1) := by decide +kernel
theorem dX2_frameAt_30 : decode cX2_frameAt 30 = .ok (.ireturn, 1) := by decide +kernel
theorem dX2_first_0 : decode cX2_first 0 = .ok (.aload_n 0, 1) := by decide +kernel
theorem dX2_first_1 : decode cX2_first 1 = .ok (.iconst 0, 1) := by decide +kernel
theorem dX2_first_2 : decode cX2_first 2 = .ok (.invokevirtual 24, 3) := by decide +kernel
theorem dX2_first_5 : decode cX2_first 5 = .ok (.ireturn, 1) := by decide +kernel
theorem dX2_last_0 : decode cX2_last 0 = .ok (.aload_n 0, 1) := by decide +kernel
theorem dX2_last_1 : decode cX2_last 1 = .ok (.aload_n 0, 1) := by decide +kernel
theorem dX2_last_2 : decode cX2_last 2 = .ok (.getfield 9, 3) := by decide +kernel
theorem dX2_last_5 : decode cX2_last 5 = .ok (.iconst 1, 1) := by decide +kernel
theorem dX2_last_6 : decode cX2_last 6 = .ok (.isub, 1) := by decide +kernel
theorem dX2_last_7 : decode cX2_last 7 = .ok (.invokevirtual 24, 3) := by decide +kernel
theorem dX2_last_10 : decode cX2_last 10 = .ok (.ireturn, 1) := by decide +kernel
theorem dX2_reach_0 : decode cX2_reach 0 = .ok (.aload_n 0, 1) := by decide +kernel
theorem dX2_reach_1 : decode cX2_reach 1 = .ok (.invokevirtual 28, 3) := by decide +kernel
theorem dX2_reach_4 : decode cX2_reach 4 = .ok (.aload_n 0, 1) := by decide +kernel
theorem dX2_reach_5 : decode cX2_reach 5 = .ok (.invokevirtual 32, 3) := by decide +kernel
theorem dX2_reach_8 : decode cX2_reach 8 = .ok (.isub, 1) := by decide +kernel
theorem dX2_reach_9 : decode cX2_reach 9 = .ok (.iconst 1, 1) := by decide +kernel
theorem dX2_reach_10 : decode cX2_reach 10 = .ok (.iadd, 1) := by decide +kernel
theorem dX2_reach_11 : decode cX2_reach 11 = .ok (.ireturn, 1) := by decide +kernel
theorem dX2_different_0 : decode cX2_different 0 = .ok (.aload_n 0, 1) := by decide +kernel
theorem dX2_different_1 : decode cX2_different 1 = .ok (.getfield 21, 3) := by decide +kernel
theorem dX2_different_4 : decode cX2_different 4 = .ok (.aload_n 0, 1) := by decide +kernel
theorem dX2_different_5 : decode cX2_different 5 = .ok (.getfield 15, 3) := by decide +kernel
theorem dX2_different_8 : decode cX2_different 8 = .ok (.if_icmp .gt 10, 3) := by decide +kernel
theorem dX2_different_11 : decode cX2_different 11 = .ok (.aload_n 0, 1) := by decide +kernel
theorem dX2_different_12 : decode cX2_different 12 = .ok (.invokevirtual 35, 3) := by decide +kernel
theorem dX2_different_15 : decode cX2_different 15 = .ok (.goto 7, 3) := by decide +kernel
theorem dX2_different_18 : decode cX2_different 18 = .ok (.aload_n 0, 1) := by decide +kernel
theorem dX2_different_19 : decode cX2_different 19 = .ok (.getfield 9, 3) := by decide +kernel
theorem dX2_different_22 : decode cX2_different 22 = .ok (.ireturn, 1) := by decide +kernel
theorem dX2_firstAtLeast_0 : decode cX2_firstAtLeast 0 = .ok (.iload_n 1, 1) := by decide +kernel
theorem dX2_firstAtLeast_1 : decode cX2_firstAtLeast 1 = .ok (.ifCond .gt 5, 3) := by decide +kernel
theorem dX2_firstAtLeast_4 : decode cX2_firstAtLeast 4 = .ok (.iconst 0, 1) := by decide +kernel
theorem dX2_firstAtLeast_5 : decode cX2_firstAtLeast 5 = .ok (.ireturn, 1) := by decide +kernel
theorem dX2_firstAtLeast_6 : decode cX2_firstAtLeast 6 = .ok (.aload_n 0, 1) := by decide +kernel
theorem dX2_firstAtLeast_7 : decode cX2_firstAtLeast 7 = .ok (.getfield 21, 3) := by decide +kernel
theorem dX2_firstAtLeast_10 : decode cX2_firstAtLeast 10 = .ok (.ifCond .ne 10, 3) := by decide +kernel
theorem dX2_firstAtLeast_13 : decode cX2_firstAtLeast 13 = .ok (.aload_n 0, 1) := by decide +kernel
theorem dX2_firstAtLeast_14 : decode cX2_firstAtLeast 14 = .ok (.getfield 9, 3) := by decide +kernel
theorem dX2_firstAtLeast_17 : decode cX2_firstAtLeast 17 = .ok (.goto 21, 3) := by decide +kernel
theorem dX2_firstAtLeast_20 : decode cX2_firstAtLeast 20 = .ok (.iload_n 1, 1) := by decide +kernel
theorem dX2_firstAtLeast_21 : decode cX2_firstAtLeast 21 = .ok (.aload_n 0, 1) := by decide +kernel
theorem dX2_firstAtLeast_22 : decode cX2_firstAtLeast 22 = .ok (.getfield 15, 3) := by decide +kernel
theorem dX2_firstAtLeast_25 : decode cX2_firstAtLeast 25 = .ok (.imul, 1) := by decide +kernel
theorem dX2_firstAtLeast_26 : decode cX2_firstAtLeast 26 = .ok (.aload_n 0, 1) := by decide +kernel
theorem dX2_firstAtLeast_27 : decode cX2_firstAtLeast 27 = .ok (.getfield 21, 3) := by decide +kernel
theorem dX2_firstAtLeast_30 : decode cX2_firstAtLeast 30 = .ok (.iadd, 1) := by decide +kernel
theorem dX2_firstAtLeast_31 : decode cX2_firstAtLeast 31 = .ok (.iconst 1, 1) := by decide +kernel
theorem dX2_firstAtLeast_32 : decode cX2_firstAtLeast 32 = .ok (.isub, 1) := by decide +kernel
theorem dX2_firstAtLeast_33 : decode cX2_firstAtLeast 33 = .ok (.aload_n 0, 1) := by decide +kernel
theorem dX2_firstAtLeast_34 : decode cX2_firstAtLeast 34 = .ok (.getfield 21, 3) := by decide +kernel
theorem dX2_firstAtLeast_37 : decode cX2_firstAtLeast 37 = .ok (.idiv, 1) := by decide +kernel
theorem dX2_firstAtLeast_38 : decode cX2_firstAtLeast 38 = .ok (.istore_n 2, 1) := by decide +kernel
theorem dX2_firstAtLeast_39 : decode cX2_firstAtLeast 39 = .ok (.iload_n 2, 1) := by decide +kernel
theorem dX2_firstAtLeast_40 : decode cX2_firstAtLeast 40 = .ok (.aload_n 0, 1) := by decide +kernel
theorem dX2_firstAtLeast_41 : decode cX2_firstAtLeast 41 = .ok (.getfield 9, 3) := by decide +kernel
theorem dX2_firstAtLeast_44 : decode cX2_firstAtLeast 44 = .ok (.if_icmp .ge 7, 3) := by decide +kernel
theorem dX2_firstAtLeast_47 : decode cX2_firstAtLeast 47 = .ok (.iload_n 2, 1) := by decide +kernel
theorem dX2_firstAtLeast_48 : decode cX2_firstAtLeast 48 = .ok (.goto 7, 3) := by decide +kernel
theorem dX2_firstAtLeast_51 : decode cX2_firstAtLeast 51 = .ok (.aload_n 0, 1) := by decide +kernel
theorem dX2_firstAtLeast_52 : decode cX2_firstAtLeast 52 = .ok (.getfield 9, 3) := by decide +kernel
theorem dX2_firstAtLeast_55 : decode cX2_firstAtLeast 55 = .ok (.ireturn, 1) := by decide +kernel
theorem dX2_firstShowing_0 : decode cX2_firstShowing 0 = .ok (.aload_n 0, 1) := by decide +kernel
theorem dX2_firstShowing_1 : decode cX2_firstShowing 1 = .ok (.iload_n 1, 1) := by decide +kernel
theorem dX2_firstShowing_2 : decode cX2_firstShowing 2 = .ok (.aload_n 0, 1) := by decide +kernel
theorem dX2_firstShowing_3 : decode cX2_firstShowing 3 = .ok (.getfield 18, 3) := by decide +kernel
theorem dX2_firstShowing_6 : decode cX2_firstShowing 6 = .ok (.isub, 1) := by decide +kernel
theorem dX2_firstShowing_7 : decode cX2_firstShowing 7 = .ok (.invokevirtual 38, 3) := by decide +kernel
theorem dX2_firstShowing_10 : decode cX2_firstShowing 10 = .ok (.istore_n 2, 1) := by decide +kernel
theorem dX2_firstShowing_11 : decode cX2_firstShowing 11 = .ok (.iload_n 2, 1) := by decide +kernel
theorem dX2_firstShowing_12 : decode cX2_firstShowing 12 = .ok (.aload_n 0, 1) := by decide +kernel
theorem dX2_firstShowing_13 : decode cX2_firstShowing 13 = .ok (.getfield 9, 3) := by decide +kernel
theorem dX2_firstShowing_16 : decode cX2_firstShowing 16 = .ok (.if_icmp .ge 16, 3) := by decide +kernel
theorem dX2_firstShowing_19 : decode cX2_firstShowing 19 = .ok (.aload_n 0, 1) := by decide +kernel
theorem dX2_firstShowing_20 : decode cX2_firstShowing 20 = .ok (.iload_n 2, 1) := by decide +kernel
theorem dX2_firstShowing_21 : decode cX2_firstShowing 21 = .ok (.invokevirtual 24, 3) := by decide +kernel
theorem dX2_firstShowing_24 : decode cX2_firstShowing 24 = .ok (.iload_n 1, 1) := by decide +kernel
theorem dX2_firstShowing_25 : decode cX2_firstShowing 25 = .ok (.if_icmp .ne 7, 3) := by decide +kernel
theorem dX2_firstShowing_28 : decode cX2_firstShowing 28 = .ok (.iload_n 2, 1) := by decide +kernel
theorem dX2_firstShowing_29 : decode cX2_firstShowing 29 = .ok (.goto 4, 3) := by decide +kernel
theorem dX2_firstShowing_32 : decode cX2_firstShowing 32 = .ok (.iconst (-1), 1) := by decide +kernel
theorem dX2_firstShowing_33 : decode cX2_firstShowing 33 = .ok (.ireturn, 1) := by decide +kernel
theorem dX2_times_0 : decode cX2_times 0 = .ok (.iload_n 1, 1) := by decide +kernel
theorem dX2_times_1 : decode cX2_times 1 = .ok (.aload_n 0, 1) := by decide +kernel
theorem dX2_times_2 : decode cX2_times 2 = .ok (.getfield 18, 3) := by decide +kernel
theorem dX2_times_5 : decode cX2_times 5 = .ok (.if_icmp .ge 7, 3) := by decide +kernel
theorem dX2_times_8 : decode cX2_times 8 = .ok (.iconst 0, 1) := by decide +kernel
theorem dX2_times_9 : decode cX2_times 9 = .ok (.goto 26, 3) := by decide +kernel
theorem dX2_times_12 : decode cX2_times 12 = .ok (.aload_n 0, 1) := by decide +kernel
theorem dX2_times_13 : decode cX2_times 13 = .ok (.iload_n 1, 1) := by decide +kernel
theorem dX2_times_14 : decode cX2_times 14 = .ok (.aload_n 0, 1) := by decide +kernel
theorem dX2_times_15 : decode cX2_times 15 = .ok (.getfield 18, 3) := by decide +kernel
theorem dX2_times_18 : decode cX2_times 18 = .ok (.isub, 1) := by decide +kernel
theorem dX2_times_19 : decode cX2_times 19 = .ok (.iconst 1, 1) := by decide +kernel
theorem dX2_times_20 : decode cX2_times 20 = .ok (.iadd, 1) := by decide +kernel
theorem dX2_times_21 : decode cX2_times 21 = .ok (.invokevirtual 38, 3) := by decide +kernel
theorem dX2_times_24 : decode cX2_times 24 = .ok (.aload_n 0, 1) := by decide +kernel
theorem dX2_times_25 : decode cX2_times 25 = .ok (.iload_n 1, 1) := by decide +kernel
theorem dX2_times_26 : decode cX2_times 26 = .ok (.aload_n 0, 1) := by decide +kernel
theorem dX2_times_27 : decode cX2_times 27 = .ok (.getfield 18, 3) := by decide +kernel
theorem dX2_times_30 : decode cX2_times 30 = .ok (.isub, 1) := by decide +kernel
theorem dX2_times_31 : decode cX2_times 31 = .ok (.invokevirtual 38, 3) := by decide +kernel
theorem dX2_times_34 : decode cX2_times 34 = .ok (.isub, 1) := by decide +kernel
theorem dX2_times_35 : decode cX2_times 35 = .ok (.ireturn, 1) := by decide +kernel
theorem dX2_isLike_0 : decode cX2_isLike 0 = .ok (.aload_n 0, 1) := by decide +kernel
theorem dX2_isLike_1 : decode cX2_isLike 1 = .ok (.getfield 41, 3) := by decide +kernel
theorem dX2_isLike_4 : decode cX2_isLike 4 = .ok (.aload_n 1, 1) := by decide +kernel
theorem dX2_isLike_5 : decode cX2_isLike 5 = .ok (.getfield 41, 3) := by decide +kernel
theorem dX2_isLike_8 : decode cX2_isLike 8 = .ok (.if_icmp .ne 39, 3) := by decide +kernel
theorem dX2_isLike_11 : decode cX2_isLike 11 = .ok (.aload_n 0, 1) := by decide +kernel
theorem dX2_isLike_12 : decode cX2_isLike 12 = .ok (.getfield 18, 3) := by decide +kernel
theorem dX2_isLike_15 : decode cX2_isLike 15 = .ok (.aload_n 1, 1) := by decide +kernel
theorem dX2_isLike_16 : decode cX2_isLike 16 = .ok (.getfield 18, 3) := by decide +kernel
theorem dX2_isLike_19 : decode cX2_isLike 19 = .ok (.if_icmp .ne 28, 3) := by decide +kernel
theorem dX2_isLike_22 : decode cX2_isLike 22 = .ok (.aload_n 0, 1) := by decide +kernel
theorem dX2_isLike_23 : decode cX2_isLike 23 = .ok (.getfield 21, 3) := by decide +kernel
theorem dX2_isLike_26 : decode cX2_isLike 26 = .ok (.aload_n 1, 1) := by decide +kernel
theorem dX2_isLike_27 : decode cX2_isLike 27 = .ok (.getfield 15, 3) := by decide +kernel
theorem dX2_isLike_30 : decode cX2_isLike 30 = .ok (.imul, 1) := by decide +kernel
theorem dX2_isLike_31 : decode cX2_isLike 31 = .ok (.aload_n 1, 1) := by decide +kernel
theorem dX2_isLike_32 : decode cX2_isLike 32 = .ok (.getfield 21, 3) := by decide +kernel
theorem dX2_isLike_35 : decode cX2_isLike 35 = .ok (.aload_n 0, 1) := by decide +kernel
theorem dX2_isLike_36 : decode cX2_isLike 36 = .ok (.getfield 15, 3) := by decide +kernel
theorem dX2_isLike_39 : decode cX2_isLike 39 = .ok (.imul, 1) := by decide +kernel
theorem dX2_isLike_40 : decode cX2_isLike 40 = .ok (.if_icmp .ne 7, 3) := by decide +kernel
theorem dX2_isLike_43 : decode cX2_isLike 43 = .ok (.iconst 1, 1) := by decide +kernel
theorem dX2_isLike_44 : decode cX2_isLike 44 = .ok (.goto 4, 3) := by decide +kernel
theorem dX2_isLike_47 : decode cX2_isLike 47 = .ok (.iconst 0, 1) := by decide +kernel
theorem dX2_isLike_48 : decode cX2_isLike 48 = .ok (.ireturn, 1) := by decide +kernel
theorem dX3_init_0 : decode cX3_init 0 = .ok (.aload_n 0, 1) := by decide +kernel
theorem dX3_init_1 : decode cX3_init 1 = .ok (.invokespecial 3, 3) := by decide +kernel
theorem dX3_init_4 : decode cX3_init 4 = .ok (.aload_n 0, 1) := by decide +kernel
theorem dX3_init_5 : decode cX3_init 5 = .ok (.bipush 8, 2) := by decide +kernel
theorem dX3_init_7 : decode cX3_init 7 = .ok (.newarray .int, 2) := by decide +kernel
theorem dX3_init_9 : decode cX3_init 9 = .ok (.putfield 9, 3) := by decide +kernel
theorem dX3_init_12 : decode cX3_init 12 = .ok (.return_, 1) := by decide +kernel
theorem dX3_pair_0 : decode cX3_pair 0 = .ok (.aload_n 0, 1) := by decide +kernel
theorem dX3_pair_1 : decode cX3_pair 1 = .ok (.getfield 9, 3) := by decide +kernel
theorem dX3_pair_4 : decode cX3_pair 4 = .ok (.iconst (-1), 1) := by decide +kernel
theorem dX3_pair_5 : decode cX3_pair 5 = .ok (.invokestatic 15, 3) := by decide +kernel
theorem dX3_pair_8 : decode cX3_pair 8 = .ok (.aload_n 0, 1) := by decide +kernel
theorem dX3_pair_9 : decode cX3_pair 9 = .ok (.iconst 0, 1) := by decide +kernel
theorem dX3_pair_10 : decode cX3_pair 10 = .ok (.putfield 21, 3) := by decide +kernel
theorem dX3_pair_13 : decode cX3_pair 13 = .ok (.aload_n 0, 1) := by decide +kernel
theorem dX3_pair_14 : decode cX3_pair 14 = .ok (.aload_n 1, 1) := by decide +kernel
theorem dX3_pair_15 : decode cX3_pair 15 = .ok (.aload_n 2, 1) := by decide +kernel
theorem dX3_pair_16 : decode cX3_pair 16 = .ok (.iconst 1, 1) := by decide +kernel
theorem dX3_pair_17 : decode cX3_pair 17 = .ok (.invokevirtual 25, 3) := by decide +kernel
theorem dX3_pair_20 : decode cX3_pair 20 = .ok (.aload_n 0, 1) := by decide +kernel
theorem dX3_pair_21 : decode cX3_pair 21 = .ok (.aload_n 1, 1) := by decide +kernel
theorem dX3_pair_22 : decode cX3_pair 22 = .ok (.aload_n 2, 1) := by decide +kernel
theorem dX3_pair_23 : decode cX3_pair 23 = .ok (.iconst 0, 1) := by decide +kernel
theorem dX3_pair_24 : decode cX3_pair 24 = .ok (.invokevirtual 25, 3) := by decide +kernel
theorem dX3_pair_27 : decode cX3_pair 27 = .ok (.return_, 1) := by decide +kernel
theorem dX3_takeEach_0 : decode cX3_takeEach 0 = .ok (.iconst 0, 1) := by decide +kernel
theorem dX3_takeEach_1 : decode cX3_takeEach 1 = .ok (.istore 4, 2) := by decide +kernel
theorem dX3_takeEach_3 : decode cX3_takeEach 3 = .ok (.iload 4, 2) := by decide +kernel
theorem dX3_takeEach_5 : decode cX3_takeEach 5 = .ok (.aload_n 2, 1) := by decide +kernel
theorem dX3_takeEach_6 : decode cX3_takeEach 6 = .ok (.getfield 29, 3) := by decide +kernel
theorem dX3_takeEach_9 : decode cX3_takeEach 9 = .ok (.if_icmp .ge 35, 3) := by decide +kernel
theorem dX3_takeEach_12 : decode cX3_takeEach 12 = .ok (.aload_n 0, 1) := by decide +kernel
theorem dX3_takeEach_13 : decode cX3_takeEach 13 = .ok (.getfield 9, 3) := by decide +kernel
theorem dX3_takeEach_16 : decode cX3_takeEach 16 = .ok (.iload 4, 2) := by decide +kernel
theorem dX3_takeEach_18 : decode cX3_takeEach 18 = .ok (.iaload, 1) := by decide +kernel
theorem dX3_takeEach_19 : decode cX3_takeEach 19 = .ok (.iconst (-1), 1) := by decide +kernel
theorem dX3_takeEach_20 : decode cX3_takeEach 20 = .ok (.if_icmp .ne 18, 3) := by decide +kernel
theorem dX3_takeEach_23 : decode cX3_takeEach 23 = .ok (.aload_n 0, 1) := by decide +kernel
theorem dX3_takeEach_24 : decode cX3_takeEach 24 = .ok (.iload 4, 2) := by decide +kernel
theorem dX3_takeEach_26 : decode cX3_takeEach 26 = .ok (.aload_n 1, 1) := by decide +kernel
theorem dX3_takeEach_27 : decode cX3_takeEach 27 = .ok (.aload_n 2, 1) := by decide +kernel
theorem dX3_takeEach_28 : decode cX3_takeEach 28 = .ok (.getfield 34, 3) := by decide +kernel
theorem dX3_takeEach_31 : decode cX3_takeEach 31 = .ok (.iload 4, 2) := by decide +kernel
theorem dX3_takeEach_33 : decode cX3_takeEach 33 = .ok (.aaload, 1) := by decide +kernel
theorem dX3_takeEach_34 : decode cX3_takeEach 34 = .ok (.iload_n 3, 1) := by decide +kernel
theorem dX3_takeEach_35 : decode cX3_takeEach 35 = .ok (.invokevirtual 38, 3) := by decide +kernel
theorem dX3_takeEach_38 : decode cX3_takeEach 38 = .ok (.iinc 4 1, 3) := by decide +kernel
theorem dX3_takeEach_41 : decode cX3_takeEach 41 = .ok (.goto (-38), 3) := by decide +kernel
theorem dX3_takeEach_44 : decode cX3_takeEach 44 = .ok (.return_, 1) := by decide +kernel
theorem dX3_takeFor_0 : decode cX3_takeFor 0 = .ok (.iconst 0, 1) := by decide +kernel
theorem dX3_takeFor_1 : decode cX3_takeFor 1 = .ok (.istore 5, 2) := by decide +kernel
theorem dX3_takeFor_3 : decode cX3_takeFor 3 = .ok (.iload 5, 2) := by decide +kernel
theorem dX3_takeFor_5 : decode cX3_takeFor 5 = .ok (.aload_n 2, 1) := by decide +kernel
theorem dX3_takeFor_6 : decode cX3_takeFor 6 = .ok (.getfield 29, 3) := by decide +kernel
theorem dX3_takeFor_9 : decode cX3_takeFor 9 = .ok (.if_icmp .ge 90, 3) := by decide +kernel
theorem dX3_takeFor_12 : decode cX3_takeFor 12 = .ok (.aload_n 2, 1) := by decide +kernel
theorem dX3_takeFor_13 : decode cX3_takeFor 13 = .ok (.getfield 34, 3) := by decide +kernel
theorem dX3_takeFor_16 : decode cX3_takeFor 16 = .ok (.iload 5, 2) := by decide +kernel
theorem dX3_takeFor_18 : decode cX3_takeFor 18 = .ok (.aaload, 1) := by decide +kernel
theorem dX3_takeFor_19 : decode cX3_takeFor 19 = .ok (.astore 6, 2) := by decide +kernel
theorem dX3_takeFor_21 : decode cX3_takeFor 21 = .ok (.aload_n 0, 1) := by decide +kernel
theorem dX3_takeFor_22 : decode cX3_takeFor 22 = .ok (.getfield 21, 3) := by decide +kernel
theorem dX3_takeFor_25 : decode cX3_takeFor 25 = .ok (.iload 5, 2) := by decide +kernel
theorem dX3_takeFor_27 : decode cX3_takeFor 27 = .ok (.ishr, 1) := by decide +kernel
theorem dX3_takeFor_28 : decode cX3_takeFor 28 = .ok (.iconst 1, 1) := by decide +kernel
theorem dX3_takeFor_29 : decode cX3_takeFor 29 = .ok (.iand, 1) := by decide +kernel
theorem dX3_takeFor_30 : decode cX3_takeFor 30 = .ok (.ifCond .ne 7, 3) := by decide +kernel
theorem dX3_takeFor_33 : decode cX3_takeFor 33 = .ok (.iconst 1, 1) := by decide +kernel
theorem dX3_takeFor_34 : decode cX3_takeFor 34 = .ok (.goto 4, 3) := by decide +kernel
theorem dX3_takeFor_37 : decode cX3_takeFor 37 = .ok (.iconst 0, 1) := by decide +kernel
theorem dX3_takeFor_38 : decode cX3_takeFor 38 = .ok (.istore 7, 2) := by decide +kernel
theorem dX3_takeFor_40 : decode cX3_takeFor 40 = .ok (.iload 7, 2) := by decide +kernel
theorem dX3_takeFor_42 : decode cX3_takeFor 42 = .ok (.ifCond .eq 51, 3) := by decide +kernel
theorem dX3_takeFor_45 : decode cX3_takeFor 45 = .ok (.aload_n 3, 1) := by decide +kernel
theorem dX3_takeFor_46 : decode cX3_takeFor 46 = .ok (.aload 6, 2) := by decide +kernel
theorem dX3_takeFor_48 : decode cX3_takeFor 48 = .ok (.invokevirtual 42, 3) := by decide +kernel
theorem dX3_takeFor_51 : decode cX3_takeFor 51 = .ok (.ifCond .eq 42, 3) := by decide +kernel
theorem dX3_takeFor_54 : decode cX3_takeFor 54 = .ok (.iload 4, 2) := by decide +kernel
theorem dX3_takeFor_56 : decode cX3_takeFor 56 = .ok (.ifCond .eq 15, 3) := by decide +kernel
theorem dX3_takeFor_59 : decode cX3_takeFor 59 = .ok (.aload_n 3, 1) := by decide +kernel
theorem dX3_takeFor_60 : decode cX3_takeFor 60 = .ok (.getfield 48, 3) := by decide +kernel
theorem dX3_takeFor_63 : decode cX3_takeFor 63 = .ok (.aload 6, 2) := by decide +kernel
theorem dX3_takeFor_65 : decode cX3_takeFor 65 = .ok (.getfield 48, 3) := by decide +kernel
theorem dX3_takeFor_68 : decode cX3_takeFor 68 = .ok (.if_icmp .ne 25, 3) := by decide +kernel
theorem dX3_takeFor_71 : decode cX3_takeFor 71 = .ok (.aload_n 0, 1) := by decide +kernel
theorem dX3_takeFor_72 : decode cX3_takeFor 72 = .ok (.getfield 9, 3) := by decide +kernel
theorem dX3_takeFor_75 : decode cX3_takeFor 75 = .ok (.iload_n 1, 1) := by decide +kernel
theorem dX3_takeFor_76 : decode cX3_takeFor 76 = .ok (.iload 5, 2) := by decide +kernel
theorem dX3_takeFor_78 : decode cX3_takeFor 78 = .ok (.iastore, 1) := by decide +kernel
theorem dX3_takeFor_79 : decode cX3_takeFor 79 = .ok (.aload_n 0, 1) := by decide +kernel
theorem dX3_takeFor_80 : decode cX3_takeFor 80 = .ok (.dup, 1) := by decide +kernel
theorem dX3_takeFor_81 : decode cX3_takeFor 81 = .ok (.getfield 21, 3) := by decide +kernel
theorem dX3_takeFor_84 : decode cX3_takeFor 84 = .ok (.iconst 1, 1) := by decide +kernel
theorem dX3_takeFor_85 : decode cX3_takeFor 85 = .ok (.iload 5, 2) := by decide +kernel
theorem dX3_takeFor_87 : decode cX3_takeFor 87 = .ok (.ishl, 1) := by decide +kernel
theorem dX3_takeFor_88 : decode cX3_takeFor 88 = .ok (.ior, 1) := by decide +kernel
theorem dX3_takeFor_89 : decode cX3_takeFor 89 = .ok (.putfield 21, 3) := by decide +kernel
theorem dX3_takeFor_92 : decode cX3_takeFor 92 = .ok (.return_, 1) := by decide +kernel
theorem dX3_takeFor_93 : decode cX3_takeFor 93 = .ok (.iinc 5 1, 3) := by decide +kernel
theorem dX3_takeFor_96 : decode cX3_takeFor 96 = .ok (.goto (-93), 3) := by decide +kernel
theorem dX3_takeFor_99 : decode cX3_takeFor 99 = .ok (.return_, 1) := by decide +kernel
theorem dX3_partner_0 : decode cX3_partner 0 = .ok (.iload_n 1, 1) := by decide +kernel
theorem dX3_partner_1 : decode cX3_partner 1 = .ok (.bipush 8, 2) := by decide +kernel
theorem dX3_partner_3 : decode cX3_partner 3 = .ok (.invokestatic 51, 3) := by decide +kernel
theorem dX3_partner_6 : decode cX3_partner 6 = .ok (.ifCond .eq 12, 3) := by decide +kernel
theorem dX3_partner_9 : decode cX3_partner 9 = .ok (.aload_n 0, 1) := by decide +kernel
theorem dX3_partner_10 : decode cX3_partner 10 = .ok (.getfield 9, 3) := by decide +kernel
theorem dX3_partner_13 : decode cX3_partner 13 = .ok (.iload_n 1, 1) := by decide +kernel
theorem dX3_partner_14 : decode cX3_partner 14 = .ok (.iaload, 1) := by decide +kernel
theorem dX3_partner_15 : decode cX3_partner 15 = .ok (.goto 4, 3) := by decide +kernel
theorem dX3_partner_18 : decode cX3_partner 18 = .ok (.iconst (-1), 1) := by decide +kernel
theorem dX3_partner_19 : decode cX3_partner 19 = .ok (.ireturn, 1) := by decide +kernel
theorem dX3_kind_0 : decode cX3_kind 0 = .ok (.aload_n 0, 1) := by decide +kernel
theorem dX3_kind_1 : decode cX3_kind 1 = .ok (.iload_n 1, 1) := by decide +kernel
theorem dX3_kind_2 : decode cX3_kind 2 = .ok (.invokevirtual 55, 3) := by decide +kernel
theorem dX3_kind_5 : decode cX3_kind 5 = .ok (.istore 4, 2) := by decide +kernel
theorem dX3_kind_7 : decode cX3_kind 7 = .ok (.iload 4, 2) := by decide +kernel
theorem dX3_kind_9 : decode cX3_kind 9 = .ok (.aload_n 2, 1) := by decide +kernel
theorem dX3_kind_10 : decode cX3_kind 10 = .ok (.getfield 29, 3) := by decide +kernel
theorem dX3_kind_13 : decode cX3_kind 13 = .ok (.invokestatic 51, 3) := by decide +kernel
theorem dX3_kind_16 : decode cX3_kind 16 = .ok (.ifCond .eq 14, 3) := by decide +kernel
theorem dX3_kind_19 : decode cX3_kind 19 = .ok (.iload_n 1, 1) := by decide +kernel
theorem dX3_kind_20 : decode cX3_kind 20 = .ok (.aload_n 3, 1) := by decide +kernel
theorem dX3_kind_21 : decode cX3_kind 21 = .ok (.getfield 29, 3) := by decide +kernel
theorem dX3_kind_24 : decode cX3_kind 24 = .ok (.invokestatic 51, 3) := by decide +kernel
theorem dX3_kind_27 : decode cX3_kind 27 = .ok (.ifCond .ne 5, 3) := by decide +kernel
theorem dX3_kind_30 : decode cX3_kind 30 = .ok (.iconst 0, 1) := by decide +kernel
theorem dX3_kind_31 : decode cX3_kind 31 = .ok (.ireturn, 1) := by decide +kernel
theorem dX3_kind_32 : decode cX3_kind 32 = .ok (.aload_n 3, 1) := by decide +kernel
theorem dX3_kind_33 : decode cX3_kind 33 = .ok (.getfield 34, 3) := by decide +kernel
theorem dX3_kind_36 : decode cX3_kind 36 = .ok (.iload_n 1, 1) := by decide +kernel
theorem dX3_kind_37 : decode cX3_kind 37 = .ok (.aaload, 1) := by decide +kernel
theorem dX3_kind_38 : decode cX3_kind 38 = .ok (.getfield 48, 3) := by decide +kernel
theorem dX3_kind_41 : decode cX3_kind 41 = .ok (.aload_n 2, 1) := by decide +kernel
theorem dX3_kind_42 : decode cX3_kind 42 = .ok (.getfield 34, 3) := by decide +kernel
theorem dX3_kind_45 : decode cX3_kind 45 = .ok (.iload 4, 2) := by decide +kernel
theorem dX3_kind_47 : decode cX3_kind 47 = .ok (.aaload, 1) := by decide +kernel
theorem dX3_kind_48 : decode cX3_kind 48 = .ok (.getfield 48, 3) := by decide +kernel
theorem dX3_kind_51 : decode cX3_kind 51 = .ok (.if_icmp .eq 5, 3) := by decide +kernel
theorem dX3_kind_54 : decode cX3_kind 54 = .ok (.iconst 3, 1) := by decide +kernel
theorem dX3_kind_55 : decode cX3_kind 55 = .ok (.ireturn, 1) := by decide +kernel
theorem dX3_kind_56 : decode cX3_kind 56 = .ok (.aload_n 3, 1) := by decide +kernel
theorem dX3_kind_57 : decode cX3_kind 57 = .ok (.iload_n 1, 1) := by decide +kernel
theorem dX3_kind_58 : decode cX3_kind 58 = .ok (.invokevirtual 59, 3) := by decide +kernel
theorem dX3_kind_61 : decode cX3_kind 61 = .ok (.aload_n 2, 1) := by decide +kernel
theorem dX3_kind_62 : decode cX3_kind 62 = .ok (.iload 4, 2) := by decide +kernel
theorem dX3_kind_64 : decode cX3_kind 64 = .ok (.invokevirtual 59, 3) := by decide +kernel
theorem dX3_kind_67 : decode cX3_kind 67 = .ok (.if_icmp .ne 7, 3) := by decide +kernel
theorem dX3_kind_70 : decode cX3_kind 70 = .ok (.iconst 1, 1) := by decide +kernel
theorem dX3_kind_71 : decode cX3_kind 71 = .ok (.goto 4, 3) := by decide +kernel
theorem dX3_kind_74 : decode cX3_kind 74 = .ok (.iconst 2, 1) := by decide +kernel
theorem dX3_kind_75 : decode cX3_kind 75 = .ok (.ireturn, 1) := by decide +kernel
theorem dX3_later_0 : decode cX3_later 0 = .ok (.aload_n 0, 1) := by decide +kernel
theorem dX3_later_1 : decode cX3_later 1 = .ok (.iload_n 1, 1) := by decide +kernel
theorem dX3_later_2 : decode cX3_later 2 = .ok (.invokevirtual 55, 3) := by decide +kernel
theorem dX3_later_5 : decode cX3_later 5 = .ok (.istore 4, 2) := by decide +kernel
theorem dX3_later_7 : decode cX3_later 7 = .ok (.iload 4, 2) := by decide +kernel
theorem dX3_later_9 : decode cX3_later 9 = .ok (.iconst (-1), 1) := by decide +kernel
theorem dX3_later_10 : decode cX3_later 10 = .ok (.if_icmp .ne 7, 3) := by decide +kernel
theorem dX3_later_13 : decode cX3_later 13 = .ok (.iconst 0, 1) := by decide +kernel
theorem dX3_later_14 : decode cX3_later 14 = .ok (.goto 15, 3) := by decide +kernel
theorem dX3_later_17 : decode cX3_later 17 = .ok (.aload_n 3, 1) := by decide +kernel
theorem dX3_later_18 : decode cX3_later 18 = .ok (.iload_n 1, 1) := by decide +kernel
theorem dX3_later_19 : decode cX3_later 19 = .ok (.invokevirtual 59, 3) := by decide +kernel
theorem dX3_later_22 : decode cX3_later 22 = .ok (.aload_n 2, 1) := by decide +kernel
theorem dX3_later_23 : decode cX3_later 23 = .ok (.iload 4, 2) := by decide +kernel
theorem dX3_later_25 : decode cX3_later 25 = .ok (.invokevirtual 59, 3) := by decide +kernel
theorem dX3_later_28 : decode cX3_later 28 = .ok (.isub, 1) := by decide +kernel
theorem dX3_later_29 : decode cX3_later 29 = .ok (.ireturn, 1) := by decide +kernel
theorem dX4_init_0 : decode cX4_init 0 = .ok (.aload_n 0, 1) := by decide +kernel
theorem dX4_init_1 : decode cX4_init 1 = .ok (.invokespecial 3, 3) := by decide +kernel
theorem dX4_init_4 : decode cX4_init 4 = .ok (.aload_n 0, 1) := by decide +kernel
theorem dX4_init_5 : decode cX4_init 5 = .ok (.bipush 60, 2) := by decide +kernel
theorem dX4_init_7 : decode cX4_init 7 = .ok (.newarray .int, 2) := by decide +kernel
theorem dX4_init_9 : decode cX4_init 9 = .ok (.putfield 9, 3) := by decide +kernel
theorem dX4_init_12 : decode cX4_init 12 = .ok (.aload_n 0, 1) := by decide +kernel
theorem dX4_init_13 : decode cX4_init 13 = .ok (.iconst 1, 1) := by decide +kernel
theorem dX4_init_14 : decode cX4_init 14 = .ok (.putfield 15, 3) := by decide +kernel
theorem dX4_init_17 : decode cX4_init 17 = .ok (.return_, 1) := by decide +kernel
theorem dX4_begin_0 : decode cX4_begin 0 = .ok (.aload_n 0, 1) := by decide +kernel
theorem dX4_begin_1 : decode cX4_begin 1 = .ok (.iconst 0, 1) := by decide +kernel
theorem dX4_begin_2 : decode cX4_begin 2 = .ok (.putfield 15, 3) := by decide +kernel
theorem dX4_begin_5 : decode cX4_begin 5 = .ok (.aload_n 0, 1) := by decide +kernel
theorem dX4_begin_6 : decode cX4_begin 6 = .ok (.iload_n 1, 1) := by decide +kernel
theorem dX4_begin_7 : decode cX4_begin 7 = .ok (.putfield 19, 3) := by decide +kernel
theorem dX4_begin_10 : decode cX4_begin 10 = .ok (.aload_n 0, 1) := by decide +kernel
theorem dX4_begin_11 : decode cX4_begin 11 = .ok (.iload_n 2, 1) := by decide +kernel
theorem dX4_begin_12 : decode cX4_begin 12 = .ok (.putfield 23, 3) := by decide +kernel
theorem dX4_begin_15 : decode cX4_begin 15 = .ok (.aload_n 0, 1) := by decide +kernel
theorem dX4_begin_16 : decode cX4_begin 16 = .ok (.getfield 9, 3) := by decide +kernel
theorem dX4_begin_19 : decode cX4_begin 19 = .ok (.iconst 0, 1) := by decide +kernel
theorem dX4_begin_20 : decode cX4_begin 20 = .ok (.invokestatic 26, 3) := by decide +kernel
theorem dX4_begin_23 : decode cX4_begin 23 = .ok (.return_, 1) := by decide +kernel
theorem dX4_fault_0 : decode cX4_fault 0 = .ok (.aload_n 0, 1) := by decide +kernel
theorem dX4_fault_1 : decode cX4_fault 1 = .ok (.getfield 15, 3) := by decide +kernel
theorem dX4_fault_4 : decode cX4_fault 4 = .ok (.ifCond .eq 5, 3) := by decide +kernel
theorem dX4_fault_7 : decode cX4_fault 7 = .ok (.iconst 1, 1) := by decide +kernel
theorem dX4_fault_8 : decode cX4_fault 8 = .ok (.ireturn, 1) := by decide +kernel
theorem dX4_fault_9 : decode cX4_fault 9 = .ok (.aload_n 0, 1) := by decide +kernel
theorem dX4_fault_10 : decode cX4_fault 10 = .ok (.getfield 19, 3) := by decide +kernel
theorem dX4_fault_13 : decode cX4_fault 13 = .ok (.iload_n 1, 1) := by decide +kernel
theorem dX4_fault_14 : decode cX4_fault 14 = .ok (.if_icmp .eq 5, 3) := by decide +kernel
theorem dX4_fault_17 : decode cX4_fault 17 = .ok (.iconst 3, 1) := by decide +kernel
theorem dX4_fault_18 : decode cX4_fault 18 = .ok (.ireturn, 1) := by decide +kernel
theorem dX4_fault_19 : decode cX4_fault 19 = .ok (.iload_n 2, 1) := by decide +kernel
theorem dX4_fault_20 : decode cX4_fault 20 = .ok (.aload_n 0, 1) := by decide +kernel
theorem dX4_fault_21 : decode cX4_fault 21 = .ok (.getfield 23, 3) := by decide +kernel
theorem dX4_fault_24 : decode cX4_fault 24 = .ok (.invokestatic 32, 3) := by decide +kernel
theorem dX4_fault_27 : decode cX4_fault 27 = .ok (.ifCond .eq 7, 3) := by decide +kernel
theorem dX4_fault_30 : decode cX4_fault 30 = .ok (.iconst 0, 1) := by decide +kernel
theorem dX4_fault_31 : decode cX4_fault 31 = .ok (.goto 4, 3) := by decide +kernel
theorem dX4_fault_34 : decode cX4_fault 34 = .ok (.iconst 2, 1) := by decide +kernel
theorem dX4_fault_35 : decode cX4_fault 35 = .ok (.ireturn, 1) := by decide +kernel
theorem dX4_hasItems_0 : decode cX4_hasItems 0 = .ok (.iload_n 1, 1) := by decide +kernel
theorem dX4_hasItems_1 : decode cX4_hasItems 1 = .ok (.ifCond .lt 29, 3) := by decide +kernel
theorem dX4_hasItems_4 : decode cX4_hasItems 4 = .ok (.iload_n 2, 1) := by decide +kernel
theorem dX4_hasItems_5 : decode cX4_hasItems 5 = .ok (.ifCond .lt 25, 3) := by decide +kernel
theorem dX4_hasItems_8 : decode cX4_hasItems 8 = .ok (.iload_n 1, 1) := by decide +kernel
theorem dX4_hasItems_9 : decode cX4_hasItems 9 = .ok (.aload_n 0, 1) := by decide +kernel
theorem dX4_hasItems_10 : decode cX4_hasItems 10 = .ok (.getfield 23, 3) := by decide +kernel
theorem dX4_hasItems_13 : decode cX4_hasItems 13 = .ok (.if_icmp .gt 17, 3) := by decide +kernel
theorem dX4_hasItems_16 : decode cX4_hasItems 16 = .ok (.iload_n 2, 1) := by decide +kernel
theorem dX4_hasItems_17 : decode cX4_hasItems 17 = .ok (.aload_n 0, 1) := by decide +kernel
theorem dX4_hasItems_18 : decode cX4_hasItems 18 = .ok (.getfield 23, 3) := by decide +kernel
theorem dX4_hasItems_21 : decode cX4_hasItems 21 = .ok (.iload_n 1, 1) := by decide +kernel
theorem dX4_hasItems_22 : decode cX4_hasItems 22 = .ok (.isub, 1) := by decide +kernel
theorem dX4_hasItems_23 : decode cX4_hasItems 23 = .ok (.if_icmp .gt 7, 3) := by decide +kernel
theorem dX4_hasItems_26 : decode cX4_hasItems 26 = .ok (.iconst 1, 1) := by decide +kernel
theorem dX4_hasItems_27 : decode cX4_hasItems 27 = .ok (.goto 4, 3) := by decide +kernel
theorem dX4_hasItems_30 : decode cX4_hasItems 30 = .ok (.iconst 0, 1) := by decide +kernel
theorem dX4_hasItems_31 : decode cX4_hasItems 31 = .ok (.ireturn, 1) := by decide +kernel
theorem dX4_item_0 : decode cX4_item 0 = .ok (.iload_n 1, 1) := by decide +kernel
theorem dX4_item_1 : decode cX4_item 1 = .ok (.aload_n 0, 1) := by decide +kernel
theorem dX4_item_2 : decode cX4_item 2 = .ok (.getfield 23, 3) := by decide +kernel
theorem dX4_item_5 : decode cX4_item 5 = .ok (.invokestatic 32, 3) := by decide +kernel
theorem dX4_item_8 : decode cX4_item 8 = .ok (.ifCond .eq 12, 3) := by decide +kernel
theorem dX4_item_11 : decode cX4_item 11 = .ok (.aload_n 0, 1) := by decide +kernel
theorem dX4_item_12 : decode cX4_item 12 = .ok (.getfield 9, 3) := by decide +kernel
theorem dX4_item_15 : decode cX4_item 15 = .ok (.iload_n 1, 1) := by decide +kernel
theorem dX4_item_16 : decode cX4_item 16 = .ok (.iaload, 1) := by decide +kernel
theorem dX4_item_17 : decode cX4_item 17 = .ok (.goto 4, 3) := by decide +kernel
theorem dX4_item_20 : decode cX4_item 20 = .ok (.iconst 0, 1) := by decide +kernel
theorem dX4_item_21 : decode cX4_item 21 = .ok (.ireturn, 1) := by decide +kernel
theorem dX4_store_0 : decode cX4_store 0 = .ok (.iload_n 1, 1) := by decide +kernel
theorem dX4_store_1 : decode cX4_store 1 = .ok (.aload_n 0, 1) := by decide +kernel
theorem dX4_store_2 : decode cX4_store 2 = .ok (.getfield 23, 3) := by decide +kernel
theorem dX4_store_5 : decode cX4_store 5 = .ok (.invokestatic 32, 3) := by decide +kernel
theorem dX4_store_8 : decode cX4_store 8 = .ok (.ifCond .eq 35, 3) := by decide +kernel
theorem dX4_store_11 : decode cX4_store 11 = .ok (.aload_n 0, 1) := by decide +kernel
theorem dX4_store_12 : decode cX4_store 12 = .ok (.getfield 9, 3) := by decide +kernel
theorem dX4_store_15 : decode cX4_store 15 = .ok (.iload_n 1, 1) := by decide +kernel
theorem dX4_store_16 : decode cX4_store 16 = .ok (.aload_n 0, 1) := by decide +kernel
theorem dX4_store_17 : decode cX4_store 17 = .ok (.getfield 19, 3) := by decide +kernel
theorem dX4_store_20 : decode cX4_store 20 = .ok (.ifCond .ne 8, 3) := by decide +kernel
theorem dX4_store_23 : decode cX4_store 23 = .ok (.iload_n 2, 1) := by decide +kernel
theorem dX4_store_24 : decode cX4_store 24 = .ok (.i2b, 1) := by decide +kernel
theorem dX4_store_25 : decode cX4_store 25 = .ok (.goto 17, 3) := by decide +kernel
theorem dX4_store_28 : decode cX4_store 28 = .ok (.aload_n 0, 1) := by decide +kernel
theorem dX4_store_29 : decode cX4_store 29 = .ok (.getfield 19, 3) := by decide +kernel
theorem dX4_store_32 : decode cX4_store 32 = .ok (.iconst 1, 1) := by decide +kernel
theorem dX4_store_33 : decode cX4_store 33 = .ok (.if_icmp .ne 8, 3) := by decide +kernel
theorem dX4_store_36 : decode cX4_store 36 = .ok (.iload_n 2, 1) := by decide +kernel
theorem dX4_store_37 : decode cX4_store 37 = .ok (.i2s, 1) := by decide +kernel
theorem dX4_store_38 : decode cX4_store 38 = .ok (.goto 4, 3) := by decide +kernel
theorem dX4_store_41 : decode cX4_store 41 = .ok (.iload_n 2, 1) := by decide +kernel
theorem dX4_store_42 : decode cX4_store 42 = .ok (.iastore, 1) := by decide +kernel
theorem dX4_store_43 : decode cX4_store 43 = .ok (.return_, 1) := by decide +kernel
theorem dX5_init_0 : decode cX5_init 0 = .ok (.aload_n 0, 1) := by decide +kernel
theorem dX5_init_1 : decode cX5_init 1 = .ok (.invokespecial 3, 3) := by decide +kernel
theorem dX5_init_4 : decode cX5_init 4 = .ok (.aload_n 0, 1) := by decide +kernel
theorem dX5_init_5 : decode cX5_init 5 = .ok (.iload_n 1, 1) := by decide +kernel
theorem dX5_init_6 : decode cX5_init 6 = .ok (.newarray .int, 2) := by decide +kernel
theorem dX5_init_8 : decode cX5_init 8 = .ok (.putfield 9, 3) := by decide +kernel
theorem dX5_init_11 : decode cX5_init 11 = .ok (.aload_n 0, 1) := by decide +kernel
theorem dX5_init_12 : decode cX5_init 12 = .ok (.iload_n 1, 1) := by decide +kernel
theorem dX5_init_13 : decode cX5_init 13 = .ok (.newarray .int, 2) := by decide +kernel
theorem dX5_init_15 : decode cX5_init 15 = .ok (.putfield 15, 3) := by decide +kernel
theorem dX5_init_18 : decode cX5_init 18 = .ok (.aload_n 0, 1) := by decide +kernel
theorem dX5_init_19 : decode cX5_init 19 = .ok (.iload_n 1, 1) := by decide +kernel
theorem dX5_init_20 : decode cX5_init 20 = .ok (.newarray .int, 2) := by decide +kernel
theorem dX5_init_22 : decode cX5_init 22 = .ok (.putfield 18, 3) := by decide +kernel
theorem dX5_init_25 : decode cX5_init 25 = .ok (.aload_n 0, 1) := by decide +kernel
theorem dX5_init_26 : decode cX5_init 26 = .ok (.iload_n 1, 1) := by decide +kernel
theorem dX5_init_27 : decode cX5_init 27 = .ok (.newarray .int, 2) := by decide +kernel
theorem dX5_init_29 : decode cX5_init 29 = .ok (.putfield 21, 3) := by decide +kernel
theorem dX5_init_32 : decode cX5_init 32 = .ok (.return_, 1) := by decide +kernel
theorem dX5_isFull_0 : decode cX5_isFull 0 = .ok (.aload_n 0, 1) := by decide +kernel
theorem dX5_isFull_1 : decode cX5_isFull 1 = .ok (.getfield 24, 3) := by decide +kernel
theorem dX5_isFull_4 : decode cX5_isFull 4 = .ok (.aload_n 0, 1) := by decide +kernel
theorem dX5_isFull_5 : decode cX5_isFull 5 = .ok (.getfield 9, 3) := by decide +kernel
theorem dX5_isFull_8 : decode cX5_isFull 8 = .ok (.arraylength, 1) := by decide +kernel
theorem dX5_isFull_9 : decode cX5_isFull 9 = .ok (.if_icmp .lt 7, 3) := by decide +kernel
theorem dX5_isFull_12 : decode cX5_isFull 12 = .ok (.iconst 1, 1) := by decide +kernel
theorem dX5_isFull_13 : decode cX5_isFull 13 = .ok (.goto 4, 3) := by decide +kernel
theorem dX5_isFull_16 : decode cX5_isFull 16 = .ok (.iconst 0, 1) := by decide +kernel
theorem dX5_isFull_17 : decode cX5_isFull 17 = .ok (.ireturn, 1) := by decide +kernel
theorem dX5_insert_0 : decode cX5_insert 0 = .ok (.aload_n 0, 1) := by decide +kernel
theorem dX5_insert_1 : decode cX5_insert 1 = .ok (.invokevirtual 28, 3) := by decide +kernel
theorem dX5_insert_4 : decode cX5_insert 4 = .ok (.ifCond .eq 4, 3) := by decide +kernel
theorem dX5_insert_7 : decode cX5_insert 7 = .ok (.return_, 1) := by decide +kernel
theorem dX5_insert_8 : decode cX5_insert 8 = .ok (.aload_n 0, 1) := by decide +kernel
theorem dX5_insert_9 : decode cX5_insert 9 = .ok (.getfield 24, 3) := by decide +kernel
theorem dX5_insert_12 : decode cX5_insert 12 = .ok (.istore 5, 2) := by decide +kernel
theorem dX5_insert_14 : decode cX5_insert 14 = .ok (.iload 5, 2) := by decide +kernel
theorem dX5_insert_16 : decode cX5_insert 16 = .ok (.ifCond .le 32, 3) := by decide +kernel
theorem dX5_insert_19 : decode cX5_insert 19 = .ok (.aload_n 0, 1) := by decide +kernel
theorem dX5_insert_20 : decode cX5_insert 20 = .ok (.iload 5, 2) := by decide +kernel
theorem dX5_insert_22 : decode cX5_insert 22 = .ok (.iconst 1, 1) := by decide +kernel
theorem dX5_insert_23 : decode cX5_insert 23 = .ok (.isub, 1) := by decide +kernel
theorem dX5_insert_24 : decode cX5_insert 24 = .ok (.iload_n 1, 1) := by decide +kernel
theorem dX5_insert_25 : decode cX5_insert 25 = .ok (.iload_n 2, 1) := by decide +kernel
theorem dX5_insert_26 : decode cX5_insert 26 = .ok (.invokevirtual 32, 3) := by decide +kernel
theorem dX5_insert_29 : decode cX5_insert 29 = .ok (.ifCond .eq 19, 3) := by decide +kernel
theorem dX5_insert_32 : decode cX5_insert 32 = .ok (.aload_n 0, 1) := by decide +kernel
theorem dX5_insert_33 : decode cX5_insert 33 = .ok (.iload 5, 2) := by decide +kernel
theorem dX5_insert_35 : decode cX5_insert 35 = .ok (.iconst 1, 1) := by decide +kernel
theorem dX5_insert_36 : decode cX5_insert 36 = .ok (.isub, 1) := by decide +kernel
theorem dX5_insert_37 : decode cX5_insert 37 = .ok (.iload 5, 2) := by decide +kernel
theorem dX5_insert_39 : decode cX5_insert 39 = .ok (.invokevirtual 36, 3) := by decide +kernel
theorem dX5_insert_42 : decode cX5_insert 42 = .ok (.iinc 5 (-1), 3) := by decide +kernel
theorem dX5_insert_45 : decode cX5_insert 45 = .ok (.goto (-31), 3) := by decide +kernel
theorem dX5_insert_48 : decode cX5_insert 48 = .ok (.aload_n 0, 1) := by decide +kernel
theorem dX5_insert_49 : decode cX5_insert 49 = .ok (.iload 5, 2) := by decide +kernel
theorem dX5_insert_51 : decode cX5_insert 51 = .ok (.iload_n 1, 1) := by decide +kernel
theorem dX5_insert_52 : decode cX5_insert 52 = .ok (.iload_n 2, 1) := by decide +kernel
theorem dX5_insert_53 : decode cX5_insert 53 = .ok (.iload_n 3, 1) := by decide +kernel
theorem dX5_insert_54 : decode cX5_insert 54 = .ok (.iload 4, 2) := by decide +kernel
theorem dX5_insert_56 : decode cX5_insert 56 = .ok (.invokevirtual 40, 3) := by decide +kernel
theorem dX5_insert_59 : decode cX5_insert 59 = .ok (.aload_n 0, 1) := by decide +kernel
theorem dX5_insert_60 : decode cX5_insert 60 = .ok (.dup, 1) := by decide +kernel
theorem dX5_insert_61 : decode cX5_insert 61 = .ok (.getfield 24, 3) := by decide +kernel
theorem dX5_insert_64 : decode cX5_insert 64 = .ok (.iconst 1, 1) := by decide +kernel
theorem dX5_insert_65 : decode cX5_insert 65 = .ok (.iadd, 1) := by decide +kernel
theorem dX5_insert_66 : decode cX5_insert 66 = .ok (.putfield 24, 3) := by decide +kernel
theorem dX5_insert_69 : decode cX5_insert 69 = .ok (.return_, 1) := by decide +kernel
theorem dX5_append_0 : decode cX5_append 0 = .ok (.iload_n 2, 1) := by decide +kernel
theorem dX5_append_1 : decode cX5_append 1 = .ok (.iload_n 3, 1) := by decide +kernel
theorem dX5_append_2 : decode cX5_append 2 = .ok (.if_icmp .gt 32, 3) := by decide +kernel
theorem dX5_append_5 : decode cX5_append 5 = .ok (.aload_n 0, 1) := by decide +kernel
theorem dX5_append_6 : decode cX5_append 6 = .ok (.invokevirtual 28, 3) := by decide +kernel
theorem dX5_append_9 : decode cX5_append 9 = .ok (.ifCond .ne 25, 3) := by decide +kernel
theorem dX5_append_12 : decode cX5_append 12 = .ok (.aload_n 0, 1) := by decide +kernel
theorem dX5_append_13 : decode cX5_append 13 = .ok (.aload_n 0, 1) := by decide +kernel
theorem dX5_append_14 : decode cX5_append 14 = .ok (.getfield 24, 3) := by decide +kernel
theorem dX5_append_17 : decode cX5_append 17 = .ok (.iload_n 1, 1) := by decide +kernel
theorem dX5_append_18 : decode cX5_append 18 = .ok (.iload_n 2, 1) := by decide +kernel
theorem dX5_append_19 : decode cX5_append 19 = .ok (.iload_n 3, 1) := by decide +kernel
theorem dX5_append_20 : decode cX5_append 20 = .ok (.iconst 0, 1) := by decide +kernel
theorem dX5_append_21 : decode cX5_append 21 = .ok (.invokevirtual 40, 3) := by decide +kernel
theorem dX5_append_24 : decode cX5_append 24 = .ok (.aload_n 0, 1) := by decide +kernel
theorem dX5_append_25 : decode cX5_append 25 = .ok (.dup, 1) := by decide +kernel
theorem dX5_append_26 : decode cX5_append 26 = .ok (.getfield 24, 3) := by decide +kernel
theorem dX5_append_29 : decode cX5_append 29 = .ok (.iconst 1, 1) := by decide +kernel
theorem dX5_append_30 : decode cX5_append 30 = .ok (.iadd, 1) := by decide +kernel
theorem dX5_append_31 : decode cX5_append 31 = .ok (.putfield 24, 3) := by decide +kernel
theorem dX5_append_34 : decode cX5_append 34 = .ok (.return_, 1) := by decide +kernel
theorem dX5_isBehind_0 : decode cX5_isBehind 0 = .ok (.aload_n 0, 1) := by decide +kernel
theorem dX5_isBehind_1 : decode cX5_isBehind 1 = .ok (.getfield 9, 3) := by decide +kernel
theorem dX5_isBehind_4 : decode cX5_isBehind 4 = .ok (.iload_n 1, 1) := by decide +kernel
theorem dX5_isBehind_5 : decode cX5_isBehind 5 = .ok (.iaload, 1) := by decide +kernel
theorem dX5_isBehind_6 : decode cX5_isBehind 6 = .ok (.iload_n 2, 1) := by decide +kernel
theorem dX5_isBehind_7 : decode cX5_isBehind 7 = .ok (.if_icmp .gt 23, 3) := by decide +kernel
theorem dX5_isBehind_10 : decode cX5_isBehind 10 = .ok (.aload_n 0, 1) := by decide +kernel
theorem dX5_isBehind_11 : decode cX5_isBehind 11 = .ok (.getfield 9, 3) := by decide +kernel
theorem dX5_isBehind_14 : decode cX5_isBehind 14 = .ok (.iload_n 1, 1) := by decide +kernel
theorem dX5_isBehind_15 : decode cX5_isBehind 15 = .ok (.iaload, 1) := by decide +kernel
theorem dX5_isBehind_16 : decode cX5_isBehind 16 = .ok (.iload_n 2, 1) := by decide +kernel
theorem dX5_isBehind_17 : decode cX5_isBehind 17 = .ok (.if_icmp .ne 17, 3) := by decide +kernel
theorem dX5_isBehind_20 : decode cX5_isBehind 20 = .ok (.aload_n 0, 1) := by decide +kernel
theorem dX5_isBehind_21 : decode cX5_isBehind 21 = .ok (.getfield 15, 3) := by decide +kernel
theorem dX5_isBehind_24 : decode cX5_isBehind 24 = .ok (.iload_n 1, 1) := by decide +kernel
theorem dX5_isBehind_25 : decode cX5_isBehind 25 = .ok (.iaload, 1) := by decide +kernel
theorem dX5_isBehind_26 : decode cX5_isBehind 26 = .ok (.iload_n 3, 1) := by decide +kernel
theorem dX5_isBehind_27 : decode cX5_isBehind 27 = .ok (.if_icmp .le 7, 3) := by decide +kernel
theorem dX5_isBehind_30 : decode cX5_isBehind 30 = .ok (.iconst 1, 1) := by decide +kernel
theorem dX5_isBehind_31 : decode cX5_isBehind 31 = .ok (.goto 4, 3) := by decide +kernel
theorem dX5_isBehind_34 : decode cX5_isBehind 34 = .ok (.iconst 0, 1) := by decide +kernel
theorem dX5_isBehind_35 : decode cX5_isBehind 35 = .ok (.ireturn, 1) := by decide +kernel
theorem dX5_move_0 : decode cX5_move 0 = .ok (.aload_n 0, 1) := by decide +kernel
theorem dX5_move_1 : decode cX5_move 1 = .ok (.getfield 9, 3) := by decide +kernel
theorem dX5_move_4 : decode cX5_move 4 = .ok (.iload_n 2, 1) := by decide +kernel
theorem dX5_move_5 : decode cX5_move 5 = .ok (.aload_n 0, 1) := by decide +kernel
theorem dX5_move_6 : decode cX5_move 6 = .ok (.getfield 9, 3) := by decide +kernel
theorem dX5_move_9 : decode cX5_move 9 = .ok (.iload_n 1, 1) := by decide +kernel
theorem dX5_move_10 : decode cX5_move 10 = .ok (.iaload, 1) := by decide +kernel
theorem dX5_move_11 : decode cX5_move 11 = .ok (.iastore, 1) := by decide +kernel
theorem dX5_move_12 : decode cX5_move 12 = .ok (.aload_n 0, 1) := by decide +kernel
theorem dX5_move_13 : decode cX5_move 13 = .ok (.getfield 15, 3) := by decide +kernel
theorem dX5_move_16 : decode cX5_move 16 = .ok (.iload_n 2, 1) := by decide +kernel
theorem dX5_move_17 : decode cX5_move 17 = .ok (.aload_n 0, 1) := by decide +kernel
theorem dX5_move_18 : decode cX5_move 18 = .ok (.getfield 15, 3) := by decide +kernel
theorem dX5_move_21 : decode cX5_move 21 = .ok (.iload_n 1, 1) := by decide +kernel
theorem dX5_move_22 : decode cX5_move 22 = .ok (.iaload, 1) := by decide +kernel
theorem dX5_move_23 : decode cX5_move 23 = .ok (.iastore, 1) := by decide +kernel
theorem dX5_move_24 : decode cX5_move 24 = .ok (.aload_n 0, 1) := by decide +kernel
theorem dX5_move_25 : decode cX5_move 25 = .ok (.getfield 18, 3) := by decide +kernel
theorem dX5_move_28 : decode cX5_move 28 = .ok (.iload_n 2, 1) := by decide +kernel
theorem dX5_move_29 : decode cX5_move 29 = .ok (.aload_n 0, 1) := by decide +kernel
theorem dX5_move_30 : decode cX5_move 30 = .ok (.getfield 18, 3) := by decide +kernel
theorem dX5_move_33 : decode cX5_move 33 = .ok (.iload_n 1, 1) := by decide +kernel
theorem dX5_move_34 : decode cX5_move 34 = .ok (.iaload, 1) := by decide +kernel
theorem dX5_move_35 : decode cX5_move 35 = .ok (.iastore, 1) := by decide +kernel
theorem dX5_move_36 : decode cX5_move 36 = .ok (.aload_n 0, 1) := by decide +kernel
theorem dX5_move_37 : decode cX5_move 37 = .ok (.getfield 21, 3) := by decide +kernel
theorem dX5_move_40 : decode cX5_move 40 = .ok (.iload_n 2, 1) := by decide +kernel
theorem dX5_move_41 : decode cX5_move 41 = .ok (.aload_n 0, 1) := by decide +kernel
theorem dX5_move_42 : decode cX5_move 42 = .ok (.getfield 21, 3) := by decide +kernel
theorem dX5_move_45 : decode cX5_move 45 = .ok (.iload_n 1, 1) := by decide +kernel
theorem dX5_move_46 : decode cX5_move 46 = .ok (.iaload, 1) := by decide +kernel
theorem dX5_move_47 : decode cX5_move 47 = .ok (.iastore, 1) := by decide +kernel
theorem dX5_move_48 : decode cX5_move 48 = .ok (.return_, 1) := by decide +kernel
theorem dX5_fill_0 : decode cX5_fill 0 = .ok (.aload_n 0, 1) := by decide +kernel
theorem dX5_fill_1 : decode cX5_fill 1 = .ok (.getfield 9, 3) := by decide +kernel
theorem dX5_fill_4 : decode cX5_fill 4 = .ok (.iload_n 1, 1) := by decide +kernel
theorem dX5_fill_5 : decode cX5_fill 5 = .ok (.iload_n 2, 1) := by decide +kernel
theorem dX5_fill_6 : decode cX5_fill 6 = .ok (.iastore, 1) := by decide +kernel
theorem dX5_fill_7 : decode cX5_fill 7 = .ok (.aload_n 0, 1) := by decide +kernel
theorem dX5_fill_8 : decode cX5_fill 8 = .ok (.getfield 15, 3) := by decide +kernel
theorem dX5_fill_11 : decode cX5_fill 11 = .ok (.iload_n 1, 1) := by decide +kernel
theorem dX5_fill_12 : decode cX5_fill 12 = .ok (.iload_n 3, 1) := by decide +kernel
theorem dX5_fill_13 : decode cX5_fill 13 = .ok (.iastore, 1) := by decide +kernel
theorem dX5_fill_14 : decode cX5_fill 14 = .ok (.aload_n 0, 1) := by decide +kernel
theorem dX5_fill_15 : decode cX5_fill 15 = .ok (.getfield 18, 3) := by decide +kernel
theorem dX5_fill_18 : decode cX5_fill 18 = .ok (.iload_n 1, 1) := by decide +kernel
theorem dX5_fill_19 : decode cX5_fill 19 = .ok (.iload 4, 2) := by decide +kernel
theorem dX5_fill_21 : decode cX5_fill 21 = .ok (.iastore, 1) := by decide +kernel
theorem dX5_fill_22 : decode cX5_fill 22 = .ok (.aload_n 0, 1) := by decide +kernel
theorem dX5_fill_23 : decode cX5_fill 23 = .ok (.getfield 21, 3) := by decide +kernel
theorem dX5_fill_26 : decode cX5_fill 26 = .ok (.iload_n 1, 1) := by decide +kernel
theorem dX5_fill_27 : decode cX5_fill 27 = .ok (.iload 5, 2) := by decide +kernel
theorem dX5_fill_29 : decode cX5_fill 29 = .ok (.iastore, 1) := by decide +kernel
theorem dX5_fill_30 : decode cX5_fill 30 = .ok (.return_, 1) := by decide +kernel
theorem dX5_join_0 : decode cX5_join 0 = .ok (.iconst 0, 1) := by decide +kernel
theorem dX5_join_1 : decode cX5_join 1 = .ok (.istore_n 2, 1) := by decide +kernel
theorem dX5_join_2 : decode cX5_join 2 = .ok (.iconst 0, 1) := by decide +kernel
theorem dX5_join_3 : decode cX5_join 3 = .ok (.istore_n 3, 1) := by decide +kernel
theorem dX5_join_4 : decode cX5_join 4 = .ok (.iload_n 3, 1) := by decide +kernel
theorem dX5_join_5 : decode cX5_join 5 = .ok (.aload_n 0, 1) := by decide +kernel
theorem dX5_join_6 : decode cX5_join 6 = .ok (.getfield 24, 3) := by decide +kernel
theorem dX5_join_9 : decode cX5_join 9 = .ok (.if_icmp .ge 105, 3) := by decide +kernel
theorem dX5_join_12 : decode cX5_join 12 = .ok (.iload_n 2, 1) := by decide +kernel
theorem dX5_join_13 : decode cX5_join 13 = .ok (.ifCond .le 86, 3) := by decide +kernel
theorem dX5_join_16 : decode cX5_join 16 = .ok (.aload_n 0, 1) := by decide +kernel
theorem dX5_join_17 : decode cX5_join 17 = .ok (.getfield 9, 3) := by decide +kernel
theorem dX5_join_20 : decode cX5_join 20 = .ok (.iload_n 2, 1) := by decide +kernel
theorem dX5_join_21 : decode cX5_join 21 = .ok (.iconst 1, 1) := by decide +kernel
theorem dX5_join_22 : decode cX5_join 22 = .ok (.isub, 1) := by decide +kernel
theorem dX5_join_23 : decode cX5_join 23 = .ok (.iaload, 1) := by decide +kernel
theorem dX5_join_24 : decode cX5_join 24 = .ok (.aload_n 0, 1) := by decide +kernel
theorem dX5_join_25 : decode cX5_join 25 = .ok (.getfield 9, 3) := by decide +kernel
theorem dX5_join_28 : decode cX5_join 28 = .ok (.iload_n 3, 1) := by decide +kernel
theorem dX5_join_29 : decode cX5_join 29 = .ok (.iaload, 1) := by decide +kernel
theorem dX5_join_30 : decode cX5_join 30 = .ok (.if_icmp .ne 69, 3) := by decide +kernel
theorem dX5_join_33 : decode cX5_join 33 = .ok (.aload_n 0, 1) := by decide +kernel
theorem dX5_join_34 : decode cX5_join 34 = .ok (.getfield 15, 3) := by decide +kernel
theorem dX5_join_37 : decode cX5_join 37 = .ok (.iload_n 3, 1) := by decide +kernel
theorem dX5_join_38 : decode cX5_join 38 = .ok (.iaload, 1) := by decide +kernel
theorem dX5_join_39 : decode cX5_join 39 = .ok (.aload_n 0, 1) := by decide +kernel
theorem dX5_join_40 : decode cX5_join 40 = .ok (.getfield 18, 3) := by decide +kernel
theorem dX5_join_43 : decode cX5_join 43 = .ok (.iload_n 2, 1) := by decide +kernel
theorem dX5_join_44 : decode cX5_join 44 = .ok (.iconst 1, 1) := by decide +kernel
theorem dX5_join_45 : decode cX5_join 45 = .ok (.isub, 1) := by decide +kernel
theorem dX5_join_46 : decode cX5_join 46 = .ok (.iaload, 1) := by decide +kernel
theorem dX5_join_47 : decode cX5_join 47 = .ok (.isub, 1) := by decide +kernel
theorem dX5_join_48 : decode cX5_join 48 = .ok (.iconst 1, 1) := by decide +kernel
theorem dX5_join_49 : decode cX5_join 49 = .ok (.isub, 1) := by decide +kernel
theorem dX5_join_50 : decode cX5_join 50 = .ok (.iload_n 1, 1) := by decide +kernel
theorem dX5_join_51 : decode cX5_join 51 = .ok (.if_icmp .gt 48, 3) := by decide +kernel
theorem dX5_join_54 : decode cX5_join 54 = .ok (.aload_n 0, 1) := by decide +kernel
theorem dX5_join_55 : decode cX5_join 55 = .ok (.getfield 18, 3) := by decide +kernel
theorem dX5_join_58 : decode cX5_join 58 = .ok (.iload_n 2, 1) := by decide +kernel
theorem dX5_join_59 : decode cX5_join 59 = .ok (.iconst 1, 1) := by decide +kernel
theorem dX5_join_60 : decode cX5_join 60 = .ok (.isub, 1) := by decide +kernel
theorem dX5_join_61 : decode cX5_join 61 = .ok (.aload_n 0, 1) := by decide +kernel
theorem dX5_join_62 : decode cX5_join 62 = .ok (.getfield 18, 3) := by decide +kernel
theorem dX5_join_65 : decode cX5_join 65 = .ok (.iload_n 2, 1) := by decide +kernel
theorem dX5_join_66 : decode cX5_join 66 = .ok (.iconst 1, 1) := by decide +kernel
theorem dX5_join_67 : decode cX5_join 67 = .ok (.isub, 1) := by decide +kernel
theorem dX5_join_68 : decode cX5_join 68 = .ok (.iaload, 1) := by decide +kernel
theorem dX5_join_69 : decode cX5_join 69 = .ok (.aload_n 0, 1) := by decide +kernel
theorem dX5_join_70 : decode cX5_join 70 = .ok (.getfield 18, 3) := by decide +kernel
theorem dX5_join_73 : decode cX5_join 73 = .ok (.iload_n 3, 1) := by decide +kernel
theorem dX5_join_74 : decode cX5_join 74 = .ok (.iaload, 1) := by decide +kernel
theorem dX5_join_75 : decode cX5_join 75 = .ok (.invokestatic 44, 3) := by decide +kernel
theorem dX5_join_78 : decode cX5_join 78 = .ok (.iastore, 1) := by decide +kernel
theorem dX5_join_79 : decode cX5_join 79 = .ok (.aload_n 0, 1) := by decide +kernel
theorem dX5_join_80 : decode cX5_join 80 = .ok (.getfield 21, 3) := by decide +kernel
theorem dX5_join_83 : decode cX5_join 83 = .ok (.iload_n 2, 1) := by decide +kernel
theorem dX5_join_84 : decode cX5_join 84 = .ok (.iconst 1, 1) := by decide +kernel
theorem dX5_join_85 : decode cX5_join 85 = .ok (.isub, 1) := by decide +kernel
theorem dX5_join_86 : decode cX5_join 86 = .ok (.dup2, 1) := by decide +kernel
theorem dX5_join_87 : decode cX5_join 87 = .ok (.iaload, 1) := by decide +kernel
theorem dX5_join_88 : decode cX5_join 88 = .ok (.aload_n 0, 1) := by decide +kernel
theorem dX5_join_89 : decode cX5_join 89 = .ok (.getfield 21, 3) := by decide +kernel
theorem dX5_join_92 : decode cX5_join 92 = .ok (.iload_n 3, 1) := by decide +kernel
theorem dX5_join_93 : decode cX5_join 93 = .ok (.iaload, 1) := by decide +kernel
theorem dX5_join_94 : decode cX5_join 94 = .ok (.ior, 1) := by decide +kernel
theorem dX5_join_95 : decode cX5_join 95 = .ok (.iastore, 1) := by decide +kernel
theorem dX5_join_96 : decode cX5_join 96 = .ok (.goto 12, 3) := by decide +kernel
theorem dX5_join_99 : decode cX5_join 99 = .ok (.aload_n 0, 1) := by decide +kernel
theorem dX5_join_100 : decode cX5_join 100 = .ok (.iload_n 3, 1) := by decide +kernel
theorem dX5_join_101 : decode cX5_join 101 = .ok (.iload_n 2, 1) := by decide +kernel
theorem dX5_join_102 : decode cX5_join 102 = .ok (.invokevirtual 36, 3) := by decide +kernel
theorem dX5_join_105 : decode cX5_join 105 = .ok (.iinc 2 1, 3) := by decide +kernel
theorem dX5_join_108 : decode cX5_join 108 = .ok (.iinc 3 1, 3) := by decide +kernel
theorem dX5_join_111 : decode cX5_join 111 = .ok (.goto (-107), 3) := by decide +kernel
theorem dX5_join_114 : decode cX5_join 114 = .ok (.aload_n 0, 1) := by decide +kernel
theorem dX5_join_115 : decode cX5_join 115 = .ok (.iload_n 2, 1) := by decide +kernel
theorem dX5_join_116 : decode cX5_join 116 = .ok (.putfield 24, 3) := by decide +kernel
theorem dX5_join_119 : decode cX5_join 119 = .ok (.return_, 1) := by decide +kernel
theorem dX5_frames_0 : decode cX5_frames 0 = .ok (.iconst 0, 1) := by decide +kernel
theorem dX5_frames_1 : decode cX5_frames 1 = .ok (.istore_n 1, 1) := by decide +kernel
theorem dX5_frames_2 : decode cX5_frames 2 = .ok (.iconst 0, 1) := by decide +kernel
theorem dX5_frames_3 : decode cX5_frames 3 = .ok (.istore_n 2, 1) := by decide +kernel
theorem dX5_frames_4 : decode cX5_frames 4 = .ok (.iload_n 2, 1) := by decide +kernel
theorem dX5_frames_5 : decode cX5_frames 5 = .ok (.aload_n 0, 1) := by decide +kernel
theorem dX5_frames_6 : decode cX5_frames 6 = .ok (.getfield 24, 3) := by decide +kernel
theorem dX5_frames_9 : decode cX5_frames 9 = .ok (.if_icmp .ge 27, 3) := by decide +kernel
theorem dX5_frames_12 : decode cX5_frames 12 = .ok (.iload_n 1, 1) := by decide +kernel
theorem dX5_frames_13 : decode cX5_frames 13 = .ok (.aload_n 0, 1) := by decide +kernel
theorem dX5_frames_14 : decode cX5_frames 14 = .ok (.getfield 18, 3) := by decide +kernel
theorem dX5_frames_17 : decode cX5_frames 17 = .ok (.iload_n 2, 1) := by decide +kernel
theorem dX5_frames_18 : decode cX5_frames 18 = .ok (.iaload, 1) := by decide +kernel
theorem dX5_frames_19 : decode cX5_frames 19 = .ok (.aload_n 0, 1) := by decide +kernel
theorem dX5_frames_20 : decode cX5_frames 20 = .ok (.getfield 15, 3) := by decide +kernel
theorem dX5_frames_23 : decode cX5_frames 23 = .ok (.iload_n 2, 1) := by decide +kernel
theorem dX5_frames_24 : decode cX5_frames 24 = .ok (.iaload, 1) := by decide +kernel
theorem dX5_frames_25 : decode cX5_frames 25 = .ok (.isub, 1) := by decide +kernel
theorem dX5_frames_26 : decode cX5_frames 26 = .ok (.iconst 1, 1) := by decide +kernel
theorem dX5_frames_27 : decode cX5_frames 27 = .ok (.iadd, 1) := by decide +kernel
theorem dX5_frames_28 : decode cX5_frames 28 = .ok (.iadd, 1) := by decide +kernel
theorem dX5_frames_29 : decode cX5_frames 29 = .ok (.istore_n 1, 1) := by decide +kernel
theorem dX5_frames_30 : decode cX5_frames 30 = .ok (.iinc 2 1, 3) := by decide +kernel
theorem dX5_frames_33 : decode cX5_frames 33 = .ok (.goto (-29), 3) := by decide +kernel
theorem dX5_frames_36 : decode cX5_frames 36 = .ok (.iload_n 1, 1) := by decide +kernel
theorem dX5_frames_37 : decode cX5_frames 37 = .ok (.ireturn, 1) := by decide +kernel
theorem dX5_nth_0 : decode cX5_nth 0 = .ok (.iload_n 1, 1) := by decide +kernel
theorem dX5_nth_1 : decode cX5_nth 1 = .ok (.istore_n 2, 1) := by decide +kernel
theorem dX5_nth_2 : decode cX5_nth 2 = .ok (.iconst 0, 1) := by decide +kernel
theorem dX5_nth_3 : decode cX5_nth 3 = .ok (.istore_n 3, 1) := by decide +kernel
theorem dX5_nth_4 : decode cX5_nth 4 = .ok (.iload_n 3, 1) := by decide +kernel
theorem dX5_nth_5 : decode cX5_nth 5 = .ok (.aload_n 0, 1) := by decide +kernel
theorem dX5_nth_6 : decode cX5_nth 6 = .ok (.getfield 24, 3) := by decide +kernel
theorem dX5_nth_9 : decode cX5_nth 9 = .ok (.if_icmp .ge 56, 3) := by decide +kernel
theorem dX5_nth_12 : decode cX5_nth 12 = .ok (.aload_n 0, 1) := by decide +kernel
theorem dX5_nth_13 : decode cX5_nth 13 = .ok (.getfield 18, 3) := by decide +kernel
theorem dX5_nth_16 : decode cX5_nth 16 = .ok (.iload_n 3, 1) := by decide +kernel
theorem dX5_nth_17 : decode cX5_nth 17 = .ok (.iaload, 1) := by decide +kernel
theorem dX5_nth_18 : decode cX5_nth 18 = .ok (.aload_n 0, 1) := by decide +kernel
theorem dX5_nth_19 : decode cX5_nth 19 = .ok (.getfield 15, 3) := by decide +kernel
theorem dX5_nth_22 : decode cX5_nth 22 = .ok (.iload_n 3, 1) := by decide +kernel
theorem dX5_nth_23 : decode cX5_nth 23 = .ok (.iaload, 1) := by decide +kernel
theorem dX5_nth_24 : decode cX5_nth 24 = .ok (.isub, 1) := by decide +kernel
theorem dX5_nth_25 : decode cX5_nth 25 = .ok (.iconst 1, 1) := by decide +kernel
theorem dX5_nth_26 : decode cX5_nth 26 = .ok (.iadd, 1) := by decide +kernel
theorem dX5_nth_27 : decode cX5_nth 27 = .ok (.istore 4, 2) := by decide +kernel
theorem dX5_nth_29 : decode cX5_nth 29 = .ok (.iload_n 2, 1) := by decide +kernel
theorem dX5_nth_30 : decode cX5_nth 30 = .ok (.iload 4, 2) := by decide +kernel
theorem dX5_nth_32 : decode cX5_nth 32 = .ok (.if_icmp .ge 22, 3) := by decide +kernel
theorem dX5_nth_35 : decode cX5_nth 35 = .ok (.ldc 50, 2) := by decide +kernel
theorem dX5_nth_37 : decode cX5_nth 37 = .ok (.aload_n 0, 1) := by decide +kernel
theorem dX5_nth_38 : decode cX5_nth 38 = .ok (.getfield 9, 3) := by decide +kernel
theorem dX5_nth_41 : decode cX5_nth 41 = .ok (.iload_n 3, 1) := by decide +kernel
theorem dX5_nth_42 : decode cX5_nth 42 = .ok (.iaload, 1) := by decide +kernel
theorem dX5_nth_43 : decode cX5_nth 43 = .ok (.imul, 1) := by decide +kernel
theorem dX5_nth_44 : decode cX5_nth 44 = .ok (.aload_n 0, 1) := by decide +kernel
theorem dX5_nth_45 : decode cX5_nth 45 = .ok (.getfield 15, 3) := by decide +kernel
theorem dX5_nth_48 : decode cX5_nth 48 = .ok (.iload_n 3, 1) := by decide +kernel
theorem dX5_nth_49 : decode cX5_nth 49 = .ok (.iaload, 1) := by decide +kernel
theorem dX5_nth_50 : decode cX5_nth 50 = .ok (.iadd, 1) := by decide +kernel
theorem dX5_nth_51 : decode cX5_nth 51 = .ok (.iload_n 2, 1) := by decide +kernel
theorem dX5_nth_52 : decode cX5_nth 52 = .ok (.iadd, 1) := by decide +kernel
theorem dX5_nth_53 : decode cX5_nth 53 = .ok (.ireturn, 1) := by decide +kernel
theorem dX5_nth_54 : decode cX5_nth 54 = .ok (.iload_n 2, 1) := by decide +kernel
theorem dX5_nth_55 : decode cX5_nth 55 = .ok (.iload 4, 2) := by decide +kernel
theorem dX5_nth_57 : decode cX5_nth 57 = .ok (.isub, 1) := by decide +kernel
theorem dX5_nth_58 : decode cX5_nth 58 = .ok (.istore_n 2, 1) := by decide +kernel
theorem dX5_nth_59 : decode cX5_nth 59 = .ok (.iinc 3 1, 3) := by decide +kernel
theorem dX5_nth_62 : decode cX5_nth 62 = .ok (.goto (-58), 3) := by decide +kernel
theorem dX5_nth_65 : decode cX5_nth 65 = .ok (.iconst (-1), 1) := by decide +kernel
theorem dX5_nth_66 : decode cX5_nth 66 = .ok (.ireturn, 1) := by decide +kernel
theorem dJ9_max_7cf53_0 : decode cJ9_max_7cf53 0 = .ok (.iload_n 0, 1) := by decide +kernel
theorem dJ9_max_7cf53_1 : decode cJ9_max_7cf53 1 = .ok (.iload_n 1, 1) := by decide +kernel
theorem dJ9_max_7cf53_2 : decode cJ9_max_7cf53 2 = .ok (.if_icmp .lt 7, 3) := by decide +kernel
theorem dJ9_max_7cf53_5 : decode cJ9_max_7cf53 5 = .ok (.iload_n 0, 1) := by decide +kernel
theorem dJ9_max_7cf53_6 : decode cJ9_max_7cf53 6 = .ok (.goto 4, 3) := by decide +kernel
theorem dJ9_max_7cf53_9 : decode cJ9_max_7cf53 9 = .ok (.iload_n 1, 1) := by decide +kernel
theorem dJ9_max_7cf53_10 : decode cJ9_max_7cf53 10 = .ok (.ireturn, 1) := by decide +kernel
theorem dJ9_min_7cf53_0 : decode cJ9_min_7cf53 0 = .ok (.iload_n 0, 1) := by decide +kernel
theorem dJ9_min_7cf53_1 : decode cJ9_min_7cf53 1 = .ok (.iload_n 1, 1) := by decide +kernel
theorem dJ9_min_7cf53_2 : decode cJ9_min_7cf53 2 = .ok (.if_icmp .gt 7, 3) := by decide +kernel
theorem dJ9_min_7cf53_5 : decode cJ9_min_7cf53 5 = .ok (.iload_n 0, 1) := by decide +kernel
theorem dJ9_min_7cf53_6 : decode cJ9_min_7cf53 6 = .ok (.goto 4, 3) := by decide +kernel
theorem dJ9_min_7cf53_9 : decode cJ9_min_7cf53 9 = .ok (.iload_n 1, 1) := by decide +kernel
theorem dJ9_min_7cf53_10 : decode cJ9_min_7cf53 10 = .ok (.ireturn, 1) := by decide +kernel
theorem dJ7_fill_53178_0 : decode cJ7_fill_53178 0 = .ok (.iconst 0, 1) := by decide +kernel
theorem dJ7_fill_53178_1 : decode cJ7_fill_53178 1 = .ok (.istore_n 2, 1) := by decide +kernel
theorem dJ7_fill_53178_2 : decode cJ7_fill_53178 2 = .ok (.aload_n 0, 1) := by decide +kernel
theorem dJ7_fill_53178_3 : decode cJ7_fill_53178 3 = .ok (.arraylength, 1) := by decide +kernel
theorem dJ7_fill_53178_4 : decode cJ7_fill_53178 4 = .ok (.istore_n 3, 1) := by decide +kernel
theorem dJ7_fill_53178_5 : decode cJ7_fill_53178 5 = .ok (.iload_n 2, 1) := by decide +kernel
theorem dJ7_fill_53178_6 : decode cJ7_fill_53178 6 = .ok (.iload_n 3, 1) := by decide +kernel
theorem dJ7_fill_53178_7 : decode cJ7_fill_53178 7 = .ok (.if_icmp .ge 13, 3) := by decide +kernel
theorem dJ7_fill_53178_10 : decode cJ7_fill_53178 10 = .ok (.aload_n 0, 1) := by decide +kernel
theorem dJ7_fill_53178_11 : decode cJ7_fill_53178 11 = .ok (.iload_n 2, 1) := by decide +kernel
theorem dJ7_fill_53178_12 : decode cJ7_fill_53178 12 = .ok (.iload_n 1, 1) := by decide +kernel
theorem dJ7_fill_53178_13 : decode cJ7_fill_53178 13 = .ok (.iastore, 1) := by decide +kernel
theorem dJ7_fill_53178_14 : decode cJ7_fill_53178 14 = .ok (.iinc 2 1, 3) := by decide +kernel
theorem dJ7_fill_53178_17 : decode cJ7_fill_53178 17 = .ok (.goto (-12), 3) := by decide +kernel
theorem dJ7_fill_53178_20 : decode cJ7_fill_53178 20 = .ok (.return_, 1) := by decide +kernel
