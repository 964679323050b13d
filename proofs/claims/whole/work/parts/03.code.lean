theorem dX11_init_0 : decode cX11_init 0 = .ok (.aload_n 0, 1) := by decide +kernel
theorem dX11_init_1 : decode cX11_init 1 = .ok (.invokespecial 1, 3) := by decide +kernel
theorem dX11_init_4 : decode cX11_init 4 = .ok (.aload_n 0, 1) := by decide +kernel
theorem dX11_init_5 : decode cX11_init 5 = .ok (.sipush 362, 3) := by decide +kernel
theorem dX11_init_8 : decode cX11_init 8 = .ok (.newarray .int, 2) := by decide +kernel
theorem dX11_init_10 : decode cX11_init 10 = .ok (.putfield 7, 3) := by decide +kernel
theorem dX11_init_13 : decode cX11_init 13 = .ok (.aload_n 0, 1) := by decide +kernel
theorem dX11_init_14 : decode cX11_init 14 = .ok (.sipush 724, 3) := by decide +kernel
theorem dX11_init_17 : decode cX11_init 17 = .ok (.newarray .int, 2) := by decide +kernel
theorem dX11_init_19 : decode cX11_init 19 = .ok (.putfield 13, 3) := by decide +kernel
theorem dX11_init_22 : decode cX11_init 22 = .ok (.aload_n 0, 1) := by decide +kernel
theorem dX11_init_23 : decode cX11_init 23 = .ok (.iconst 2, 1) := by decide +kernel
theorem dX11_init_24 : decode cX11_init 24 = .ok (.newarray .boolean, 2) := by decide +kernel
theorem dX11_init_26 : decode cX11_init 26 = .ok (.putfield 16, 3) := by decide +kernel
theorem dX11_init_29 : decode cX11_init 29 = .ok (.aload_n 0, 1) := by decide +kernel
theorem dX11_init_30 : decode cX11_init 30 = .ok (.iconst 3, 1) := by decide +kernel
theorem dX11_init_31 : decode cX11_init 31 = .ok (.newarray .int, 2) := by decide +kernel
theorem dX11_init_33 : decode cX11_init 33 = .ok (.putfield 20, 3) := by decide +kernel
theorem dX11_init_36 : decode cX11_init 36 = .ok (.aload_n 0, 1) := by decide +kernel
theorem dX11_init_37 : decode cX11_init 37 = .ok (.lconst 1, 1) := by decide +kernel
theorem dX11_init_38 : decode cX11_init 38 = .ok (.putfield 23, 3) := by decide +kernel
theorem dX11_init_41 : decode cX11_init 41 = .ok (.aload_n 0, 1) := by decide +kernel
theorem dX11_init_42 : decode cX11_init 42 = .ok (.bipush 25, 2) := by decide +kernel
theorem dX11_init_44 : decode cX11_init 44 = .ok (.newarray .int, 2) := by decide +kernel
theorem dX11_init_46 : decode cX11_init 46 = .ok (.putfield 27, 3) := by decide +kernel
theorem dX11_init_49 : decode cX11_init 49 = .ok (.aload_n 0, 1) := by decide +kernel
theorem dX11_init_50 : decode cX11_init 50 = .ok (.bipush 25, 2) := by decide +kernel
theorem dX11_init_52 : decode cX11_init 52 = .ok (.newarray .int, 2) := by decide +kernel
theorem dX11_init_54 : decode cX11_init 54 = .ok (.putfield 30, 3) := by decide +kernel
theorem dX11_init_57 : decode cX11_init 57 = .ok (.aload_n 0, 1) := by decide +kernel
theorem dX11_init_58 : decode cX11_init 58 = .ok (.sipush 150, 3) := by decide +kernel
theorem dX11_init_61 : decode cX11_init 61 = .ok (.newarray .int, 2) := by decide +kernel
theorem dX11_init_63 : decode cX11_init 63 = .ok (.putfield 33, 3) := by decide +kernel
theorem dX11_init_66 : decode cX11_init 66 = .ok (.aload_n 0, 1) := by decide +kernel
theorem dX11_init_67 : decode cX11_init 67 = .ok (.sipush 154, 3) := by decide +kernel
theorem dX11_init_70 : decode cX11_init 70 = .ok (.newarray .int, 2) := by decide +kernel
theorem dX11_init_72 : decode cX11_init 72 = .ok (.putfield 36, 3) := by decide +kernel
theorem dX11_init_75 : decode cX11_init 75 = .ok (.aload_n 0, 1) := by decide +kernel
theorem dX11_init_76 : decode cX11_init 76 = .ok (.iconst 3, 1) := by decide +kernel
theorem dX11_init_77 : decode cX11_init 77 = .ok (.newarray .int, 2) := by decide +kernel
theorem dX11_init_79 : decode cX11_init 79 = .ok (.putfield 39, 3) := by decide +kernel
theorem dX11_init_82 : decode cX11_init 82 = .ok (.aload_n 0, 1) := by decide +kernel
theorem dX11_init_83 : decode cX11_init 83 = .ok (.getfield 7, 3) := by decide +kernel
theorem dX11_init_86 : decode cX11_init 86 = .ok (.iconst 0, 1) := by decide +kernel
theorem dX11_init_87 : decode cX11_init 87 = .ok (.invokestatic 42, 3) := by decide +kernel
theorem dX11_init_90 : decode cX11_init 90 = .ok (.return_, 1) := by decide +kernel
theorem dX11_in_0 : decode cX11_in 0 = .ok (.lload_n 0, 1) := by decide +kernel
theorem dX11_in_1 : decode cX11_in 1 = .ok (.lload_n 2, 1) := by decide +kernel
theorem dX11_in_2 : decode cX11_in 2 = .ok (.lcmp, 1) := by decide +kernel
theorem dX11_in_3 : decode cX11_in 3 = .ok (.ifCond .lt 14, 3) := by decide +kernel
theorem dX11_in_6 : decode cX11_in 6 = .ok (.lload_n 0, 1) := by decide +kernel
theorem dX11_in_7 : decode cX11_in 7 = .ok (.lload 4, 2) := by decide +kernel
theorem dX11_in_9 : decode cX11_in 9 = .ok (.lcmp, 1) := by decide +kernel
theorem dX11_in_10 : decode cX11_in 10 = .ok (.ifCond .gt 7, 3) := by decide +kernel
theorem dX11_in_13 : decode cX11_in 13 = .ok (.iconst 1, 1) := by decide +kernel
theorem dX11_in_14 : decode cX11_in 14 = .ok (.goto 4, 3) := by decide +kernel
theorem dX11_in_17 : decode cX11_in 17 = .ok (.iconst 0, 1) := by decide +kernel
theorem dX11_in_18 : decode cX11_in 18 = .ok (.ireturn, 1) := by decide +kernel
theorem dX11_bad_0 : decode cX11_bad 0 = .ok (.aload_n 0, 1) := by decide +kernel
theorem dX11_bad_1 : decode cX11_bad 1 = .ok (.getfield 20, 3) := by decide +kernel
theorem dX11_bad_4 : decode cX11_bad 4 = .ok (.iconst 0, 1) := by decide +kernel
theorem dX11_bad_5 : decode cX11_bad 5 = .ok (.dup2, 1) := by decide +kernel
theorem dX11_bad_6 : decode cX11_bad 6 = .ok (.iaload, 1) := by decide +kernel
theorem dX11_bad_7 : decode cX11_bad 7 = .ok (.iconst 1, 1) := by decide +kernel
theorem dX11_bad_8 : decode cX11_bad 8 = .ok (.iadd, 1) := by decide +kernel
theorem dX11_bad_9 : decode cX11_bad 9 = .ok (.iastore, 1) := by decide +kernel
theorem dX11_bad_10 : decode cX11_bad 10 = .ok (.iload_n 1, 1) := by decide +kernel
theorem dX11_bad_11 : decode cX11_bad 11 = .ok (.ireturn, 1) := by decide +kernel
theorem dX11_no_0 : decode cX11_no 0 = .ok (.aload_n 0, 1) := by decide +kernel
theorem dX11_no_1 : decode cX11_no 1 = .ok (.getfield 20, 3) := by decide +kernel
theorem dX11_no_4 : decode cX11_no 4 = .ok (.iconst 1, 1) := by decide +kernel
theorem dX11_no_5 : decode cX11_no 5 = .ok (.dup2, 1) := by decide +kernel
theorem dX11_no_6 : decode cX11_no 6 = .ok (.iaload, 1) := by decide +kernel
theorem dX11_no_7 : decode cX11_no 7 = .ok (.iconst 1, 1) := by decide +kernel
theorem dX11_no_8 : decode cX11_no 8 = .ok (.iadd, 1) := by decide +kernel
theorem dX11_no_9 : decode cX11_no 9 = .ok (.iastore, 1) := by decide +kernel
theorem dX11_no_10 : decode cX11_no 10 = .ok (.bipush (-3), 2) := by decide +kernel
theorem dX11_no_12 : decode cX11_no 12 = .ok (.ireturn, 1) := by decide +kernel
theorem dX11_full_0 : decode cX11_full 0 = .ok (.aload_n 0, 1) := by decide +kernel
theorem dX11_full_1 : decode cX11_full 1 = .ok (.getfield 20, 3) := by decide +kernel
theorem dX11_full_4 : decode cX11_full 4 = .ok (.iconst 2, 1) := by decide +kernel
theorem dX11_full_5 : decode cX11_full 5 = .ok (.dup2, 1) := by decide +kernel
theorem dX11_full_6 : decode cX11_full 6 = .ok (.iaload, 1) := by decide +kernel
theorem dX11_full_7 : decode cX11_full 7 = .ok (.iconst 1, 1) := by decide +kernel
theorem dX11_full_8 : decode cX11_full 8 = .ok (.iadd, 1) := by decide +kernel
theorem dX11_full_9 : decode cX11_full 9 = .ok (.iastore, 1) := by decide +kernel
theorem dX11_full_10 : decode cX11_full 10 = .ok (.bipush (-4), 2) := by decide +kernel
theorem dX11_full_12 : decode cX11_full 12 = .ok (.ireturn, 1) := by decide +kernel
theorem dX11_bits_0 : decode cX11_bits 0 = .ok (.iconst 0, 1) := by decide +kernel
theorem dX11_bits_1 : decode cX11_bits 1 = .ok (.istore_n 1, 1) := by decide +kernel
theorem dX11_bits_2 : decode cX11_bits 2 = .ok (.iload_n 0, 1) := by decide +kernel
theorem dX11_bits_3 : decode cX11_bits 3 = .ok (.istore_n 2, 1) := by decide +kernel
theorem dX11_bits_4 : decode cX11_bits 4 = .ok (.iload_n 2, 1) := by decide +kernel
theorem dX11_bits_5 : decode cX11_bits 5 = .ok (.ifCond .le 16, 3) := by decide +kernel
theorem dX11_bits_8 : decode cX11_bits 8 = .ok (.iload_n 1, 1) := by decide +kernel
theorem dX11_bits_9 : decode cX11_bits 9 = .ok (.iload_n 2, 1) := by decide +kernel
theorem dX11_bits_10 : decode cX11_bits 10 = .ok (.iconst 1, 1) := by decide +kernel
theorem dX11_bits_11 : decode cX11_bits 11 = .ok (.iand, 1) := by decide +kernel
theorem dX11_bits_12 : decode cX11_bits 12 = .ok (.iadd, 1) := by decide +kernel
theorem dX11_bits_13 : decode cX11_bits 13 = .ok (.istore_n 1, 1) := by decide +kernel
theorem dX11_bits_14 : decode cX11_bits 14 = .ok (.iload_n 2, 1) := by decide +kernel
theorem dX11_bits_15 : decode cX11_bits 15 = .ok (.iconst 1, 1) := by decide +kernel
theorem dX11_bits_16 : decode cX11_bits 16 = .ok (.ishr, 1) := by decide +kernel
theorem dX11_bits_17 : decode cX11_bits 17 = .ok (.istore_n 2, 1) := by decide +kernel
theorem dX11_bits_18 : decode cX11_bits 18 = .ok (.goto (-14), 3) := by decide +kernel
theorem dX11_bits_21 : decode cX11_bits 21 = .ok (.iload_n 1, 1) := by decide +kernel
theorem dX11_bits_22 : decode cX11_bits 22 = .ok (.ireturn, 1) := by decide +kernel
theorem dX11_has_0 : decode cX11_has 0 = .ok (.iload_n 0, 1) := by decide +kernel
theorem dX11_has_1 : decode cX11_has 1 = .ok (.iload_n 1, 1) := by decide +kernel
theorem dX11_has_2 : decode cX11_has 2 = .ok (.ishr, 1) := by decide +kernel
theorem dX11_has_3 : decode cX11_has 3 = .ok (.iconst 1, 1) := by decide +kernel
theorem dX11_has_4 : decode cX11_has 4 = .ok (.iand, 1) := by decide +kernel
theorem dX11_has_5 : decode cX11_has 5 = .ok (.iconst 1, 1) := by decide +kernel
theorem dX11_has_6 : decode cX11_has 6 = .ok (.if_icmp .ne 7, 3) := by decide +kernel
theorem dX11_has_9 : decode cX11_has 9 = .ok (.iconst 1, 1) := by decide +kernel
theorem dX11_has_10 : decode cX11_has 10 = .ok (.goto 4, 3) := by decide +kernel
theorem dX11_has_13 : decode cX11_has 13 = .ok (.iconst 0, 1) := by decide +kernel
theorem dX11_has_14 : decode cX11_has 14 = .ok (.ireturn, 1) := by decide +kernel
theorem dX11_begin_0 : decode cX11_begin 0 = .ok (.iconst 0, 1) := by decide +kernel
theorem dX11_begin_1 : decode cX11_begin 1 = .ok (.istore_n 2, 1) := by decide +kernel
theorem dX11_begin_2 : decode cX11_begin 2 = .ok (.iload_n 2, 1) := by decide +kernel
theorem dX11_begin_3 : decode cX11_begin 3 = .ok (.sipush 154, 3) := by decide +kernel
theorem dX11_begin_6 : decode cX11_begin 6 = .ok (.if_icmp .ge 13, 3) := by decide +kernel
theorem dX11_begin_9 : decode cX11_begin 9 = .ok (.aload_n 0, 1) := by decide +kernel
theorem dX11_begin_10 : decode cX11_begin 10 = .ok (.iload_n 2, 1) := by decide +kernel
theorem dX11_begin_11 : decode cX11_begin 11 = .ok (.iconst 0, 1) := by decide +kernel
theorem dX11_begin_12 : decode cX11_begin 12 = .ok (.iastore, 1) := by decide +kernel
theorem dX11_begin_13 : decode cX11_begin 13 = .ok (.iinc 2 1, 3) := by decide +kernel
theorem dX11_begin_16 : decode cX11_begin 16 = .ok (.goto (-14), 3) := by decide +kernel
theorem dX11_begin_19 : decode cX11_begin 19 = .ok (.iconst 0, 1) := by decide +kernel
theorem dX11_begin_20 : decode cX11_begin 20 = .ok (.istore_n 2, 1) := by decide +kernel
theorem dX11_begin_21 : decode cX11_begin 21 = .ok (.iload_n 2, 1) := by decide +kernel
theorem dX11_begin_22 : decode cX11_begin 22 = .ok (.bipush 25, 2) := by decide +kernel
theorem dX11_begin_24 : decode cX11_begin 24 = .ok (.if_icmp .ge 15, 3) := by decide +kernel
theorem dX11_begin_27 : decode cX11_begin 27 = .ok (.aload_n 0, 1) := by decide +kernel
theorem dX11_begin_28 : decode cX11_begin 28 = .ok (.iconst 4, 1) := by decide +kernel
theorem dX11_begin_29 : decode cX11_begin 29 = .ok (.iload_n 2, 1) := by decide +kernel
theorem dX11_begin_30 : decode cX11_begin 30 = .ok (.iadd, 1) := by decide +kernel
theorem dX11_begin_31 : decode cX11_begin 31 = .ok (.iload_n 1, 1) := by decide +kernel
theorem dX11_begin_32 : decode cX11_begin 32 = .ok (.iastore, 1) := by decide +kernel
theorem dX11_begin_33 : decode cX11_begin 33 = .ok (.iinc 2 1, 3) := by decide +kernel
theorem dX11_begin_36 : decode cX11_begin 36 = .ok (.goto (-15), 3) := by decide +kernel
theorem dX11_begin_39 : decode cX11_begin 39 = .ok (.return_, 1) := by decide +kernel
theorem dX11_many_0 : decode cX11_many 0 = .ok (.aload_n 0, 1) := by decide +kernel
theorem dX11_many_1 : decode cX11_many 1 = .ok (.getfield 7, 3) := by decide +kernel
theorem dX11_many_4 : decode cX11_many 4 = .ok (.iconst 0, 1) := by decide +kernel
theorem dX11_many_5 : decode cX11_many 5 = .ok (.iaload, 1) := by decide +kernel
theorem dX11_many_6 : decode cX11_many 6 = .ok (.ireturn, 1) := by decide +kernel
theorem dX11_isVoter_0 : decode cX11_isVoter 0 = .ok (.iload_n 1, 1) := by decide +kernel
theorem dX11_isVoter_1 : decode cX11_isVoter 1 = .ok (.i2l, 1) := by decide +kernel
theorem dX11_isVoter_2 : decode cX11_isVoter 2 = .ok (.lconst 0, 1) := by decide +kernel
theorem dX11_isVoter_3 : decode cX11_isVoter 3 = .ok (.aload_n 0, 1) := by decide +kernel
theorem dX11_isVoter_4 : decode cX11_isVoter 4 = .ok (.invokevirtual 46, 3) := by decide +kernel
theorem dX11_isVoter_7 : decode cX11_isVoter 7 = .ok (.iconst 1, 1) := by decide +kernel
theorem dX11_isVoter_8 : decode cX11_isVoter 8 = .ok (.isub, 1) := by decide +kernel
theorem dX11_isVoter_9 : decode cX11_isVoter 9 = .ok (.i2l, 1) := by decide +kernel
theorem dX11_isVoter_10 : decode cX11_isVoter 10 = .ok (.invokestatic 50, 3) := by decide +kernel
theorem dX11_isVoter_13 : decode cX11_isVoter 13 = .ok (.ireturn, 1) := by decide +kernel
theorem dX11_isCell_0 : decode cX11_isCell 0 = .ok (.iload_n 0, 1) := by decide +kernel
theorem dX11_isCell_1 : decode cX11_isCell 1 = .ok (.i2l, 1) := by decide +kernel
theorem dX11_isCell_2 : decode cX11_isCell 2 = .ok (.lconst 0, 1) := by decide +kernel
theorem dX11_isCell_3 : decode cX11_isCell 3 = .ok (.ldc2_w 54, 3) := by decide +kernel
theorem dX11_isCell_6 : decode cX11_isCell 6 = .ok (.invokestatic 50, 3) := by decide +kernel
theorem dX11_isCell_9 : decode cX11_isCell 9 = .ok (.ireturn, 1) := by decide +kernel
theorem dX11_isIce_0 : decode cX11_isIce 0 = .ok (.iload_n 0, 1) := by decide +kernel
theorem dX11_isIce_1 : decode cX11_isIce 1 = .ok (.i2l, 1) := by decide +kernel
theorem dX11_isIce_2 : decode cX11_isIce 2 = .ok (.lconst 0, 1) := by decide +kernel
theorem dX11_isIce_3 : decode cX11_isIce 3 = .ok (.ldc2_w 56, 3) := by decide +kernel
theorem dX11_isIce_6 : decode cX11_isIce 6 = .ok (.invokestatic 50, 3) := by decide +kernel
theorem dX11_isIce_9 : decode cX11_isIce 9 = .ok (.ireturn, 1) := by decide +kernel
theorem dX11_isWeather_0 : decode cX11_isWeather 0 = .ok (.iload_n 0, 1) := by decide +kernel
theorem dX11_isWeather_1 : decode cX11_isWeather 1 = .ok (.i2l, 1) := by decide +kernel
theorem dX11_isWeather_2 : decode cX11_isWeather 2 = .ok (.lconst 0, 1) := by decide +kernel
theorem dX11_isWeather_3 : decode cX11_isWeather 3 = .ok (.ldc2_w 58, 3) := by decide +kernel
theorem dX11_isWeather_6 : decode cX11_isWeather 6 = .ok (.invokestatic 50, 3) := by decide +kernel
theorem dX11_isWeather_9 : decode cX11_isWeather 9 = .ok (.ireturn, 1) := by decide +kernel
theorem dX11_isBurden_0 : decode cX11_isBurden 0 = .ok (.iload_n 0, 1) := by decide +kernel
theorem dX11_isBurden_1 : decode cX11_isBurden 1 = .ok (.i2l, 1) := by decide +kernel
theorem dX11_isBurden_2 : decode cX11_isBurden 2 = .ok (.lconst 1, 1) := by decide +kernel
theorem dX11_isBurden_3 : decode cX11_isBurden 3 = .ok (.ldc2_w 60, 3) := by decide +kernel
theorem dX11_isBurden_6 : decode cX11_isBurden 6 = .ok (.invokestatic 50, 3) := by decide +kernel
theorem dX11_isBurden_9 : decode cX11_isBurden 9 = .ok (.ireturn, 1) := by decide +kernel
theorem dX11_lake_0 : decode cX11_lake 0 = .ok (.iload_n 1, 1) := by decide +kernel
theorem dX11_lake_1 : decode cX11_lake 1 = .ok (.invokestatic 62, 3) := by decide +kernel
theorem dX11_lake_4 : decode cX11_lake 4 = .ok (.ifCond .ne 10, 3) := by decide +kernel
theorem dX11_lake_7 : decode cX11_lake 7 = .ok (.aload_n 0, 1) := by decide +kernel
theorem dX11_lake_8 : decode cX11_lake 8 = .ok (.bipush (-2), 2) := by decide +kernel
theorem dX11_lake_10 : decode cX11_lake 10 = .ok (.invokevirtual 66, 3) := by decide +kernel
theorem dX11_lake_13 : decode cX11_lake 13 = .ok (.ireturn, 1) := by decide +kernel
theorem dX11_lake_14 : decode cX11_lake 14 = .ok (.aload_n 0, 1) := by decide +kernel
theorem dX11_lake_15 : decode cX11_lake 15 = .ok (.invokevirtual 46, 3) := by decide +kernel
theorem dX11_lake_18 : decode cX11_lake 18 = .ok (.istore_n 2, 1) := by decide +kernel
theorem dX11_lake_19 : decode cX11_lake 19 = .ok (.aload_n 0, 1) := by decide +kernel
theorem dX11_lake_20 : decode cX11_lake 20 = .ok (.getfield 7, 3) := by decide +kernel
theorem dX11_lake_23 : decode cX11_lake 23 = .ok (.iload_n 1, 1) := by decide +kernel
theorem dX11_lake_24 : decode cX11_lake 24 = .ok (.invokestatic 42, 3) := by decide +kernel
theorem dX11_lake_27 : decode cX11_lake 27 = .ok (.iload_n 2, 1) := by decide +kernel
theorem dX11_lake_28 : decode cX11_lake 28 = .ok (.ireturn, 1) := by decide +kernel
theorem dX11_cell_0 : decode cX11_cell 0 = .ok (.iload_n 1, 1) := by decide +kernel
theorem dX11_cell_1 : decode cX11_cell 1 = .ok (.invokestatic 70, 3) := by decide +kernel
theorem dX11_cell_4 : decode cX11_cell 4 = .ok (.ifCond .eq 15, 3) := by decide +kernel
theorem dX11_cell_7 : decode cX11_cell 7 = .ok (.iload_n 2, 1) := by decide +kernel
theorem dX11_cell_8 : decode cX11_cell 8 = .ok (.i2l, 1) := by decide +kernel
theorem dX11_cell_9 : decode cX11_cell 9 = .ok (.lconst 0, 1) := by decide +kernel
theorem dX11_cell_10 : decode cX11_cell 10 = .ok (.ldc2_w 73, 3) := by decide +kernel
theorem dX11_cell_13 : decode cX11_cell 13 = .ok (.invokestatic 50, 3) := by decide +kernel
theorem dX11_cell_16 : decode cX11_cell 16 = .ok (.ifCond .ne 10, 3) := by decide +kernel
theorem dX11_cell_19 : decode cX11_cell 19 = .ok (.aload_n 0, 1) := by decide +kernel
theorem dX11_cell_20 : decode cX11_cell 20 = .ok (.bipush (-2), 2) := by decide +kernel
theorem dX11_cell_22 : decode cX11_cell 22 = .ok (.invokevirtual 66, 3) := by decide +kernel
theorem dX11_cell_25 : decode cX11_cell 25 = .ok (.ireturn, 1) := by decide +kernel
theorem dX11_cell_26 : decode cX11_cell 26 = .ok (.aload_n 0, 1) := by decide +kernel
theorem dX11_cell_27 : decode cX11_cell 27 = .ok (.getfield 7, 3) := by decide +kernel
theorem dX11_cell_30 : decode cX11_cell 30 = .ok (.bipush 30, 2) := by decide +kernel
theorem dX11_cell_32 : decode cX11_cell 32 = .ok (.iload_n 1, 1) := by decide +kernel
theorem dX11_cell_33 : decode cX11_cell 33 = .ok (.iadd, 1) := by decide +kernel
theorem dX11_cell_34 : decode cX11_cell 34 = .ok (.iaload, 1) := by decide +kernel
theorem dX11_cell_35 : decode cX11_cell 35 = .ok (.istore_n 3, 1) := by decide +kernel
theorem dX11_cell_36 : decode cX11_cell 36 = .ok (.aload_n 0, 1) := by decide +kernel
theorem dX11_cell_37 : decode cX11_cell 37 = .ok (.getfield 7, 3) := by decide +kernel
theorem dX11_cell_40 : decode cX11_cell 40 = .ok (.bipush 30, 2) := by decide +kernel
theorem dX11_cell_42 : decode cX11_cell 42 = .ok (.iload_n 1, 1) := by decide +kernel
theorem dX11_cell_43 : decode cX11_cell 43 = .ok (.iadd, 1) := by decide +kernel
theorem dX11_cell_44 : decode cX11_cell 44 = .ok (.iload_n 2, 1) := by decide +kernel
theorem dX11_cell_45 : decode cX11_cell 45 = .ok (.iastore, 1) := by decide +kernel
theorem dX11_cell_46 : decode cX11_cell 46 = .ok (.aload_n 0, 1) := by decide +kernel
theorem dX11_cell_47 : decode cX11_cell 47 = .ok (.getfield 7, 3) := by decide +kernel
theorem dX11_cell_50 : decode cX11_cell 50 = .ok (.iconst 3, 1) := by decide +kernel
theorem dX11_cell_51 : decode cX11_cell 51 = .ok (.iconst 0, 1) := by decide +kernel
theorem dX11_cell_52 : decode cX11_cell 52 = .ok (.iastore, 1) := by decide +kernel
theorem dX11_cell_53 : decode cX11_cell 53 = .ok (.iload_n 3, 1) := by decide +kernel
theorem dX11_cell_54 : decode cX11_cell 54 = .ok (.ireturn, 1) := by decide +kernel
theorem dX11_weather_0 : decode cX11_weather 0 = .ok (.iload_n 1, 1) := by decide +kernel
theorem dX11_weather_1 : decode cX11_weather 1 = .ok (.i2l, 1) := by decide +kernel
theorem dX11_weather_2 : decode cX11_weather 2 = .ok (.lconst 0, 1) := by decide +kernel
theorem dX11_weather_3 : decode cX11_weather 3 = .ok (.ldc2_w 75, 3) := by decide +kernel
theorem dX11_weather_6 : decode cX11_weather 6 = .ok (.invokestatic 50, 3) := by decide +kernel
theorem dX11_weather_9 : decode cX11_weather 9 = .ok (.ifCond .eq 17, 3) := by decide +kernel
theorem dX11_weather_12 : decode cX11_weather 12 = .ok (.iload_n 2, 1) := by decide +kernel
theorem dX11_weather_13 : decode cX11_weather 13 = .ok (.invokestatic 77, 3) := by decide +kernel
theorem dX11_weather_16 : decode cX11_weather 16 = .ok (.ifCond .eq 10, 3) := by decide +kernel
theorem dX11_weather_19 : decode cX11_weather 19 = .ok (.iload_n 3, 1) := by decide +kernel
theorem dX11_weather_20 : decode cX11_weather 20 = .ok (.invokestatic 77, 3) := by decide +kernel
theorem dX11_weather_23 : decode cX11_weather 23 = .ok (.ifCond .ne 10, 3) := by decide +kernel
theorem dX11_weather_26 : decode cX11_weather 26 = .ok (.aload_n 0, 1) := by decide +kernel
theorem dX11_weather_27 : decode cX11_weather 27 = .ok (.bipush (-2), 2) := by decide +kernel
theorem dX11_weather_29 : decode cX11_weather 29 = .ok (.invokevirtual 66, 3) := by decide +kernel
theorem dX11_weather_32 : decode cX11_weather 32 = .ok (.ireturn, 1) := by decide +kernel
theorem dX11_weather_33 : decode cX11_weather 33 = .ok (.bipush 10, 2) := by decide +kernel
theorem dX11_weather_35 : decode cX11_weather 35 = .ok (.aload_n 0, 1) := by decide +kernel
theorem dX11_weather_36 : decode cX11_weather 36 = .ok (.getfield 7, 3) := by decide +kernel
theorem dX11_weather_39 : decode cX11_weather 39 = .ok (.bipush 55, 2) := by decide +kernel
theorem dX11_weather_41 : decode cX11_weather 41 = .ok (.iload_n 1, 1) := by decide +kernel
theorem dX11_weather_42 : decode cX11_weather 42 = .ok (.iadd, 1) := by decide +kernel
theorem dX11_weather_43 : decode cX11_weather 43 = .ok (.iaload, 1) := by decide +kernel
theorem dX11_weather_44 : decode cX11_weather 44 = .ok (.imul, 1) := by decide +kernel
theorem dX11_weather_45 : decode cX11_weather 45 = .ok (.aload_n 0, 1) := by decide +kernel
theorem dX11_weather_46 : decode cX11_weather 46 = .ok (.getfield 7, 3) := by decide +kernel
theorem dX11_weather_49 : decode cX11_weather 49 = .ok (.bipush 62, 2) := by decide +kernel
theorem dX11_weather_51 : decode cX11_weather 51 = .ok (.iload_n 1, 1) := by decide +kernel
theorem dX11_weather_52 : decode cX11_weather 52 = .ok (.iadd, 1) := by decide +kernel
theorem dX11_weather_53 : decode cX11_weather 53 = .ok (.iaload, 1) := by decide +kernel
theorem dX11_weather_54 : decode cX11_weather 54 = .ok (.iadd, 1) := by decide +kernel
theorem dX11_weather_55 : decode cX11_weather 55 = .ok (.istore 4, 2) := by decide +kernel
theorem dX11_weather_57 : decode cX11_weather 57 = .ok (.aload_n 0, 1) := by decide +kernel
theorem dX11_weather_58 : decode cX11_weather 58 = .ok (.getfield 7, 3) := by decide +kernel
theorem dX11_weather_61 : decode cX11_weather 61 = .ok (.bipush 55, 2) := by decide +kernel
theorem dX11_weather_63 : decode cX11_weather 63 = .ok (.iload_n 1, 1) := by decide +kernel
theorem dX11_weather_64 : decode cX11_weather 64 = .ok (.iadd, 1) := by decide +kernel
theorem dX11_weather_65 : decode cX11_weather 65 = .ok (.iload_n 2, 1) := by decide +kernel
theorem dX11_weather_66 : decode cX11_weather 66 = .ok (.iastore, 1) := by decide +kernel
theorem dX11_weather_67 : decode cX11_weather 67 = .ok (.aload_n 0, 1) := by decide +kernel
theorem dX11_weather_68 : decode cX11_weather 68 = .ok (.getfield 7, 3) := by decide +kernel
theorem dX11_weather_71 : decode cX11_weather 71 = .ok (.bipush 62, 2) := by decide +kernel
theorem dX11_weather_73 : decode cX11_weather 73 = .ok (.iload_n 1, 1) := by decide +kernel
theorem dX11_weather_74 : decode cX11_weather 74 = .ok (.iadd, 1) := by decide +kernel
theorem dX11_weather_75 : decode cX11_weather 75 = .ok (.iload_n 3, 1) := by decide +kernel
theorem dX11_weather_76 : decode cX11_weather 76 = .ok (.iastore, 1) := by decide +kernel
theorem dX11_weather_77 : decode cX11_weather 77 = .ok (.aload_n 0, 1) := by decide +kernel
theorem dX11_weather_78 : decode cX11_weather 78 = .ok (.getfield 7, 3) := by decide +kernel
theorem dX11_weather_81 : decode cX11_weather 81 = .ok (.iconst 3, 1) := by decide +kernel
theorem dX11_weather_82 : decode cX11_weather 82 = .ok (.iconst 0, 1) := by decide +kernel
theorem dX11_weather_83 : decode cX11_weather 83 = .ok (.iastore, 1) := by decide +kernel
theorem dX11_weather_84 : decode cX11_weather 84 = .ok (.iload 4, 2) := by decide +kernel
theorem dX11_weather_86 : decode cX11_weather 86 = .ok (.ireturn, 1) := by decide +kernel
theorem dX11_ward_0 : decode cX11_ward 0 = .ok (.iload_n 1, 1) := by decide +kernel
theorem dX11_ward_1 : decode cX11_ward 1 = .ok (.i2l, 1) := by decide +kernel
theorem dX11_ward_2 : decode cX11_ward 2 = .ok (.lconst 0, 1) := by decide +kernel
theorem dX11_ward_3 : decode cX11_ward 3 = .ok (.ldc2_w 80, 3) := by decide +kernel
theorem dX11_ward_6 : decode cX11_ward 6 = .ok (.invokestatic 50, 3) := by decide +kernel
theorem dX11_ward_9 : decode cX11_ward 9 = .ok (.ifCond .eq 10, 3) := by decide +kernel
theorem dX11_ward_12 : decode cX11_ward 12 = .ok (.iload_n 2, 1) := by decide +kernel
theorem dX11_ward_13 : decode cX11_ward 13 = .ok (.invokestatic 62, 3) := by decide +kernel
theorem dX11_ward_16 : decode cX11_ward 16 = .ok (.ifCond .ne 10, 3) := by decide +kernel
theorem dX11_ward_19 : decode cX11_ward 19 = .ok (.aload_n 0, 1) := by decide +kernel
theorem dX11_ward_20 : decode cX11_ward 20 = .ok (.bipush (-2), 2) := by decide +kernel
theorem dX11_ward_22 : decode cX11_ward 22 = .ok (.invokevirtual 66, 3) := by decide +kernel
theorem dX11_ward_25 : decode cX11_ward 25 = .ok (.ireturn, 1) := by decide +kernel
theorem dX11_ward_26 : decode cX11_ward 26 = .ok (.aload_n 0, 1) := by decide +kernel
theorem dX11_ward_27 : decode cX11_ward 27 = .ok (.getfield 7, 3) := by decide +kernel
theorem dX11_ward_30 : decode cX11_ward 30 = .ok (.bipush 69, 2) := by decide +kernel
theorem dX11_ward_32 : decode cX11_ward 32 = .ok (.iload_n 1, 1) := by decide +kernel
theorem dX11_ward_33 : decode cX11_ward 33 = .ok (.iadd, 1) := by decide +kernel
theorem dX11_ward_34 : decode cX11_ward 34 = .ok (.iaload, 1) := by decide +kernel
theorem dX11_ward_35 : decode cX11_ward 35 = .ok (.istore_n 3, 1) := by decide +kernel
theorem dX11_ward_36 : decode cX11_ward 36 = .ok (.aload_n 0, 1) := by decide +kernel
theorem dX11_ward_37 : decode cX11_ward 37 = .ok (.getfield 7, 3) := by decide +kernel
theorem dX11_ward_40 : decode cX11_ward 40 = .ok (.bipush 69, 2) := by decide +kernel
theorem dX11_ward_42 : decode cX11_ward 42 = .ok (.iload_n 1, 1) := by decide +kernel
theorem dX11_ward_43 : decode cX11_ward 43 = .ok (.iadd, 1) := by decide +kernel
theorem dX11_ward_44 : decode cX11_ward 44 = .ok (.iload_n 2, 1) := by decide +kernel
theorem dX11_ward_45 : decode cX11_ward 45 = .ok (.iastore, 1) := by decide +kernel
theorem dX11_ward_46 : decode cX11_ward 46 = .ok (.aload_n 0, 1) := by decide +kernel
theorem dX11_ward_47 : decode cX11_ward 47 = .ok (.getfield 7, 3) := by decide +kernel
theorem dX11_ward_50 : decode cX11_ward 50 = .ok (.iconst 3, 1) := by decide +kernel
theorem dX11_ward_51 : decode cX11_ward 51 = .ok (.iconst 0, 1) := by decide +kernel
theorem dX11_ward_52 : decode cX11_ward 52 = .ok (.iastore, 1) := by decide +kernel
theorem dX11_ward_53 : decode cX11_ward 53 = .ok (.iload_n 3, 1) := by decide +kernel
theorem dX11_ward_54 : decode cX11_ward 54 = .ok (.ireturn, 1) := by decide +kernel
theorem dX11_layVoter_0 : decode cX11_layVoter 0 = .ok (.aload_n 0, 1) := by decide +kernel
theorem dX11_layVoter_1 : decode cX11_layVoter 1 = .ok (.iconst 0, 1) := by decide +kernel
theorem dX11_layVoter_2 : decode cX11_layVoter 2 = .ok (.iaload, 1) := by decide +kernel
theorem dX11_layVoter_3 : decode cX11_layVoter 3 = .ok (.istore 4, 2) := by decide +kernel
theorem dX11_layVoter_5 : decode cX11_layVoter 5 = .ok (.aload_n 0, 1) := by decide +kernel
theorem dX11_layVoter_6 : decode cX11_layVoter 6 = .ok (.bipush 73, 2) := by decide +kernel
theorem dX11_layVoter_8 : decode cX11_layVoter 8 = .ok (.iload 4, 2) := by decide +kernel
theorem dX11_layVoter_10 : decode cX11_layVoter 10 = .ok (.iadd, 1) := by decide +kernel
theorem dX11_layVoter_11 : decode cX11_layVoter 11 = .ok (.iload_n 1, 1) := by decide +kernel
theorem dX11_layVoter_12 : decode cX11_layVoter 12 = .ok (.iastore, 1) := by decide +kernel
theorem dX11_layVoter_13 : decode cX11_layVoter 13 = .ok (.aload_n 0, 1) := by decide +kernel
theorem dX11_layVoter_14 : decode cX11_layVoter 14 = .ok (.bipush 80, 2) := by decide +kernel
theorem dX11_layVoter_16 : decode cX11_layVoter 16 = .ok (.iload 4, 2) := by decide +kernel
theorem dX11_layVoter_18 : decode cX11_layVoter 18 = .ok (.iadd, 1) := by decide +kernel
theorem dX11_layVoter_19 : decode cX11_layVoter 19 = .ok (.iload_n 2, 1) := by decide +kernel
theorem dX11_layVoter_20 : decode cX11_layVoter 20 = .ok (.iastore, 1) := by decide +kernel
theorem dX11_layVoter_21 : decode cX11_layVoter 21 = .ok (.aload_n 0, 1) := by decide +kernel
theorem dX11_layVoter_22 : decode cX11_layVoter 22 = .ok (.bipush 87, 2) := by decide +kernel
theorem dX11_layVoter_24 : decode cX11_layVoter 24 = .ok (.iload 4, 2) := by decide +kernel
theorem dX11_layVoter_26 : decode cX11_layVoter 26 = .ok (.iadd, 1) := by decide +kernel
theorem dX11_layVoter_27 : decode cX11_layVoter 27 = .ok (.iload_n 3, 1) := by decide +kernel
theorem dX11_layVoter_28 : decode cX11_layVoter 28 = .ok (.iastore, 1) := by decide +kernel
theorem dX11_layVoter_29 : decode cX11_layVoter 29 = .ok (.aload_n 0, 1) := by decide +kernel
theorem dX11_layVoter_30 : decode cX11_layVoter 30 = .ok (.iconst 0, 1) := by decide +kernel
theorem dX11_layVoter_31 : decode cX11_layVoter 31 = .ok (.dup2, 1) := by decide +kernel
theorem dX11_layVoter_32 : decode cX11_layVoter 32 = .ok (.iaload, 1) := by decide +kernel
theorem dX11_layVoter_33 : decode cX11_layVoter 33 = .ok (.iconst 1, 1) := by decide +kernel
theorem dX11_layVoter_34 : decode cX11_layVoter 34 = .ok (.iadd, 1) := by decide +kernel
theorem dX11_layVoter_35 : decode cX11_layVoter 35 = .ok (.iastore, 1) := by decide +kernel
theorem dX11_layVoter_36 : decode cX11_layVoter 36 = .ok (.return_, 1) := by decide +kernel
theorem dX11_voter_0 : decode cX11_voter 0 = .ok (.iload_n 1, 1) := by decide +kernel
theorem dX11_voter_1 : decode cX11_voter 1 = .ok (.i2l, 1) := by decide +kernel
theorem dX11_voter_2 : decode cX11_voter 2 = .ok (.lconst 0, 1) := by decide +kernel
theorem dX11_voter_3 : decode cX11_voter 3 = .ok (.ldc2_w 73, 3) := by decide +kernel
theorem dX11_voter_6 : decode cX11_voter 6 = .ok (.invokestatic 50, 3) := by decide +kernel
theorem dX11_voter_9 : decode cX11_voter 9 = .ok (.ifCond .eq 22, 3) := by decide +kernel
theorem dX11_voter_12 : decode cX11_voter 12 = .ok (.iload_n 2, 1) := by decide +kernel
theorem dX11_voter_13 : decode cX11_voter 13 = .ok (.i2l, 1) := by decide +kernel
theorem dX11_voter_14 : decode cX11_voter 14 = .ok (.lconst 1, 1) := by decide +kernel
theorem dX11_voter_15 : decode cX11_voter 15 = .ok (.ldc2_w 56, 3) := by decide +kernel
theorem dX11_voter_18 : decode cX11_voter 18 = .ok (.invokestatic 50, 3) := by decide +kernel
theorem dX11_voter_21 : decode cX11_voter 21 = .ok (.ifCond .eq 10, 3) := by decide +kernel
theorem dX11_voter_24 : decode cX11_voter 24 = .ok (.iload_n 3, 1) := by decide +kernel
theorem dX11_voter_25 : decode cX11_voter 25 = .ok (.invokestatic 70, 3) := by decide +kernel
theorem dX11_voter_28 : decode cX11_voter 28 = .ok (.ifCond .ne 10, 3) := by decide +kernel
theorem dX11_voter_31 : decode cX11_voter 31 = .ok (.aload_n 0, 1) := by decide +kernel
theorem dX11_voter_32 : decode cX11_voter 32 = .ok (.bipush (-2), 2) := by decide +kernel
theorem dX11_voter_34 : decode cX11_voter 34 = .ok (.invokevirtual 66, 3) := by decide +kernel
theorem dX11_voter_37 : decode cX11_voter 37 = .ok (.ireturn, 1) := by decide +kernel
theorem dX11_voter_38 : decode cX11_voter 38 = .ok (.aload_n 0, 1) := by decide +kernel
theorem dX11_voter_39 : decode cX11_voter 39 = .ok (.invokevirtual 46, 3) := by decide +kernel
theorem dX11_voter_42 : decode cX11_voter 42 = .ok (.bipush 7, 2) := by decide +kernel
theorem dX11_voter_44 : decode cX11_voter 44 = .ok (.if_icmp .ne 8, 3) := by decide +kernel
theorem dX11_voter_47 : decode cX11_voter 47 = .ok (.aload_n 0, 1) := by decide +kernel
theorem dX11_voter_48 : decode cX11_voter 48 = .ok (.invokevirtual 82, 3) := by decide +kernel
theorem dX11_voter_51 : decode cX11_voter 51 = .ok (.ireturn, 1) := by decide +kernel
theorem dX11_voter_52 : decode cX11_voter 52 = .ok (.aload_n 0, 1) := by decide +kernel
theorem dX11_voter_53 : decode cX11_voter 53 = .ok (.getfield 7, 3) := by decide +kernel
theorem dX11_voter_56 : decode cX11_voter 56 = .ok (.iload_n 1, 1) := by decide +kernel
theorem dX11_voter_57 : decode cX11_voter 57 = .ok (.iload_n 2, 1) := by decide +kernel
theorem dX11_voter_58 : decode cX11_voter 58 = .ok (.iload_n 3, 1) := by decide +kernel
theorem dX11_voter_59 : decode cX11_voter 59 = .ok (.invokestatic 85, 3) := by decide +kernel
theorem dX11_voter_62 : decode cX11_voter 62 = .ok (.aload_n 0, 1) := by decide +kernel
theorem dX11_voter_63 : decode cX11_voter 63 = .ok (.getfield 7, 3) := by decide +kernel
theorem dX11_voter_66 : decode cX11_voter 66 = .ok (.iconst 3, 1) := by decide +kernel
theorem dX11_voter_67 : decode cX11_voter 67 = .ok (.iconst 0, 1) := by decide +kernel
theorem dX11_voter_68 : decode cX11_voter 68 = .ok (.iastore, 1) := by decide +kernel
theorem dX11_voter_69 : decode cX11_voter 69 = .ok (.aload_n 0, 1) := by decide +kernel
theorem dX11_voter_70 : decode cX11_voter 70 = .ok (.invokevirtual 46, 3) := by decide +kernel
theorem dX11_voter_73 : decode cX11_voter 73 = .ok (.iconst 1, 1) := by decide +kernel
theorem dX11_voter_74 : decode cX11_voter 74 = .ok (.isub, 1) := by decide +kernel
theorem dX11_voter_75 : decode cX11_voter 75 = .ok (.ireturn, 1) := by decide +kernel
theorem dX11_growsAs_0 : decode cX11_growsAs 0 = .ok (.iload_n 0, 1) := by decide +kernel
theorem dX11_growsAs_1 : decode cX11_growsAs 1 = .ok (.tableswitch 79 1 5 #[35, 53, 66, 39, 53], 35) := by decide +kernel
theorem dX11_growsAs_36 : decode cX11_growsAs 36 = .ok (.iload_n 2, 1) := by decide +kernel
theorem dX11_growsAs_37 : decode cX11_growsAs 37 = .ok (.iconst 2, 1) := by decide +kernel
theorem dX11_growsAs_38 : decode cX11_growsAs 38 = .ok (.idiv, 1) := by decide +kernel
theorem dX11_growsAs_39 : decode cX11_growsAs 39 = .ok (.ireturn, 1) := by decide +kernel
theorem dX11_growsAs_40 : decode cX11_growsAs 40 = .ok (.iload_n 1, 1) := by decide +kernel
theorem dX11_growsAs_41 : decode cX11_growsAs 41 = .ok (.bipush 10, 2) := by decide +kernel
theorem dX11_growsAs_43 : decode cX11_growsAs 43 = .ok (.if_icmp .ge 7, 3) := by decide +kernel
theorem dX11_growsAs_46 : decode cX11_growsAs 46 = .ok (.iconst 0, 1) := by decide +kernel
theorem dX11_growsAs_47 : decode cX11_growsAs 47 = .ok (.goto 6, 3) := by decide +kernel
theorem dX11_growsAs_50 : decode cX11_growsAs 50 = .ok (.iload_n 2, 1) := by decide +kernel
theorem dX11_growsAs_51 : decode cX11_growsAs 51 = .ok (.iconst 2, 1) := by decide +kernel
theorem dX11_growsAs_52 : decode cX11_growsAs 52 = .ok (.idiv, 1) := by decide +kernel
theorem dX11_growsAs_53 : decode cX11_growsAs 53 = .ok (.ireturn, 1) := by decide +kernel
theorem dX11_growsAs_54 : decode cX11_growsAs 54 = .ok (.iload_n 2, 1) := by decide +kernel
theorem dX11_growsAs_55 : decode cX11_growsAs 55 = .ok (.iconst 2, 1) := by decide +kernel
theorem dX11_growsAs_56 : decode cX11_growsAs 56 = .ok (.if_icmp .le 9, 3) := by decide +kernel
theorem dX11_growsAs_59 : decode cX11_growsAs 59 = .ok (.iload_n 2, 1) := by decide +kernel
theorem dX11_growsAs_60 : decode cX11_growsAs 60 = .ok (.iconst 2, 1) := by decide +kernel
theorem dX11_growsAs_61 : decode cX11_growsAs 61 = .ok (.isub, 1) := by decide +kernel
theorem dX11_growsAs_62 : decode cX11_growsAs 62 = .ok (.goto 4, 3) := by decide +kernel
theorem dX11_growsAs_65 : decode cX11_growsAs 65 = .ok (.iconst 0, 1) := by decide +kernel
theorem dX11_growsAs_66 : decode cX11_growsAs 66 = .ok (.ireturn, 1) := by decide +kernel
theorem dX11_growsAs_67 : decode cX11_growsAs 67 = .ok (.iload_n 2, 1) := by decide +kernel
theorem dX11_growsAs_68 : decode cX11_growsAs 68 = .ok (.iconst 1, 1) := by decide +kernel
theorem dX11_growsAs_69 : decode cX11_growsAs 69 = .ok (.if_icmp .lt 9, 3) := by decide +kernel
theorem dX11_growsAs_72 : decode cX11_growsAs 72 = .ok (.iload_n 2, 1) := by decide +kernel
theorem dX11_growsAs_73 : decode cX11_growsAs 73 = .ok (.iconst 1, 1) := by decide +kernel
theorem dX11_growsAs_74 : decode cX11_growsAs 74 = .ok (.iadd, 1) := by decide +kernel
theorem dX11_growsAs_75 : decode cX11_growsAs 75 = .ok (.goto 4, 3) := by decide +kernel
theorem dX11_growsAs_78 : decode cX11_growsAs 78 = .ok (.iload_n 2, 1) := by decide +kernel
theorem dX11_growsAs_79 : decode cX11_growsAs 79 = .ok (.ireturn, 1) := by decide +kernel
theorem dX11_growsAs_80 : decode cX11_growsAs 80 = .ok (.iload_n 2, 1) := by decide +kernel
theorem dX11_growsAs_81 : decode cX11_growsAs 81 = .ok (.ireturn, 1) := by decide +kernel
theorem dX11_meltsAs_0 : decode cX11_meltsAs 0 = .ok (.iload_n 0, 1) := by decide +kernel
theorem dX11_meltsAs_1 : decode cX11_meltsAs 1 = .ok (.iconst 1, 1) := by decide +kernel
theorem dX11_meltsAs_2 : decode cX11_meltsAs 2 = .ok (.if_icmp .eq 8, 3) := by decide +kernel
theorem dX11_meltsAs_5 : decode cX11_meltsAs 5 = .ok (.iload_n 0, 1) := by decide +kernel
theorem dX11_meltsAs_6 : decode cX11_meltsAs 6 = .ok (.iconst 4, 1) := by decide +kernel
theorem dX11_meltsAs_7 : decode cX11_meltsAs 7 = .ok (.if_icmp .ne 9, 3) := by decide +kernel
theorem dX11_meltsAs_10 : decode cX11_meltsAs 10 = .ok (.iload_n 1, 1) := by decide +kernel
theorem dX11_meltsAs_11 : decode cX11_meltsAs 11 = .ok (.iconst 1, 1) := by decide +kernel
theorem dX11_meltsAs_12 : decode cX11_meltsAs 12 = .ok (.iadd, 1) := by decide +kernel
theorem dX11_meltsAs_13 : decode cX11_meltsAs 13 = .ok (.goto 20, 3) := by decide +kernel
theorem dX11_meltsAs_16 : decode cX11_meltsAs 16 = .ok (.iload_n 0, 1) := by decide +kernel
theorem dX11_meltsAs_17 : decode cX11_meltsAs 17 = .ok (.iconst 2, 1) := by decide +kernel
theorem dX11_meltsAs_18 : decode cX11_meltsAs 18 = .ok (.if_icmp .eq 8, 3) := by decide +kernel
theorem dX11_meltsAs_21 : decode cX11_meltsAs 21 = .ok (.iload_n 0, 1) := by decide +kernel
theorem dX11_meltsAs_22 : decode cX11_meltsAs 22 = .ok (.iconst 5, 1) := by decide +kernel
theorem dX11_meltsAs_23 : decode cX11_meltsAs 23 = .ok (.if_icmp .ne 9, 3) := by decide +kernel
theorem dX11_meltsAs_26 : decode cX11_meltsAs 26 = .ok (.iload_n 1, 1) := by decide +kernel
theorem dX11_meltsAs_27 : decode cX11_meltsAs 27 = .ok (.iconst 2, 1) := by decide +kernel
theorem dX11_meltsAs_28 : decode cX11_meltsAs 28 = .ok (.idiv, 1) := by decide +kernel
theorem dX11_meltsAs_29 : decode cX11_meltsAs 29 = .ok (.goto 4, 3) := by decide +kernel
theorem dX11_meltsAs_32 : decode cX11_meltsAs 32 = .ok (.iload_n 1, 1) := by decide +kernel
theorem dX11_meltsAs_33 : decode cX11_meltsAs 33 = .ok (.ireturn, 1) := by decide +kernel
theorem dX11_bearsAs_0 : decode cX11_bearsAs 0 = .ok (.iconst 2, 1) := by decide +kernel
theorem dX11_bearsAs_1 : decode cX11_bearsAs 1 = .ok (.iload_n 1, 1) := by decide +kernel
theorem dX11_bearsAs_2 : decode cX11_bearsAs 2 = .ok (.imul, 1) := by decide +kernel
theorem dX11_bearsAs_3 : decode cX11_bearsAs 3 = .ok (.istore_n 2, 1) := by decide +kernel
theorem dX11_bearsAs_4 : decode cX11_bearsAs 4 = .ok (.iload_n 0, 1) := by decide +kernel
theorem dX11_bearsAs_5 : decode cX11_bearsAs 5 = .ok (.iconst 4, 1) := by decide +kernel
theorem dX11_bearsAs_6 : decode cX11_bearsAs 6 = .ok (.if_icmp .ne 18, 3) := by decide +kernel
theorem dX11_bearsAs_9 : decode cX11_bearsAs 9 = .ok (.iload_n 2, 1) := by decide +kernel
theorem dX11_bearsAs_10 : decode cX11_bearsAs 10 = .ok (.iconst 5, 1) := by decide +kernel
theorem dX11_bearsAs_11 : decode cX11_bearsAs 11 = .ok (.if_icmp .ge 7, 3) := by decide +kernel
theorem dX11_bearsAs_14 : decode cX11_bearsAs 14 = .ok (.iconst 0, 1) := by decide +kernel
theorem dX11_bearsAs_15 : decode cX11_bearsAs 15 = .ok (.goto 23, 3) := by decide +kernel
theorem dX11_bearsAs_18 : decode cX11_bearsAs 18 = .ok (.iload_n 2, 1) := by decide +kernel
theorem dX11_bearsAs_19 : decode cX11_bearsAs 19 = .ok (.iconst 5, 1) := by decide +kernel
theorem dX11_bearsAs_20 : decode cX11_bearsAs 20 = .ok (.isub, 1) := by decide +kernel
theorem dX11_bearsAs_21 : decode cX11_bearsAs 21 = .ok (.goto 17, 3) := by decide +kernel
theorem dX11_bearsAs_24 : decode cX11_bearsAs 24 = .ok (.iload_n 0, 1) := by decide +kernel
theorem dX11_bearsAs_25 : decode cX11_bearsAs 25 = .ok (.iconst 5, 1) := by decide +kernel
theorem dX11_bearsAs_26 : decode cX11_bearsAs 26 = .ok (.if_icmp .ne 11, 3) := by decide +kernel
theorem dX11_bearsAs_29 : decode cX11_bearsAs 29 = .ok (.iload_n 2, 1) := by decide +kernel
theorem dX11_bearsAs_30 : decode cX11_bearsAs 30 = .ok (.iconst 1, 1) := by decide +kernel
theorem dX11_bearsAs_31 : decode cX11_bearsAs 31 = .ok (.iadd, 1) := by decide +kernel
theorem dX11_bearsAs_32 : decode cX11_bearsAs 32 = .ok (.iconst 2, 1) := by decide +kernel
theorem dX11_bearsAs_33 : decode cX11_bearsAs 33 = .ok (.idiv, 1) := by decide +kernel
theorem dX11_bearsAs_34 : decode cX11_bearsAs 34 = .ok (.goto 4, 3) := by decide +kernel
theorem dX11_bearsAs_37 : decode cX11_bearsAs 37 = .ok (.iload_n 2, 1) := by decide +kernel
theorem dX11_bearsAs_38 : decode cX11_bearsAs 38 = .ok (.ireturn, 1) := by decide +kernel
theorem dX11_behindDay_0 : decode cX11_behindDay 0 = .ok (.iload_n 1, 1) := by decide +kernel
theorem dX11_behindDay_1 : decode cX11_behindDay 1 = .ok (.iload_n 0, 1) := by decide +kernel
theorem dX11_behindDay_2 : decode cX11_behindDay 2 = .ok (.iload_n 1, 1) := by decide +kernel
theorem dX11_behindDay_3 : decode cX11_behindDay 3 = .ok (.iload_n 2, 1) := by decide +kernel
theorem dX11_behindDay_4 : decode cX11_behindDay 4 = .ok (.invokestatic 89, 3) := by decide +kernel
theorem dX11_behindDay_7 : decode cX11_behindDay 7 = .ok (.iadd, 1) := by decide +kernel
theorem dX11_behindDay_8 : decode cX11_behindDay 8 = .ok (.istore 4, 2) := by decide +kernel
theorem dX11_behindDay_10 : decode cX11_behindDay 10 = .ok (.iload 4, 2) := by decide +kernel
theorem dX11_behindDay_12 : decode cX11_behindDay 12 = .ok (.bipush 99, 2) := by decide +kernel
theorem dX11_behindDay_14 : decode cX11_behindDay 14 = .ok (.if_icmp .le 8, 3) := by decide +kernel
theorem dX11_behindDay_17 : decode cX11_behindDay 17 = .ok (.bipush 99, 2) := by decide +kernel
theorem dX11_behindDay_19 : decode cX11_behindDay 19 = .ok (.goto 5, 3) := by decide +kernel
theorem dX11_behindDay_22 : decode cX11_behindDay 22 = .ok (.iload 4, 2) := by decide +kernel
theorem dX11_behindDay_24 : decode cX11_behindDay 24 = .ok (.iload_n 0, 1) := by decide +kernel
theorem dX11_behindDay_25 : decode cX11_behindDay 25 = .ok (.iload_n 3, 1) := by decide +kernel
theorem dX11_behindDay_26 : decode cX11_behindDay 26 = .ok (.invokestatic 93, 3) := by decide +kernel
theorem dX11_behindDay_29 : decode cX11_behindDay 29 = .ok (.isub, 1) := by decide +kernel
theorem dX11_behindDay_30 : decode cX11_behindDay 30 = .ok (.istore 5, 2) := by decide +kernel
theorem dX11_behindDay_32 : decode cX11_behindDay 32 = .ok (.iload 5, 2) := by decide +kernel
theorem dX11_behindDay_34 : decode cX11_behindDay 34 = .ok (.ifCond .ge 7, 3) := by decide +kernel
theorem dX11_behindDay_37 : decode cX11_behindDay 37 = .ok (.iconst 0, 1) := by decide +kernel
theorem dX11_behindDay_38 : decode cX11_behindDay 38 = .ok (.goto 5, 3) := by decide +kernel
theorem dX11_behindDay_41 : decode cX11_behindDay 41 = .ok (.iload 5, 2) := by decide +kernel
theorem dX11_behindDay_43 : decode cX11_behindDay 43 = .ok (.ireturn, 1) := by decide +kernel
theorem dX11_votesAs_0 : decode cX11_votesAs 0 = .ok (.iload_n 2, 1) := by decide +kernel
theorem dX11_votesAs_1 : decode cX11_votesAs 1 = .ok (.iload_n 1, 1) := by decide +kernel
theorem dX11_votesAs_2 : decode cX11_votesAs 2 = .ok (.if_icmp .lt 7, 3) := by decide +kernel
theorem dX11_votesAs_5 : decode cX11_votesAs 5 = .ok (.iconst 1, 1) := by decide +kernel
theorem dX11_votesAs_6 : decode cX11_votesAs 6 = .ok (.goto 4, 3) := by decide +kernel
theorem dX11_votesAs_9 : decode cX11_votesAs 9 = .ok (.iconst 0, 1) := by decide +kernel
theorem dX11_votesAs_10 : decode cX11_votesAs 10 = .ok (.istore 5, 2) := by decide +kernel
theorem dX11_votesAs_12 : decode cX11_votesAs 12 = .ok (.iload 5, 2) := by decide +kernel
theorem dX11_votesAs_14 : decode cX11_votesAs 14 = .ok (.ifCond .eq 13, 3) := by decide +kernel
theorem dX11_votesAs_17 : decode cX11_votesAs 17 = .ok (.iload_n 2, 1) := by decide +kernel
theorem dX11_votesAs_18 : decode cX11_votesAs 18 = .ok (.bipush 40, 2) := by decide +kernel
theorem dX11_votesAs_20 : decode cX11_votesAs 20 = .ok (.if_icmp .lt 7, 3) := by decide +kernel
theorem dX11_votesAs_23 : decode cX11_votesAs 23 = .ok (.iconst 1, 1) := by decide +kernel
theorem dX11_votesAs_24 : decode cX11_votesAs 24 = .ok (.goto 4, 3) := by decide +kernel
theorem dX11_votesAs_27 : decode cX11_votesAs 27 = .ok (.iconst 0, 1) := by decide +kernel
theorem dX11_votesAs_28 : decode cX11_votesAs 28 = .ok (.istore 6, 2) := by decide +kernel
theorem dX11_votesAs_30 : decode cX11_votesAs 30 = .ok (.iload 5, 2) := by decide +kernel
theorem dX11_votesAs_32 : decode cX11_votesAs 32 = .ok (.ifCond .ne 10, 3) := by decide +kernel
theorem dX11_votesAs_35 : decode cX11_votesAs 35 = .ok (.iload 4, 2) := by decide +kernel
theorem dX11_votesAs_37 : decode cX11_votesAs 37 = .ok (.bipush 6, 2) := by decide +kernel
theorem dX11_votesAs_39 : decode cX11_votesAs 39 = .ok (.if_icmp .lt 7, 3) := by decide +kernel
theorem dX11_votesAs_42 : decode cX11_votesAs 42 = .ok (.iconst 1, 1) := by decide +kernel
theorem dX11_votesAs_43 : decode cX11_votesAs 43 = .ok (.goto 4, 3) := by decide +kernel
theorem dX11_votesAs_46 : decode cX11_votesAs 46 = .ok (.iconst 0, 1) := by decide +kernel
theorem dX11_votesAs_47 : decode cX11_votesAs 47 = .ok (.istore 7, 2) := by decide +kernel
theorem dX11_votesAs_49 : decode cX11_votesAs 49 = .ok (.iload_n 0, 1) := by decide +kernel
theorem dX11_votesAs_50 : decode cX11_votesAs 50 = .ok (.tableswitch 75 1 5 #[34, 37, 39, 42, 59], 34) := by decide +kernel
theorem dX11_votesAs_84 : decode cX11_votesAs 84 = .ok (.iload 6, 2) := by decide +kernel
theorem dX11_votesAs_86 : decode cX11_votesAs 86 = .ok (.ireturn, 1) := by decide +kernel
theorem dX11_votesAs_87 : decode cX11_votesAs 87 = .ok (.iconst 0, 1) := by decide +kernel
theorem dX11_votesAs_88 : decode cX11_votesAs 88 = .ok (.ireturn, 1) := by decide +kernel
theorem dX11_votesAs_89 : decode cX11_votesAs 89 = .ok (.iload 7, 2) := by decide +kernel
theorem dX11_votesAs_91 : decode cX11_votesAs 91 = .ok (.ireturn, 1) := by decide +kernel
theorem dX11_votesAs_92 : decode cX11_votesAs 92 = .ok (.iload 4, 2) := by decide +kernel
theorem dX11_votesAs_94 : decode cX11_votesAs 94 = .ok (.iconst 1, 1) := by decide +kernel
theorem dX11_votesAs_95 : decode cX11_votesAs 95 = .ok (.if_icmp .ge 8, 3) := by decide +kernel
theorem dX11_votesAs_98 : decode cX11_votesAs 98 = .ok (.iload 7, 2) := by decide +kernel
theorem dX11_votesAs_100 : decode cX11_votesAs 100 = .ok (.ifCond .eq 7, 3) := by decide +kernel
theorem dX11_votesAs_103 : decode cX11_votesAs 103 = .ok (.iconst 1, 1) := by decide +kernel
theorem dX11_votesAs_104 : decode cX11_votesAs 104 = .ok (.goto 4, 3) := by decide +kernel
theorem dX11_votesAs_107 : decode cX11_votesAs 107 = .ok (.iconst 0, 1) := by decide +kernel
theorem dX11_votesAs_108 : decode cX11_votesAs 108 = .ok (.ireturn, 1) := by decide +kernel
theorem dX11_votesAs_109 : decode cX11_votesAs 109 = .ok (.iload 6, 2) := by decide +kernel
theorem dX11_votesAs_111 : decode cX11_votesAs 111 = .ok (.ifCond .eq 12, 3) := by decide +kernel
theorem dX11_votesAs_114 : decode cX11_votesAs 114 = .ok (.iload_n 3, 1) := by decide +kernel
theorem dX11_votesAs_115 : decode cX11_votesAs 115 = .ok (.iload_n 1, 1) := by decide +kernel
theorem dX11_votesAs_116 : decode cX11_votesAs 116 = .ok (.if_icmp .lt 7, 3) := by decide +kernel
theorem dX11_votesAs_119 : decode cX11_votesAs 119 = .ok (.iconst 1, 1) := by decide +kernel
theorem dX11_votesAs_120 : decode cX11_votesAs 120 = .ok (.goto 4, 3) := by decide +kernel
theorem dX11_votesAs_123 : decode cX11_votesAs 123 = .ok (.iconst 0, 1) := by decide +kernel
theorem dX11_votesAs_124 : decode cX11_votesAs 124 = .ok (.ireturn, 1) := by decide +kernel
theorem dX11_votesAs_125 : decode cX11_votesAs 125 = .ok (.iload 5, 2) := by decide +kernel
theorem dX11_votesAs_127 : decode cX11_votesAs 127 = .ok (.ireturn, 1) := by decide +kernel
theorem dX11_layIce_0 : decode cX11_layIce 0 = .ok (.iconst 0, 1) := by decide +kernel
theorem dX11_layIce_1 : decode cX11_layIce 1 = .ok (.istore_n 1, 1) := by decide +kernel
theorem dX11_layIce_2 : decode cX11_layIce 2 = .ok (.iload_n 1, 1) := by decide +kernel
theorem dX11_layIce_3 : decode cX11_layIce 3 = .ok (.bipush 25, 2) := by decide +kernel
theorem dX11_layIce_5 : decode cX11_layIce 5 = .ok (.if_icmp .ge 23, 3) := by decide +kernel
theorem dX11_layIce_8 : decode cX11_layIce 8 = .ok (.aload_n 0, 1) := by decide +kernel
theorem dX11_layIce_9 : decode cX11_layIce 9 = .ok (.getfield 27, 3) := by decide +kernel
theorem dX11_layIce_12 : decode cX11_layIce 12 = .ok (.iload_n 1, 1) := by decide +kernel
theorem dX11_layIce_13 : decode cX11_layIce 13 = .ok (.aload_n 0, 1) := by decide +kernel
theorem dX11_layIce_14 : decode cX11_layIce 14 = .ok (.getfield 7, 3) := by decide +kernel
theorem dX11_layIce_17 : decode cX11_layIce 17 = .ok (.iconst 4, 1) := by decide +kernel
theorem dX11_layIce_18 : decode cX11_layIce 18 = .ok (.iload_n 1, 1) := by decide +kernel
theorem dX11_layIce_19 : decode cX11_layIce 19 = .ok (.iadd, 1) := by decide +kernel
theorem dX11_layIce_20 : decode cX11_layIce 20 = .ok (.iaload, 1) := by decide +kernel
theorem dX11_layIce_21 : decode cX11_layIce 21 = .ok (.iastore, 1) := by decide +kernel
theorem dX11_layIce_22 : decode cX11_layIce 22 = .ok (.iinc 1 1, 3) := by decide +kernel
theorem dX11_layIce_25 : decode cX11_layIce 25 = .ok (.goto (-23), 3) := by decide +kernel
theorem dX11_layIce_28 : decode cX11_layIce 28 = .ok (.return_, 1) := by decide +kernel
theorem dX11_kindOf_0 : decode cX11_kindOf 0 = .ok (.aload_n 0, 1) := by decide +kernel
theorem dX11_kindOf_1 : decode cX11_kindOf 1 = .ok (.getfield 7, 3) := by decide +kernel
theorem dX11_kindOf_4 : decode cX11_kindOf 4 = .ok (.bipush 30, 2) := by decide +kernel
theorem dX11_kindOf_6 : decode cX11_kindOf 6 = .ok (.iload_n 1, 1) := by decide +kernel
theorem dX11_kindOf_7 : decode cX11_kindOf 7 = .ok (.iadd, 1) := by decide +kernel
theorem dX11_kindOf_8 : decode cX11_kindOf 8 = .ok (.iaload, 1) := by decide +kernel
theorem dX11_kindOf_9 : decode cX11_kindOf 9 = .ok (.ireturn, 1) := by decide +kernel
theorem dX11_bears_0 : decode cX11_bears 0 = .ok (.aload_n 0, 1) := by decide +kernel
theorem dX11_bears_1 : decode cX11_bears 1 = .ok (.iload_n 1, 1) := by decide +kernel
theorem dX11_bears_2 : decode cX11_bears 2 = .ok (.invokevirtual 97, 3) := by decide +kernel
theorem dX11_bears_5 : decode cX11_bears 5 = .ok (.aload_n 0, 1) := by decide +kernel
theorem dX11_bears_6 : decode cX11_bears 6 = .ok (.getfield 27, 3) := by decide +kernel
theorem dX11_bears_9 : decode cX11_bears 9 = .ok (.iload_n 1, 1) := by decide +kernel
theorem dX11_bears_10 : decode cX11_bears 10 = .ok (.iaload, 1) := by decide +kernel
theorem dX11_bears_11 : decode cX11_bears 11 = .ok (.invokestatic 100, 3) := by decide +kernel
theorem dX11_bears_14 : decode cX11_bears 14 = .ok (.ireturn, 1) := by decide +kernel
theorem dX11_goDay_0 : decode cX11_goDay 0 = .ok (.iconst 0, 1) := by decide +kernel
theorem dX11_goDay_1 : decode cX11_goDay 1 = .ok (.istore_n 3, 1) := by decide +kernel
theorem dX11_goDay_2 : decode cX11_goDay 2 = .ok (.iload_n 3, 1) := by decide +kernel
theorem dX11_goDay_3 : decode cX11_goDay 3 = .ok (.bipush 25, 2) := by decide +kernel
theorem dX11_goDay_5 : decode cX11_goDay 5 = .ok (.if_icmp .ge 31, 3) := by decide +kernel
theorem dX11_goDay_8 : decode cX11_goDay 8 = .ok (.aload_n 0, 1) := by decide +kernel
theorem dX11_goDay_9 : decode cX11_goDay 9 = .ok (.getfield 27, 3) := by decide +kernel
theorem dX11_goDay_12 : decode cX11_goDay 12 = .ok (.iload_n 3, 1) := by decide +kernel
theorem dX11_goDay_13 : decode cX11_goDay 13 = .ok (.aload_n 0, 1) := by decide +kernel
theorem dX11_goDay_14 : decode cX11_goDay 14 = .ok (.iload_n 3, 1) := by decide +kernel
theorem dX11_goDay_15 : decode cX11_goDay 15 = .ok (.invokevirtual 97, 3) := by decide +kernel
theorem dX11_goDay_18 : decode cX11_goDay 18 = .ok (.aload_n 0, 1) := by decide +kernel
theorem dX11_goDay_19 : decode cX11_goDay 19 = .ok (.getfield 27, 3) := by decide +kernel
theorem dX11_goDay_22 : decode cX11_goDay 22 = .ok (.iload_n 3, 1) := by decide +kernel
theorem dX11_goDay_23 : decode cX11_goDay 23 = .ok (.iaload, 1) := by decide +kernel
theorem dX11_goDay_24 : decode cX11_goDay 24 = .ok (.iload_n 1, 1) := by decide +kernel
theorem dX11_goDay_25 : decode cX11_goDay 25 = .ok (.iload_n 2, 1) := by decide +kernel
theorem dX11_goDay_26 : decode cX11_goDay 26 = .ok (.invokestatic 103, 3) := by decide +kernel
theorem dX11_goDay_29 : decode cX11_goDay 29 = .ok (.iastore, 1) := by decide +kernel
theorem dX11_goDay_30 : decode cX11_goDay 30 = .ok (.iinc 3 1, 3) := by decide +kernel
theorem dX11_goDay_33 : decode cX11_goDay 33 = .ok (.goto (-31), 3) := by decide +kernel
theorem dX11_goDay_36 : decode cX11_goDay 36 = .ok (.return_, 1) := by decide +kernel
theorem dX11_goDays_0 : decode cX11_goDays 0 = .ok (.iconst 0, 1) := by decide +kernel
theorem dX11_goDays_1 : decode cX11_goDays 1 = .ok (.istore_n 2, 1) := by decide +kernel
theorem dX11_goDays_2 : decode cX11_goDays 2 = .ok (.iload_n 2, 1) := by decide +kernel
theorem dX11_goDays_3 : decode cX11_goDays 3 = .ok (.iload_n 1, 1) := by decide +kernel
theorem dX11_goDays_4 : decode cX11_goDays 4 = .ok (.if_icmp .ge 44, 3) := by decide +kernel
theorem dX11_goDays_7 : decode cX11_goDays 7 = .ok (.aload_n 0, 1) := by decide +kernel
theorem dX11_goDays_8 : decode cX11_goDays 8 = .ok (.getfield 7, 3) := by decide +kernel
theorem dX11_goDays_11 : decode cX11_goDays 11 = .ok (.bipush 29, 2) := by decide +kernel
theorem dX11_goDays_13 : decode cX11_goDays 13 = .ok (.iaload, 1) := by decide +kernel
theorem dX11_goDays_14 : decode cX11_goDays 14 = .ok (.iload_n 2, 1) := by decide +kernel
theorem dX11_goDays_15 : decode cX11_goDays 15 = .ok (.iadd, 1) := by decide +kernel
theorem dX11_goDays_16 : decode cX11_goDays 16 = .ok (.bipush 7, 2) := by decide +kernel
theorem dX11_goDays_18 : decode cX11_goDays 18 = .ok (.irem, 1) := by decide +kernel
theorem dX11_goDays_19 : decode cX11_goDays 19 = .ok (.istore_n 3, 1) := by decide +kernel
theorem dX11_goDays_20 : decode cX11_goDays 20 = .ok (.aload_n 0, 1) := by decide +kernel
theorem dX11_goDays_21 : decode cX11_goDays 21 = .ok (.aload_n 0, 1) := by decide +kernel
theorem dX11_goDays_22 : decode cX11_goDays 22 = .ok (.getfield 7, 3) := by decide +kernel
theorem dX11_goDays_25 : decode cX11_goDays 25 = .ok (.bipush 55, 2) := by decide +kernel
theorem dX11_goDays_27 : decode cX11_goDays 27 = .ok (.iload_n 3, 1) := by decide +kernel
theorem dX11_goDays_28 : decode cX11_goDays 28 = .ok (.iadd, 1) := by decide +kernel
theorem dX11_goDays_29 : decode cX11_goDays 29 = .ok (.iaload, 1) := by decide +kernel
theorem dX11_goDays_30 : decode cX11_goDays 30 = .ok (.aload_n 0, 1) := by decide +kernel
theorem dX11_goDays_31 : decode cX11_goDays 31 = .ok (.getfield 7, 3) := by decide +kernel
theorem dX11_goDays_34 : decode cX11_goDays 34 = .ok (.bipush 62, 2) := by decide +kernel
theorem dX11_goDays_36 : decode cX11_goDays 36 = .ok (.iload_n 3, 1) := by decide +kernel
theorem dX11_goDays_37 : decode cX11_goDays 37 = .ok (.iadd, 1) := by decide +kernel
theorem dX11_goDays_38 : decode cX11_goDays 38 = .ok (.iaload, 1) := by decide +kernel
theorem dX11_goDays_39 : decode cX11_goDays 39 = .ok (.invokevirtual 107, 3) := by decide +kernel
theorem dX11_goDays_42 : decode cX11_goDays 42 = .ok (.iinc 2 1, 3) := by decide +kernel
theorem dX11_goDays_45 : decode cX11_goDays 45 = .ok (.goto (-43), 3) := by decide +kernel
theorem dX11_goDays_48 : decode cX11_goDays 48 = .ok (.return_, 1) := by decide +kernel
theorem dX11_areBeside_0 : decode cX11_areBeside 0 = .ok (.iload_n 0, 1) := by decide +kernel
theorem dX11_areBeside_1 : decode cX11_areBeside 1 = .ok (.iconst 5, 1) := by decide +kernel
theorem dX11_areBeside_2 : decode cX11_areBeside 2 = .ok (.idiv, 1) := by decide +kernel
theorem dX11_areBeside_3 : decode cX11_areBeside 3 = .ok (.iload_n 1, 1) := by decide +kernel
theorem dX11_areBeside_4 : decode cX11_areBeside 4 = .ok (.iconst 5, 1) := by decide +kernel
theorem dX11_areBeside_5 : decode cX11_areBeside 5 = .ok (.idiv, 1) := by decide +kernel
theorem dX11_areBeside_6 : decode cX11_areBeside 6 = .ok (.isub, 1) := by decide +kernel
theorem dX11_areBeside_7 : decode cX11_areBeside 7 = .ok (.istore_n 2, 1) := by decide +kernel
theorem dX11_areBeside_8 : decode cX11_areBeside 8 = .ok (.iload_n 0, 1) := by decide +kernel
theorem dX11_areBeside_9 : decode cX11_areBeside 9 = .ok (.iconst 5, 1) := by decide +kernel
theorem dX11_areBeside_10 : decode cX11_areBeside 10 = .ok (.irem, 1) := by decide +kernel
theorem dX11_areBeside_11 : decode cX11_areBeside 11 = .ok (.iload_n 1, 1) := by decide +kernel
theorem dX11_areBeside_12 : decode cX11_areBeside 12 = .ok (.iconst 5, 1) := by decide +kernel
theorem dX11_areBeside_13 : decode cX11_areBeside 13 = .ok (.irem, 1) := by decide +kernel
theorem dX11_areBeside_14 : decode cX11_areBeside 14 = .ok (.isub, 1) := by decide +kernel
theorem dX11_areBeside_15 : decode cX11_areBeside 15 = .ok (.istore_n 3, 1) := by decide +kernel
theorem dX11_areBeside_16 : decode cX11_areBeside 16 = .ok (.iload_n 2, 1) := by decide +kernel
theorem dX11_areBeside_17 : decode cX11_areBeside 17 = .ok (.iload_n 2, 1) := by decide +kernel
theorem dX11_areBeside_18 : decode cX11_areBeside 18 = .ok (.imul, 1) := by decide +kernel
theorem dX11_areBeside_19 : decode cX11_areBeside 19 = .ok (.iload_n 3, 1) := by decide +kernel
theorem dX11_areBeside_20 : decode cX11_areBeside 20 = .ok (.iload_n 3, 1) := by decide +kernel
theorem dX11_areBeside_21 : decode cX11_areBeside 21 = .ok (.imul, 1) := by decide +kernel
theorem dX11_areBeside_22 : decode cX11_areBeside 22 = .ok (.iadd, 1) := by decide +kernel
theorem dX11_areBeside_23 : decode cX11_areBeside 23 = .ok (.iconst 1, 1) := by decide +kernel
theorem dX11_areBeside_24 : decode cX11_areBeside 24 = .ok (.if_icmp .ne 7, 3) := by decide +kernel
theorem dX11_areBeside_27 : decode cX11_areBeside 27 = .ok (.iconst 1, 1) := by decide +kernel
theorem dX11_areBeside_28 : decode cX11_areBeside 28 = .ok (.goto 4, 3) := by decide +kernel
theorem dX11_areBeside_31 : decode cX11_areBeside 31 = .ok (.iconst 0, 1) := by decide +kernel
theorem dX11_areBeside_32 : decode cX11_areBeside 32 = .ok (.ireturn, 1) := by decide +kernel
theorem dX11_leastBeside_0 : decode cX11_leastBeside 0 = .ok (.ldc 111, 2) := by decide +kernel
theorem dX11_leastBeside_2 : decode cX11_leastBeside 2 = .ok (.istore_n 2, 1) := by decide +kernel
theorem dX11_leastBeside_3 : decode cX11_leastBeside 3 = .ok (.iconst 0, 1) := by decide +kernel
theorem dX11_leastBeside_4 : decode cX11_leastBeside 4 = .ok (.istore_n 3, 1) := by decide +kernel
theorem dX11_leastBeside_5 : decode cX11_leastBeside 5 = .ok (.iload_n 3, 1) := by decide +kernel
theorem dX11_leastBeside_6 : decode cX11_leastBeside 6 = .ok (.bipush 25, 2) := by decide +kernel
theorem dX11_leastBeside_8 : decode cX11_leastBeside 8 = .ok (.if_icmp .ge 36, 3) := by decide +kernel
theorem dX11_leastBeside_11 : decode cX11_leastBeside 11 = .ok (.iload_n 3, 1) := by decide +kernel
theorem dX11_leastBeside_12 : decode cX11_leastBeside 12 = .ok (.iload_n 1, 1) := by decide +kernel
theorem dX11_leastBeside_13 : decode cX11_leastBeside 13 = .ok (.invokestatic 112, 3) := by decide +kernel
theorem dX11_leastBeside_16 : decode cX11_leastBeside 16 = .ok (.ifCond .eq 20, 3) := by decide +kernel
theorem dX11_leastBeside_19 : decode cX11_leastBeside 19 = .ok (.aload_n 0, 1) := by decide +kernel
theorem dX11_leastBeside_20 : decode cX11_leastBeside 20 = .ok (.iload_n 3, 1) := by decide +kernel
theorem dX11_leastBeside_21 : decode cX11_leastBeside 21 = .ok (.invokevirtual 116, 3) := by decide +kernel
theorem dX11_leastBeside_24 : decode cX11_leastBeside 24 = .ok (.iload_n 2, 1) := by decide +kernel
theorem dX11_leastBeside_25 : decode cX11_leastBeside 25 = .ok (.if_icmp .ge 11, 3) := by decide +kernel
theorem dX11_leastBeside_28 : decode cX11_leastBeside 28 = .ok (.aload_n 0, 1) := by decide +kernel
theorem dX11_leastBeside_29 : decode cX11_leastBeside 29 = .ok (.iload_n 3, 1) := by decide +kernel
theorem dX11_leastBeside_30 : decode cX11_leastBeside 30 = .ok (.invokevirtual 116, 3) := by decide +kernel
theorem dX11_leastBeside_33 : decode cX11_leastBeside 33 = .ok (.goto 4, 3) := by decide +kernel
theorem dX11_leastBeside_36 : decode cX11_leastBeside 36 = .ok (.iload_n 2, 1) := by decide +kernel
theorem dX11_leastBeside_37 : decode cX11_leastBeside 37 = .ok (.istore_n 2, 1) := by decide +kernel
theorem dX11_leastBeside_38 : decode cX11_leastBeside 38 = .ok (.iinc 3 1, 3) := by decide +kernel
theorem dX11_leastBeside_41 : decode cX11_leastBeside 41 = .ok (.goto (-36), 3) := by decide +kernel
theorem dX11_leastBeside_44 : decode cX11_leastBeside 44 = .ok (.iload_n 2, 1) := by decide +kernel
theorem dX11_leastBeside_45 : decode cX11_leastBeside 45 = .ok (.ireturn, 1) := by decide +kernel
theorem dX11_keep_0 : decode cX11_keep 0 = .ok (.aload_n 0, 1) := by decide +kernel
theorem dX11_keep_1 : decode cX11_keep 1 = .ok (.getfield 7, 3) := by decide +kernel
theorem dX11_keep_4 : decode cX11_keep 4 = .ok (.iconst 3, 1) := by decide +kernel
theorem dX11_keep_5 : decode cX11_keep 5 = .ok (.iaload, 1) := by decide +kernel
theorem dX11_keep_6 : decode cX11_keep 6 = .ok (.bipush 8, 2) := by decide +kernel
theorem dX11_keep_8 : decode cX11_keep 8 = .ok (.if_icmp .ne 46, 3) := by decide +kernel
theorem dX11_keep_11 : decode cX11_keep 11 = .ok (.iconst 0, 1) := by decide +kernel
theorem dX11_keep_12 : decode cX11_keep 12 = .ok (.istore_n 1, 1) := by decide +kernel
theorem dX11_keep_13 : decode cX11_keep 13 = .ok (.iload_n 1, 1) := by decide +kernel
theorem dX11_keep_14 : decode cX11_keep 14 = .ok (.sipush 182, 3) := by decide +kernel
theorem dX11_keep_17 : decode cX11_keep 17 = .ok (.if_icmp .ge 29, 3) := by decide +kernel
theorem dX11_keep_20 : decode cX11_keep 20 = .ok (.aload_n 0, 1) := by decide +kernel
theorem dX11_keep_21 : decode cX11_keep 21 = .ok (.getfield 7, 3) := by decide +kernel
theorem dX11_keep_24 : decode cX11_keep 24 = .ok (.sipush 154, 3) := by decide +kernel
theorem dX11_keep_27 : decode cX11_keep 27 = .ok (.iload_n 1, 1) := by decide +kernel
theorem dX11_keep_28 : decode cX11_keep 28 = .ok (.iadd, 1) := by decide +kernel
theorem dX11_keep_29 : decode cX11_keep 29 = .ok (.aload_n 0, 1) := by decide +kernel
theorem dX11_keep_30 : decode cX11_keep 30 = .ok (.getfield 7, 3) := by decide +kernel
theorem dX11_keep_33 : decode cX11_keep 33 = .ok (.sipush 180, 3) := by decide +kernel
theorem dX11_keep_36 : decode cX11_keep 36 = .ok (.iload_n 1, 1) := by decide +kernel
theorem dX11_keep_37 : decode cX11_keep 37 = .ok (.iadd, 1) := by decide +kernel
theorem dX11_keep_38 : decode cX11_keep 38 = .ok (.iaload, 1) := by decide +kernel
theorem dX11_keep_39 : decode cX11_keep 39 = .ok (.iastore, 1) := by decide +kernel
theorem dX11_keep_40 : decode cX11_keep 40 = .ok (.iinc 1 1, 3) := by decide +kernel
theorem dX11_keep_43 : decode cX11_keep 43 = .ok (.goto (-30), 3) := by decide +kernel
theorem dX11_keep_46 : decode cX11_keep 46 = .ok (.aload_n 0, 1) := by decide +kernel
theorem dX11_keep_47 : decode cX11_keep 47 = .ok (.getfield 7, 3) := by decide +kernel
theorem dX11_keep_50 : decode cX11_keep 50 = .ok (.iconst 3, 1) := by decide +kernel
theorem dX11_keep_51 : decode cX11_keep 51 = .ok (.bipush 7, 2) := by decide +kernel
theorem dX11_keep_53 : decode cX11_keep 53 = .ok (.iastore, 1) := by decide +kernel
theorem dX11_keep_54 : decode cX11_keep 54 = .ok (.iconst 0, 1) := by decide +kernel
theorem dX11_keep_55 : decode cX11_keep 55 = .ok (.istore_n 1, 1) := by decide +kernel
theorem dX11_keep_56 : decode cX11_keep 56 = .ok (.iload_n 1, 1) := by decide +kernel
theorem dX11_keep_57 : decode cX11_keep 57 = .ok (.bipush 26, 2) := by decide +kernel
theorem dX11_keep_59 : decode cX11_keep 59 = .ok (.if_icmp .ge 37, 3) := by decide +kernel
theorem dX11_keep_62 : decode cX11_keep 62 = .ok (.aload_n 0, 1) := by decide +kernel
theorem dX11_keep_63 : decode cX11_keep 63 = .ok (.getfield 7, 3) := by decide +kernel
theorem dX11_keep_66 : decode cX11_keep 66 = .ok (.sipush 154, 3) := by decide +kernel
theorem dX11_keep_69 : decode cX11_keep 69 = .ok (.bipush 26, 2) := by decide +kernel
theorem dX11_keep_71 : decode cX11_keep 71 = .ok (.aload_n 0, 1) := by decide +kernel
theorem dX11_keep_72 : decode cX11_keep 72 = .ok (.getfield 7, 3) := by decide +kernel
theorem dX11_keep_75 : decode cX11_keep 75 = .ok (.iconst 3, 1) := by decide +kernel
theorem dX11_keep_76 : decode cX11_keep 76 = .ok (.iaload, 1) := by decide +kernel
theorem dX11_keep_77 : decode cX11_keep 77 = .ok (.imul, 1) := by decide +kernel
theorem dX11_keep_78 : decode cX11_keep 78 = .ok (.iadd, 1) := by decide +kernel
theorem dX11_keep_79 : decode cX11_keep 79 = .ok (.iload_n 1, 1) := by decide +kernel
theorem dX11_keep_80 : decode cX11_keep 80 = .ok (.iadd, 1) := by decide +kernel
theorem dX11_keep_81 : decode cX11_keep 81 = .ok (.aload_n 0, 1) := by decide +kernel
theorem dX11_keep_82 : decode cX11_keep 82 = .ok (.getfield 7, 3) := by decide +kernel
theorem dX11_keep_85 : decode cX11_keep 85 = .ok (.iconst 4, 1) := by decide +kernel
theorem dX11_keep_86 : decode cX11_keep 86 = .ok (.iload_n 1, 1) := by decide +kernel
theorem dX11_keep_87 : decode cX11_keep 87 = .ok (.iadd, 1) := by decide +kernel
theorem dX11_keep_88 : decode cX11_keep 88 = .ok (.iaload, 1) := by decide +kernel
theorem dX11_keep_89 : decode cX11_keep 89 = .ok (.iastore, 1) := by decide +kernel
theorem dX11_keep_90 : decode cX11_keep 90 = .ok (.iinc 1 1, 3) := by decide +kernel
theorem dX11_keep_93 : decode cX11_keep 93 = .ok (.goto (-37), 3) := by decide +kernel
theorem dX11_keep_96 : decode cX11_keep 96 = .ok (.aload_n 0, 1) := by decide +kernel
theorem dX11_keep_97 : decode cX11_keep 97 = .ok (.getfield 7, 3) := by decide +kernel
theorem dX11_keep_100 : decode cX11_keep 100 = .ok (.iconst 3, 1) := by decide +kernel
theorem dX11_keep_101 : decode cX11_keep 101 = .ok (.dup2, 1) := by decide +kernel
theorem dX11_keep_102 : decode cX11_keep 102 = .ok (.iaload, 1) := by decide +kernel
theorem dX11_keep_103 : decode cX11_keep 103 = .ok (.iconst 1, 1) := by decide +kernel
theorem dX11_keep_104 : decode cX11_keep 104 = .ok (.iadd, 1) := by decide +kernel
theorem dX11_keep_105 : decode cX11_keep 105 = .ok (.iastore, 1) := by decide +kernel
theorem dX11_keep_106 : decode cX11_keep 106 = .ok (.return_, 1) := by decide +kernel
theorem dX11_allIce_0 : decode cX11_allIce 0 = .ok (.iconst 0, 1) := by decide +kernel
theorem dX11_allIce_1 : decode cX11_allIce 1 = .ok (.istore_n 1, 1) := by decide +kernel
theorem dX11_allIce_2 : decode cX11_allIce 2 = .ok (.iconst 0, 1) := by decide +kernel
theorem dX11_allIce_3 : decode cX11_allIce 3 = .ok (.istore_n 2, 1) := by decide +kernel
theorem dX11_allIce_4 : decode cX11_allIce 4 = .ok (.iload_n 2, 1) := by decide +kernel
theorem dX11_allIce_5 : decode cX11_allIce 5 = .ok (.bipush 25, 2) := by decide +kernel
theorem dX11_allIce_7 : decode cX11_allIce 7 = .ok (.if_icmp .ge 20, 3) := by decide +kernel
theorem dX11_allIce_10 : decode cX11_allIce 10 = .ok (.iload_n 1, 1) := by decide +kernel
theorem dX11_allIce_11 : decode cX11_allIce 11 = .ok (.aload_n 0, 1) := by decide +kernel
theorem dX11_allIce_12 : decode cX11_allIce 12 = .ok (.getfield 7, 3) := by decide +kernel
theorem dX11_allIce_15 : decode cX11_allIce 15 = .ok (.iconst 4, 1) := by decide +kernel
theorem dX11_allIce_16 : decode cX11_allIce 16 = .ok (.iload_n 2, 1) := by decide +kernel
theorem dX11_allIce_17 : decode cX11_allIce 17 = .ok (.iadd, 1) := by decide +kernel
theorem dX11_allIce_18 : decode cX11_allIce 18 = .ok (.iaload, 1) := by decide +kernel
theorem dX11_allIce_19 : decode cX11_allIce 19 = .ok (.iadd, 1) := by decide +kernel
theorem dX11_allIce_20 : decode cX11_allIce 20 = .ok (.istore_n 1, 1) := by decide +kernel
theorem dX11_allIce_21 : decode cX11_allIce 21 = .ok (.iinc 2 1, 3) := by decide +kernel
theorem dX11_allIce_24 : decode cX11_allIce 24 = .ok (.goto (-20), 3) := by decide +kernel
theorem dX11_allIce_27 : decode cX11_allIce 27 = .ok (.iload_n 1, 1) := by decide +kernel
theorem dX11_allIce_28 : decode cX11_allIce 28 = .ok (.ireturn, 1) := by decide +kernel
theorem dX11_day_0 : decode cX11_day 0 = .ok (.iload_n 1, 1) := by decide +kernel
theorem dX11_day_1 : decode cX11_day 1 = .ok (.i2l, 1) := by decide +kernel
theorem dX11_day_2 : decode cX11_day 2 = .ok (.lconst 1, 1) := by decide +kernel
theorem dX11_day_3 : decode cX11_day 3 = .ok (.ldc2_w 119, 3) := by decide +kernel
theorem dX11_day_6 : decode cX11_day 6 = .ok (.invokestatic 50, 3) := by decide +kernel
theorem dX11_day_9 : decode cX11_day 9 = .ok (.ifCond .ne 10, 3) := by decide +kernel
theorem dX11_day_12 : decode cX11_day 12 = .ok (.aload_n 0, 1) := by decide +kernel
theorem dX11_day_13 : decode cX11_day 13 = .ok (.bipush (-2), 2) := by decide +kernel
theorem dX11_day_15 : decode cX11_day 15 = .ok (.invokevirtual 66, 3) := by decide +kernel
theorem dX11_day_18 : decode cX11_day 18 = .ok (.ireturn, 1) := by decide +kernel
theorem dX11_day_19 : decode cX11_day 19 = .ok (.aload_n 0, 1) := by decide +kernel
theorem dX11_day_20 : decode cX11_day 20 = .ok (.getfield 7, 3) := by decide +kernel
theorem dX11_day_23 : decode cX11_day 23 = .ok (.bipush 29, 2) := by decide +kernel
theorem dX11_day_25 : decode cX11_day 25 = .ok (.iaload, 1) := by decide +kernel
theorem dX11_day_26 : decode cX11_day 26 = .ok (.iload_n 1, 1) := by decide +kernel
theorem dX11_day_27 : decode cX11_day 27 = .ok (.iadd, 1) := by decide +kernel
theorem dX11_day_28 : decode cX11_day 28 = .ok (.sipush 999, 3) := by decide +kernel
theorem dX11_day_31 : decode cX11_day 31 = .ok (.if_icmp .le 17, 3) := by decide +kernel
theorem dX11_day_34 : decode cX11_day 34 = .ok (.sipush 999, 3) := by decide +kernel
theorem dX11_day_37 : decode cX11_day 37 = .ok (.aload_n 0, 1) := by decide +kernel
theorem dX11_day_38 : decode cX11_day 38 = .ok (.getfield 7, 3) := by decide +kernel
theorem dX11_day_41 : decode cX11_day 41 = .ok (.bipush 29, 2) := by decide +kernel
theorem dX11_day_43 : decode cX11_day 43 = .ok (.iaload, 1) := by decide +kernel
theorem dX11_day_44 : decode cX11_day 44 = .ok (.isub, 1) := by decide +kernel
theorem dX11_day_45 : decode cX11_day 45 = .ok (.goto 4, 3) := by decide +kernel
theorem dX11_day_48 : decode cX11_day 48 = .ok (.iload_n 1, 1) := by decide +kernel
theorem dX11_day_49 : decode cX11_day 49 = .ok (.istore_n 2, 1) := by decide +kernel
theorem dX11_day_50 : decode cX11_day 50 = .ok (.aload_n 0, 1) := by decide +kernel
theorem dX11_day_51 : decode cX11_day 51 = .ok (.invokevirtual 121, 3) := by decide +kernel
theorem dX11_day_54 : decode cX11_day 54 = .ok (.aload_n 0, 1) := by decide +kernel
theorem dX11_day_55 : decode cX11_day 55 = .ok (.invokevirtual 124, 3) := by decide +kernel
theorem dX11_day_58 : decode cX11_day 58 = .ok (.aload_n 0, 1) := by decide +kernel
theorem dX11_day_59 : decode cX11_day 59 = .ok (.iload_n 2, 1) := by decide +kernel
theorem dX11_day_60 : decode cX11_day 60 = .ok (.invokevirtual 127, 3) := by decide +kernel
theorem dX11_day_63 : decode cX11_day 63 = .ok (.iconst 0, 1) := by decide +kernel
theorem dX11_day_64 : decode cX11_day 64 = .ok (.istore_n 3, 1) := by decide +kernel
theorem dX11_day_65 : decode cX11_day 65 = .ok (.iload_n 3, 1) := by decide +kernel
theorem dX11_day_66 : decode cX11_day 66 = .ok (.bipush 25, 2) := by decide +kernel
theorem dX11_day_68 : decode cX11_day 68 = .ok (.if_icmp .ge 23, 3) := by decide +kernel
theorem dX11_day_71 : decode cX11_day 71 = .ok (.aload_n 0, 1) := by decide +kernel
theorem dX11_day_72 : decode cX11_day 72 = .ok (.getfield 7, 3) := by decide +kernel
theorem dX11_day_75 : decode cX11_day 75 = .ok (.iconst 4, 1) := by decide +kernel
theorem dX11_day_76 : decode cX11_day 76 = .ok (.iload_n 3, 1) := by decide +kernel
theorem dX11_day_77 : decode cX11_day 77 = .ok (.iadd, 1) := by decide +kernel
theorem dX11_day_78 : decode cX11_day 78 = .ok (.aload_n 0, 1) := by decide +kernel
theorem dX11_day_79 : decode cX11_day 79 = .ok (.getfield 27, 3) := by decide +kernel
theorem dX11_day_82 : decode cX11_day 82 = .ok (.iload_n 3, 1) := by decide +kernel
theorem dX11_day_83 : decode cX11_day 83 = .ok (.iaload, 1) := by decide +kernel
theorem dX11_day_84 : decode cX11_day 84 = .ok (.iastore, 1) := by decide +kernel
theorem dX11_day_85 : decode cX11_day 85 = .ok (.iinc 3 1, 3) := by decide +kernel
theorem dX11_day_88 : decode cX11_day 88 = .ok (.goto (-23), 3) := by decide +kernel
theorem dX11_day_91 : decode cX11_day 91 = .ok (.aload_n 0, 1) := by decide +kernel
theorem dX11_day_92 : decode cX11_day 92 = .ok (.getfield 7, 3) := by decide +kernel
theorem dX11_day_95 : decode cX11_day 95 = .ok (.bipush 29, 2) := by decide +kernel
theorem dX11_day_97 : decode cX11_day 97 = .ok (.dup2, 1) := by decide +kernel
theorem dX11_day_98 : decode cX11_day 98 = .ok (.iaload, 1) := by decide +kernel
theorem dX11_day_99 : decode cX11_day 99 = .ok (.iload_n 2, 1) := by decide +kernel
theorem dX11_day_100 : decode cX11_day 100 = .ok (.iadd, 1) := by decide +kernel
theorem dX11_day_101 : decode cX11_day 101 = .ok (.iastore, 1) := by decide +kernel
theorem dX11_day_102 : decode cX11_day 102 = .ok (.aload_n 0, 1) := by decide +kernel
theorem dX11_day_103 : decode cX11_day 103 = .ok (.invokevirtual 131, 3) := by decide +kernel
theorem dX11_day_106 : decode cX11_day 106 = .ok (.ireturn, 1) := by decide +kernel
theorem dX11_tread_0 : decode cX11_tread 0 = .ok (.iload_n 1, 1) := by decide +kernel
theorem dX11_tread_1 : decode cX11_tread 1 = .ok (.invokestatic 70, 3) := by decide +kernel
theorem dX11_tread_4 : decode cX11_tread 4 = .ok (.ifCond .eq 15, 3) := by decide +kernel
theorem dX11_tread_7 : decode cX11_tread 7 = .ok (.iload_n 2, 1) := by decide +kernel
theorem dX11_tread_8 : decode cX11_tread 8 = .ok (.i2l, 1) := by decide +kernel
theorem dX11_tread_9 : decode cX11_tread 9 = .ok (.lconst 1, 1) := by decide +kernel
theorem dX11_tread_10 : decode cX11_tread 10 = .ok (.ldc2_w 56, 3) := by decide +kernel
theorem dX11_tread_13 : decode cX11_tread 13 = .ok (.invokestatic 50, 3) := by decide +kernel
theorem dX11_tread_16 : decode cX11_tread 16 = .ok (.ifCond .ne 10, 3) := by decide +kernel
theorem dX11_tread_19 : decode cX11_tread 19 = .ok (.aload_n 0, 1) := by decide +kernel
theorem dX11_tread_20 : decode cX11_tread 20 = .ok (.bipush (-2), 2) := by decide +kernel
theorem dX11_tread_22 : decode cX11_tread 22 = .ok (.invokevirtual 66, 3) := by decide +kernel
theorem dX11_tread_25 : decode cX11_tread 25 = .ok (.ireturn, 1) := by decide +kernel
theorem dX11_tread_26 : decode cX11_tread 26 = .ok (.aload_n 0, 1) := by decide +kernel
theorem dX11_tread_27 : decode cX11_tread 27 = .ok (.getfield 7, 3) := by decide +kernel
theorem dX11_tread_30 : decode cX11_tread 30 = .ok (.iconst 4, 1) := by decide +kernel
theorem dX11_tread_31 : decode cX11_tread 31 = .ok (.iload_n 1, 1) := by decide +kernel
theorem dX11_tread_32 : decode cX11_tread 32 = .ok (.iadd, 1) := by decide +kernel
theorem dX11_tread_33 : decode cX11_tread 33 = .ok (.iaload, 1) := by decide +kernel
theorem dX11_tread_34 : decode cX11_tread 34 = .ok (.istore_n 3, 1) := by decide +kernel
theorem dX11_tread_35 : decode cX11_tread 35 = .ok (.aload_n 0, 1) := by decide +kernel
theorem dX11_tread_36 : decode cX11_tread 36 = .ok (.iload_n 1, 1) := by decide +kernel
theorem dX11_tread_37 : decode cX11_tread 37 = .ok (.invokevirtual 97, 3) := by decide +kernel
theorem dX11_tread_40 : decode cX11_tread 40 = .ok (.iload_n 3, 1) := by decide +kernel
theorem dX11_tread_41 : decode cX11_tread 41 = .ok (.invokestatic 100, 3) := by decide +kernel
theorem dX11_tread_44 : decode cX11_tread 44 = .ok (.iload_n 2, 1) := by decide +kernel
theorem dX11_tread_45 : decode cX11_tread 45 = .ok (.if_icmp .lt 7, 3) := by decide +kernel
theorem dX11_tread_48 : decode cX11_tread 48 = .ok (.iconst 1, 1) := by decide +kernel
theorem dX11_tread_49 : decode cX11_tread 49 = .ok (.goto 4, 3) := by decide +kernel
theorem dX11_tread_52 : decode cX11_tread 52 = .ok (.iconst 0, 1) := by decide +kernel
theorem dX11_tread_53 : decode cX11_tread 53 = .ok (.istore 4, 2) := by decide +kernel
theorem dX11_tread_55 : decode cX11_tread 55 = .ok (.aload_n 0, 1) := by decide +kernel
theorem dX11_tread_56 : decode cX11_tread 56 = .ok (.invokevirtual 121, 3) := by decide +kernel
theorem dX11_tread_59 : decode cX11_tread 59 = .ok (.aload_n 0, 1) := by decide +kernel
theorem dX11_tread_60 : decode cX11_tread 60 = .ok (.getfield 7, 3) := by decide +kernel
theorem dX11_tread_63 : decode cX11_tread 63 = .ok (.iconst 4, 1) := by decide +kernel
theorem dX11_tread_64 : decode cX11_tread 64 = .ok (.iload_n 1, 1) := by decide +kernel
theorem dX11_tread_65 : decode cX11_tread 65 = .ok (.iadd, 1) := by decide +kernel
theorem dX11_tread_66 : decode cX11_tread 66 = .ok (.iload 4, 2) := by decide +kernel
theorem dX11_tread_68 : decode cX11_tread 68 = .ok (.ifCond .eq 13, 3) := by decide +kernel
theorem dX11_tread_71 : decode cX11_tread 71 = .ok (.iload_n 3, 1) := by decide +kernel
theorem dX11_tread_72 : decode cX11_tread 72 = .ok (.ifCond .le 9, 3) := by decide +kernel
theorem dX11_tread_75 : decode cX11_tread 75 = .ok (.iload_n 3, 1) := by decide +kernel
theorem dX11_tread_76 : decode cX11_tread 76 = .ok (.iconst 1, 1) := by decide +kernel
theorem dX11_tread_77 : decode cX11_tread 77 = .ok (.isub, 1) := by decide +kernel
theorem dX11_tread_78 : decode cX11_tread 78 = .ok (.goto 4, 3) := by decide +kernel
theorem dX11_tread_81 : decode cX11_tread 81 = .ok (.iconst 0, 1) := by decide +kernel
theorem dX11_tread_82 : decode cX11_tread 82 = .ok (.iastore, 1) := by decide +kernel
theorem dX11_tread_83 : decode cX11_tread 83 = .ok (.iload 4, 2) := by decide +kernel
theorem dX11_tread_85 : decode cX11_tread 85 = .ok (.ifCond .eq 7, 3) := by decide +kernel
theorem dX11_tread_88 : decode cX11_tread 88 = .ok (.iconst 1, 1) := by decide +kernel
theorem dX11_tread_89 : decode cX11_tread 89 = .ok (.goto 4, 3) := by decide +kernel
theorem dX11_tread_92 : decode cX11_tread 92 = .ok (.iconst 0, 1) := by decide +kernel
theorem dX11_tread_93 : decode cX11_tread 93 = .ok (.ireturn, 1) := by decide +kernel
theorem dX11_stone_0 : decode cX11_stone 0 = .ok (.iload_n 1, 1) := by decide +kernel
theorem dX11_stone_1 : decode cX11_stone 1 = .ok (.invokestatic 70, 3) := by decide +kernel
theorem dX11_stone_4 : decode cX11_stone 4 = .ok (.ifCond .ne 10, 3) := by decide +kernel
theorem dX11_stone_7 : decode cX11_stone 7 = .ok (.aload_n 0, 1) := by decide +kernel
theorem dX11_stone_8 : decode cX11_stone 8 = .ok (.bipush (-2), 2) := by decide +kernel
theorem dX11_stone_10 : decode cX11_stone 10 = .ok (.invokevirtual 66, 3) := by decide +kernel
theorem dX11_stone_13 : decode cX11_stone 13 = .ok (.ireturn, 1) := by decide +kernel
theorem dX11_stone_14 : decode cX11_stone 14 = .ok (.aload_n 0, 1) := by decide +kernel
theorem dX11_stone_15 : decode cX11_stone 15 = .ok (.invokevirtual 121, 3) := by decide +kernel
theorem dX11_stone_18 : decode cX11_stone 18 = .ok (.aload_n 0, 1) := by decide +kernel
theorem dX11_stone_19 : decode cX11_stone 19 = .ok (.getfield 7, 3) := by decide +kernel
theorem dX11_stone_22 : decode cX11_stone 22 = .ok (.iconst 4, 1) := by decide +kernel
theorem dX11_stone_23 : decode cX11_stone 23 = .ok (.iload_n 1, 1) := by decide +kernel
theorem dX11_stone_24 : decode cX11_stone 24 = .ok (.iadd, 1) := by decide +kernel
theorem dX11_stone_25 : decode cX11_stone 25 = .ok (.dup2, 1) := by decide +kernel
theorem dX11_stone_26 : decode cX11_stone 26 = .ok (.iaload, 1) := by decide +kernel
theorem dX11_stone_27 : decode cX11_stone 27 = .ok (.iconst 2, 1) := by decide +kernel
theorem dX11_stone_28 : decode cX11_stone 28 = .ok (.idiv, 1) := by decide +kernel
theorem dX11_stone_29 : decode cX11_stone 29 = .ok (.iastore, 1) := by decide +kernel
theorem dX11_stone_30 : decode cX11_stone 30 = .ok (.aload_n 0, 1) := by decide +kernel
theorem dX11_stone_31 : decode cX11_stone 31 = .ok (.getfield 7, 3) := by decide +kernel
theorem dX11_stone_34 : decode cX11_stone 34 = .ok (.iconst 4, 1) := by decide +kernel
theorem dX11_stone_35 : decode cX11_stone 35 = .ok (.iload_n 1, 1) := by decide +kernel
theorem dX11_stone_36 : decode cX11_stone 36 = .ok (.iadd, 1) := by decide +kernel
theorem dX11_stone_37 : decode cX11_stone 37 = .ok (.iaload, 1) := by decide +kernel
theorem dX11_stone_38 : decode cX11_stone 38 = .ok (.ireturn, 1) := by decide +kernel
theorem dX11_undo_0 : decode cX11_undo 0 = .ok (.aload_n 0, 1) := by decide +kernel
theorem dX11_undo_1 : decode cX11_undo 1 = .ok (.getfield 7, 3) := by decide +kernel
theorem dX11_undo_4 : decode cX11_undo 4 = .ok (.iconst 3, 1) := by decide +kernel
theorem dX11_undo_5 : decode cX11_undo 5 = .ok (.iaload, 1) := by decide +kernel
theorem dX11_undo_6 : decode cX11_undo 6 = .ok (.ifCond .ne 8, 3) := by decide +kernel
theorem dX11_undo_9 : decode cX11_undo 9 = .ok (.aload_n 0, 1) := by decide +kernel
theorem dX11_undo_10 : decode cX11_undo 10 = .ok (.invokevirtual 134, 3) := by decide +kernel
theorem dX11_undo_13 : decode cX11_undo 13 = .ok (.ireturn, 1) := by decide +kernel
theorem dX11_undo_14 : decode cX11_undo 14 = .ok (.aload_n 0, 1) := by decide +kernel
theorem dX11_undo_15 : decode cX11_undo 15 = .ok (.getfield 7, 3) := by decide +kernel
theorem dX11_undo_18 : decode cX11_undo 18 = .ok (.iconst 3, 1) := by decide +kernel
theorem dX11_undo_19 : decode cX11_undo 19 = .ok (.dup2, 1) := by decide +kernel
theorem dX11_undo_20 : decode cX11_undo 20 = .ok (.iaload, 1) := by decide +kernel
theorem dX11_undo_21 : decode cX11_undo 21 = .ok (.iconst 1, 1) := by decide +kernel
theorem dX11_undo_22 : decode cX11_undo 22 = .ok (.isub, 1) := by decide +kernel
theorem dX11_undo_23 : decode cX11_undo 23 = .ok (.iastore, 1) := by decide +kernel
theorem dX11_undo_24 : decode cX11_undo 24 = .ok (.iconst 0, 1) := by decide +kernel
theorem dX11_undo_25 : decode cX11_undo 25 = .ok (.istore_n 1, 1) := by decide +kernel
theorem dX11_undo_26 : decode cX11_undo 26 = .ok (.iload_n 1, 1) := by decide +kernel
theorem dX11_undo_27 : decode cX11_undo 27 = .ok (.bipush 26, 2) := by decide +kernel
theorem dX11_undo_29 : decode cX11_undo 29 = .ok (.if_icmp .ge 37, 3) := by decide +kernel
theorem dX11_undo_32 : decode cX11_undo 32 = .ok (.aload_n 0, 1) := by decide +kernel
theorem dX11_undo_33 : decode cX11_undo 33 = .ok (.getfield 7, 3) := by decide +kernel
theorem dX11_undo_36 : decode cX11_undo 36 = .ok (.iconst 4, 1) := by decide +kernel
theorem dX11_undo_37 : decode cX11_undo 37 = .ok (.iload_n 1, 1) := by decide +kernel
theorem dX11_undo_38 : decode cX11_undo 38 = .ok (.iadd, 1) := by decide +kernel
theorem dX11_undo_39 : decode cX11_undo 39 = .ok (.aload_n 0, 1) := by decide +kernel
theorem dX11_undo_40 : decode cX11_undo 40 = .ok (.getfield 7, 3) := by decide +kernel
theorem dX11_undo_43 : decode cX11_undo 43 = .ok (.sipush 154, 3) := by decide +kernel
theorem dX11_undo_46 : decode cX11_undo 46 = .ok (.bipush 26, 2) := by decide +kernel
theorem dX11_undo_48 : decode cX11_undo 48 = .ok (.aload_n 0, 1) := by decide +kernel
theorem dX11_undo_49 : decode cX11_undo 49 = .ok (.getfield 7, 3) := by decide +kernel
theorem dX11_undo_52 : decode cX11_undo 52 = .ok (.iconst 3, 1) := by decide +kernel
theorem dX11_undo_53 : decode cX11_undo 53 = .ok (.iaload, 1) := by decide +kernel
theorem dX11_undo_54 : decode cX11_undo 54 = .ok (.imul, 1) := by decide +kernel
theorem dX11_undo_55 : decode cX11_undo 55 = .ok (.iadd, 1) := by decide +kernel
theorem dX11_undo_56 : decode cX11_undo 56 = .ok (.iload_n 1, 1) := by decide +kernel
theorem dX11_undo_57 : decode cX11_undo 57 = .ok (.iadd, 1) := by decide +kernel
theorem dX11_undo_58 : decode cX11_undo 58 = .ok (.iaload, 1) := by decide +kernel
theorem dX11_undo_59 : decode cX11_undo 59 = .ok (.iastore, 1) := by decide +kernel
theorem dX11_undo_60 : decode cX11_undo 60 = .ok (.iinc 1 1, 3) := by decide +kernel
theorem dX11_undo_63 : decode cX11_undo 63 = .ok (.goto (-37), 3) := by decide +kernel
theorem dX11_undo_66 : decode cX11_undo 66 = .ok (.aload_n 0, 1) := by decide +kernel
theorem dX11_undo_67 : decode cX11_undo 67 = .ok (.getfield 7, 3) := by decide +kernel
theorem dX11_undo_70 : decode cX11_undo 70 = .ok (.bipush 29, 2) := by decide +kernel
theorem dX11_undo_72 : decode cX11_undo 72 = .ok (.iaload, 1) := by decide +kernel
theorem dX11_undo_73 : decode cX11_undo 73 = .ok (.ireturn, 1) := by decide +kernel
theorem dX11_of_0 : decode cX11_of 0 = .ok (.iload_n 1, 1) := by decide +kernel
theorem dX11_of_1 : decode cX11_of 1 = .ok (.invokestatic 70, 3) := by decide +kernel
theorem dX11_of_4 : decode cX11_of 4 = .ok (.ifCond .eq 15, 3) := by decide +kernel
theorem dX11_of_7 : decode cX11_of 7 = .ok (.iload_n 2, 1) := by decide +kernel
theorem dX11_of_8 : decode cX11_of 8 = .ok (.i2l, 1) := by decide +kernel
theorem dX11_of_9 : decode cX11_of 9 = .ok (.lconst 0, 1) := by decide +kernel
theorem dX11_of_10 : decode cX11_of 10 = .ok (.ldc2_w 137, 3) := by decide +kernel
theorem dX11_of_13 : decode cX11_of 13 = .ok (.invokestatic 50, 3) := by decide +kernel
theorem dX11_of_16 : decode cX11_of 16 = .ok (.ifCond .ne 10, 3) := by decide +kernel
theorem dX11_of_19 : decode cX11_of 19 = .ok (.aload_n 0, 1) := by decide +kernel
theorem dX11_of_20 : decode cX11_of 20 = .ok (.bipush (-2), 2) := by decide +kernel
theorem dX11_of_22 : decode cX11_of 22 = .ok (.invokevirtual 66, 3) := by decide +kernel
theorem dX11_of_25 : decode cX11_of 25 = .ok (.ireturn, 1) := by decide +kernel
theorem dX11_of_26 : decode cX11_of 26 = .ok (.iload_n 2, 1) := by decide +kernel
theorem dX11_of_27 : decode cX11_of 27 = .ok (.ifCond .ne 11, 3) := by decide +kernel
theorem dX11_of_30 : decode cX11_of 30 = .ok (.aload_n 0, 1) := by decide +kernel
theorem dX11_of_31 : decode cX11_of 31 = .ok (.iload_n 1, 1) := by decide +kernel
theorem dX11_of_32 : decode cX11_of 32 = .ok (.invokevirtual 97, 3) := by decide +kernel
theorem dX11_of_35 : decode cX11_of 35 = .ok (.goto 35, 3) := by decide +kernel
theorem dX11_of_38 : decode cX11_of 38 = .ok (.iload_n 2, 1) := by decide +kernel
theorem dX11_of_39 : decode cX11_of 39 = .ok (.iconst 1, 1) := by decide +kernel
theorem dX11_of_40 : decode cX11_of 40 = .ok (.if_icmp .ne 14, 3) := by decide +kernel
theorem dX11_of_43 : decode cX11_of 43 = .ok (.aload_n 0, 1) := by decide +kernel
theorem dX11_of_44 : decode cX11_of 44 = .ok (.getfield 7, 3) := by decide +kernel
theorem dX11_of_47 : decode cX11_of 47 = .ok (.iconst 4, 1) := by decide +kernel
theorem dX11_of_48 : decode cX11_of 48 = .ok (.iload_n 1, 1) := by decide +kernel
theorem dX11_of_49 : decode cX11_of 49 = .ok (.iadd, 1) := by decide +kernel
theorem dX11_of_50 : decode cX11_of 50 = .ok (.iaload, 1) := by decide +kernel
theorem dX11_of_51 : decode cX11_of 51 = .ok (.goto 19, 3) := by decide +kernel
theorem dX11_of_54 : decode cX11_of 54 = .ok (.aload_n 0, 1) := by decide +kernel
theorem dX11_of_55 : decode cX11_of 55 = .ok (.iload_n 1, 1) := by decide +kernel
theorem dX11_of_56 : decode cX11_of 56 = .ok (.invokevirtual 97, 3) := by decide +kernel
theorem dX11_of_59 : decode cX11_of 59 = .ok (.aload_n 0, 1) := by decide +kernel
theorem dX11_of_60 : decode cX11_of 60 = .ok (.getfield 7, 3) := by decide +kernel
theorem dX11_of_63 : decode cX11_of 63 = .ok (.iconst 4, 1) := by decide +kernel
theorem dX11_of_64 : decode cX11_of 64 = .ok (.iload_n 1, 1) := by decide +kernel
theorem dX11_of_65 : decode cX11_of 65 = .ok (.iadd, 1) := by decide +kernel
theorem dX11_of_66 : decode cX11_of 66 = .ok (.iaload, 1) := by decide +kernel
theorem dX11_of_67 : decode cX11_of 67 = .ok (.invokestatic 100, 3) := by decide +kernel
theorem dX11_of_70 : decode cX11_of 70 = .ok (.ireturn, 1) := by decide +kernel
theorem dX11_frostNow_0 : decode cX11_frostNow 0 = .ok (.aload_n 0, 1) := by decide +kernel
theorem dX11_frostNow_1 : decode cX11_frostNow 1 = .ok (.getfield 7, 3) := by decide +kernel
theorem dX11_frostNow_4 : decode cX11_frostNow 4 = .ok (.bipush 55, 2) := by decide +kernel
theorem dX11_frostNow_6 : decode cX11_frostNow 6 = .ok (.aload_n 0, 1) := by decide +kernel
theorem dX11_frostNow_7 : decode cX11_frostNow 7 = .ok (.getfield 7, 3) := by decide +kernel
theorem dX11_frostNow_10 : decode cX11_frostNow 10 = .ok (.bipush 29, 2) := by decide +kernel
theorem dX11_frostNow_12 : decode cX11_frostNow 12 = .ok (.iaload, 1) := by decide +kernel
theorem dX11_frostNow_13 : decode cX11_frostNow 13 = .ok (.bipush 7, 2) := by decide +kernel
theorem dX11_frostNow_15 : decode cX11_frostNow 15 = .ok (.irem, 1) := by decide +kernel
theorem dX11_frostNow_16 : decode cX11_frostNow 16 = .ok (.iadd, 1) := by decide +kernel
theorem dX11_frostNow_17 : decode cX11_frostNow 17 = .ok (.iaload, 1) := by decide +kernel
theorem dX11_frostNow_18 : decode cX11_frostNow 18 = .ok (.ireturn, 1) := by decide +kernel
theorem dX11_votesYes_0 : decode cX11_votesYes 0 = .ok (.aload_n 0, 1) := by decide +kernel
theorem dX11_votesYes_1 : decode cX11_votesYes 1 = .ok (.getfield 7, 3) := by decide +kernel
theorem dX11_votesYes_4 : decode cX11_votesYes 4 = .ok (.bipush 87, 2) := by decide +kernel
theorem dX11_votesYes_6 : decode cX11_votesYes 6 = .ok (.iload_n 1, 1) := by decide +kernel
theorem dX11_votesYes_7 : decode cX11_votesYes 7 = .ok (.iadd, 1) := by decide +kernel
theorem dX11_votesYes_8 : decode cX11_votesYes 8 = .ok (.iaload, 1) := by decide +kernel
theorem dX11_votesYes_9 : decode cX11_votesYes 9 = .ok (.istore_n 3, 1) := by decide +kernel
theorem dX11_votesYes_10 : decode cX11_votesYes 10 = .ok (.aload_n 0, 1) := by decide +kernel
theorem dX11_votesYes_11 : decode cX11_votesYes 11 = .ok (.getfield 7, 3) := by decide +kernel
theorem dX11_votesYes_14 : decode cX11_votesYes 14 = .ok (.bipush 73, 2) := by decide +kernel
theorem dX11_votesYes_16 : decode cX11_votesYes 16 = .ok (.iload_n 1, 1) := by decide +kernel
theorem dX11_votesYes_17 : decode cX11_votesYes 17 = .ok (.iadd, 1) := by decide +kernel
theorem dX11_votesYes_18 : decode cX11_votesYes 18 = .ok (.iaload, 1) := by decide +kernel
theorem dX11_votesYes_19 : decode cX11_votesYes 19 = .ok (.aload_n 0, 1) := by decide +kernel
theorem dX11_votesYes_20 : decode cX11_votesYes 20 = .ok (.getfield 7, 3) := by decide +kernel
theorem dX11_votesYes_23 : decode cX11_votesYes 23 = .ok (.bipush 80, 2) := by decide +kernel
theorem dX11_votesYes_25 : decode cX11_votesYes 25 = .ok (.iload_n 1, 1) := by decide +kernel
theorem dX11_votesYes_26 : decode cX11_votesYes 26 = .ok (.iadd, 1) := by decide +kernel
theorem dX11_votesYes_27 : decode cX11_votesYes 27 = .ok (.iaload, 1) := by decide +kernel
theorem dX11_votesYes_28 : decode cX11_votesYes 28 = .ok (.aload_n 0, 1) := by decide +kernel
theorem dX11_votesYes_29 : decode cX11_votesYes 29 = .ok (.iload_n 3, 1) := by decide +kernel
theorem dX11_votesYes_30 : decode cX11_votesYes 30 = .ok (.invokevirtual 116, 3) := by decide +kernel
theorem dX11_votesYes_33 : decode cX11_votesYes 33 = .ok (.aload_n 0, 1) := by decide +kernel
theorem dX11_votesYes_34 : decode cX11_votesYes 34 = .ok (.iload_n 3, 1) := by decide +kernel
theorem dX11_votesYes_35 : decode cX11_votesYes 35 = .ok (.invokevirtual 139, 3) := by decide +kernel
theorem dX11_votesYes_38 : decode cX11_votesYes 38 = .ok (.iload_n 2, 1) := by decide +kernel
theorem dX11_votesYes_39 : decode cX11_votesYes 39 = .ok (.invokestatic 142, 3) := by decide +kernel
theorem dX11_votesYes_42 : decode cX11_votesYes 42 = .ok (.ireturn, 1) := by decide +kernel
theorem dX11_about_0 : decode cX11_about 0 = .ok (.aload_n 0, 1) := by decide +kernel
theorem dX11_about_1 : decode cX11_about 1 = .ok (.iload_n 1, 1) := by decide +kernel
theorem dX11_about_2 : decode cX11_about 2 = .ok (.invokevirtual 146, 3) := by decide +kernel
theorem dX11_about_5 : decode cX11_about 5 = .ok (.ifCond .eq 15, 3) := by decide +kernel
theorem dX11_about_8 : decode cX11_about 8 = .ok (.iload_n 2, 1) := by decide +kernel
theorem dX11_about_9 : decode cX11_about 9 = .ok (.i2l, 1) := by decide +kernel
theorem dX11_about_10 : decode cX11_about 10 = .ok (.lconst 0, 1) := by decide +kernel
theorem dX11_about_11 : decode cX11_about 11 = .ok (.ldc2_w 80, 3) := by decide +kernel
theorem dX11_about_14 : decode cX11_about 14 = .ok (.invokestatic 50, 3) := by decide +kernel
theorem dX11_about_17 : decode cX11_about 17 = .ok (.ifCond .ne 10, 3) := by decide +kernel
theorem dX11_about_20 : decode cX11_about 20 = .ok (.aload_n 0, 1) := by decide +kernel
theorem dX11_about_21 : decode cX11_about 21 = .ok (.bipush (-2), 2) := by decide +kernel
theorem dX11_about_23 : decode cX11_about 23 = .ok (.invokevirtual 66, 3) := by decide +kernel
theorem dX11_about_26 : decode cX11_about 26 = .ok (.ireturn, 1) := by decide +kernel
theorem dX11_about_27 : decode cX11_about 27 = .ok (.aload_n 0, 1) := by decide +kernel
theorem dX11_about_28 : decode cX11_about 28 = .ok (.invokevirtual 124, 3) := by decide +kernel
theorem dX11_about_31 : decode cX11_about 31 = .ok (.aload_n 0, 1) := by decide +kernel
theorem dX11_about_32 : decode cX11_about 32 = .ok (.iload_n 1, 1) := by decide +kernel
theorem dX11_about_33 : decode cX11_about 33 = .ok (.aload_n 0, 1) := by decide +kernel
theorem dX11_about_34 : decode cX11_about 34 = .ok (.invokevirtual 149, 3) := by decide +kernel
theorem dX11_about_37 : decode cX11_about 37 = .ok (.invokevirtual 152, 3) := by decide +kernel
theorem dX11_about_40 : decode cX11_about 40 = .ok (.ifCond .eq 7, 3) := by decide +kernel
theorem dX11_about_43 : decode cX11_about 43 = .ok (.iconst 1, 1) := by decide +kernel
theorem dX11_about_44 : decode cX11_about 44 = .ok (.goto 4, 3) := by decide +kernel
theorem dX11_about_47 : decode cX11_about 47 = .ok (.iconst 0, 1) := by decide +kernel
theorem dX11_about_48 : decode cX11_about 48 = .ok (.istore_n 3, 1) := by decide +kernel
theorem dX11_about_49 : decode cX11_about 49 = .ok (.iload_n 2, 1) := by decide +kernel
theorem dX11_about_50 : decode cX11_about 50 = .ok (.ifCond .ne 15, 3) := by decide +kernel
theorem dX11_about_53 : decode cX11_about 53 = .ok (.aload_n 0, 1) := by decide +kernel
theorem dX11_about_54 : decode cX11_about 54 = .ok (.getfield 7, 3) := by decide +kernel
theorem dX11_about_57 : decode cX11_about 57 = .ok (.bipush 73, 2) := by decide +kernel
theorem dX11_about_59 : decode cX11_about 59 = .ok (.iload_n 1, 1) := by decide +kernel
theorem dX11_about_60 : decode cX11_about 60 = .ok (.iadd, 1) := by decide +kernel
theorem dX11_about_61 : decode cX11_about 61 = .ok (.iaload, 1) := by decide +kernel
theorem dX11_about_62 : decode cX11_about 62 = .ok (.goto 38, 3) := by decide +kernel
theorem dX11_about_65 : decode cX11_about 65 = .ok (.iload_n 2, 1) := by decide +kernel
theorem dX11_about_66 : decode cX11_about 66 = .ok (.iconst 1, 1) := by decide +kernel
theorem dX11_about_67 : decode cX11_about 67 = .ok (.if_icmp .ne 15, 3) := by decide +kernel
theorem dX11_about_70 : decode cX11_about 70 = .ok (.aload_n 0, 1) := by decide +kernel
theorem dX11_about_71 : decode cX11_about 71 = .ok (.getfield 7, 3) := by decide +kernel
theorem dX11_about_74 : decode cX11_about 74 = .ok (.bipush 80, 2) := by decide +kernel
theorem dX11_about_76 : decode cX11_about 76 = .ok (.iload_n 1, 1) := by decide +kernel
theorem dX11_about_77 : decode cX11_about 77 = .ok (.iadd, 1) := by decide +kernel
theorem dX11_about_78 : decode cX11_about 78 = .ok (.iaload, 1) := by decide +kernel
theorem dX11_about_79 : decode cX11_about 79 = .ok (.goto 21, 3) := by decide +kernel
theorem dX11_about_82 : decode cX11_about 82 = .ok (.iload_n 2, 1) := by decide +kernel
theorem dX11_about_83 : decode cX11_about 83 = .ok (.iconst 2, 1) := by decide +kernel
theorem dX11_about_84 : decode cX11_about 84 = .ok (.if_icmp .ne 15, 3) := by decide +kernel
theorem dX11_about_87 : decode cX11_about 87 = .ok (.aload_n 0, 1) := by decide +kernel
theorem dX11_about_88 : decode cX11_about 88 = .ok (.getfield 7, 3) := by decide +kernel
theorem dX11_about_91 : decode cX11_about 91 = .ok (.bipush 87, 2) := by decide +kernel
theorem dX11_about_93 : decode cX11_about 93 = .ok (.iload_n 1, 1) := by decide +kernel
theorem dX11_about_94 : decode cX11_about 94 = .ok (.iadd, 1) := by decide +kernel
theorem dX11_about_95 : decode cX11_about 95 = .ok (.iaload, 1) := by decide +kernel
theorem dX11_about_96 : decode cX11_about 96 = .ok (.goto 4, 3) := by decide +kernel
theorem dX11_about_99 : decode cX11_about 99 = .ok (.iload_n 3, 1) := by decide +kernel
theorem dX11_about_100 : decode cX11_about 100 = .ok (.ireturn, 1) := by decide +kernel
theorem dX11_then_0 : decode cX11_then 0 = .ok (.iload_n 1, 1) := by decide +kernel
theorem dX11_then_1 : decode cX11_then 1 = .ok (.invokestatic 70, 3) := by decide +kernel
theorem dX11_then_4 : decode cX11_then 4 = .ok (.ifCond .eq 25, 3) := by decide +kernel
theorem dX11_then_7 : decode cX11_then 7 = .ok (.iload_n 2, 1) := by decide +kernel
theorem dX11_then_8 : decode cX11_then 8 = .ok (.i2l, 1) := by decide +kernel
theorem dX11_then_9 : decode cX11_then 9 = .ok (.lconst 0, 1) := by decide +kernel
theorem dX11_then_10 : decode cX11_then 10 = .ok (.ldc2_w 119, 3) := by decide +kernel
theorem dX11_then_13 : decode cX11_then 13 = .ok (.invokestatic 50, 3) := by decide +kernel
theorem dX11_then_16 : decode cX11_then 16 = .ok (.ifCond .eq 13, 3) := by decide +kernel
theorem dX11_then_19 : decode cX11_then 19 = .ok (.iload_n 3, 1) := by decide +kernel
theorem dX11_then_20 : decode cX11_then 20 = .ok (.i2l, 1) := by decide +kernel
theorem dX11_then_21 : decode cX11_then 21 = .ok (.lconst 0, 1) := by decide +kernel
theorem dX11_then_22 : decode cX11_then 22 = .ok (.lconst 1, 1) := by decide +kernel
theorem dX11_then_23 : decode cX11_then 23 = .ok (.invokestatic 50, 3) := by decide +kernel
theorem dX11_then_26 : decode cX11_then 26 = .ok (.ifCond .ne 10, 3) := by decide +kernel
theorem dX11_then_29 : decode cX11_then 29 = .ok (.aload_n 0, 1) := by decide +kernel
theorem dX11_then_30 : decode cX11_then 30 = .ok (.bipush (-2), 2) := by decide +kernel
theorem dX11_then_32 : decode cX11_then 32 = .ok (.invokevirtual 66, 3) := by decide +kernel
theorem dX11_then_35 : decode cX11_then 35 = .ok (.ireturn, 1) := by decide +kernel
theorem dX11_then_36 : decode cX11_then 36 = .ok (.aload_n 0, 1) := by decide +kernel
theorem dX11_then_37 : decode cX11_then 37 = .ok (.invokevirtual 124, 3) := by decide +kernel
theorem dX11_then_40 : decode cX11_then 40 = .ok (.aload_n 0, 1) := by decide +kernel
theorem dX11_then_41 : decode cX11_then 41 = .ok (.iload_n 2, 1) := by decide +kernel
theorem dX11_then_42 : decode cX11_then 42 = .ok (.invokevirtual 127, 3) := by decide +kernel
theorem dX11_then_45 : decode cX11_then 45 = .ok (.iload_n 3, 1) := by decide +kernel
theorem dX11_then_46 : decode cX11_then 46 = .ok (.ifCond .ne 12, 3) := by decide +kernel
theorem dX11_then_49 : decode cX11_then 49 = .ok (.aload_n 0, 1) := by decide +kernel
theorem dX11_then_50 : decode cX11_then 50 = .ok (.getfield 27, 3) := by decide +kernel
theorem dX11_then_53 : decode cX11_then 53 = .ok (.iload_n 1, 1) := by decide +kernel
theorem dX11_then_54 : decode cX11_then 54 = .ok (.iaload, 1) := by decide +kernel
theorem dX11_then_55 : decode cX11_then 55 = .ok (.goto 8, 3) := by decide +kernel
theorem dX11_then_58 : decode cX11_then 58 = .ok (.aload_n 0, 1) := by decide +kernel
theorem dX11_then_59 : decode cX11_then 59 = .ok (.iload_n 1, 1) := by decide +kernel
theorem dX11_then_60 : decode cX11_then 60 = .ok (.invokevirtual 116, 3) := by decide +kernel
theorem dX11_then_63 : decode cX11_then 63 = .ok (.ireturn, 1) := by decide +kernel
theorem dX11_goOne_0 : decode cX11_goOne 0 = .ok (.aload_n 0, 1) := by decide +kernel
theorem dX11_goOne_1 : decode cX11_goOne 1 = .ok (.getfield 7, 3) := by decide +kernel
theorem dX11_goOne_4 : decode cX11_goOne 4 = .ok (.bipush 29, 2) := by decide +kernel
theorem dX11_goOne_6 : decode cX11_goOne 6 = .ok (.iaload, 1) := by decide +kernel
theorem dX11_goOne_7 : decode cX11_goOne 7 = .ok (.iload_n 1, 1) := by decide +kernel
theorem dX11_goOne_8 : decode cX11_goOne 8 = .ok (.iadd, 1) := by decide +kernel
theorem dX11_goOne_9 : decode cX11_goOne 9 = .ok (.bipush 7, 2) := by decide +kernel
theorem dX11_goOne_11 : decode cX11_goOne 11 = .ok (.irem, 1) := by decide +kernel
theorem dX11_goOne_12 : decode cX11_goOne 12 = .ok (.istore_n 2, 1) := by decide +kernel
theorem dX11_goOne_13 : decode cX11_goOne 13 = .ok (.aload_n 0, 1) := by decide +kernel
theorem dX11_goOne_14 : decode cX11_goOne 14 = .ok (.aload_n 0, 1) := by decide +kernel
theorem dX11_goOne_15 : decode cX11_goOne 15 = .ok (.getfield 7, 3) := by decide +kernel
theorem dX11_goOne_18 : decode cX11_goOne 18 = .ok (.bipush 55, 2) := by decide +kernel
theorem dX11_goOne_20 : decode cX11_goOne 20 = .ok (.iload_n 2, 1) := by decide +kernel
theorem dX11_goOne_21 : decode cX11_goOne 21 = .ok (.iadd, 1) := by decide +kernel
theorem dX11_goOne_22 : decode cX11_goOne 22 = .ok (.iaload, 1) := by decide +kernel
theorem dX11_goOne_23 : decode cX11_goOne 23 = .ok (.aload_n 0, 1) := by decide +kernel
theorem dX11_goOne_24 : decode cX11_goOne 24 = .ok (.getfield 7, 3) := by decide +kernel
theorem dX11_goOne_27 : decode cX11_goOne 27 = .ok (.bipush 62, 2) := by decide +kernel
theorem dX11_goOne_29 : decode cX11_goOne 29 = .ok (.iload_n 2, 1) := by decide +kernel
theorem dX11_goOne_30 : decode cX11_goOne 30 = .ok (.iadd, 1) := by decide +kernel
theorem dX11_goOne_31 : decode cX11_goOne 31 = .ok (.iaload, 1) := by decide +kernel
theorem dX11_goOne_32 : decode cX11_goOne 32 = .ok (.invokevirtual 107, 3) := by decide +kernel
theorem dX11_goOne_35 : decode cX11_goOne 35 = .ok (.return_, 1) := by decide +kernel
theorem dX11_when_0 : decode cX11_when 0 = .ok (.iload_n 1, 1) := by decide +kernel
theorem dX11_when_1 : decode cX11_when 1 = .ok (.invokestatic 70, 3) := by decide +kernel
theorem dX11_when_4 : decode cX11_when 4 = .ok (.ifCond .eq 10, 3) := by decide +kernel
theorem dX11_when_7 : decode cX11_when 7 = .ok (.iload_n 2, 1) := by decide +kernel
theorem dX11_when_8 : decode cX11_when 8 = .ok (.invokestatic 155, 3) := by decide +kernel
theorem dX11_when_11 : decode cX11_when 11 = .ok (.ifCond .ne 10, 3) := by decide +kernel
theorem dX11_when_14 : decode cX11_when 14 = .ok (.aload_n 0, 1) := by decide +kernel
theorem dX11_when_15 : decode cX11_when 15 = .ok (.bipush (-2), 2) := by decide +kernel
theorem dX11_when_17 : decode cX11_when 17 = .ok (.invokevirtual 66, 3) := by decide +kernel
theorem dX11_when_20 : decode cX11_when 20 = .ok (.ireturn, 1) := by decide +kernel
theorem dX11_when_21 : decode cX11_when 21 = .ok (.aload_n 0, 1) := by decide +kernel
theorem dX11_when_22 : decode cX11_when 22 = .ok (.invokevirtual 124, 3) := by decide +kernel
theorem dX11_when_25 : decode cX11_when 25 = .ok (.iconst 0, 1) := by decide +kernel
theorem dX11_when_26 : decode cX11_when 26 = .ok (.istore_n 3, 1) := by decide +kernel
theorem dX11_when_27 : decode cX11_when 27 = .ok (.iload_n 3, 1) := by decide +kernel
theorem dX11_when_28 : decode cX11_when 28 = .ok (.bipush 60, 2) := by decide +kernel
theorem dX11_when_30 : decode cX11_when 30 = .ok (.if_icmp .gt 25, 3) := by decide +kernel
theorem dX11_when_33 : decode cX11_when 33 = .ok (.aload_n 0, 1) := by decide +kernel
theorem dX11_when_34 : decode cX11_when 34 = .ok (.iload_n 1, 1) := by decide +kernel
theorem dX11_when_35 : decode cX11_when 35 = .ok (.invokevirtual 116, 3) := by decide +kernel
theorem dX11_when_38 : decode cX11_when 38 = .ok (.iload_n 2, 1) := by decide +kernel
theorem dX11_when_39 : decode cX11_when 39 = .ok (.if_icmp .lt 5, 3) := by decide +kernel
theorem dX11_when_42 : decode cX11_when 42 = .ok (.iload_n 3, 1) := by decide +kernel
theorem dX11_when_43 : decode cX11_when 43 = .ok (.ireturn, 1) := by decide +kernel
theorem dX11_when_44 : decode cX11_when 44 = .ok (.aload_n 0, 1) := by decide +kernel
theorem dX11_when_45 : decode cX11_when 45 = .ok (.iload_n 3, 1) := by decide +kernel
theorem dX11_when_46 : decode cX11_when 46 = .ok (.invokevirtual 158, 3) := by decide +kernel
theorem dX11_when_49 : decode cX11_when 49 = .ok (.iinc 3 1, 3) := by decide +kernel
theorem dX11_when_52 : decode cX11_when 52 = .ok (.goto (-25), 3) := by decide +kernel
theorem dX11_when_55 : decode cX11_when 55 = .ok (.iconst (-1), 1) := by decide +kernel
theorem dX11_when_56 : decode cX11_when 56 = .ok (.ireturn, 1) := by decide +kernel
theorem dX11_where_0 : decode cX11_where 0 = .ok (.iload_n 1, 1) := by decide +kernel
theorem dX11_where_1 : decode cX11_where 1 = .ok (.invokestatic 155, 3) := by decide +kernel
theorem dX11_where_4 : decode cX11_where 4 = .ok (.ifCond .eq 15, 3) := by decide +kernel
theorem dX11_where_7 : decode cX11_where 7 = .ok (.iload_n 2, 1) := by decide +kernel
theorem dX11_where_8 : decode cX11_where 8 = .ok (.i2l, 1) := by decide +kernel
theorem dX11_where_9 : decode cX11_where 9 = .ok (.lconst 0, 1) := by decide +kernel
theorem dX11_where_10 : decode cX11_where 10 = .ok (.ldc2_w 119, 3) := by decide +kernel
theorem dX11_where_13 : decode cX11_where 13 = .ok (.invokestatic 50, 3) := by decide +kernel
theorem dX11_where_16 : decode cX11_where 16 = .ok (.ifCond .ne 10, 3) := by decide +kernel
theorem dX11_where_19 : decode cX11_where 19 = .ok (.aload_n 0, 1) := by decide +kernel
theorem dX11_where_20 : decode cX11_where 20 = .ok (.bipush (-2), 2) := by decide +kernel
theorem dX11_where_22 : decode cX11_where 22 = .ok (.invokevirtual 66, 3) := by decide +kernel
theorem dX11_where_25 : decode cX11_where 25 = .ok (.ireturn, 1) := by decide +kernel
theorem dX11_where_26 : decode cX11_where 26 = .ok (.iconst 0, 1) := by decide +kernel
theorem dX11_where_27 : decode cX11_where 27 = .ok (.istore_n 3, 1) := by decide +kernel
theorem dX11_where_28 : decode cX11_where 28 = .ok (.aload_n 0, 1) := by decide +kernel
theorem dX11_where_29 : decode cX11_where 29 = .ok (.invokevirtual 124, 3) := by decide +kernel
theorem dX11_where_32 : decode cX11_where 32 = .ok (.aload_n 0, 1) := by decide +kernel
theorem dX11_where_33 : decode cX11_where 33 = .ok (.iload_n 2, 1) := by decide +kernel
theorem dX11_where_34 : decode cX11_where 34 = .ok (.invokevirtual 127, 3) := by decide +kernel
theorem dX11_where_37 : decode cX11_where 37 = .ok (.iconst 0, 1) := by decide +kernel
theorem dX11_where_38 : decode cX11_where 38 = .ok (.istore 4, 2) := by decide +kernel
theorem dX11_where_40 : decode cX11_where 40 = .ok (.iload 4, 2) := by decide +kernel
theorem dX11_where_42 : decode cX11_where 42 = .ok (.bipush 25, 2) := by decide +kernel
theorem dX11_where_44 : decode cX11_where 44 = .ok (.if_icmp .ge 30, 3) := by decide +kernel
theorem dX11_where_47 : decode cX11_where 47 = .ok (.iload_n 3, 1) := by decide +kernel
theorem dX11_where_48 : decode cX11_where 48 = .ok (.aload_n 0, 1) := by decide +kernel
theorem dX11_where_49 : decode cX11_where 49 = .ok (.iload 4, 2) := by decide +kernel
theorem dX11_where_51 : decode cX11_where 51 = .ok (.invokevirtual 116, 3) := by decide +kernel
theorem dX11_where_54 : decode cX11_where 54 = .ok (.iload_n 1, 1) := by decide +kernel
theorem dX11_where_55 : decode cX11_where 55 = .ok (.if_icmp .lt 10, 3) := by decide +kernel
theorem dX11_where_58 : decode cX11_where 58 = .ok (.iconst 1, 1) := by decide +kernel
theorem dX11_where_59 : decode cX11_where 59 = .ok (.iload 4, 2) := by decide +kernel
theorem dX11_where_61 : decode cX11_where 61 = .ok (.ishl, 1) := by decide +kernel
theorem dX11_where_62 : decode cX11_where 62 = .ok (.goto 4, 3) := by decide +kernel
theorem dX11_where_65 : decode cX11_where 65 = .ok (.iconst 0, 1) := by decide +kernel
theorem dX11_where_66 : decode cX11_where 66 = .ok (.ior, 1) := by decide +kernel
theorem dX11_where_67 : decode cX11_where 67 = .ok (.istore_n 3, 1) := by decide +kernel
theorem dX11_where_68 : decode cX11_where 68 = .ok (.iinc 4 1, 3) := by decide +kernel
theorem dX11_where_71 : decode cX11_where 71 = .ok (.goto (-31), 3) := by decide +kernel
theorem dX11_where_74 : decode cX11_where 74 = .ok (.iload_n 3, 1) := by decide +kernel
theorem dX11_where_75 : decode cX11_where 75 = .ok (.ireturn, 1) := by decide +kernel
theorem dX11_horses_0 : decode cX11_horses 0 = .ok (.iload_n 1, 1) := by decide +kernel
theorem dX11_horses_1 : decode cX11_horses 1 = .ok (.invokestatic 155, 3) := by decide +kernel
theorem dX11_horses_4 : decode cX11_horses 4 = .ok (.ifCond .ne 10, 3) := by decide +kernel
theorem dX11_horses_7 : decode cX11_horses 7 = .ok (.aload_n 0, 1) := by decide +kernel
theorem dX11_horses_8 : decode cX11_horses 8 = .ok (.bipush (-2), 2) := by decide +kernel
theorem dX11_horses_10 : decode cX11_horses 10 = .ok (.invokevirtual 66, 3) := by decide +kernel
theorem dX11_horses_13 : decode cX11_horses 13 = .ok (.ireturn, 1) := by decide +kernel
theorem dX11_horses_14 : decode cX11_horses 14 = .ok (.aload_n 0, 1) := by decide +kernel
theorem dX11_horses_15 : decode cX11_horses 15 = .ok (.invokevirtual 124, 3) := by decide +kernel
theorem dX11_horses_18 : decode cX11_horses 18 = .ok (.iconst 0, 1) := by decide +kernel
theorem dX11_horses_19 : decode cX11_horses 19 = .ok (.istore_n 2, 1) := by decide +kernel
theorem dX11_horses_20 : decode cX11_horses 20 = .ok (.iload_n 2, 1) := by decide +kernel
theorem dX11_horses_21 : decode cX11_horses 21 = .ok (.bipush 60, 2) := by decide +kernel
theorem dX11_horses_23 : decode cX11_horses 23 = .ok (.if_icmp .gt 51, 3) := by decide +kernel
theorem dX11_horses_26 : decode cX11_horses 26 = .ok (.iconst 0, 1) := by decide +kernel
theorem dX11_horses_27 : decode cX11_horses 27 = .ok (.istore_n 3, 1) := by decide +kernel
theorem dX11_horses_28 : decode cX11_horses 28 = .ok (.iconst 0, 1) := by decide +kernel
theorem dX11_horses_29 : decode cX11_horses 29 = .ok (.istore 4, 2) := by decide +kernel
theorem dX11_horses_31 : decode cX11_horses 31 = .ok (.iload 4, 2) := by decide +kernel
theorem dX11_horses_33 : decode cX11_horses 33 = .ok (.bipush 25, 2) := by decide +kernel
theorem dX11_horses_35 : decode cX11_horses 35 = .ok (.if_icmp .ge 18, 3) := by decide +kernel
theorem dX11_horses_38 : decode cX11_horses 38 = .ok (.iload_n 3, 1) := by decide +kernel
theorem dX11_horses_39 : decode cX11_horses 39 = .ok (.aload_n 0, 1) := by decide +kernel
theorem dX11_horses_40 : decode cX11_horses 40 = .ok (.iload 4, 2) := by decide +kernel
theorem dX11_horses_42 : decode cX11_horses 42 = .ok (.invokevirtual 116, 3) := by decide +kernel
theorem dX11_horses_45 : decode cX11_horses 45 = .ok (.iadd, 1) := by decide +kernel
theorem dX11_horses_46 : decode cX11_horses 46 = .ok (.istore_n 3, 1) := by decide +kernel
theorem dX11_horses_47 : decode cX11_horses 47 = .ok (.iinc 4 1, 3) := by decide +kernel
theorem dX11_horses_50 : decode cX11_horses 50 = .ok (.goto (-19), 3) := by decide +kernel
theorem dX11_horses_53 : decode cX11_horses 53 = .ok (.iload_n 3, 1) := by decide +kernel
theorem dX11_horses_54 : decode cX11_horses 54 = .ok (.bipush 25, 2) := by decide +kernel
theorem dX11_horses_56 : decode cX11_horses 56 = .ok (.iload_n 1, 1) := by decide +kernel
theorem dX11_horses_57 : decode cX11_horses 57 = .ok (.imul, 1) := by decide +kernel
theorem dX11_horses_58 : decode cX11_horses 58 = .ok (.if_icmp .lt 5, 3) := by decide +kernel
theorem dX11_horses_61 : decode cX11_horses 61 = .ok (.iload_n 2, 1) := by decide +kernel
theorem dX11_horses_62 : decode cX11_horses 62 = .ok (.ireturn, 1) := by decide +kernel
theorem dX11_horses_63 : decode cX11_horses 63 = .ok (.aload_n 0, 1) := by decide +kernel
theorem dX11_horses_64 : decode cX11_horses 64 = .ok (.iload_n 2, 1) := by decide +kernel
theorem dX11_horses_65 : decode cX11_horses 65 = .ok (.invokevirtual 158, 3) := by decide +kernel
theorem dX11_horses_68 : decode cX11_horses 68 = .ok (.iinc 2 1, 3) := by decide +kernel
theorem dX11_horses_71 : decode cX11_horses 71 = .ok (.goto (-51), 3) := by decide +kernel
theorem dX11_horses_74 : decode cX11_horses 74 = .ok (.iconst (-1), 1) := by decide +kernel
theorem dX11_horses_75 : decode cX11_horses 75 = .ok (.ireturn, 1) := by decide +kernel
theorem dX11_layFar_0 : decode cX11_layFar 0 = .ok (.iconst 0, 1) := by decide +kernel
theorem dX11_layFar_1 : decode cX11_layFar 1 = .ok (.istore 4, 2) := by decide +kernel
theorem dX11_layFar_3 : decode cX11_layFar 3 = .ok (.iload 4, 2) := by decide +kernel
theorem dX11_layFar_5 : decode cX11_layFar 5 = .ok (.bipush 25, 2) := by decide +kernel
theorem dX11_layFar_7 : decode cX11_layFar 7 = .ok (.if_icmp .ge 18, 3) := by decide +kernel
theorem dX11_layFar_10 : decode cX11_layFar 10 = .ok (.aload_n 0, 1) := by decide +kernel
theorem dX11_layFar_11 : decode cX11_layFar 11 = .ok (.getfield 30, 3) := by decide +kernel
theorem dX11_layFar_14 : decode cX11_layFar 14 = .ok (.iload 4, 2) := by decide +kernel
theorem dX11_layFar_16 : decode cX11_layFar 16 = .ok (.ldc 111, 2) := by decide +kernel
theorem dX11_layFar_18 : decode cX11_layFar 18 = .ok (.iastore, 1) := by decide +kernel
theorem dX11_layFar_19 : decode cX11_layFar 19 = .ok (.iinc 4 1, 3) := by decide +kernel
theorem dX11_layFar_22 : decode cX11_layFar 22 = .ok (.goto (-19), 3) := by decide +kernel
theorem dX11_layFar_25 : decode cX11_layFar 25 = .ok (.aload_n 0, 1) := by decide +kernel
theorem dX11_layFar_26 : decode cX11_layFar 26 = .ok (.getfield 30, 3) := by decide +kernel
theorem dX11_layFar_29 : decode cX11_layFar 29 = .ok (.iload_n 2, 1) := by decide +kernel
theorem dX11_layFar_30 : decode cX11_layFar 30 = .ok (.aload_n 0, 1) := by decide +kernel
theorem dX11_layFar_31 : decode cX11_layFar 31 = .ok (.iload_n 2, 1) := by decide +kernel
theorem dX11_layFar_32 : decode cX11_layFar 32 = .ok (.invokevirtual 116, 3) := by decide +kernel
theorem dX11_layFar_35 : decode cX11_layFar 35 = .ok (.iload_n 1, 1) := by decide +kernel
theorem dX11_layFar_36 : decode cX11_layFar 36 = .ok (.if_icmp .lt 15, 3) := by decide +kernel
theorem dX11_layFar_39 : decode cX11_layFar 39 = .ok (.iload_n 3, 1) := by decide +kernel
theorem dX11_layFar_40 : decode cX11_layFar 40 = .ok (.iload_n 2, 1) := by decide +kernel
theorem dX11_layFar_41 : decode cX11_layFar 41 = .ok (.invokestatic 161, 3) := by decide +kernel
theorem dX11_layFar_44 : decode cX11_layFar 44 = .ok (.ifCond .ne 7, 3) := by decide +kernel
theorem dX11_layFar_47 : decode cX11_layFar 47 = .ok (.iconst 1, 1) := by decide +kernel
theorem dX11_layFar_48 : decode cX11_layFar 48 = .ok (.goto 5, 3) := by decide +kernel
theorem dX11_layFar_51 : decode cX11_layFar 51 = .ok (.ldc 111, 2) := by decide +kernel
theorem dX11_layFar_53 : decode cX11_layFar 53 = .ok (.iastore, 1) := by decide +kernel
theorem dX11_layFar_54 : decode cX11_layFar 54 = .ok (.iconst 1, 1) := by decide +kernel
theorem dX11_layFar_55 : decode cX11_layFar 55 = .ok (.istore 4, 2) := by decide +kernel
theorem dX11_layFar_57 : decode cX11_layFar 57 = .ok (.iload 4, 2) := by decide +kernel
theorem dX11_layFar_59 : decode cX11_layFar 59 = .ok (.ifCond .eq 55, 3) := by decide +kernel
theorem dX11_layFar_62 : decode cX11_layFar 62 = .ok (.iconst 0, 1) := by decide +kernel
theorem dX11_layFar_63 : decode cX11_layFar 63 = .ok (.istore 4, 2) := by decide +kernel
theorem dX11_layFar_65 : decode cX11_layFar 65 = .ok (.iconst 0, 1) := by decide +kernel
theorem dX11_layFar_66 : decode cX11_layFar 66 = .ok (.istore 5, 2) := by decide +kernel
theorem dX11_layFar_68 : decode cX11_layFar 68 = .ok (.iload 5, 2) := by decide +kernel
theorem dX11_layFar_70 : decode cX11_layFar 70 = .ok (.bipush 25, 2) := by decide +kernel
theorem dX11_layFar_72 : decode cX11_layFar 72 = .ok (.if_icmp .ge 39, 3) := by decide +kernel
theorem dX11_layFar_75 : decode cX11_layFar 75 = .ok (.aload_n 0, 1) := by decide +kernel
theorem dX11_layFar_76 : decode cX11_layFar 76 = .ok (.iload 5, 2) := by decide +kernel
theorem dX11_layFar_78 : decode cX11_layFar 78 = .ok (.invokevirtual 116, 3) := by decide +kernel
theorem dX11_layFar_81 : decode cX11_layFar 81 = .ok (.iload_n 1, 1) := by decide +kernel
theorem dX11_layFar_82 : decode cX11_layFar 82 = .ok (.if_icmp .lt 23, 3) := by decide +kernel
theorem dX11_layFar_85 : decode cX11_layFar 85 = .ok (.iload_n 3, 1) := by decide +kernel
theorem dX11_layFar_86 : decode cX11_layFar 86 = .ok (.iload 5, 2) := by decide +kernel
theorem dX11_layFar_88 : decode cX11_layFar 88 = .ok (.invokestatic 161, 3) := by decide +kernel
theorem dX11_layFar_91 : decode cX11_layFar 91 = .ok (.ifCond .ne 14, 3) := by decide +kernel
theorem dX11_layFar_94 : decode cX11_layFar 94 = .ok (.iload 4, 2) := by decide +kernel
theorem dX11_layFar_96 : decode cX11_layFar 96 = .ok (.aload_n 0, 1) := by decide +kernel
theorem dX11_layFar_97 : decode cX11_layFar 97 = .ok (.iload 5, 2) := by decide +kernel
theorem dX11_layFar_99 : decode cX11_layFar 99 = .ok (.invokevirtual 164, 3) := by decide +kernel
theorem dX11_layFar_102 : decode cX11_layFar 102 = .ok (.ior, 1) := by decide +kernel
theorem dX11_layFar_103 : decode cX11_layFar 103 = .ok (.istore 4, 2) := by decide +kernel
theorem dX11_layFar_105 : decode cX11_layFar 105 = .ok (.iinc 5 1, 3) := by decide +kernel
theorem dX11_layFar_108 : decode cX11_layFar 108 = .ok (.goto (-40), 3) := by decide +kernel
theorem dX11_layFar_111 : decode cX11_layFar 111 = .ok (.goto (-54), 3) := by decide +kernel
theorem dX11_layFar_114 : decode cX11_layFar 114 = .ok (.return_, 1) := by decide +kernel
theorem dX11_layNearer_0 : decode cX11_layNearer 0 = .ok (.aload_n 0, 1) := by decide +kernel
theorem dX11_layNearer_1 : decode cX11_layNearer 1 = .ok (.getfield 30, 3) := by decide +kernel
theorem dX11_layNearer_4 : decode cX11_layNearer 4 = .ok (.iload_n 1, 1) := by decide +kernel
theorem dX11_layNearer_5 : decode cX11_layNearer 5 = .ok (.iaload, 1) := by decide +kernel
theorem dX11_layNearer_6 : decode cX11_layNearer 6 = .ok (.istore_n 2, 1) := by decide +kernel
theorem dX11_layNearer_7 : decode cX11_layNearer 7 = .ok (.iconst 0, 1) := by decide +kernel
theorem dX11_layNearer_8 : decode cX11_layNearer 8 = .ok (.istore_n 3, 1) := by decide +kernel
theorem dX11_layNearer_9 : decode cX11_layNearer 9 = .ok (.iload_n 3, 1) := by decide +kernel
theorem dX11_layNearer_10 : decode cX11_layNearer 10 = .ok (.iconst 4, 1) := by decide +kernel
theorem dX11_layNearer_11 : decode cX11_layNearer 11 = .ok (.if_icmp .ge 96, 3) := by decide +kernel
theorem dX11_layNearer_14 : decode cX11_layNearer 14 = .ok (.iload_n 3, 1) := by decide +kernel
theorem dX11_layNearer_15 : decode cX11_layNearer 15 = .ok (.ifCond .ne 9, 3) := by decide +kernel
theorem dX11_layNearer_18 : decode cX11_layNearer 18 = .ok (.iload_n 1, 1) := by decide +kernel
theorem dX11_layNearer_19 : decode cX11_layNearer 19 = .ok (.iconst 5, 1) := by decide +kernel
theorem dX11_layNearer_20 : decode cX11_layNearer 20 = .ok (.isub, 1) := by decide +kernel
theorem dX11_layNearer_21 : decode cX11_layNearer 21 = .ok (.goto 28, 3) := by decide +kernel
theorem dX11_layNearer_24 : decode cX11_layNearer 24 = .ok (.iload_n 3, 1) := by decide +kernel
theorem dX11_layNearer_25 : decode cX11_layNearer 25 = .ok (.iconst 1, 1) := by decide +kernel
theorem dX11_layNearer_26 : decode cX11_layNearer 26 = .ok (.if_icmp .ne 9, 3) := by decide +kernel
theorem dX11_layNearer_29 : decode cX11_layNearer 29 = .ok (.iload_n 1, 1) := by decide +kernel
theorem dX11_layNearer_30 : decode cX11_layNearer 30 = .ok (.iconst 1, 1) := by decide +kernel
theorem dX11_layNearer_31 : decode cX11_layNearer 31 = .ok (.isub, 1) := by decide +kernel
theorem dX11_layNearer_32 : decode cX11_layNearer 32 = .ok (.goto 17, 3) := by decide +kernel
theorem dX11_layNearer_35 : decode cX11_layNearer 35 = .ok (.iload_n 3, 1) := by decide +kernel
theorem dX11_layNearer_36 : decode cX11_layNearer 36 = .ok (.iconst 2, 1) := by decide +kernel
theorem dX11_layNearer_37 : decode cX11_layNearer 37 = .ok (.if_icmp .ne 9, 3) := by decide +kernel
theorem dX11_layNearer_40 : decode cX11_layNearer 40 = .ok (.iload_n 1, 1) := by decide +kernel
theorem dX11_layNearer_41 : decode cX11_layNearer 41 = .ok (.iconst 1, 1) := by decide +kernel
theorem dX11_layNearer_42 : decode cX11_layNearer 42 = .ok (.iadd, 1) := by decide +kernel
theorem dX11_layNearer_43 : decode cX11_layNearer 43 = .ok (.goto 6, 3) := by decide +kernel
theorem dX11_layNearer_46 : decode cX11_layNearer 46 = .ok (.iload_n 1, 1) := by decide +kernel
theorem dX11_layNearer_47 : decode cX11_layNearer 47 = .ok (.iconst 5, 1) := by decide +kernel
theorem dX11_layNearer_48 : decode cX11_layNearer 48 = .ok (.iadd, 1) := by decide +kernel
theorem dX11_layNearer_49 : decode cX11_layNearer 49 = .ok (.istore 4, 2) := by decide +kernel
theorem dX11_layNearer_51 : decode cX11_layNearer 51 = .ok (.iload 4, 2) := by decide +kernel
theorem dX11_layNearer_53 : decode cX11_layNearer 53 = .ok (.invokestatic 70, 3) := by decide +kernel
theorem dX11_layNearer_56 : decode cX11_layNearer 56 = .ok (.ifCond .eq 45, 3) := by decide +kernel
theorem dX11_layNearer_59 : decode cX11_layNearer 59 = .ok (.iload 4, 2) := by decide +kernel
theorem dX11_layNearer_61 : decode cX11_layNearer 61 = .ok (.iload_n 1, 1) := by decide +kernel
theorem dX11_layNearer_62 : decode cX11_layNearer 62 = .ok (.invokestatic 112, 3) := by decide +kernel
theorem dX11_layNearer_65 : decode cX11_layNearer 65 = .ok (.ifCond .eq 36, 3) := by decide +kernel
theorem dX11_layNearer_68 : decode cX11_layNearer 68 = .ok (.aload_n 0, 1) := by decide +kernel
theorem dX11_layNearer_69 : decode cX11_layNearer 69 = .ok (.getfield 30, 3) := by decide +kernel
theorem dX11_layNearer_72 : decode cX11_layNearer 72 = .ok (.iload 4, 2) := by decide +kernel
theorem dX11_layNearer_74 : decode cX11_layNearer 74 = .ok (.iaload, 1) := by decide +kernel
theorem dX11_layNearer_75 : decode cX11_layNearer 75 = .ok (.iconst 1, 1) := by decide +kernel
theorem dX11_layNearer_76 : decode cX11_layNearer 76 = .ok (.iadd, 1) := by decide +kernel
theorem dX11_layNearer_77 : decode cX11_layNearer 77 = .ok (.aload_n 0, 1) := by decide +kernel
theorem dX11_layNearer_78 : decode cX11_layNearer 78 = .ok (.getfield 30, 3) := by decide +kernel
theorem dX11_layNearer_81 : decode cX11_layNearer 81 = .ok (.iload_n 1, 1) := by decide +kernel
theorem dX11_layNearer_82 : decode cX11_layNearer 82 = .ok (.iaload, 1) := by decide +kernel
theorem dX11_layNearer_83 : decode cX11_layNearer 83 = .ok (.if_icmp .ge 18, 3) := by decide +kernel
theorem dX11_layNearer_86 : decode cX11_layNearer 86 = .ok (.aload_n 0, 1) := by decide +kernel
theorem dX11_layNearer_87 : decode cX11_layNearer 87 = .ok (.getfield 30, 3) := by decide +kernel
theorem dX11_layNearer_90 : decode cX11_layNearer 90 = .ok (.iload_n 1, 1) := by decide +kernel
theorem dX11_layNearer_91 : decode cX11_layNearer 91 = .ok (.aload_n 0, 1) := by decide +kernel
theorem dX11_layNearer_92 : decode cX11_layNearer 92 = .ok (.getfield 30, 3) := by decide +kernel
theorem dX11_layNearer_95 : decode cX11_layNearer 95 = .ok (.iload 4, 2) := by decide +kernel
theorem dX11_layNearer_97 : decode cX11_layNearer 97 = .ok (.iaload, 1) := by decide +kernel
theorem dX11_layNearer_98 : decode cX11_layNearer 98 = .ok (.iconst 1, 1) := by decide +kernel
theorem dX11_layNearer_99 : decode cX11_layNearer 99 = .ok (.iadd, 1) := by decide +kernel
theorem dX11_layNearer_100 : decode cX11_layNearer 100 = .ok (.iastore, 1) := by decide +kernel
theorem dX11_layNearer_101 : decode cX11_layNearer 101 = .ok (.iinc 3 1, 3) := by decide +kernel
theorem dX11_layNearer_104 : decode cX11_layNearer 104 = .ok (.goto (-95), 3) := by decide +kernel
theorem dX11_layNearer_107 : decode cX11_layNearer 107 = .ok (.aload_n 0, 1) := by decide +kernel
theorem dX11_layNearer_108 : decode cX11_layNearer 108 = .ok (.getfield 30, 3) := by decide +kernel
theorem dX11_layNearer_111 : decode cX11_layNearer 111 = .ok (.iload_n 1, 1) := by decide +kernel
theorem dX11_layNearer_112 : decode cX11_layNearer 112 = .ok (.iaload, 1) := by decide +kernel
theorem dX11_layNearer_113 : decode cX11_layNearer 113 = .ok (.iload_n 2, 1) := by decide +kernel
theorem dX11_layNearer_114 : decode cX11_layNearer 114 = .ok (.if_icmp .ge 7, 3) := by decide +kernel
theorem dX11_layNearer_117 : decode cX11_layNearer 117 = .ok (.iconst 1, 1) := by decide +kernel
theorem dX11_layNearer_118 : decode cX11_layNearer 118 = .ok (.goto 4, 3) := by decide +kernel
theorem dX11_layNearer_121 : decode cX11_layNearer 121 = .ok (.iconst 0, 1) := by decide +kernel
theorem dX11_layNearer_122 : decode cX11_layNearer 122 = .ok (.ireturn, 1) := by decide +kernel
theorem dX11_nextOf_0 : decode cX11_nextOf 0 = .ok (.iconst 0, 1) := by decide +kernel
theorem dX11_nextOf_1 : decode cX11_nextOf 1 = .ok (.istore_n 2, 1) := by decide +kernel
theorem dX11_nextOf_2 : decode cX11_nextOf 2 = .ok (.iload_n 2, 1) := by decide +kernel
theorem dX11_nextOf_3 : decode cX11_nextOf 3 = .ok (.iload_n 1, 1) := by decide +kernel
theorem dX11_nextOf_4 : decode cX11_nextOf 4 = .ok (.invokestatic 112, 3) := by decide +kernel
theorem dX11_nextOf_7 : decode cX11_nextOf 7 = .ok (.ifCond .eq 20, 3) := by decide +kernel
theorem dX11_nextOf_10 : decode cX11_nextOf 10 = .ok (.aload_n 0, 1) := by decide +kernel
theorem dX11_nextOf_11 : decode cX11_nextOf 11 = .ok (.getfield 30, 3) := by decide +kernel
theorem dX11_nextOf_14 : decode cX11_nextOf 14 = .ok (.iload_n 2, 1) := by decide +kernel
theorem dX11_nextOf_15 : decode cX11_nextOf 15 = .ok (.iaload, 1) := by decide +kernel
theorem dX11_nextOf_16 : decode cX11_nextOf 16 = .ok (.aload_n 0, 1) := by decide +kernel
theorem dX11_nextOf_17 : decode cX11_nextOf 17 = .ok (.getfield 30, 3) := by decide +kernel
theorem dX11_nextOf_20 : decode cX11_nextOf 20 = .ok (.iload_n 1, 1) := by decide +kernel
theorem dX11_nextOf_21 : decode cX11_nextOf 21 = .ok (.iaload, 1) := by decide +kernel
theorem dX11_nextOf_22 : decode cX11_nextOf 22 = .ok (.iconst 1, 1) := by decide +kernel
theorem dX11_nextOf_23 : decode cX11_nextOf 23 = .ok (.isub, 1) := by decide +kernel
theorem dX11_nextOf_24 : decode cX11_nextOf 24 = .ok (.if_icmp .eq 9, 3) := by decide +kernel
theorem dX11_nextOf_27 : decode cX11_nextOf 27 = .ok (.iinc 2 1, 3) := by decide +kernel
theorem dX11_nextOf_30 : decode cX11_nextOf 30 = .ok (.goto (-28), 3) := by decide +kernel
theorem dX11_nextOf_33 : decode cX11_nextOf 33 = .ok (.iload_n 2, 1) := by decide +kernel
theorem dX11_nextOf_34 : decode cX11_nextOf 34 = .ok (.ireturn, 1) := by decide +kernel
theorem dX11_path_0 : decode cX11_path 0 = .ok (.iload_n 1, 1) := by decide +kernel
theorem dX11_path_1 : decode cX11_path 1 = .ok (.invokestatic 155, 3) := by decide +kernel
theorem dX11_path_4 : decode cX11_path 4 = .ok (.ifCond .eq 23, 3) := by decide +kernel
theorem dX11_path_7 : decode cX11_path 7 = .ok (.iload_n 2, 1) := by decide +kernel
theorem dX11_path_8 : decode cX11_path 8 = .ok (.invokestatic 70, 3) := by decide +kernel
theorem dX11_path_11 : decode cX11_path 11 = .ok (.ifCond .eq 16, 3) := by decide +kernel
theorem dX11_path_14 : decode cX11_path 14 = .ok (.iload_n 3, 1) := by decide +kernel
theorem dX11_path_15 : decode cX11_path 15 = .ok (.invokestatic 70, 3) := by decide +kernel
theorem dX11_path_18 : decode cX11_path 18 = .ok (.ifCond .eq 9, 3) := by decide +kernel
theorem dX11_path_21 : decode cX11_path 21 = .ok (.iload 4, 2) := by decide +kernel
theorem dX11_path_23 : decode cX11_path 23 = .ok (.iconst (-1), 1) := by decide +kernel
theorem dX11_path_24 : decode cX11_path 24 = .ok (.if_icmp .ge 10, 3) := by decide +kernel
theorem dX11_path_27 : decode cX11_path 27 = .ok (.aload_n 0, 1) := by decide +kernel
theorem dX11_path_28 : decode cX11_path 28 = .ok (.bipush (-10), 2) := by decide +kernel
theorem dX11_path_30 : decode cX11_path 30 = .ok (.invokevirtual 66, 3) := by decide +kernel
theorem dX11_path_33 : decode cX11_path 33 = .ok (.ireturn, 1) := by decide +kernel
theorem dX11_path_34 : decode cX11_path 34 = .ok (.aload_n 0, 1) := by decide +kernel
theorem dX11_path_35 : decode cX11_path 35 = .ok (.invokevirtual 124, 3) := by decide +kernel
theorem dX11_path_38 : decode cX11_path 38 = .ok (.aload_n 0, 1) := by decide +kernel
theorem dX11_path_39 : decode cX11_path 39 = .ok (.iload_n 1, 1) := by decide +kernel
theorem dX11_path_40 : decode cX11_path 40 = .ok (.iload_n 3, 1) := by decide +kernel
theorem dX11_path_41 : decode cX11_path 41 = .ok (.iconst 0, 1) := by decide +kernel
theorem dX11_path_42 : decode cX11_path 42 = .ok (.invokevirtual 167, 3) := by decide +kernel
theorem dX11_path_45 : decode cX11_path 45 = .ok (.aload_n 0, 1) := by decide +kernel
theorem dX11_path_46 : decode cX11_path 46 = .ok (.getfield 30, 3) := by decide +kernel
theorem dX11_path_49 : decode cX11_path 49 = .ok (.iload_n 2, 1) := by decide +kernel
theorem dX11_path_50 : decode cX11_path 50 = .ok (.iaload, 1) := by decide +kernel
theorem dX11_path_51 : decode cX11_path 51 = .ok (.ldc 111, 2) := by decide +kernel
theorem dX11_path_53 : decode cX11_path 53 = .ok (.if_icmp .lt 5, 3) := by decide +kernel
theorem dX11_path_56 : decode cX11_path 56 = .ok (.iconst (-1), 1) := by decide +kernel
theorem dX11_path_57 : decode cX11_path 57 = .ok (.ireturn, 1) := by decide +kernel
theorem dX11_path_58 : decode cX11_path 58 = .ok (.iload 4, 2) := by decide +kernel
theorem dX11_path_60 : decode cX11_path 60 = .ok (.iconst (-1), 1) := by decide +kernel
theorem dX11_path_61 : decode cX11_path 61 = .ok (.if_icmp .eq 14, 3) := by decide +kernel
theorem dX11_path_64 : decode cX11_path 64 = .ok (.iload 4, 2) := by decide +kernel
theorem dX11_path_66 : decode cX11_path 66 = .ok (.aload_n 0, 1) := by decide +kernel
theorem dX11_path_67 : decode cX11_path 67 = .ok (.getfield 30, 3) := by decide +kernel
theorem dX11_path_70 : decode cX11_path 70 = .ok (.iload_n 2, 1) := by decide +kernel
theorem dX11_path_71 : decode cX11_path 71 = .ok (.iaload, 1) := by decide +kernel
theorem dX11_path_72 : decode cX11_path 72 = .ok (.if_icmp .lt 21, 3) := by decide +kernel
theorem dX11_path_75 : decode cX11_path 75 = .ok (.iload 4, 2) := by decide +kernel
theorem dX11_path_77 : decode cX11_path 77 = .ok (.iconst (-1), 1) := by decide +kernel
theorem dX11_path_78 : decode cX11_path 78 = .ok (.if_icmp .ne 12, 3) := by decide +kernel
theorem dX11_path_81 : decode cX11_path 81 = .ok (.aload_n 0, 1) := by decide +kernel
theorem dX11_path_82 : decode cX11_path 82 = .ok (.getfield 30, 3) := by decide +kernel
theorem dX11_path_85 : decode cX11_path 85 = .ok (.iload_n 2, 1) := by decide +kernel
theorem dX11_path_86 : decode cX11_path 86 = .ok (.iaload, 1) := by decide +kernel
theorem dX11_path_87 : decode cX11_path 87 = .ok (.goto 5, 3) := by decide +kernel
theorem dX11_path_90 : decode cX11_path 90 = .ok (.bipush (-5), 2) := by decide +kernel
theorem dX11_path_92 : decode cX11_path 92 = .ok (.ireturn, 1) := by decide +kernel
theorem dX11_path_93 : decode cX11_path 93 = .ok (.iload_n 2, 1) := by decide +kernel
theorem dX11_path_94 : decode cX11_path 94 = .ok (.istore 5, 2) := by decide +kernel
theorem dX11_path_96 : decode cX11_path 96 = .ok (.iconst 0, 1) := by decide +kernel
theorem dX11_path_97 : decode cX11_path 97 = .ok (.istore 6, 2) := by decide +kernel
theorem dX11_path_99 : decode cX11_path 99 = .ok (.iload 6, 2) := by decide +kernel
theorem dX11_path_101 : decode cX11_path 101 = .ok (.iload 4, 2) := by decide +kernel
theorem dX11_path_103 : decode cX11_path 103 = .ok (.if_icmp .ge 17, 3) := by decide +kernel
theorem dX11_path_106 : decode cX11_path 106 = .ok (.aload_n 0, 1) := by decide +kernel
theorem dX11_path_107 : decode cX11_path 107 = .ok (.iload 5, 2) := by decide +kernel
theorem dX11_path_109 : decode cX11_path 109 = .ok (.invokevirtual 171, 3) := by decide +kernel
theorem dX11_path_112 : decode cX11_path 112 = .ok (.istore 5, 2) := by decide +kernel
theorem dX11_path_114 : decode cX11_path 114 = .ok (.iinc 6 1, 3) := by decide +kernel
theorem dX11_path_117 : decode cX11_path 117 = .ok (.goto (-18), 3) := by decide +kernel
theorem dX11_path_120 : decode cX11_path 120 = .ok (.iload 5, 2) := by decide +kernel
theorem dX11_path_122 : decode cX11_path 122 = .ok (.ireturn, 1) := by decide +kernel
theorem dX11_safe_0 : decode cX11_safe 0 = .ok (.iload_n 1, 1) := by decide +kernel
theorem dX11_safe_1 : decode cX11_safe 1 = .ok (.invokestatic 70, 3) := by decide +kernel
theorem dX11_safe_4 : decode cX11_safe 4 = .ok (.ifCond .eq 10, 3) := by decide +kernel
theorem dX11_safe_7 : decode cX11_safe 7 = .ok (.iload_n 2, 1) := by decide +kernel
theorem dX11_safe_8 : decode cX11_safe 8 = .ok (.invokestatic 70, 3) := by decide +kernel
theorem dX11_safe_11 : decode cX11_safe 11 = .ok (.ifCond .ne 10, 3) := by decide +kernel
theorem dX11_safe_14 : decode cX11_safe 14 = .ok (.aload_n 0, 1) := by decide +kernel
theorem dX11_safe_15 : decode cX11_safe 15 = .ok (.bipush (-2), 2) := by decide +kernel
theorem dX11_safe_17 : decode cX11_safe 17 = .ok (.invokevirtual 66, 3) := by decide +kernel
theorem dX11_safe_20 : decode cX11_safe 20 = .ok (.ireturn, 1) := by decide +kernel
theorem dX11_safe_21 : decode cX11_safe 21 = .ok (.aload_n 0, 1) := by decide +kernel
theorem dX11_safe_22 : decode cX11_safe 22 = .ok (.invokevirtual 124, 3) := by decide +kernel
theorem dX11_safe_25 : decode cX11_safe 25 = .ok (.sipush 198, 3) := by decide +kernel
theorem dX11_safe_28 : decode cX11_safe 28 = .ok (.istore_n 3, 1) := by decide +kernel
theorem dX11_safe_29 : decode cX11_safe 29 = .ok (.iload_n 3, 1) := by decide +kernel
theorem dX11_safe_30 : decode cX11_safe 30 = .ok (.ifCond .le 29, 3) := by decide +kernel
theorem dX11_safe_33 : decode cX11_safe 33 = .ok (.aload_n 0, 1) := by decide +kernel
theorem dX11_safe_34 : decode cX11_safe 34 = .ok (.iload_n 3, 1) := by decide +kernel
theorem dX11_safe_35 : decode cX11_safe 35 = .ok (.iload_n 2, 1) := by decide +kernel
theorem dX11_safe_36 : decode cX11_safe 36 = .ok (.iconst 0, 1) := by decide +kernel
theorem dX11_safe_37 : decode cX11_safe 37 = .ok (.invokevirtual 167, 3) := by decide +kernel
theorem dX11_safe_40 : decode cX11_safe 40 = .ok (.aload_n 0, 1) := by decide +kernel
theorem dX11_safe_41 : decode cX11_safe 41 = .ok (.getfield 30, 3) := by decide +kernel
theorem dX11_safe_44 : decode cX11_safe 44 = .ok (.iload_n 1, 1) := by decide +kernel
theorem dX11_safe_45 : decode cX11_safe 45 = .ok (.iaload, 1) := by decide +kernel
theorem dX11_safe_46 : decode cX11_safe 46 = .ok (.ldc 111, 2) := by decide +kernel
theorem dX11_safe_48 : decode cX11_safe 48 = .ok (.if_icmp .ge 5, 3) := by decide +kernel
theorem dX11_safe_51 : decode cX11_safe 51 = .ok (.iload_n 3, 1) := by decide +kernel
theorem dX11_safe_52 : decode cX11_safe 52 = .ok (.ireturn, 1) := by decide +kernel
theorem dX11_safe_53 : decode cX11_safe 53 = .ok (.iinc 3 (-1), 3) := by decide +kernel
theorem dX11_safe_56 : decode cX11_safe 56 = .ok (.goto (-27), 3) := by decide +kernel
theorem dX11_safe_59 : decode cX11_safe 59 = .ok (.iconst 0, 1) := by decide +kernel
theorem dX11_safe_60 : decode cX11_safe 60 = .ok (.ireturn, 1) := by decide +kernel
theorem dX11_cross_0 : decode cX11_cross 0 = .ok (.iload_n 1, 1) := by decide +kernel
theorem dX11_cross_1 : decode cX11_cross 1 = .ok (.i2l, 1) := by decide +kernel
theorem dX11_cross_2 : decode cX11_cross 2 = .ok (.lconst 1, 1) := by decide +kernel
theorem dX11_cross_3 : decode cX11_cross 3 = .ok (.ldc2_w 56, 3) := by decide +kernel
theorem dX11_cross_6 : decode cX11_cross 6 = .ok (.invokestatic 50, 3) := by decide +kernel
theorem dX11_cross_9 : decode cX11_cross 9 = .ok (.ifCond .eq 22, 3) := by decide +kernel
theorem dX11_cross_12 : decode cX11_cross 12 = .ok (.iload_n 2, 1) := by decide +kernel
theorem dX11_cross_13 : decode cX11_cross 13 = .ok (.invokestatic 70, 3) := by decide +kernel
theorem dX11_cross_16 : decode cX11_cross 16 = .ok (.ifCond .eq 15, 3) := by decide +kernel
theorem dX11_cross_19 : decode cX11_cross 19 = .ok (.iload_n 3, 1) := by decide +kernel
theorem dX11_cross_20 : decode cX11_cross 20 = .ok (.invokestatic 70, 3) := by decide +kernel
theorem dX11_cross_23 : decode cX11_cross 23 = .ok (.ifCond .eq 8, 3) := by decide +kernel
theorem dX11_cross_26 : decode cX11_cross 26 = .ok (.iload_n 2, 1) := by decide +kernel
theorem dX11_cross_27 : decode cX11_cross 27 = .ok (.iload_n 3, 1) := by decide +kernel
theorem dX11_cross_28 : decode cX11_cross 28 = .ok (.if_icmp .ne 10, 3) := by decide +kernel
theorem dX11_cross_31 : decode cX11_cross 31 = .ok (.aload_n 0, 1) := by decide +kernel
theorem dX11_cross_32 : decode cX11_cross 32 = .ok (.bipush (-2), 2) := by decide +kernel
theorem dX11_cross_34 : decode cX11_cross 34 = .ok (.invokevirtual 66, 3) := by decide +kernel
theorem dX11_cross_37 : decode cX11_cross 37 = .ok (.ireturn, 1) := by decide +kernel
theorem dX11_cross_38 : decode cX11_cross 38 = .ok (.aload_n 0, 1) := by decide +kernel
theorem dX11_cross_39 : decode cX11_cross 39 = .ok (.invokevirtual 124, 3) := by decide +kernel
theorem dX11_cross_42 : decode cX11_cross 42 = .ok (.iconst 0, 1) := by decide +kernel
theorem dX11_cross_43 : decode cX11_cross 43 = .ok (.istore 4, 2) := by decide +kernel
theorem dX11_cross_45 : decode cX11_cross 45 = .ok (.iload 4, 2) := by decide +kernel
theorem dX11_cross_47 : decode cX11_cross 47 = .ok (.bipush 40, 2) := by decide +kernel
theorem dX11_cross_49 : decode cX11_cross 49 = .ok (.if_icmp .ge 111, 3) := by decide +kernel
theorem dX11_cross_52 : decode cX11_cross 52 = .ok (.aload_n 0, 1) := by decide +kernel
theorem dX11_cross_53 : decode cX11_cross 53 = .ok (.iload_n 1, 1) := by decide +kernel
theorem dX11_cross_54 : decode cX11_cross 54 = .ok (.iload_n 3, 1) := by decide +kernel
theorem dX11_cross_55 : decode cX11_cross 55 = .ok (.iconst 0, 1) := by decide +kernel
theorem dX11_cross_56 : decode cX11_cross 56 = .ok (.invokevirtual 167, 3) := by decide +kernel
theorem dX11_cross_59 : decode cX11_cross 59 = .ok (.aload_n 0, 1) := by decide +kernel
theorem dX11_cross_60 : decode cX11_cross 60 = .ok (.getfield 30, 3) := by decide +kernel
theorem dX11_cross_63 : decode cX11_cross 63 = .ok (.iload_n 2, 1) := by decide +kernel
theorem dX11_cross_64 : decode cX11_cross 64 = .ok (.iaload, 1) := by decide +kernel
theorem dX11_cross_65 : decode cX11_cross 65 = .ok (.ldc 111, 2) := by decide +kernel
theorem dX11_cross_67 : decode cX11_cross 67 = .ok (.if_icmp .lt 6, 3) := by decide +kernel
theorem dX11_cross_70 : decode cX11_cross 70 = .ok (.iload 4, 2) := by decide +kernel
theorem dX11_cross_72 : decode cX11_cross 72 = .ok (.ireturn, 1) := by decide +kernel
theorem dX11_cross_73 : decode cX11_cross 73 = .ok (.iload_n 2, 1) := by decide +kernel
theorem dX11_cross_74 : decode cX11_cross 74 = .ok (.istore 5, 2) := by decide +kernel
theorem dX11_cross_76 : decode cX11_cross 76 = .ok (.iload 5, 2) := by decide +kernel
theorem dX11_cross_78 : decode cX11_cross 78 = .ok (.iload_n 3, 1) := by decide +kernel
theorem dX11_cross_79 : decode cX11_cross 79 = .ok (.if_icmp .eq 48, 3) := by decide +kernel
theorem dX11_cross_82 : decode cX11_cross 82 = .ok (.aload_n 0, 1) := by decide +kernel
theorem dX11_cross_83 : decode cX11_cross 83 = .ok (.iload 5, 2) := by decide +kernel
theorem dX11_cross_85 : decode cX11_cross 85 = .ok (.invokevirtual 171, 3) := by decide +kernel
theorem dX11_cross_88 : decode cX11_cross 88 = .ok (.istore 6, 2) := by decide +kernel
theorem dX11_cross_90 : decode cX11_cross 90 = .ok (.aload_n 0, 1) := by decide +kernel
theorem dX11_cross_91 : decode cX11_cross 91 = .ok (.getfield 27, 3) := by decide +kernel
theorem dX11_cross_94 : decode cX11_cross 94 = .ok (.iload 5, 2) := by decide +kernel
theorem dX11_cross_96 : decode cX11_cross 96 = .ok (.aload_n 0, 1) := by decide +kernel
theorem dX11_cross_97 : decode cX11_cross 97 = .ok (.getfield 27, 3) := by decide +kernel
theorem dX11_cross_100 : decode cX11_cross 100 = .ok (.iload 5, 2) := by decide +kernel
theorem dX11_cross_102 : decode cX11_cross 102 = .ok (.iaload, 1) := by decide +kernel
theorem dX11_cross_103 : decode cX11_cross 103 = .ok (.ifCond .le 15, 3) := by decide +kernel
theorem dX11_cross_106 : decode cX11_cross 106 = .ok (.aload_n 0, 1) := by decide +kernel
theorem dX11_cross_107 : decode cX11_cross 107 = .ok (.getfield 27, 3) := by decide +kernel
theorem dX11_cross_110 : decode cX11_cross 110 = .ok (.iload 5, 2) := by decide +kernel
theorem dX11_cross_112 : decode cX11_cross 112 = .ok (.iaload, 1) := by decide +kernel
theorem dX11_cross_113 : decode cX11_cross 113 = .ok (.iconst 1, 1) := by decide +kernel
theorem dX11_cross_114 : decode cX11_cross 114 = .ok (.isub, 1) := by decide +kernel
theorem dX11_cross_115 : decode cX11_cross 115 = .ok (.goto 4, 3) := by decide +kernel
theorem dX11_cross_118 : decode cX11_cross 118 = .ok (.iconst 0, 1) := by decide +kernel
theorem dX11_cross_119 : decode cX11_cross 119 = .ok (.iastore, 1) := by decide +kernel
theorem dX11_cross_120 : decode cX11_cross 120 = .ok (.iload 6, 2) := by decide +kernel
theorem dX11_cross_122 : decode cX11_cross 122 = .ok (.istore 5, 2) := by decide +kernel
theorem dX11_cross_124 : decode cX11_cross 124 = .ok (.goto (-48), 3) := by decide +kernel
theorem dX11_cross_127 : decode cX11_cross 127 = .ok (.aload_n 0, 1) := by decide +kernel
theorem dX11_cross_128 : decode cX11_cross 128 = .ok (.getfield 27, 3) := by decide +kernel
theorem dX11_cross_131 : decode cX11_cross 131 = .ok (.iload_n 3, 1) := by decide +kernel
theorem dX11_cross_132 : decode cX11_cross 132 = .ok (.aload_n 0, 1) := by decide +kernel
theorem dX11_cross_133 : decode cX11_cross 133 = .ok (.getfield 27, 3) := by decide +kernel
theorem dX11_cross_136 : decode cX11_cross 136 = .ok (.iload_n 3, 1) := by decide +kernel
theorem dX11_cross_137 : decode cX11_cross 137 = .ok (.iaload, 1) := by decide +kernel
theorem dX11_cross_138 : decode cX11_cross 138 = .ok (.ifCond .le 14, 3) := by decide +kernel
theorem dX11_cross_141 : decode cX11_cross 141 = .ok (.aload_n 0, 1) := by decide +kernel
theorem dX11_cross_142 : decode cX11_cross 142 = .ok (.getfield 27, 3) := by decide +kernel
theorem dX11_cross_145 : decode cX11_cross 145 = .ok (.iload_n 3, 1) := by decide +kernel
theorem dX11_cross_146 : decode cX11_cross 146 = .ok (.iaload, 1) := by decide +kernel
theorem dX11_cross_147 : decode cX11_cross 147 = .ok (.iconst 1, 1) := by decide +kernel
theorem dX11_cross_148 : decode cX11_cross 148 = .ok (.isub, 1) := by decide +kernel
theorem dX11_cross_149 : decode cX11_cross 149 = .ok (.goto 4, 3) := by decide +kernel
theorem dX11_cross_152 : decode cX11_cross 152 = .ok (.iconst 0, 1) := by decide +kernel
theorem dX11_cross_153 : decode cX11_cross 153 = .ok (.iastore, 1) := by decide +kernel
theorem dX11_cross_154 : decode cX11_cross 154 = .ok (.iinc 4 1, 3) := by decide +kernel
theorem dX11_cross_157 : decode cX11_cross 157 = .ok (.goto (-112), 3) := by decide +kernel
theorem dX11_cross_160 : decode cX11_cross 160 = .ok (.bipush 40, 2) := by decide +kernel
theorem dX11_cross_162 : decode cX11_cross 162 = .ok (.ireturn, 1) := by decide +kernel
theorem dX11_isParted_0 : decode cX11_isParted 0 = .ok (.aload_n 0, 1) := by decide +kernel
theorem dX11_isParted_1 : decode cX11_isParted 1 = .ok (.iload_n 1, 1) := by decide +kernel
theorem dX11_isParted_2 : decode cX11_isParted 2 = .ok (.iload_n 3, 1) := by decide +kernel
theorem dX11_isParted_3 : decode cX11_isParted 3 = .ok (.iload 4, 2) := by decide +kernel
theorem dX11_isParted_5 : decode cX11_isParted 5 = .ok (.invokevirtual 167, 3) := by decide +kernel
theorem dX11_isParted_8 : decode cX11_isParted 8 = .ok (.aload_n 0, 1) := by decide +kernel
theorem dX11_isParted_9 : decode cX11_isParted 9 = .ok (.getfield 30, 3) := by decide +kernel
theorem dX11_isParted_12 : decode cX11_isParted 12 = .ok (.iload_n 2, 1) := by decide +kernel
theorem dX11_isParted_13 : decode cX11_isParted 13 = .ok (.iaload, 1) := by decide +kernel
theorem dX11_isParted_14 : decode cX11_isParted 14 = .ok (.ldc 111, 2) := by decide +kernel
theorem dX11_isParted_16 : decode cX11_isParted 16 = .ok (.if_icmp .lt 7, 3) := by decide +kernel
theorem dX11_isParted_19 : decode cX11_isParted 19 = .ok (.iconst 1, 1) := by decide +kernel
theorem dX11_isParted_20 : decode cX11_isParted 20 = .ok (.goto 4, 3) := by decide +kernel
theorem dX11_isParted_23 : decode cX11_isParted 23 = .ok (.iconst 0, 1) := by decide +kernel
theorem dX11_isParted_24 : decode cX11_isParted 24 = .ok (.ireturn, 1) := by decide +kernel
theorem dX11_partsOf_0 : decode cX11_partsOf 0 = .ok (.aload_n 0, 1) := by decide +kernel
theorem dX11_partsOf_1 : decode cX11_partsOf 1 = .ok (.iload_n 1, 1) := by decide +kernel
theorem dX11_partsOf_2 : decode cX11_partsOf 2 = .ok (.iload_n 2, 1) := by decide +kernel
theorem dX11_partsOf_3 : decode cX11_partsOf 3 = .ok (.iload_n 3, 1) := by decide +kernel
theorem dX11_partsOf_4 : decode cX11_partsOf 4 = .ok (.iconst 0, 1) := by decide +kernel
theorem dX11_partsOf_5 : decode cX11_partsOf 5 = .ok (.invokevirtual 174, 3) := by decide +kernel
theorem dX11_partsOf_8 : decode cX11_partsOf 8 = .ok (.ifCond .eq 5, 3) := by decide +kernel
theorem dX11_partsOf_11 : decode cX11_partsOf 11 = .ok (.iconst 0, 1) := by decide +kernel
theorem dX11_partsOf_12 : decode cX11_partsOf 12 = .ok (.ireturn, 1) := by decide +kernel
theorem dX11_partsOf_13 : decode cX11_partsOf 13 = .ok (.iconst 0, 1) := by decide +kernel
theorem dX11_partsOf_14 : decode cX11_partsOf 14 = .ok (.istore 4, 2) := by decide +kernel
theorem dX11_partsOf_16 : decode cX11_partsOf 16 = .ok (.iload 4, 2) := by decide +kernel
theorem dX11_partsOf_18 : decode cX11_partsOf 18 = .ok (.bipush 25, 2) := by decide +kernel
theorem dX11_partsOf_20 : decode cX11_partsOf 20 = .ok (.if_icmp .ge 42, 3) := by decide +kernel
theorem dX11_partsOf_23 : decode cX11_partsOf 23 = .ok (.iload 4, 2) := by decide +kernel
theorem dX11_partsOf_25 : decode cX11_partsOf 25 = .ok (.iload_n 2, 1) := by decide +kernel
theorem dX11_partsOf_26 : decode cX11_partsOf 26 = .ok (.if_icmp .eq 30, 3) := by decide +kernel
theorem dX11_partsOf_29 : decode cX11_partsOf 29 = .ok (.iload 4, 2) := by decide +kernel
theorem dX11_partsOf_31 : decode cX11_partsOf 31 = .ok (.iload_n 3, 1) := by decide +kernel
theorem dX11_partsOf_32 : decode cX11_partsOf 32 = .ok (.if_icmp .eq 24, 3) := by decide +kernel
theorem dX11_partsOf_35 : decode cX11_partsOf 35 = .ok (.aload_n 0, 1) := by decide +kernel
theorem dX11_partsOf_36 : decode cX11_partsOf 36 = .ok (.iload_n 1, 1) := by decide +kernel
theorem dX11_partsOf_37 : decode cX11_partsOf 37 = .ok (.iload_n 2, 1) := by decide +kernel
theorem dX11_partsOf_38 : decode cX11_partsOf 38 = .ok (.iload_n 3, 1) := by decide +kernel
theorem dX11_partsOf_39 : decode cX11_partsOf 39 = .ok (.iconst 1, 1) := by decide +kernel
theorem dX11_partsOf_40 : decode cX11_partsOf 40 = .ok (.iload 4, 2) := by decide +kernel
theorem dX11_partsOf_42 : decode cX11_partsOf 42 = .ok (.ishl, 1) := by decide +kernel
theorem dX11_partsOf_43 : decode cX11_partsOf 43 = .ok (.invokevirtual 174, 3) := by decide +kernel
theorem dX11_partsOf_46 : decode cX11_partsOf 46 = .ok (.ifCond .eq 10, 3) := by decide +kernel
theorem dX11_partsOf_49 : decode cX11_partsOf 49 = .ok (.sipush 992, 3) := by decide +kernel
theorem dX11_partsOf_52 : decode cX11_partsOf 52 = .ok (.iload 4, 2) := by decide +kernel
theorem dX11_partsOf_54 : decode cX11_partsOf 54 = .ok (.iadd, 1) := by decide +kernel
theorem dX11_partsOf_55 : decode cX11_partsOf 55 = .ok (.ireturn, 1) := by decide +kernel
theorem dX11_partsOf_56 : decode cX11_partsOf 56 = .ok (.iinc 4 1, 3) := by decide +kernel
theorem dX11_partsOf_59 : decode cX11_partsOf 59 = .ok (.goto (-43), 3) := by decide +kernel
theorem dX11_partsOf_62 : decode cX11_partsOf 62 = .ok (.iconst 0, 1) := by decide +kernel
theorem dX11_partsOf_63 : decode cX11_partsOf 63 = .ok (.istore 4, 2) := by decide +kernel
theorem dX11_partsOf_65 : decode cX11_partsOf 65 = .ok (.iload 4, 2) := by decide +kernel
theorem dX11_partsOf_67 : decode cX11_partsOf 67 = .ok (.bipush 25, 2) := by decide +kernel
theorem dX11_partsOf_69 : decode cX11_partsOf 69 = .ok (.if_icmp .ge 92, 3) := by decide +kernel
theorem dX11_partsOf_72 : decode cX11_partsOf 72 = .ok (.iload 4, 2) := by decide +kernel
theorem dX11_partsOf_74 : decode cX11_partsOf 74 = .ok (.iconst 1, 1) := by decide +kernel
theorem dX11_partsOf_75 : decode cX11_partsOf 75 = .ok (.iadd, 1) := by decide +kernel
theorem dX11_partsOf_76 : decode cX11_partsOf 76 = .ok (.istore 5, 2) := by decide +kernel
theorem dX11_partsOf_78 : decode cX11_partsOf 78 = .ok (.iload 5, 2) := by decide +kernel
theorem dX11_partsOf_80 : decode cX11_partsOf 80 = .ok (.bipush 25, 2) := by decide +kernel
theorem dX11_partsOf_82 : decode cX11_partsOf 82 = .ok (.if_icmp .ge 73, 3) := by decide +kernel
theorem dX11_partsOf_85 : decode cX11_partsOf 85 = .ok (.iload 4, 2) := by decide +kernel
theorem dX11_partsOf_87 : decode cX11_partsOf 87 = .ok (.iload_n 2, 1) := by decide +kernel
theorem dX11_partsOf_88 : decode cX11_partsOf 88 = .ok (.if_icmp .eq 25, 3) := by decide +kernel
theorem dX11_partsOf_91 : decode cX11_partsOf 91 = .ok (.iload 4, 2) := by decide +kernel
theorem dX11_partsOf_93 : decode cX11_partsOf 93 = .ok (.iload_n 3, 1) := by decide +kernel
theorem dX11_partsOf_94 : decode cX11_partsOf 94 = .ok (.if_icmp .eq 19, 3) := by decide +kernel
theorem dX11_partsOf_97 : decode cX11_partsOf 97 = .ok (.iload 5, 2) := by decide +kernel
theorem dX11_partsOf_99 : decode cX11_partsOf 99 = .ok (.iload_n 2, 1) := by decide +kernel
theorem dX11_partsOf_100 : decode cX11_partsOf 100 = .ok (.if_icmp .eq 13, 3) := by decide +kernel
theorem dX11_partsOf_103 : decode cX11_partsOf 103 = .ok (.iload 5, 2) := by decide +kernel
theorem dX11_partsOf_105 : decode cX11_partsOf 105 = .ok (.iload_n 3, 1) := by decide +kernel
theorem dX11_partsOf_106 : decode cX11_partsOf 106 = .ok (.if_icmp .eq 7, 3) := by decide +kernel
theorem dX11_partsOf_109 : decode cX11_partsOf 109 = .ok (.iconst 1, 1) := by decide +kernel
theorem dX11_partsOf_110 : decode cX11_partsOf 110 = .ok (.goto 4, 3) := by decide +kernel
theorem dX11_partsOf_113 : decode cX11_partsOf 113 = .ok (.iconst 0, 1) := by decide +kernel
theorem dX11_partsOf_114 : decode cX11_partsOf 114 = .ok (.istore 6, 2) := by decide +kernel
theorem dX11_partsOf_116 : decode cX11_partsOf 116 = .ok (.iload 6, 2) := by decide +kernel
theorem dX11_partsOf_118 : decode cX11_partsOf 118 = .ok (.ifCond .eq 31, 3) := by decide +kernel
theorem dX11_partsOf_121 : decode cX11_partsOf 121 = .ok (.aload_n 0, 1) := by decide +kernel
theorem dX11_partsOf_122 : decode cX11_partsOf 122 = .ok (.iload_n 1, 1) := by decide +kernel
theorem dX11_partsOf_123 : decode cX11_partsOf 123 = .ok (.iload_n 2, 1) := by decide +kernel
theorem dX11_partsOf_124 : decode cX11_partsOf 124 = .ok (.iload_n 3, 1) := by decide +kernel
theorem dX11_partsOf_125 : decode cX11_partsOf 125 = .ok (.iconst 1, 1) := by decide +kernel
theorem dX11_partsOf_126 : decode cX11_partsOf 126 = .ok (.iload 4, 2) := by decide +kernel
theorem dX11_partsOf_128 : decode cX11_partsOf 128 = .ok (.ishl, 1) := by decide +kernel
theorem dX11_partsOf_129 : decode cX11_partsOf 129 = .ok (.iconst 1, 1) := by decide +kernel
theorem dX11_partsOf_130 : decode cX11_partsOf 130 = .ok (.iload 5, 2) := by decide +kernel
theorem dX11_partsOf_132 : decode cX11_partsOf 132 = .ok (.ishl, 1) := by decide +kernel
theorem dX11_partsOf_133 : decode cX11_partsOf 133 = .ok (.ior, 1) := by decide +kernel
theorem dX11_partsOf_134 : decode cX11_partsOf 134 = .ok (.invokevirtual 174, 3) := by decide +kernel
theorem dX11_partsOf_137 : decode cX11_partsOf 137 = .ok (.ifCond .eq 12, 3) := by decide +kernel
theorem dX11_partsOf_140 : decode cX11_partsOf 140 = .ok (.bipush 32, 2) := by decide +kernel
theorem dX11_partsOf_142 : decode cX11_partsOf 142 = .ok (.iload 4, 2) := by decide +kernel
theorem dX11_partsOf_144 : decode cX11_partsOf 144 = .ok (.imul, 1) := by decide +kernel
theorem dX11_partsOf_145 : decode cX11_partsOf 145 = .ok (.iload 5, 2) := by decide +kernel
theorem dX11_partsOf_147 : decode cX11_partsOf 147 = .ok (.iadd, 1) := by decide +kernel
theorem dX11_partsOf_148 : decode cX11_partsOf 148 = .ok (.ireturn, 1) := by decide +kernel
theorem dX11_partsOf_149 : decode cX11_partsOf 149 = .ok (.iinc 5 1, 3) := by decide +kernel
theorem dX11_partsOf_152 : decode cX11_partsOf 152 = .ok (.goto (-74), 3) := by decide +kernel
theorem dX11_partsOf_155 : decode cX11_partsOf 155 = .ok (.iinc 4 1, 3) := by decide +kernel
theorem dX11_partsOf_158 : decode cX11_partsOf 158 = .ok (.goto (-93), 3) := by decide +kernel
theorem dX11_partsOf_161 : decode cX11_partsOf 161 = .ok (.iconst (-1), 1) := by decide +kernel
theorem dX11_partsOf_162 : decode cX11_partsOf 162 = .ok (.ireturn, 1) := by decide +kernel
theorem dX11_apart_0 : decode cX11_apart 0 = .ok (.iload_n 1, 1) := by decide +kernel
theorem dX11_apart_1 : decode cX11_apart 1 = .ok (.invokestatic 155, 3) := by decide +kernel
theorem dX11_apart_4 : decode cX11_apart 4 = .ok (.ifCond .eq 33, 3) := by decide +kernel
theorem dX11_apart_7 : decode cX11_apart 7 = .ok (.iload_n 2, 1) := by decide +kernel
theorem dX11_apart_8 : decode cX11_apart 8 = .ok (.invokestatic 70, 3) := by decide +kernel
theorem dX11_apart_11 : decode cX11_apart 11 = .ok (.ifCond .eq 26, 3) := by decide +kernel
theorem dX11_apart_14 : decode cX11_apart 14 = .ok (.iload_n 3, 1) := by decide +kernel
theorem dX11_apart_15 : decode cX11_apart 15 = .ok (.invokestatic 70, 3) := by decide +kernel
theorem dX11_apart_18 : decode cX11_apart 18 = .ok (.ifCond .eq 19, 3) := by decide +kernel
theorem dX11_apart_21 : decode cX11_apart 21 = .ok (.iload_n 2, 1) := by decide +kernel
theorem dX11_apart_22 : decode cX11_apart 22 = .ok (.iload_n 3, 1) := by decide +kernel
theorem dX11_apart_23 : decode cX11_apart 23 = .ok (.if_icmp .eq 14, 3) := by decide +kernel
theorem dX11_apart_26 : decode cX11_apart 26 = .ok (.iload 4, 2) := by decide +kernel
theorem dX11_apart_28 : decode cX11_apart 28 = .ok (.i2l, 1) := by decide +kernel
theorem dX11_apart_29 : decode cX11_apart 29 = .ok (.lconst 0, 1) := by decide +kernel
theorem dX11_apart_30 : decode cX11_apart 30 = .ok (.lconst 1, 1) := by decide +kernel
theorem dX11_apart_31 : decode cX11_apart 31 = .ok (.invokestatic 50, 3) := by decide +kernel
theorem dX11_apart_34 : decode cX11_apart 34 = .ok (.ifCond .ne 10, 3) := by decide +kernel
theorem dX11_apart_37 : decode cX11_apart 37 = .ok (.aload_n 0, 1) := by decide +kernel
theorem dX11_apart_38 : decode cX11_apart 38 = .ok (.bipush (-2), 2) := by decide +kernel
theorem dX11_apart_40 : decode cX11_apart 40 = .ok (.invokevirtual 66, 3) := by decide +kernel
theorem dX11_apart_43 : decode cX11_apart 43 = .ok (.ireturn, 1) := by decide +kernel
theorem dX11_apart_44 : decode cX11_apart 44 = .ok (.aload_n 0, 1) := by decide +kernel
theorem dX11_apart_45 : decode cX11_apart 45 = .ok (.invokevirtual 124, 3) := by decide +kernel
theorem dX11_apart_48 : decode cX11_apart 48 = .ok (.aload_n 0, 1) := by decide +kernel
theorem dX11_apart_49 : decode cX11_apart 49 = .ok (.iload_n 1, 1) := by decide +kernel
theorem dX11_apart_50 : decode cX11_apart 50 = .ok (.iload_n 2, 1) := by decide +kernel
theorem dX11_apart_51 : decode cX11_apart 51 = .ok (.iload_n 3, 1) := by decide +kernel
theorem dX11_apart_52 : decode cX11_apart 52 = .ok (.invokevirtual 178, 3) := by decide +kernel
theorem dX11_apart_55 : decode cX11_apart 55 = .ok (.istore 5, 2) := by decide +kernel
theorem dX11_apart_57 : decode cX11_apart 57 = .ok (.iload 4, 2) := by decide +kernel
theorem dX11_apart_59 : decode cX11_apart 59 = .ok (.iconst 1, 1) := by decide +kernel
theorem dX11_apart_60 : decode cX11_apart 60 = .ok (.if_icmp .eq 8, 3) := by decide +kernel
theorem dX11_apart_63 : decode cX11_apart 63 = .ok (.iload 5, 2) := by decide +kernel
theorem dX11_apart_65 : decode cX11_apart 65 = .ok (.ifCond .gt 8, 3) := by decide +kernel
theorem dX11_apart_68 : decode cX11_apart 68 = .ok (.iload 5, 2) := by decide +kernel
theorem dX11_apart_70 : decode cX11_apart 70 = .ok (.goto 16, 3) := by decide +kernel
theorem dX11_apart_73 : decode cX11_apart 73 = .ok (.iload 5, 2) := by decide +kernel
theorem dX11_apart_75 : decode cX11_apart 75 = .ok (.sipush 992, 3) := by decide +kernel
theorem dX11_apart_78 : decode cX11_apart 78 = .ok (.if_icmp .lt 7, 3) := by decide +kernel
theorem dX11_apart_81 : decode cX11_apart 81 = .ok (.iconst 1, 1) := by decide +kernel
theorem dX11_apart_82 : decode cX11_apart 82 = .ok (.goto 4, 3) := by decide +kernel
theorem dX11_apart_85 : decode cX11_apart 85 = .ok (.iconst 2, 1) := by decide +kernel
theorem dX11_apart_86 : decode cX11_apart 86 = .ok (.ireturn, 1) := by decide +kernel
theorem dX11_yesOf_0 : decode cX11_yesOf 0 = .ok (.iconst 0, 1) := by decide +kernel
theorem dX11_yesOf_1 : decode cX11_yesOf 1 = .ok (.istore_n 2, 1) := by decide +kernel
theorem dX11_yesOf_2 : decode cX11_yesOf 2 = .ok (.iconst 0, 1) := by decide +kernel
theorem dX11_yesOf_3 : decode cX11_yesOf 3 = .ok (.istore_n 3, 1) := by decide +kernel
theorem dX11_yesOf_4 : decode cX11_yesOf 4 = .ok (.iload_n 3, 1) := by decide +kernel
theorem dX11_yesOf_5 : decode cX11_yesOf 5 = .ok (.aload_n 0, 1) := by decide +kernel
theorem dX11_yesOf_6 : decode cX11_yesOf 6 = .ok (.invokevirtual 46, 3) := by decide +kernel
theorem dX11_yesOf_9 : decode cX11_yesOf 9 = .ok (.if_icmp .ge 28, 3) := by decide +kernel
theorem dX11_yesOf_12 : decode cX11_yesOf 12 = .ok (.iload_n 2, 1) := by decide +kernel
theorem dX11_yesOf_13 : decode cX11_yesOf 13 = .ok (.aload_n 0, 1) := by decide +kernel
theorem dX11_yesOf_14 : decode cX11_yesOf 14 = .ok (.iload_n 3, 1) := by decide +kernel
theorem dX11_yesOf_15 : decode cX11_yesOf 15 = .ok (.iload_n 1, 1) := by decide +kernel
theorem dX11_yesOf_16 : decode cX11_yesOf 16 = .ok (.invokevirtual 152, 3) := by decide +kernel
theorem dX11_yesOf_19 : decode cX11_yesOf 19 = .ok (.ifCond .eq 9, 3) := by decide +kernel
theorem dX11_yesOf_22 : decode cX11_yesOf 22 = .ok (.iconst 1, 1) := by decide +kernel
theorem dX11_yesOf_23 : decode cX11_yesOf 23 = .ok (.iload_n 3, 1) := by decide +kernel
theorem dX11_yesOf_24 : decode cX11_yesOf 24 = .ok (.ishl, 1) := by decide +kernel
theorem dX11_yesOf_25 : decode cX11_yesOf 25 = .ok (.goto 4, 3) := by decide +kernel
theorem dX11_yesOf_28 : decode cX11_yesOf 28 = .ok (.iconst 0, 1) := by decide +kernel
theorem dX11_yesOf_29 : decode cX11_yesOf 29 = .ok (.ior, 1) := by decide +kernel
theorem dX11_yesOf_30 : decode cX11_yesOf 30 = .ok (.istore_n 2, 1) := by decide +kernel
theorem dX11_yesOf_31 : decode cX11_yesOf 31 = .ok (.iinc 3 1, 3) := by decide +kernel
theorem dX11_yesOf_34 : decode cX11_yesOf 34 = .ok (.goto (-30), 3) := by decide +kernel
theorem dX11_yesOf_37 : decode cX11_yesOf 37 = .ok (.iload_n 2, 1) := by decide +kernel
theorem dX11_yesOf_38 : decode cX11_yesOf 38 = .ok (.ireturn, 1) := by decide +kernel
theorem dX11_heaviest_0 : decode cX11_heaviest 0 = .ok (.iconst (-1), 1) := by decide +kernel
theorem dX11_heaviest_1 : decode cX11_heaviest 1 = .ok (.istore_n 1, 1) := by decide +kernel
theorem dX11_heaviest_2 : decode cX11_heaviest 2 = .ok (.iconst 0, 1) := by decide +kernel
theorem dX11_heaviest_3 : decode cX11_heaviest 3 = .ok (.istore_n 2, 1) := by decide +kernel
theorem dX11_heaviest_4 : decode cX11_heaviest 4 = .ok (.iload_n 2, 1) := by decide +kernel
theorem dX11_heaviest_5 : decode cX11_heaviest 5 = .ok (.aload_n 0, 1) := by decide +kernel
theorem dX11_heaviest_6 : decode cX11_heaviest 6 = .ok (.invokevirtual 46, 3) := by decide +kernel
theorem dX11_heaviest_9 : decode cX11_heaviest 9 = .ok (.if_icmp .ge 41, 3) := by decide +kernel
theorem dX11_heaviest_12 : decode cX11_heaviest 12 = .ok (.iload_n 1, 1) := by decide +kernel
theorem dX11_heaviest_13 : decode cX11_heaviest 13 = .ok (.iconst (-1), 1) := by decide +kernel
theorem dX11_heaviest_14 : decode cX11_heaviest 14 = .ok (.if_icmp .eq 24, 3) := by decide +kernel
theorem dX11_heaviest_17 : decode cX11_heaviest 17 = .ok (.aload_n 0, 1) := by decide +kernel
theorem dX11_heaviest_18 : decode cX11_heaviest 18 = .ok (.getfield 7, 3) := by decide +kernel
theorem dX11_heaviest_21 : decode cX11_heaviest 21 = .ok (.bipush 80, 2) := by decide +kernel
theorem dX11_heaviest_23 : decode cX11_heaviest 23 = .ok (.iload_n 2, 1) := by decide +kernel
theorem dX11_heaviest_24 : decode cX11_heaviest 24 = .ok (.iadd, 1) := by decide +kernel
theorem dX11_heaviest_25 : decode cX11_heaviest 25 = .ok (.iaload, 1) := by decide +kernel
theorem dX11_heaviest_26 : decode cX11_heaviest 26 = .ok (.aload_n 0, 1) := by decide +kernel
theorem dX11_heaviest_27 : decode cX11_heaviest 27 = .ok (.getfield 7, 3) := by decide +kernel
theorem dX11_heaviest_30 : decode cX11_heaviest 30 = .ok (.bipush 80, 2) := by decide +kernel
theorem dX11_heaviest_32 : decode cX11_heaviest 32 = .ok (.iload_n 1, 1) := by decide +kernel
theorem dX11_heaviest_33 : decode cX11_heaviest 33 = .ok (.iadd, 1) := by decide +kernel
theorem dX11_heaviest_34 : decode cX11_heaviest 34 = .ok (.iaload, 1) := by decide +kernel
theorem dX11_heaviest_35 : decode cX11_heaviest 35 = .ok (.if_icmp .le 7, 3) := by decide +kernel
theorem dX11_heaviest_38 : decode cX11_heaviest 38 = .ok (.iload_n 2, 1) := by decide +kernel
theorem dX11_heaviest_39 : decode cX11_heaviest 39 = .ok (.goto 4, 3) := by decide +kernel
theorem dX11_heaviest_42 : decode cX11_heaviest 42 = .ok (.iload_n 1, 1) := by decide +kernel
theorem dX11_heaviest_43 : decode cX11_heaviest 43 = .ok (.istore_n 1, 1) := by decide +kernel
theorem dX11_heaviest_44 : decode cX11_heaviest 44 = .ok (.iinc 2 1, 3) := by decide +kernel
theorem dX11_heaviest_47 : decode cX11_heaviest 47 = .ok (.goto (-43), 3) := by decide +kernel
theorem dX11_heaviest_50 : decode cX11_heaviest 50 = .ok (.iload_n 1, 1) := by decide +kernel
theorem dX11_heaviest_51 : decode cX11_heaviest 51 = .ok (.ireturn, 1) := by decide +kernel
theorem dX11_isCarried_0 : decode cX11_isCarried 0 = .ok (.iconst 2, 1) := by decide +kernel
theorem dX11_isCarried_1 : decode cX11_isCarried 1 = .ok (.iload_n 1, 1) := by decide +kernel
theorem dX11_isCarried_2 : decode cX11_isCarried 2 = .ok (.invokestatic 181, 3) := by decide +kernel
theorem dX11_isCarried_5 : decode cX11_isCarried 5 = .ok (.imul, 1) := by decide +kernel
theorem dX11_isCarried_6 : decode cX11_isCarried 6 = .ok (.istore_n 2, 1) := by decide +kernel
theorem dX11_isCarried_7 : decode cX11_isCarried 7 = .ok (.iload_n 2, 1) := by decide +kernel
theorem dX11_isCarried_8 : decode cX11_isCarried 8 = .ok (.aload_n 0, 1) := by decide +kernel
theorem dX11_isCarried_9 : decode cX11_isCarried 9 = .ok (.invokevirtual 46, 3) := by decide +kernel
theorem dX11_isCarried_12 : decode cX11_isCarried 12 = .ok (.if_icmp .gt 29, 3) := by decide +kernel
theorem dX11_isCarried_15 : decode cX11_isCarried 15 = .ok (.aload_n 0, 1) := by decide +kernel
theorem dX11_isCarried_16 : decode cX11_isCarried 16 = .ok (.invokevirtual 46, 3) := by decide +kernel
theorem dX11_isCarried_19 : decode cX11_isCarried 19 = .ok (.ifCond .le 26, 3) := by decide +kernel
theorem dX11_isCarried_22 : decode cX11_isCarried 22 = .ok (.iload_n 2, 1) := by decide +kernel
theorem dX11_isCarried_23 : decode cX11_isCarried 23 = .ok (.aload_n 0, 1) := by decide +kernel
theorem dX11_isCarried_24 : decode cX11_isCarried 24 = .ok (.invokevirtual 46, 3) := by decide +kernel
theorem dX11_isCarried_27 : decode cX11_isCarried 27 = .ok (.if_icmp .ne 18, 3) := by decide +kernel
theorem dX11_isCarried_30 : decode cX11_isCarried 30 = .ok (.iload_n 1, 1) := by decide +kernel
theorem dX11_isCarried_31 : decode cX11_isCarried 31 = .ok (.aload_n 0, 1) := by decide +kernel
theorem dX11_isCarried_32 : decode cX11_isCarried 32 = .ok (.invokevirtual 184, 3) := by decide +kernel
theorem dX11_isCarried_35 : decode cX11_isCarried 35 = .ok (.invokestatic 161, 3) := by decide +kernel
theorem dX11_isCarried_38 : decode cX11_isCarried 38 = .ok (.ifCond .eq 7, 3) := by decide +kernel
theorem dX11_isCarried_41 : decode cX11_isCarried 41 = .ok (.iconst 1, 1) := by decide +kernel
theorem dX11_isCarried_42 : decode cX11_isCarried 42 = .ok (.goto 4, 3) := by decide +kernel
theorem dX11_isCarried_45 : decode cX11_isCarried 45 = .ok (.iconst 0, 1) := by decide +kernel
theorem dX11_isCarried_46 : decode cX11_isCarried 46 = .ok (.ireturn, 1) := by decide +kernel
theorem dX11_bearsIt_0 : decode cX11_bearsIt 0 = .ok (.aload_n 0, 1) := by decide +kernel
theorem dX11_bearsIt_1 : decode cX11_bearsIt 1 = .ok (.aload_n 0, 1) := by decide +kernel
theorem dX11_bearsIt_2 : decode cX11_bearsIt 2 = .ok (.getfield 7, 3) := by decide +kernel
theorem dX11_bearsIt_5 : decode cX11_bearsIt 5 = .ok (.bipush 87, 2) := by decide +kernel
theorem dX11_bearsIt_7 : decode cX11_bearsIt 7 = .ok (.iload_n 1, 1) := by decide +kernel
theorem dX11_bearsIt_8 : decode cX11_bearsIt 8 = .ok (.iadd, 1) := by decide +kernel
theorem dX11_bearsIt_9 : decode cX11_bearsIt 9 = .ok (.iaload, 1) := by decide +kernel
theorem dX11_bearsIt_10 : decode cX11_bearsIt 10 = .ok (.invokevirtual 116, 3) := by decide +kernel
theorem dX11_bearsIt_13 : decode cX11_bearsIt 13 = .ok (.aload_n 0, 1) := by decide +kernel
theorem dX11_bearsIt_14 : decode cX11_bearsIt 14 = .ok (.getfield 7, 3) := by decide +kernel
theorem dX11_bearsIt_17 : decode cX11_bearsIt 17 = .ok (.bipush 80, 2) := by decide +kernel
theorem dX11_bearsIt_19 : decode cX11_bearsIt 19 = .ok (.iload_n 1, 1) := by decide +kernel
theorem dX11_bearsIt_20 : decode cX11_bearsIt 20 = .ok (.iadd, 1) := by decide +kernel
theorem dX11_bearsIt_21 : decode cX11_bearsIt 21 = .ok (.iaload, 1) := by decide +kernel
theorem dX11_bearsIt_22 : decode cX11_bearsIt 22 = .ok (.if_icmp .lt 7, 3) := by decide +kernel
theorem dX11_bearsIt_25 : decode cX11_bearsIt 25 = .ok (.iconst 1, 1) := by decide +kernel
theorem dX11_bearsIt_26 : decode cX11_bearsIt 26 = .ok (.goto 4, 3) := by decide +kernel
theorem dX11_bearsIt_29 : decode cX11_bearsIt 29 = .ok (.iconst 0, 1) := by decide +kernel
theorem dX11_bearsIt_30 : decode cX11_bearsIt 30 = .ok (.ireturn, 1) := by decide +kernel
theorem dX11_wetOf_0 : decode cX11_wetOf 0 = .ok (.iconst 0, 1) := by decide +kernel
theorem dX11_wetOf_1 : decode cX11_wetOf 1 = .ok (.istore_n 2, 1) := by decide +kernel
theorem dX11_wetOf_2 : decode cX11_wetOf 2 = .ok (.iconst 0, 1) := by decide +kernel
theorem dX11_wetOf_3 : decode cX11_wetOf 3 = .ok (.istore_n 3, 1) := by decide +kernel
theorem dX11_wetOf_4 : decode cX11_wetOf 4 = .ok (.iload_n 3, 1) := by decide +kernel
theorem dX11_wetOf_5 : decode cX11_wetOf 5 = .ok (.aload_n 0, 1) := by decide +kernel
theorem dX11_wetOf_6 : decode cX11_wetOf 6 = .ok (.invokevirtual 46, 3) := by decide +kernel
theorem dX11_wetOf_9 : decode cX11_wetOf 9 = .ok (.if_icmp .ge 43, 3) := by decide +kernel
theorem dX11_wetOf_12 : decode cX11_wetOf 12 = .ok (.aload_n 0, 1) := by decide +kernel
theorem dX11_wetOf_13 : decode cX11_wetOf 13 = .ok (.iload_n 1, 1) := by decide +kernel
theorem dX11_wetOf_14 : decode cX11_wetOf 14 = .ok (.invokevirtual 187, 3) := by decide +kernel
theorem dX11_wetOf_17 : decode cX11_wetOf 17 = .ok (.ifCond .eq 35, 3) := by decide +kernel
theorem dX11_wetOf_20 : decode cX11_wetOf 20 = .ok (.iload_n 2, 1) := by decide +kernel
theorem dX11_wetOf_21 : decode cX11_wetOf 21 = .ok (.iload_n 1, 1) := by decide +kernel
theorem dX11_wetOf_22 : decode cX11_wetOf 22 = .ok (.iload_n 3, 1) := by decide +kernel
theorem dX11_wetOf_23 : decode cX11_wetOf 23 = .ok (.invokestatic 161, 3) := by decide +kernel
theorem dX11_wetOf_26 : decode cX11_wetOf 26 = .ok (.ifCond .eq 17, 3) := by decide +kernel
theorem dX11_wetOf_29 : decode cX11_wetOf 29 = .ok (.aload_n 0, 1) := by decide +kernel
theorem dX11_wetOf_30 : decode cX11_wetOf 30 = .ok (.iload_n 3, 1) := by decide +kernel
theorem dX11_wetOf_31 : decode cX11_wetOf 31 = .ok (.invokevirtual 190, 3) := by decide +kernel
theorem dX11_wetOf_34 : decode cX11_wetOf 34 = .ok (.ifCond .ne 9, 3) := by decide +kernel
theorem dX11_wetOf_37 : decode cX11_wetOf 37 = .ok (.iconst 1, 1) := by decide +kernel
theorem dX11_wetOf_38 : decode cX11_wetOf 38 = .ok (.iload_n 3, 1) := by decide +kernel
theorem dX11_wetOf_39 : decode cX11_wetOf 39 = .ok (.ishl, 1) := by decide +kernel
theorem dX11_wetOf_40 : decode cX11_wetOf 40 = .ok (.goto 4, 3) := by decide +kernel
theorem dX11_wetOf_43 : decode cX11_wetOf 43 = .ok (.iconst 0, 1) := by decide +kernel
theorem dX11_wetOf_44 : decode cX11_wetOf 44 = .ok (.ior, 1) := by decide +kernel
theorem dX11_wetOf_45 : decode cX11_wetOf 45 = .ok (.istore_n 2, 1) := by decide +kernel
theorem dX11_wetOf_46 : decode cX11_wetOf 46 = .ok (.iinc 3 1, 3) := by decide +kernel
theorem dX11_wetOf_49 : decode cX11_wetOf 49 = .ok (.goto (-45), 3) := by decide +kernel
theorem dX11_wetOf_52 : decode cX11_wetOf 52 = .ok (.iload_n 2, 1) := by decide +kernel
theorem dX11_wetOf_53 : decode cX11_wetOf 53 = .ok (.ireturn, 1) := by decide +kernel
theorem dX11_votes_0 : decode cX11_votes 0 = .ok (.iload_n 1, 1) := by decide +kernel
theorem dX11_votes_1 : decode cX11_votes 1 = .ok (.i2l, 1) := by decide +kernel
theorem dX11_votes_2 : decode cX11_votes 2 = .ok (.lconst 0, 1) := by decide +kernel
theorem dX11_votes_3 : decode cX11_votes 3 = .ok (.ldc2_w 137, 3) := by decide +kernel
theorem dX11_votes_6 : decode cX11_votes 6 = .ok (.invokestatic 50, 3) := by decide +kernel
theorem dX11_votes_9 : decode cX11_votes 9 = .ok (.ifCond .ne 10, 3) := by decide +kernel
theorem dX11_votes_12 : decode cX11_votes 12 = .ok (.aload_n 0, 1) := by decide +kernel
theorem dX11_votes_13 : decode cX11_votes 13 = .ok (.bipush (-2), 2) := by decide +kernel
theorem dX11_votes_15 : decode cX11_votes 15 = .ok (.invokevirtual 66, 3) := by decide +kernel
theorem dX11_votes_18 : decode cX11_votes 18 = .ok (.ireturn, 1) := by decide +kernel
theorem dX11_votes_19 : decode cX11_votes 19 = .ok (.aload_n 0, 1) := by decide +kernel
theorem dX11_votes_20 : decode cX11_votes 20 = .ok (.invokevirtual 124, 3) := by decide +kernel
theorem dX11_votes_23 : decode cX11_votes 23 = .ok (.aload_n 0, 1) := by decide +kernel
theorem dX11_votes_24 : decode cX11_votes 24 = .ok (.aload_n 0, 1) := by decide +kernel
theorem dX11_votes_25 : decode cX11_votes 25 = .ok (.invokevirtual 149, 3) := by decide +kernel
theorem dX11_votes_28 : decode cX11_votes 28 = .ok (.invokevirtual 193, 3) := by decide +kernel
theorem dX11_votes_31 : decode cX11_votes 31 = .ok (.istore_n 2, 1) := by decide +kernel
theorem dX11_votes_32 : decode cX11_votes 32 = .ok (.iload_n 1, 1) := by decide +kernel
theorem dX11_votes_33 : decode cX11_votes 33 = .ok (.ifCond .ne 7, 3) := by decide +kernel
theorem dX11_votes_36 : decode cX11_votes 36 = .ok (.iload_n 2, 1) := by decide +kernel
theorem dX11_votes_37 : decode cX11_votes 37 = .ok (.goto 29, 3) := by decide +kernel
theorem dX11_votes_40 : decode cX11_votes 40 = .ok (.iload_n 1, 1) := by decide +kernel
theorem dX11_votes_41 : decode cX11_votes 41 = .ok (.iconst 2, 1) := by decide +kernel
theorem dX11_votes_42 : decode cX11_votes 42 = .ok (.if_icmp .ne 11, 3) := by decide +kernel
theorem dX11_votes_45 : decode cX11_votes 45 = .ok (.aload_n 0, 1) := by decide +kernel
theorem dX11_votes_46 : decode cX11_votes 46 = .ok (.iload_n 2, 1) := by decide +kernel
theorem dX11_votes_47 : decode cX11_votes 47 = .ok (.invokevirtual 196, 3) := by decide +kernel
theorem dX11_votes_50 : decode cX11_votes 50 = .ok (.goto 16, 3) := by decide +kernel
theorem dX11_votes_53 : decode cX11_votes 53 = .ok (.aload_n 0, 1) := by decide +kernel
theorem dX11_votes_54 : decode cX11_votes 54 = .ok (.iload_n 2, 1) := by decide +kernel
theorem dX11_votes_55 : decode cX11_votes 55 = .ok (.invokevirtual 187, 3) := by decide +kernel
theorem dX11_votes_58 : decode cX11_votes 58 = .ok (.ifCond .eq 7, 3) := by decide +kernel
theorem dX11_votes_61 : decode cX11_votes 61 = .ok (.iconst 1, 1) := by decide +kernel
theorem dX11_votes_62 : decode cX11_votes 62 = .ok (.goto 4, 3) := by decide +kernel
theorem dX11_votes_65 : decode cX11_votes 65 = .ok (.iconst 0, 1) := by decide +kernel
theorem dX11_votes_66 : decode cX11_votes 66 = .ok (.ireturn, 1) := by decide +kernel
theorem dX11_turn_0 : decode cX11_turn 0 = .ok (.aload_n 0, 1) := by decide +kernel
theorem dX11_turn_1 : decode cX11_turn 1 = .ok (.invokevirtual 124, 3) := by decide +kernel
theorem dX11_turn_4 : decode cX11_turn 4 = .ok (.aload_n 0, 1) := by decide +kernel
theorem dX11_turn_5 : decode cX11_turn 5 = .ok (.aload_n 0, 1) := by decide +kernel
theorem dX11_turn_6 : decode cX11_turn 6 = .ok (.invokevirtual 149, 3) := by decide +kernel
theorem dX11_turn_9 : decode cX11_turn 9 = .ok (.invokevirtual 193, 3) := by decide +kernel
theorem dX11_turn_12 : decode cX11_turn 12 = .ok (.istore_n 1, 1) := by decide +kernel
theorem dX11_turn_13 : decode cX11_turn 13 = .ok (.iconst (-1), 1) := by decide +kernel
theorem dX11_turn_14 : decode cX11_turn 14 = .ok (.istore_n 2, 1) := by decide +kernel
theorem dX11_turn_15 : decode cX11_turn 15 = .ok (.iconst 0, 1) := by decide +kernel
theorem dX11_turn_16 : decode cX11_turn 16 = .ok (.istore_n 3, 1) := by decide +kernel
theorem dX11_turn_17 : decode cX11_turn 17 = .ok (.iload_n 3, 1) := by decide +kernel
theorem dX11_turn_18 : decode cX11_turn 18 = .ok (.iconst 1, 1) := by decide +kernel
theorem dX11_turn_19 : decode cX11_turn 19 = .ok (.aload_n 0, 1) := by decide +kernel
theorem dX11_turn_20 : decode cX11_turn 20 = .ok (.invokevirtual 46, 3) := by decide +kernel
theorem dX11_turn_23 : decode cX11_turn 23 = .ok (.ishl, 1) := by decide +kernel
theorem dX11_turn_24 : decode cX11_turn 24 = .ok (.if_icmp .ge 58, 3) := by decide +kernel
theorem dX11_turn_27 : decode cX11_turn 27 = .ok (.iload_n 2, 1) := by decide +kernel
theorem dX11_turn_28 : decode cX11_turn 28 = .ok (.iconst (-1), 1) := by decide +kernel
theorem dX11_turn_29 : decode cX11_turn 29 = .ok (.if_icmp .eq 14, 3) := by decide +kernel
theorem dX11_turn_32 : decode cX11_turn 32 = .ok (.iload_n 3, 1) := by decide +kernel
theorem dX11_turn_33 : decode cX11_turn 33 = .ok (.invokestatic 181, 3) := by decide +kernel
theorem dX11_turn_36 : decode cX11_turn 36 = .ok (.iload_n 2, 1) := by decide +kernel
theorem dX11_turn_37 : decode cX11_turn 37 = .ok (.invokestatic 181, 3) := by decide +kernel
theorem dX11_turn_40 : decode cX11_turn 40 = .ok (.if_icmp .ge 7, 3) := by decide +kernel
theorem dX11_turn_43 : decode cX11_turn 43 = .ok (.iconst 1, 1) := by decide +kernel
theorem dX11_turn_44 : decode cX11_turn 44 = .ok (.goto 4, 3) := by decide +kernel
theorem dX11_turn_47 : decode cX11_turn 47 = .ok (.iconst 0, 1) := by decide +kernel
theorem dX11_turn_48 : decode cX11_turn 48 = .ok (.istore 4, 2) := by decide +kernel
theorem dX11_turn_50 : decode cX11_turn 50 = .ok (.iload 4, 2) := by decide +kernel
theorem dX11_turn_52 : decode cX11_turn 52 = .ok (.ifCond .eq 22, 3) := by decide +kernel
theorem dX11_turn_55 : decode cX11_turn 55 = .ok (.aload_n 0, 1) := by decide +kernel
theorem dX11_turn_56 : decode cX11_turn 56 = .ok (.iload_n 1, 1) := by decide +kernel
theorem dX11_turn_57 : decode cX11_turn 57 = .ok (.iload_n 3, 1) := by decide +kernel
theorem dX11_turn_58 : decode cX11_turn 58 = .ok (.ixor, 1) := by decide +kernel
theorem dX11_turn_59 : decode cX11_turn 59 = .ok (.invokevirtual 187, 3) := by decide +kernel
theorem dX11_turn_62 : decode cX11_turn 62 = .ok (.aload_n 0, 1) := by decide +kernel
theorem dX11_turn_63 : decode cX11_turn 63 = .ok (.iload_n 1, 1) := by decide +kernel
theorem dX11_turn_64 : decode cX11_turn 64 = .ok (.invokevirtual 187, 3) := by decide +kernel
theorem dX11_turn_67 : decode cX11_turn 67 = .ok (.if_icmp .eq 7, 3) := by decide +kernel
theorem dX11_turn_70 : decode cX11_turn 70 = .ok (.iload_n 3, 1) := by decide +kernel
theorem dX11_turn_71 : decode cX11_turn 71 = .ok (.goto 4, 3) := by decide +kernel
theorem dX11_turn_74 : decode cX11_turn 74 = .ok (.iload_n 2, 1) := by decide +kernel
theorem dX11_turn_75 : decode cX11_turn 75 = .ok (.istore_n 2, 1) := by decide +kernel
theorem dX11_turn_76 : decode cX11_turn 76 = .ok (.iinc 3 1, 3) := by decide +kernel
theorem dX11_turn_79 : decode cX11_turn 79 = .ok (.goto (-62), 3) := by decide +kernel
theorem dX11_turn_82 : decode cX11_turn 82 = .ok (.iload_n 2, 1) := by decide +kernel
theorem dX11_turn_83 : decode cX11_turn 83 = .ok (.ireturn, 1) := by decide +kernel
theorem dX11_seen_0 : decode cX11_seen 0 = .ok (.iload_n 1, 1) := by decide +kernel
theorem dX11_seen_1 : decode cX11_seen 1 = .ok (.i2l, 1) := by decide +kernel
theorem dX11_seen_2 : decode cX11_seen 2 = .ok (.lconst 0, 1) := by decide +kernel
theorem dX11_seen_3 : decode cX11_seen 3 = .ok (.iconst 1, 1) := by decide +kernel
theorem dX11_seen_4 : decode cX11_seen 4 = .ok (.aload_n 0, 1) := by decide +kernel
theorem dX11_seen_5 : decode cX11_seen 5 = .ok (.invokevirtual 46, 3) := by decide +kernel
theorem dX11_seen_8 : decode cX11_seen 8 = .ok (.ishl, 1) := by decide +kernel
theorem dX11_seen_9 : decode cX11_seen 9 = .ok (.iconst 1, 1) := by decide +kernel
theorem dX11_seen_10 : decode cX11_seen 10 = .ok (.isub, 1) := by decide +kernel
theorem dX11_seen_11 : decode cX11_seen 11 = .ok (.i2l, 1) := by decide +kernel
theorem dX11_seen_12 : decode cX11_seen 12 = .ok (.invokestatic 50, 3) := by decide +kernel
theorem dX11_seen_15 : decode cX11_seen 15 = .ok (.ifCond .eq 15, 3) := by decide +kernel
theorem dX11_seen_18 : decode cX11_seen 18 = .ok (.iload_n 2, 1) := by decide +kernel
theorem dX11_seen_19 : decode cX11_seen 19 = .ok (.i2l, 1) := by decide +kernel
theorem dX11_seen_20 : decode cX11_seen 20 = .ok (.lconst 0, 1) := by decide +kernel
theorem dX11_seen_21 : decode cX11_seen 21 = .ok (.ldc2_w 137, 3) := by decide +kernel
theorem dX11_seen_24 : decode cX11_seen 24 = .ok (.invokestatic 50, 3) := by decide +kernel
theorem dX11_seen_27 : decode cX11_seen 27 = .ok (.ifCond .ne 10, 3) := by decide +kernel
theorem dX11_seen_30 : decode cX11_seen 30 = .ok (.aload_n 0, 1) := by decide +kernel
theorem dX11_seen_31 : decode cX11_seen 31 = .ok (.bipush (-2), 2) := by decide +kernel
theorem dX11_seen_33 : decode cX11_seen 33 = .ok (.invokevirtual 66, 3) := by decide +kernel
theorem dX11_seen_36 : decode cX11_seen 36 = .ok (.ireturn, 1) := by decide +kernel
theorem dX11_seen_37 : decode cX11_seen 37 = .ok (.iconst 0, 1) := by decide +kernel
theorem dX11_seen_38 : decode cX11_seen 38 = .ok (.istore_n 3, 1) := by decide +kernel
theorem dX11_seen_39 : decode cX11_seen 39 = .ok (.iconst 1, 1) := by decide +kernel
theorem dX11_seen_40 : decode cX11_seen 40 = .ok (.aload_n 0, 1) := by decide +kernel
theorem dX11_seen_41 : decode cX11_seen 41 = .ok (.invokevirtual 46, 3) := by decide +kernel
theorem dX11_seen_44 : decode cX11_seen 44 = .ok (.ishl, 1) := by decide +kernel
theorem dX11_seen_45 : decode cX11_seen 45 = .ok (.iconst 1, 1) := by decide +kernel
theorem dX11_seen_46 : decode cX11_seen 46 = .ok (.isub, 1) := by decide +kernel
theorem dX11_seen_47 : decode cX11_seen 47 = .ok (.istore 4, 2) := by decide +kernel
theorem dX11_seen_49 : decode cX11_seen 49 = .ok (.iconst 0, 1) := by decide +kernel
theorem dX11_seen_50 : decode cX11_seen 50 = .ok (.istore 5, 2) := by decide +kernel
theorem dX11_seen_52 : decode cX11_seen 52 = .ok (.aload_n 0, 1) := by decide +kernel
theorem dX11_seen_53 : decode cX11_seen 53 = .ok (.invokevirtual 124, 3) := by decide +kernel
theorem dX11_seen_56 : decode cX11_seen 56 = .ok (.iconst 0, 1) := by decide +kernel
theorem dX11_seen_57 : decode cX11_seen 57 = .ok (.istore 6, 2) := by decide +kernel
theorem dX11_seen_59 : decode cX11_seen 59 = .ok (.iload 6, 2) := by decide +kernel
theorem dX11_seen_61 : decode cX11_seen 61 = .ok (.iconst 1, 1) := by decide +kernel
theorem dX11_seen_62 : decode cX11_seen 62 = .ok (.aload_n 0, 1) := by decide +kernel
theorem dX11_seen_63 : decode cX11_seen 63 = .ok (.invokevirtual 46, 3) := by decide +kernel
theorem dX11_seen_66 : decode cX11_seen 66 = .ok (.ishl, 1) := by decide +kernel
theorem dX11_seen_67 : decode cX11_seen 67 = .ok (.if_icmp .ge 45, 3) := by decide +kernel
theorem dX11_seen_70 : decode cX11_seen 70 = .ok (.aload_n 0, 1) := by decide +kernel
theorem dX11_seen_71 : decode cX11_seen 71 = .ok (.iload 6, 2) := by decide +kernel
theorem dX11_seen_73 : decode cX11_seen 73 = .ok (.invokevirtual 187, 3) := by decide +kernel
theorem dX11_seen_76 : decode cX11_seen 76 = .ok (.ifCond .eq 30, 3) := by decide +kernel
theorem dX11_seen_79 : decode cX11_seen 79 = .ok (.aload_n 0, 1) := by decide +kernel
theorem dX11_seen_80 : decode cX11_seen 80 = .ok (.iload 6, 2) := by decide +kernel
theorem dX11_seen_82 : decode cX11_seen 82 = .ok (.invokevirtual 196, 3) := by decide +kernel
theorem dX11_seen_85 : decode cX11_seen 85 = .ok (.iload_n 1, 1) := by decide +kernel
theorem dX11_seen_86 : decode cX11_seen 86 = .ok (.if_icmp .ne 20, 3) := by decide +kernel
theorem dX11_seen_89 : decode cX11_seen 89 = .ok (.iload 4, 2) := by decide +kernel
theorem dX11_seen_91 : decode cX11_seen 91 = .ok (.iload 6, 2) := by decide +kernel
theorem dX11_seen_93 : decode cX11_seen 93 = .ok (.iand, 1) := by decide +kernel
theorem dX11_seen_94 : decode cX11_seen 94 = .ok (.istore 4, 2) := by decide +kernel
theorem dX11_seen_96 : decode cX11_seen 96 = .ok (.iload 5, 2) := by decide +kernel
theorem dX11_seen_98 : decode cX11_seen 98 = .ok (.iload 6, 2) := by decide +kernel
theorem dX11_seen_100 : decode cX11_seen 100 = .ok (.ior, 1) := by decide +kernel
theorem dX11_seen_101 : decode cX11_seen 101 = .ok (.istore 5, 2) := by decide +kernel
theorem dX11_seen_103 : decode cX11_seen 103 = .ok (.iinc 3 1, 3) := by decide +kernel
theorem dX11_seen_106 : decode cX11_seen 106 = .ok (.iinc 6 1, 3) := by decide +kernel
theorem dX11_seen_109 : decode cX11_seen 109 = .ok (.goto (-50), 3) := by decide +kernel
theorem dX11_seen_112 : decode cX11_seen 112 = .ok (.iload_n 2, 1) := by decide +kernel
theorem dX11_seen_113 : decode cX11_seen 113 = .ok (.ifCond .ne 7, 3) := by decide +kernel
theorem dX11_seen_116 : decode cX11_seen 116 = .ok (.iload_n 3, 1) := by decide +kernel
theorem dX11_seen_117 : decode cX11_seen 117 = .ok (.goto 23, 3) := by decide +kernel
theorem dX11_seen_120 : decode cX11_seen 120 = .ok (.iload_n 2, 1) := by decide +kernel
theorem dX11_seen_121 : decode cX11_seen 121 = .ok (.iconst 2, 1) := by decide +kernel
theorem dX11_seen_122 : decode cX11_seen 122 = .ok (.if_icmp .ne 8, 3) := by decide +kernel
theorem dX11_seen_125 : decode cX11_seen 125 = .ok (.iload 5, 2) := by decide +kernel
theorem dX11_seen_127 : decode cX11_seen 127 = .ok (.goto 13, 3) := by decide +kernel
theorem dX11_seen_130 : decode cX11_seen 130 = .ok (.iload_n 3, 1) := by decide +kernel
theorem dX11_seen_131 : decode cX11_seen 131 = .ok (.ifCond .ne 7, 3) := by decide +kernel
theorem dX11_seen_134 : decode cX11_seen 134 = .ok (.iconst (-1), 1) := by decide +kernel
theorem dX11_seen_135 : decode cX11_seen 135 = .ok (.goto 5, 3) := by decide +kernel
theorem dX11_seen_138 : decode cX11_seen 138 = .ok (.iload 4, 2) := by decide +kernel
theorem dX11_seen_140 : decode cX11_seen 140 = .ok (.ireturn, 1) := by decide +kernel
theorem dX11_lies_0 : decode cX11_lies 0 = .ok (.iconst 0, 1) := by decide +kernel
theorem dX11_lies_1 : decode cX11_lies 1 = .ok (.istore_n 1, 1) := by decide +kernel
theorem dX11_lies_2 : decode cX11_lies 2 = .ok (.iconst 0, 1) := by decide +kernel
theorem dX11_lies_3 : decode cX11_lies 3 = .ok (.istore_n 2, 1) := by decide +kernel
theorem dX11_lies_4 : decode cX11_lies 4 = .ok (.iload_n 2, 1) := by decide +kernel
theorem dX11_lies_5 : decode cX11_lies 5 = .ok (.iconst 4, 1) := by decide +kernel
theorem dX11_lies_6 : decode cX11_lies 6 = .ok (.if_icmp .ge 105, 3) := by decide +kernel
theorem dX11_lies_9 : decode cX11_lies 9 = .ok (.iload_n 2, 1) := by decide +kernel
theorem dX11_lies_10 : decode cX11_lies 10 = .ok (.iconst 2, 1) := by decide +kernel
theorem dX11_lies_11 : decode cX11_lies 11 = .ok (.idiv, 1) := by decide +kernel
theorem dX11_lies_12 : decode cX11_lies 12 = .ok (.ifCond .ne 7, 3) := by decide +kernel
theorem dX11_lies_15 : decode cX11_lies 15 = .ok (.iconst 0, 1) := by decide +kernel
theorem dX11_lies_16 : decode cX11_lies 16 = .ok (.goto 5, 3) := by decide +kernel
theorem dX11_lies_19 : decode cX11_lies 19 = .ok (.bipush 15, 2) := by decide +kernel
theorem dX11_lies_21 : decode cX11_lies 21 = .ok (.iload_n 2, 1) := by decide +kernel
theorem dX11_lies_22 : decode cX11_lies 22 = .ok (.iconst 2, 1) := by decide +kernel
theorem dX11_lies_23 : decode cX11_lies 23 = .ok (.irem, 1) := by decide +kernel
theorem dX11_lies_24 : decode cX11_lies 24 = .ok (.ifCond .ne 7, 3) := by decide +kernel
theorem dX11_lies_27 : decode cX11_lies 27 = .ok (.iconst 0, 1) := by decide +kernel
theorem dX11_lies_28 : decode cX11_lies 28 = .ok (.goto 4, 3) := by decide +kernel
theorem dX11_lies_31 : decode cX11_lies 31 = .ok (.iconst 3, 1) := by decide +kernel
theorem dX11_lies_32 : decode cX11_lies 32 = .ok (.iadd, 1) := by decide +kernel
theorem dX11_lies_33 : decode cX11_lies 33 = .ok (.istore_n 3, 1) := by decide +kernel
theorem dX11_lies_34 : decode cX11_lies 34 = .ok (.aload_n 0, 1) := by decide +kernel
theorem dX11_lies_35 : decode cX11_lies 35 = .ok (.getfield 7, 3) := by decide +kernel
theorem dX11_lies_38 : decode cX11_lies 38 = .ok (.iconst 4, 1) := by decide +kernel
theorem dX11_lies_39 : decode cX11_lies 39 = .ok (.iload_n 3, 1) := by decide +kernel
theorem dX11_lies_40 : decode cX11_lies 40 = .ok (.iadd, 1) := by decide +kernel
theorem dX11_lies_41 : decode cX11_lies 41 = .ok (.iaload, 1) := by decide +kernel
theorem dX11_lies_42 : decode cX11_lies 42 = .ok (.aload_n 0, 1) := by decide +kernel
theorem dX11_lies_43 : decode cX11_lies 43 = .ok (.getfield 7, 3) := by decide +kernel
theorem dX11_lies_46 : decode cX11_lies 46 = .ok (.iconst 4, 1) := by decide +kernel
theorem dX11_lies_47 : decode cX11_lies 47 = .ok (.iload_n 3, 1) := by decide +kernel
theorem dX11_lies_48 : decode cX11_lies 48 = .ok (.iadd, 1) := by decide +kernel
theorem dX11_lies_49 : decode cX11_lies 49 = .ok (.iconst 1, 1) := by decide +kernel
theorem dX11_lies_50 : decode cX11_lies 50 = .ok (.iadd, 1) := by decide +kernel
theorem dX11_lies_51 : decode cX11_lies 51 = .ok (.iaload, 1) := by decide +kernel
theorem dX11_lies_52 : decode cX11_lies 52 = .ok (.iadd, 1) := by decide +kernel
theorem dX11_lies_53 : decode cX11_lies 53 = .ok (.aload_n 0, 1) := by decide +kernel
theorem dX11_lies_54 : decode cX11_lies 54 = .ok (.getfield 7, 3) := by decide +kernel
theorem dX11_lies_57 : decode cX11_lies 57 = .ok (.iconst 4, 1) := by decide +kernel
theorem dX11_lies_58 : decode cX11_lies 58 = .ok (.iload_n 3, 1) := by decide +kernel
theorem dX11_lies_59 : decode cX11_lies 59 = .ok (.iadd, 1) := by decide +kernel
theorem dX11_lies_60 : decode cX11_lies 60 = .ok (.iconst 5, 1) := by decide +kernel
theorem dX11_lies_61 : decode cX11_lies 61 = .ok (.iadd, 1) := by decide +kernel
theorem dX11_lies_62 : decode cX11_lies 62 = .ok (.iaload, 1) := by decide +kernel
theorem dX11_lies_63 : decode cX11_lies 63 = .ok (.iadd, 1) := by decide +kernel
theorem dX11_lies_64 : decode cX11_lies 64 = .ok (.aload_n 0, 1) := by decide +kernel
theorem dX11_lies_65 : decode cX11_lies 65 = .ok (.getfield 7, 3) := by decide +kernel
theorem dX11_lies_68 : decode cX11_lies 68 = .ok (.iconst 4, 1) := by decide +kernel
theorem dX11_lies_69 : decode cX11_lies 69 = .ok (.iload_n 3, 1) := by decide +kernel
theorem dX11_lies_70 : decode cX11_lies 70 = .ok (.iadd, 1) := by decide +kernel
theorem dX11_lies_71 : decode cX11_lies 71 = .ok (.iconst 5, 1) := by decide +kernel
theorem dX11_lies_72 : decode cX11_lies 72 = .ok (.iadd, 1) := by decide +kernel
theorem dX11_lies_73 : decode cX11_lies 73 = .ok (.iconst 1, 1) := by decide +kernel
theorem dX11_lies_74 : decode cX11_lies 74 = .ok (.iadd, 1) := by decide +kernel
theorem dX11_lies_75 : decode cX11_lies 75 = .ok (.iaload, 1) := by decide +kernel
theorem dX11_lies_76 : decode cX11_lies 76 = .ok (.iadd, 1) := by decide +kernel
theorem dX11_lies_77 : decode cX11_lies 77 = .ok (.istore 4, 2) := by decide +kernel
theorem dX11_lies_79 : decode cX11_lies 79 = .ok (.iload_n 1, 1) := by decide +kernel
theorem dX11_lies_80 : decode cX11_lies 80 = .ok (.aload_n 0, 1) := by decide +kernel
theorem dX11_lies_81 : decode cX11_lies 81 = .ok (.getfield 7, 3) := by decide +kernel
theorem dX11_lies_84 : decode cX11_lies 84 = .ok (.bipush 69, 2) := by decide +kernel
theorem dX11_lies_86 : decode cX11_lies 86 = .ok (.iload_n 2, 1) := by decide +kernel
theorem dX11_lies_87 : decode cX11_lies 87 = .ok (.iadd, 1) := by decide +kernel
theorem dX11_lies_88 : decode cX11_lies 88 = .ok (.iaload, 1) := by decide +kernel
theorem dX11_lies_89 : decode cX11_lies 89 = .ok (.iload 4, 2) := by decide +kernel
theorem dX11_lies_91 : decode cX11_lies 91 = .ok (.iconst 4, 1) := by decide +kernel
theorem dX11_lies_92 : decode cX11_lies 92 = .ok (.idiv, 1) := by decide +kernel
theorem dX11_lies_93 : decode cX11_lies 93 = .ok (.if_icmp .le 9, 3) := by decide +kernel
theorem dX11_lies_96 : decode cX11_lies 96 = .ok (.iconst 1, 1) := by decide +kernel
theorem dX11_lies_97 : decode cX11_lies 97 = .ok (.iload_n 2, 1) := by decide +kernel
theorem dX11_lies_98 : decode cX11_lies 98 = .ok (.ishl, 1) := by decide +kernel
theorem dX11_lies_99 : decode cX11_lies 99 = .ok (.goto 4, 3) := by decide +kernel
theorem dX11_lies_102 : decode cX11_lies 102 = .ok (.iconst 0, 1) := by decide +kernel
theorem dX11_lies_103 : decode cX11_lies 103 = .ok (.ior, 1) := by decide +kernel
theorem dX11_lies_104 : decode cX11_lies 104 = .ok (.istore_n 1, 1) := by decide +kernel
theorem dX11_lies_105 : decode cX11_lies 105 = .ok (.iinc 2 1, 3) := by decide +kernel
theorem dX11_lies_108 : decode cX11_lies 108 = .ok (.goto (-104), 3) := by decide +kernel
theorem dX11_lies_111 : decode cX11_lies 111 = .ok (.iload_n 1, 1) := by decide +kernel
theorem dX11_lies_112 : decode cX11_lies 112 = .ok (.ireturn, 1) := by decide +kernel
theorem dX11_stones_0 : decode cX11_stones 0 = .ok (.iload_n 1, 1) := by decide +kernel
theorem dX11_stones_1 : decode cX11_stones 1 = .ok (.invokestatic 155, 3) := by decide +kernel
theorem dX11_stones_4 : decode cX11_stones 4 = .ok (.ifCond .eq 22, 3) := by decide +kernel
theorem dX11_stones_7 : decode cX11_stones 7 = .ok (.iload_n 2, 1) := by decide +kernel
theorem dX11_stones_8 : decode cX11_stones 8 = .ok (.invokestatic 70, 3) := by decide +kernel
theorem dX11_stones_11 : decode cX11_stones 11 = .ok (.ifCond .eq 15, 3) := by decide +kernel
theorem dX11_stones_14 : decode cX11_stones 14 = .ok (.iload_n 3, 1) := by decide +kernel
theorem dX11_stones_15 : decode cX11_stones 15 = .ok (.invokestatic 70, 3) := by decide +kernel
theorem dX11_stones_18 : decode cX11_stones 18 = .ok (.ifCond .eq 8, 3) := by decide +kernel
theorem dX11_stones_21 : decode cX11_stones 21 = .ok (.iload_n 2, 1) := by decide +kernel
theorem dX11_stones_22 : decode cX11_stones 22 = .ok (.iload_n 3, 1) := by decide +kernel
theorem dX11_stones_23 : decode cX11_stones 23 = .ok (.if_icmp .ne 10, 3) := by decide +kernel
theorem dX11_stones_26 : decode cX11_stones 26 = .ok (.aload_n 0, 1) := by decide +kernel
theorem dX11_stones_27 : decode cX11_stones 27 = .ok (.bipush (-2), 2) := by decide +kernel
theorem dX11_stones_29 : decode cX11_stones 29 = .ok (.invokevirtual 66, 3) := by decide +kernel
theorem dX11_stones_32 : decode cX11_stones 32 = .ok (.ireturn, 1) := by decide +kernel
theorem dX11_stones_33 : decode cX11_stones 33 = .ok (.aload_n 0, 1) := by decide +kernel
theorem dX11_stones_34 : decode cX11_stones 34 = .ok (.invokevirtual 124, 3) := by decide +kernel
theorem dX11_stones_37 : decode cX11_stones 37 = .ok (.aload_n 0, 1) := by decide +kernel
theorem dX11_stones_38 : decode cX11_stones 38 = .ok (.iload_n 2, 1) := by decide +kernel
theorem dX11_stones_39 : decode cX11_stones 39 = .ok (.invokevirtual 116, 3) := by decide +kernel
theorem dX11_stones_42 : decode cX11_stones 42 = .ok (.iload_n 1, 1) := by decide +kernel
theorem dX11_stones_43 : decode cX11_stones 43 = .ok (.if_icmp .lt 7, 3) := by decide +kernel
theorem dX11_stones_46 : decode cX11_stones 46 = .ok (.iconst 1, 1) := by decide +kernel
theorem dX11_stones_47 : decode cX11_stones 47 = .ok (.goto 4, 3) := by decide +kernel
theorem dX11_stones_50 : decode cX11_stones 50 = .ok (.iconst 0, 1) := by decide +kernel
theorem dX11_stones_51 : decode cX11_stones 51 = .ok (.istore 4, 2) := by decide +kernel
theorem dX11_stones_53 : decode cX11_stones 53 = .ok (.aload_n 0, 1) := by decide +kernel
theorem dX11_stones_54 : decode cX11_stones 54 = .ok (.iload_n 3, 1) := by decide +kernel
theorem dX11_stones_55 : decode cX11_stones 55 = .ok (.invokevirtual 116, 3) := by decide +kernel
theorem dX11_stones_58 : decode cX11_stones 58 = .ok (.iload_n 1, 1) := by decide +kernel
theorem dX11_stones_59 : decode cX11_stones 59 = .ok (.if_icmp .lt 7, 3) := by decide +kernel
theorem dX11_stones_62 : decode cX11_stones 62 = .ok (.iconst 1, 1) := by decide +kernel
theorem dX11_stones_63 : decode cX11_stones 63 = .ok (.goto 4, 3) := by decide +kernel
theorem dX11_stones_66 : decode cX11_stones 66 = .ok (.iconst 0, 1) := by decide +kernel
theorem dX11_stones_67 : decode cX11_stones 67 = .ok (.istore 5, 2) := by decide +kernel
theorem dX11_stones_69 : decode cX11_stones 69 = .ok (.iload 4, 2) := by decide +kernel
theorem dX11_stones_71 : decode cX11_stones 71 = .ok (.iload 5, 2) := by decide +kernel
theorem dX11_stones_73 : decode cX11_stones 73 = .ok (.if_icmp .ne 7, 3) := by decide +kernel
theorem dX11_stones_76 : decode cX11_stones 76 = .ok (.iconst (-1), 1) := by decide +kernel
theorem dX11_stones_77 : decode cX11_stones 77 = .ok (.goto 13, 3) := by decide +kernel
theorem dX11_stones_80 : decode cX11_stones 80 = .ok (.iload 4, 2) := by decide +kernel
theorem dX11_stones_82 : decode cX11_stones 82 = .ok (.ifCond .eq 7, 3) := by decide +kernel
theorem dX11_stones_85 : decode cX11_stones 85 = .ok (.iload_n 3, 1) := by decide +kernel
theorem dX11_stones_86 : decode cX11_stones 86 = .ok (.goto 4, 3) := by decide +kernel
theorem dX11_stones_89 : decode cX11_stones 89 = .ok (.iload_n 2, 1) := by decide +kernel
theorem dX11_stones_90 : decode cX11_stones 90 = .ok (.ireturn, 1) := by decide +kernel
theorem dX11_note_0 : decode cX11_note 0 = .ok (.iload_n 1, 1) := by decide +kernel
theorem dX11_note_1 : decode cX11_note 1 = .ok (.invokestatic 70, 3) := by decide +kernel
theorem dX11_note_4 : decode cX11_note 4 = .ok (.ifCond .eq 33, 3) := by decide +kernel
theorem dX11_note_7 : decode cX11_note 7 = .ok (.iload_n 2, 1) := by decide +kernel
theorem dX11_note_8 : decode cX11_note 8 = .ok (.invokestatic 62, 3) := by decide +kernel
theorem dX11_note_11 : decode cX11_note 11 = .ok (.ifCond .eq 26, 3) := by decide +kernel
theorem dX11_note_14 : decode cX11_note 14 = .ok (.iload_n 3, 1) := by decide +kernel
theorem dX11_note_15 : decode cX11_note 15 = .ok (.invokestatic 77, 3) := by decide +kernel
theorem dX11_note_18 : decode cX11_note 18 = .ok (.ifCond .eq 19, 3) := by decide +kernel
theorem dX11_note_21 : decode cX11_note 21 = .ok (.iload 4, 2) := by decide +kernel
theorem dX11_note_23 : decode cX11_note 23 = .ok (.invokestatic 77, 3) := by decide +kernel
theorem dX11_note_26 : decode cX11_note 26 = .ok (.ifCond .eq 11, 3) := by decide +kernel
theorem dX11_note_29 : decode cX11_note 29 = .ok (.iload 5, 2) := by decide +kernel
theorem dX11_note_31 : decode cX11_note 31 = .ok (.invokestatic 62, 3) := by decide +kernel
theorem dX11_note_34 : decode cX11_note 34 = .ok (.ifCond .ne 10, 3) := by decide +kernel
theorem dX11_note_37 : decode cX11_note 37 = .ok (.aload_n 0, 1) := by decide +kernel
theorem dX11_note_38 : decode cX11_note 38 = .ok (.bipush (-2), 2) := by decide +kernel
theorem dX11_note_40 : decode cX11_note 40 = .ok (.invokevirtual 66, 3) := by decide +kernel
theorem dX11_note_43 : decode cX11_note 43 = .ok (.ireturn, 1) := by decide +kernel
theorem dX11_note_44 : decode cX11_note 44 = .ok (.aload_n 0, 1) := by decide +kernel
theorem dX11_note_45 : decode cX11_note 45 = .ok (.getfield 7, 3) := by decide +kernel
theorem dX11_note_48 : decode cX11_note 48 = .ok (.iconst 1, 1) := by decide +kernel
theorem dX11_note_49 : decode cX11_note 49 = .ok (.iaload, 1) := by decide +kernel
theorem dX11_note_50 : decode cX11_note 50 = .ok (.bipush 6, 2) := by decide +kernel
theorem dX11_note_52 : decode cX11_note 52 = .ok (.if_icmp .ne 8, 3) := by decide +kernel
theorem dX11_note_55 : decode cX11_note 55 = .ok (.aload_n 0, 1) := by decide +kernel
theorem dX11_note_56 : decode cX11_note 56 = .ok (.invokevirtual 82, 3) := by decide +kernel
theorem dX11_note_59 : decode cX11_note 59 = .ok (.ireturn, 1) := by decide +kernel
theorem dX11_note_60 : decode cX11_note 60 = .ok (.bipush 94, 2) := by decide +kernel
theorem dX11_note_62 : decode cX11_note 62 = .ok (.iconst 5, 1) := by decide +kernel
theorem dX11_note_63 : decode cX11_note 63 = .ok (.aload_n 0, 1) := by decide +kernel
theorem dX11_note_64 : decode cX11_note 64 = .ok (.getfield 7, 3) := by decide +kernel
theorem dX11_note_67 : decode cX11_note 67 = .ok (.iconst 1, 1) := by decide +kernel
theorem dX11_note_68 : decode cX11_note 68 = .ok (.iaload, 1) := by decide +kernel
theorem dX11_note_69 : decode cX11_note 69 = .ok (.imul, 1) := by decide +kernel
theorem dX11_note_70 : decode cX11_note 70 = .ok (.iadd, 1) := by decide +kernel
theorem dX11_note_71 : decode cX11_note 71 = .ok (.istore 6, 2) := by decide +kernel
theorem dX11_note_73 : decode cX11_note 73 = .ok (.aload_n 0, 1) := by decide +kernel
theorem dX11_note_74 : decode cX11_note 74 = .ok (.getfield 7, 3) := by decide +kernel
theorem dX11_note_77 : decode cX11_note 77 = .ok (.iload 6, 2) := by decide +kernel
theorem dX11_note_79 : decode cX11_note 79 = .ok (.iload_n 1, 1) := by decide +kernel
theorem dX11_note_80 : decode cX11_note 80 = .ok (.iastore, 1) := by decide +kernel
theorem dX11_note_81 : decode cX11_note 81 = .ok (.aload_n 0, 1) := by decide +kernel
theorem dX11_note_82 : decode cX11_note 82 = .ok (.getfield 7, 3) := by decide +kernel
theorem dX11_note_85 : decode cX11_note 85 = .ok (.iload 6, 2) := by decide +kernel
theorem dX11_note_87 : decode cX11_note 87 = .ok (.iconst 1, 1) := by decide +kernel
theorem dX11_note_88 : decode cX11_note 88 = .ok (.iadd, 1) := by decide +kernel
theorem dX11_note_89 : decode cX11_note 89 = .ok (.iload_n 2, 1) := by decide +kernel
theorem dX11_note_90 : decode cX11_note 90 = .ok (.iastore, 1) := by decide +kernel
theorem dX11_note_91 : decode cX11_note 91 = .ok (.aload_n 0, 1) := by decide +kernel
theorem dX11_note_92 : decode cX11_note 92 = .ok (.getfield 7, 3) := by decide +kernel
theorem dX11_note_95 : decode cX11_note 95 = .ok (.iload 6, 2) := by decide +kernel
theorem dX11_note_97 : decode cX11_note 97 = .ok (.iconst 2, 1) := by decide +kernel
theorem dX11_note_98 : decode cX11_note 98 = .ok (.iadd, 1) := by decide +kernel
theorem dX11_note_99 : decode cX11_note 99 = .ok (.iload_n 3, 1) := by decide +kernel
theorem dX11_note_100 : decode cX11_note 100 = .ok (.iastore, 1) := by decide +kernel
theorem dX11_note_101 : decode cX11_note 101 = .ok (.aload_n 0, 1) := by decide +kernel
theorem dX11_note_102 : decode cX11_note 102 = .ok (.getfield 7, 3) := by decide +kernel
theorem dX11_note_105 : decode cX11_note 105 = .ok (.iload 6, 2) := by decide +kernel
theorem dX11_note_107 : decode cX11_note 107 = .ok (.iconst 3, 1) := by decide +kernel
theorem dX11_note_108 : decode cX11_note 108 = .ok (.iadd, 1) := by decide +kernel
theorem dX11_note_109 : decode cX11_note 109 = .ok (.iload 4, 2) := by decide +kernel
theorem dX11_note_111 : decode cX11_note 111 = .ok (.iastore, 1) := by decide +kernel
theorem dX11_note_112 : decode cX11_note 112 = .ok (.aload_n 0, 1) := by decide +kernel
theorem dX11_note_113 : decode cX11_note 113 = .ok (.getfield 7, 3) := by decide +kernel
theorem dX11_note_116 : decode cX11_note 116 = .ok (.iload 6, 2) := by decide +kernel
theorem dX11_note_118 : decode cX11_note 118 = .ok (.iconst 4, 1) := by decide +kernel
theorem dX11_note_119 : decode cX11_note 119 = .ok (.iadd, 1) := by decide +kernel
theorem dX11_note_120 : decode cX11_note 120 = .ok (.iload 5, 2) := by decide +kernel
theorem dX11_note_122 : decode cX11_note 122 = .ok (.iastore, 1) := by decide +kernel
theorem dX11_note_123 : decode cX11_note 123 = .ok (.aload_n 0, 1) := by decide +kernel
theorem dX11_note_124 : decode cX11_note 124 = .ok (.getfield 7, 3) := by decide +kernel
theorem dX11_note_127 : decode cX11_note 127 = .ok (.iconst 1, 1) := by decide +kernel
theorem dX11_note_128 : decode cX11_note 128 = .ok (.dup2, 1) := by decide +kernel
theorem dX11_note_129 : decode cX11_note 129 = .ok (.iaload, 1) := by decide +kernel
theorem dX11_note_130 : decode cX11_note 130 = .ok (.iconst 1, 1) := by decide +kernel
theorem dX11_note_131 : decode cX11_note 131 = .ok (.iadd, 1) := by decide +kernel
theorem dX11_note_132 : decode cX11_note 132 = .ok (.iastore, 1) := by decide +kernel
theorem dX11_note_133 : decode cX11_note 133 = .ok (.aload_n 0, 1) := by decide +kernel
theorem dX11_note_134 : decode cX11_note 134 = .ok (.getfield 7, 3) := by decide +kernel
theorem dX11_note_137 : decode cX11_note 137 = .ok (.iconst 1, 1) := by decide +kernel
theorem dX11_note_138 : decode cX11_note 138 = .ok (.iaload, 1) := by decide +kernel
theorem dX11_note_139 : decode cX11_note 139 = .ok (.ireturn, 1) := by decide +kernel
theorem dX11_voted_0 : decode cX11_voted 0 = .ok (.aload_n 0, 1) := by decide +kernel
theorem dX11_voted_1 : decode cX11_voted 1 = .ok (.iload_n 1, 1) := by decide +kernel
theorem dX11_voted_2 : decode cX11_voted 2 = .ok (.invokevirtual 146, 3) := by decide +kernel
theorem dX11_voted_5 : decode cX11_voted 5 = .ok (.ifCond .eq 46, 3) := by decide +kernel
theorem dX11_voted_8 : decode cX11_voted 8 = .ok (.iload_n 2, 1) := by decide +kernel
theorem dX11_voted_9 : decode cX11_voted 9 = .ok (.i2l, 1) := by decide +kernel
theorem dX11_voted_10 : decode cX11_voted 10 = .ok (.lconst 0, 1) := by decide +kernel
theorem dX11_voted_11 : decode cX11_voted 11 = .ok (.lconst 1, 1) := by decide +kernel
theorem dX11_voted_12 : decode cX11_voted 12 = .ok (.invokestatic 50, 3) := by decide +kernel
theorem dX11_voted_15 : decode cX11_voted 15 = .ok (.ifCond .eq 36, 3) := by decide +kernel
theorem dX11_voted_18 : decode cX11_voted 18 = .ok (.iload_n 3, 1) := by decide +kernel
theorem dX11_voted_19 : decode cX11_voted 19 = .ok (.i2l, 1) := by decide +kernel
theorem dX11_voted_20 : decode cX11_voted 20 = .ok (.lconst 0, 1) := by decide +kernel
theorem dX11_voted_21 : decode cX11_voted 21 = .ok (.ldc2_w 60, 3) := by decide +kernel
theorem dX11_voted_24 : decode cX11_voted 24 = .ok (.invokestatic 50, 3) := by decide +kernel
theorem dX11_voted_27 : decode cX11_voted 27 = .ok (.ifCond .eq 24, 3) := by decide +kernel
theorem dX11_voted_30 : decode cX11_voted 30 = .ok (.iload 4, 2) := by decide +kernel
theorem dX11_voted_32 : decode cX11_voted 32 = .ok (.i2l, 1) := by decide +kernel
theorem dX11_voted_33 : decode cX11_voted 33 = .ok (.lconst 0, 1) := by decide +kernel
theorem dX11_voted_34 : decode cX11_voted 34 = .ok (.ldc2_w 60, 3) := by decide +kernel
theorem dX11_voted_37 : decode cX11_voted 37 = .ok (.invokestatic 50, 3) := by decide +kernel
theorem dX11_voted_40 : decode cX11_voted 40 = .ok (.ifCond .eq 11, 3) := by decide +kernel
theorem dX11_voted_43 : decode cX11_voted 43 = .ok (.iload 5, 2) := by decide +kernel
theorem dX11_voted_45 : decode cX11_voted 45 = .ok (.invokestatic 77, 3) := by decide +kernel
theorem dX11_voted_48 : decode cX11_voted 48 = .ok (.ifCond .ne 10, 3) := by decide +kernel
theorem dX11_voted_51 : decode cX11_voted 51 = .ok (.aload_n 0, 1) := by decide +kernel
theorem dX11_voted_52 : decode cX11_voted 52 = .ok (.bipush (-2), 2) := by decide +kernel
theorem dX11_voted_54 : decode cX11_voted 54 = .ok (.invokevirtual 66, 3) := by decide +kernel
theorem dX11_voted_57 : decode cX11_voted 57 = .ok (.ireturn, 1) := by decide +kernel
theorem dX11_voted_58 : decode cX11_voted 58 = .ok (.aload_n 0, 1) := by decide +kernel
theorem dX11_voted_59 : decode cX11_voted 59 = .ok (.getfield 7, 3) := by decide +kernel
theorem dX11_voted_62 : decode cX11_voted 62 = .ok (.iconst 2, 1) := by decide +kernel
theorem dX11_voted_63 : decode cX11_voted 63 = .ok (.iaload, 1) := by decide +kernel
theorem dX11_voted_64 : decode cX11_voted 64 = .ok (.bipush 6, 2) := by decide +kernel
theorem dX11_voted_66 : decode cX11_voted 66 = .ok (.if_icmp .ne 8, 3) := by decide +kernel
theorem dX11_voted_69 : decode cX11_voted 69 = .ok (.aload_n 0, 1) := by decide +kernel
theorem dX11_voted_70 : decode cX11_voted 70 = .ok (.invokevirtual 82, 3) := by decide +kernel
theorem dX11_voted_73 : decode cX11_voted 73 = .ok (.ireturn, 1) := by decide +kernel
theorem dX11_voted_74 : decode cX11_voted 74 = .ok (.bipush 124, 2) := by decide +kernel
theorem dX11_voted_76 : decode cX11_voted 76 = .ok (.iconst 5, 1) := by decide +kernel
theorem dX11_voted_77 : decode cX11_voted 77 = .ok (.aload_n 0, 1) := by decide +kernel
theorem dX11_voted_78 : decode cX11_voted 78 = .ok (.getfield 7, 3) := by decide +kernel
theorem dX11_voted_81 : decode cX11_voted 81 = .ok (.iconst 2, 1) := by decide +kernel
theorem dX11_voted_82 : decode cX11_voted 82 = .ok (.iaload, 1) := by decide +kernel
theorem dX11_voted_83 : decode cX11_voted 83 = .ok (.imul, 1) := by decide +kernel
theorem dX11_voted_84 : decode cX11_voted 84 = .ok (.iadd, 1) := by decide +kernel
theorem dX11_voted_85 : decode cX11_voted 85 = .ok (.istore 6, 2) := by decide +kernel
theorem dX11_voted_87 : decode cX11_voted 87 = .ok (.aload_n 0, 1) := by decide +kernel
theorem dX11_voted_88 : decode cX11_voted 88 = .ok (.getfield 7, 3) := by decide +kernel
theorem dX11_voted_91 : decode cX11_voted 91 = .ok (.iload 6, 2) := by decide +kernel
theorem dX11_voted_93 : decode cX11_voted 93 = .ok (.iload_n 1, 1) := by decide +kernel
theorem dX11_voted_94 : decode cX11_voted 94 = .ok (.iastore, 1) := by decide +kernel
theorem dX11_voted_95 : decode cX11_voted 95 = .ok (.aload_n 0, 1) := by decide +kernel
theorem dX11_voted_96 : decode cX11_voted 96 = .ok (.getfield 7, 3) := by decide +kernel
theorem dX11_voted_99 : decode cX11_voted 99 = .ok (.iload 6, 2) := by decide +kernel
theorem dX11_voted_101 : decode cX11_voted 101 = .ok (.iconst 1, 1) := by decide +kernel
theorem dX11_voted_102 : decode cX11_voted 102 = .ok (.iadd, 1) := by decide +kernel
theorem dX11_voted_103 : decode cX11_voted 103 = .ok (.iload_n 2, 1) := by decide +kernel
theorem dX11_voted_104 : decode cX11_voted 104 = .ok (.iastore, 1) := by decide +kernel
theorem dX11_voted_105 : decode cX11_voted 105 = .ok (.aload_n 0, 1) := by decide +kernel
theorem dX11_voted_106 : decode cX11_voted 106 = .ok (.getfield 7, 3) := by decide +kernel
theorem dX11_voted_109 : decode cX11_voted 109 = .ok (.iload 6, 2) := by decide +kernel
theorem dX11_voted_111 : decode cX11_voted 111 = .ok (.iconst 2, 1) := by decide +kernel
theorem dX11_voted_112 : decode cX11_voted 112 = .ok (.iadd, 1) := by decide +kernel
theorem dX11_voted_113 : decode cX11_voted 113 = .ok (.iload_n 3, 1) := by decide +kernel
theorem dX11_voted_114 : decode cX11_voted 114 = .ok (.iastore, 1) := by decide +kernel
theorem dX11_voted_115 : decode cX11_voted 115 = .ok (.aload_n 0, 1) := by decide +kernel
theorem dX11_voted_116 : decode cX11_voted 116 = .ok (.getfield 7, 3) := by decide +kernel
theorem dX11_voted_119 : decode cX11_voted 119 = .ok (.iload 6, 2) := by decide +kernel
theorem dX11_voted_121 : decode cX11_voted 121 = .ok (.iconst 3, 1) := by decide +kernel
theorem dX11_voted_122 : decode cX11_voted 122 = .ok (.iadd, 1) := by decide +kernel
theorem dX11_voted_123 : decode cX11_voted 123 = .ok (.iload 4, 2) := by decide +kernel
theorem dX11_voted_125 : decode cX11_voted 125 = .ok (.iastore, 1) := by decide +kernel
theorem dX11_voted_126 : decode cX11_voted 126 = .ok (.aload_n 0, 1) := by decide +kernel
theorem dX11_voted_127 : decode cX11_voted 127 = .ok (.getfield 7, 3) := by decide +kernel
theorem dX11_voted_130 : decode cX11_voted 130 = .ok (.iload 6, 2) := by decide +kernel
theorem dX11_voted_132 : decode cX11_voted 132 = .ok (.iconst 4, 1) := by decide +kernel
theorem dX11_voted_133 : decode cX11_voted 133 = .ok (.iadd, 1) := by decide +kernel
theorem dX11_voted_134 : decode cX11_voted 134 = .ok (.iload 5, 2) := by decide +kernel
theorem dX11_voted_136 : decode cX11_voted 136 = .ok (.iastore, 1) := by decide +kernel
theorem dX11_voted_137 : decode cX11_voted 137 = .ok (.aload_n 0, 1) := by decide +kernel
theorem dX11_voted_138 : decode cX11_voted 138 = .ok (.getfield 7, 3) := by decide +kernel
theorem dX11_voted_141 : decode cX11_voted 141 = .ok (.iconst 2, 1) := by decide +kernel
theorem dX11_voted_142 : decode cX11_voted 142 = .ok (.dup2, 1) := by decide +kernel
theorem dX11_voted_143 : decode cX11_voted 143 = .ok (.iaload, 1) := by decide +kernel
theorem dX11_voted_144 : decode cX11_voted 144 = .ok (.iconst 1, 1) := by decide +kernel
theorem dX11_voted_145 : decode cX11_voted 145 = .ok (.iadd, 1) := by decide +kernel
theorem dX11_voted_146 : decode cX11_voted 146 = .ok (.iastore, 1) := by decide +kernel
theorem dX11_voted_147 : decode cX11_voted 147 = .ok (.aload_n 0, 1) := by decide +kernel
theorem dX11_voted_148 : decode cX11_voted 148 = .ok (.getfield 7, 3) := by decide +kernel
theorem dX11_voted_151 : decode cX11_voted 151 = .ok (.iconst 2, 1) := by decide +kernel
theorem dX11_voted_152 : decode cX11_voted 152 = .ok (.iaload, 1) := by decide +kernel
theorem dX11_voted_153 : decode cX11_voted 153 = .ok (.ireturn, 1) := by decide +kernel
theorem dX11_forget_0 : decode cX11_forget 0 = .ok (.iload_n 1, 1) := by decide +kernel
theorem dX11_forget_1 : decode cX11_forget 1 = .ok (.i2l, 1) := by decide +kernel
theorem dX11_forget_2 : decode cX11_forget 2 = .ok (.lconst 0, 1) := by decide +kernel
theorem dX11_forget_3 : decode cX11_forget 3 = .ok (.lconst 1, 1) := by decide +kernel
theorem dX11_forget_4 : decode cX11_forget 4 = .ok (.invokestatic 50, 3) := by decide +kernel
theorem dX11_forget_7 : decode cX11_forget 7 = .ok (.ifCond .ne 10, 3) := by decide +kernel
theorem dX11_forget_10 : decode cX11_forget 10 = .ok (.aload_n 0, 1) := by decide +kernel
theorem dX11_forget_11 : decode cX11_forget 11 = .ok (.bipush (-2), 2) := by decide +kernel
theorem dX11_forget_13 : decode cX11_forget 13 = .ok (.invokevirtual 66, 3) := by decide +kernel
theorem dX11_forget_16 : decode cX11_forget 16 = .ok (.ireturn, 1) := by decide +kernel
theorem dX11_forget_17 : decode cX11_forget 17 = .ok (.aload_n 0, 1) := by decide +kernel
theorem dX11_forget_18 : decode cX11_forget 18 = .ok (.getfield 7, 3) := by decide +kernel
theorem dX11_forget_21 : decode cX11_forget 21 = .ok (.iconst 1, 1) := by decide +kernel
theorem dX11_forget_22 : decode cX11_forget 22 = .ok (.iload_n 1, 1) := by decide +kernel
theorem dX11_forget_23 : decode cX11_forget 23 = .ok (.iadd, 1) := by decide +kernel
theorem dX11_forget_24 : decode cX11_forget 24 = .ok (.iaload, 1) := by decide +kernel
theorem dX11_forget_25 : decode cX11_forget 25 = .ok (.istore_n 2, 1) := by decide +kernel
theorem dX11_forget_26 : decode cX11_forget 26 = .ok (.aload_n 0, 1) := by decide +kernel
theorem dX11_forget_27 : decode cX11_forget 27 = .ok (.getfield 7, 3) := by decide +kernel
theorem dX11_forget_30 : decode cX11_forget 30 = .ok (.iconst 1, 1) := by decide +kernel
theorem dX11_forget_31 : decode cX11_forget 31 = .ok (.iload_n 1, 1) := by decide +kernel
theorem dX11_forget_32 : decode cX11_forget 32 = .ok (.iadd, 1) := by decide +kernel
theorem dX11_forget_33 : decode cX11_forget 33 = .ok (.iconst 0, 1) := by decide +kernel
theorem dX11_forget_34 : decode cX11_forget 34 = .ok (.iastore, 1) := by decide +kernel
theorem dX11_forget_35 : decode cX11_forget 35 = .ok (.iload_n 2, 1) := by decide +kernel
theorem dX11_forget_36 : decode cX11_forget 36 = .ok (.ireturn, 1) := by decide +kernel
theorem dX11_kindsOf_0 : decode cX11_kindsOf 0 = .ok (.iconst 0, 1) := by decide +kernel
theorem dX11_kindsOf_1 : decode cX11_kindsOf 1 = .ok (.istore_n 2, 1) := by decide +kernel
theorem dX11_kindsOf_2 : decode cX11_kindsOf 2 = .ok (.iconst 0, 1) := by decide +kernel
theorem dX11_kindsOf_3 : decode cX11_kindsOf 3 = .ok (.istore_n 3, 1) := by decide +kernel
theorem dX11_kindsOf_4 : decode cX11_kindsOf 4 = .ok (.iload_n 3, 1) := by decide +kernel
theorem dX11_kindsOf_5 : decode cX11_kindsOf 5 = .ok (.bipush 6, 2) := by decide +kernel
theorem dX11_kindsOf_7 : decode cX11_kindsOf 7 = .ok (.if_icmp .ge 122, 3) := by decide +kernel
theorem dX11_kindsOf_10 : decode cX11_kindsOf 10 = .ok (.iconst 1, 1) := by decide +kernel
theorem dX11_kindsOf_11 : decode cX11_kindsOf 11 = .ok (.istore 4, 2) := by decide +kernel
theorem dX11_kindsOf_13 : decode cX11_kindsOf 13 = .ok (.iconst 0, 1) := by decide +kernel
theorem dX11_kindsOf_14 : decode cX11_kindsOf 14 = .ok (.istore 5, 2) := by decide +kernel
theorem dX11_kindsOf_16 : decode cX11_kindsOf 16 = .ok (.iload 5, 2) := by decide +kernel
theorem dX11_kindsOf_18 : decode cX11_kindsOf 18 = .ok (.aload_n 0, 1) := by decide +kernel
theorem dX11_kindsOf_19 : decode cX11_kindsOf 19 = .ok (.getfield 7, 3) := by decide +kernel
theorem dX11_kindsOf_22 : decode cX11_kindsOf 22 = .ok (.iconst 1, 1) := by decide +kernel
theorem dX11_kindsOf_23 : decode cX11_kindsOf 23 = .ok (.iaload, 1) := by decide +kernel
theorem dX11_kindsOf_24 : decode cX11_kindsOf 24 = .ok (.if_icmp .ge 84, 3) := by decide +kernel
theorem dX11_kindsOf_27 : decode cX11_kindsOf 27 = .ok (.bipush 94, 2) := by decide +kernel
theorem dX11_kindsOf_29 : decode cX11_kindsOf 29 = .ok (.iconst 5, 1) := by decide +kernel
theorem dX11_kindsOf_30 : decode cX11_kindsOf 30 = .ok (.iload 5, 2) := by decide +kernel
theorem dX11_kindsOf_32 : decode cX11_kindsOf 32 = .ok (.imul, 1) := by decide +kernel
theorem dX11_kindsOf_33 : decode cX11_kindsOf 33 = .ok (.iadd, 1) := by decide +kernel
theorem dX11_kindsOf_34 : decode cX11_kindsOf 34 = .ok (.istore 6, 2) := by decide +kernel
theorem dX11_kindsOf_36 : decode cX11_kindsOf 36 = .ok (.iload 4, 2) := by decide +kernel
theorem dX11_kindsOf_38 : decode cX11_kindsOf 38 = .ok (.ifCond .eq 61, 3) := by decide +kernel
theorem dX11_kindsOf_41 : decode cX11_kindsOf 41 = .ok (.aload_n 0, 1) := by decide +kernel
theorem dX11_kindsOf_42 : decode cX11_kindsOf 42 = .ok (.getfield 7, 3) := by decide +kernel
theorem dX11_kindsOf_45 : decode cX11_kindsOf 45 = .ok (.iload 6, 2) := by decide +kernel
theorem dX11_kindsOf_47 : decode cX11_kindsOf 47 = .ok (.iaload, 1) := by decide +kernel
theorem dX11_kindsOf_48 : decode cX11_kindsOf 48 = .ok (.iload_n 1, 1) := by decide +kernel
theorem dX11_kindsOf_49 : decode cX11_kindsOf 49 = .ok (.if_icmp .ne 46, 3) := by decide +kernel
theorem dX11_kindsOf_52 : decode cX11_kindsOf 52 = .ok (.iload_n 3, 1) := by decide +kernel
theorem dX11_kindsOf_53 : decode cX11_kindsOf 53 = .ok (.aload_n 0, 1) := by decide +kernel
theorem dX11_kindsOf_54 : decode cX11_kindsOf 54 = .ok (.getfield 7, 3) := by decide +kernel
theorem dX11_kindsOf_57 : decode cX11_kindsOf 57 = .ok (.iload 6, 2) := by decide +kernel
theorem dX11_kindsOf_59 : decode cX11_kindsOf 59 = .ok (.iconst 1, 1) := by decide +kernel
theorem dX11_kindsOf_60 : decode cX11_kindsOf 60 = .ok (.iadd, 1) := by decide +kernel
theorem dX11_kindsOf_61 : decode cX11_kindsOf 61 = .ok (.iaload, 1) := by decide +kernel
theorem dX11_kindsOf_62 : decode cX11_kindsOf 62 = .ok (.aload_n 0, 1) := by decide +kernel
theorem dX11_kindsOf_63 : decode cX11_kindsOf 63 = .ok (.getfield 7, 3) := by decide +kernel
theorem dX11_kindsOf_66 : decode cX11_kindsOf 66 = .ok (.iload 6, 2) := by decide +kernel
theorem dX11_kindsOf_68 : decode cX11_kindsOf 68 = .ok (.iconst 2, 1) := by decide +kernel
theorem dX11_kindsOf_69 : decode cX11_kindsOf 69 = .ok (.iadd, 1) := by decide +kernel
theorem dX11_kindsOf_70 : decode cX11_kindsOf 70 = .ok (.iaload, 1) := by decide +kernel
theorem dX11_kindsOf_71 : decode cX11_kindsOf 71 = .ok (.aload_n 0, 1) := by decide +kernel
theorem dX11_kindsOf_72 : decode cX11_kindsOf 72 = .ok (.getfield 7, 3) := by decide +kernel
theorem dX11_kindsOf_75 : decode cX11_kindsOf 75 = .ok (.iload 6, 2) := by decide +kernel
theorem dX11_kindsOf_77 : decode cX11_kindsOf 77 = .ok (.iconst 3, 1) := by decide +kernel
theorem dX11_kindsOf_78 : decode cX11_kindsOf 78 = .ok (.iadd, 1) := by decide +kernel
theorem dX11_kindsOf_79 : decode cX11_kindsOf 79 = .ok (.iaload, 1) := by decide +kernel
theorem dX11_kindsOf_80 : decode cX11_kindsOf 80 = .ok (.invokestatic 103, 3) := by decide +kernel
theorem dX11_kindsOf_83 : decode cX11_kindsOf 83 = .ok (.aload_n 0, 1) := by decide +kernel
theorem dX11_kindsOf_84 : decode cX11_kindsOf 84 = .ok (.getfield 7, 3) := by decide +kernel
theorem dX11_kindsOf_87 : decode cX11_kindsOf 87 = .ok (.iload 6, 2) := by decide +kernel
theorem dX11_kindsOf_89 : decode cX11_kindsOf 89 = .ok (.iconst 4, 1) := by decide +kernel
theorem dX11_kindsOf_90 : decode cX11_kindsOf 90 = .ok (.iadd, 1) := by decide +kernel
theorem dX11_kindsOf_91 : decode cX11_kindsOf 91 = .ok (.iaload, 1) := by decide +kernel
theorem dX11_kindsOf_92 : decode cX11_kindsOf 92 = .ok (.if_icmp .ne 7, 3) := by decide +kernel
theorem dX11_kindsOf_95 : decode cX11_kindsOf 95 = .ok (.iconst 1, 1) := by decide +kernel
theorem dX11_kindsOf_96 : decode cX11_kindsOf 96 = .ok (.goto 4, 3) := by decide +kernel
theorem dX11_kindsOf_99 : decode cX11_kindsOf 99 = .ok (.iconst 0, 1) := by decide +kernel
theorem dX11_kindsOf_100 : decode cX11_kindsOf 100 = .ok (.istore 4, 2) := by decide +kernel
theorem dX11_kindsOf_102 : decode cX11_kindsOf 102 = .ok (.iinc 5 1, 3) := by decide +kernel
theorem dX11_kindsOf_105 : decode cX11_kindsOf 105 = .ok (.goto (-89), 3) := by decide +kernel
theorem dX11_kindsOf_108 : decode cX11_kindsOf 108 = .ok (.iload_n 2, 1) := by decide +kernel
theorem dX11_kindsOf_109 : decode cX11_kindsOf 109 = .ok (.iload 4, 2) := by decide +kernel
theorem dX11_kindsOf_111 : decode cX11_kindsOf 111 = .ok (.ifCond .eq 9, 3) := by decide +kernel
theorem dX11_kindsOf_114 : decode cX11_kindsOf 114 = .ok (.iconst 1, 1) := by decide +kernel
theorem dX11_kindsOf_115 : decode cX11_kindsOf 115 = .ok (.iload_n 3, 1) := by decide +kernel
theorem dX11_kindsOf_116 : decode cX11_kindsOf 116 = .ok (.ishl, 1) := by decide +kernel
theorem dX11_kindsOf_117 : decode cX11_kindsOf 117 = .ok (.goto 4, 3) := by decide +kernel
theorem dX11_kindsOf_120 : decode cX11_kindsOf 120 = .ok (.iconst 0, 1) := by decide +kernel
theorem dX11_kindsOf_121 : decode cX11_kindsOf 121 = .ok (.ior, 1) := by decide +kernel
theorem dX11_kindsOf_122 : decode cX11_kindsOf 122 = .ok (.istore_n 2, 1) := by decide +kernel
theorem dX11_kindsOf_123 : decode cX11_kindsOf 123 = .ok (.iinc 3 1, 3) := by decide +kernel
theorem dX11_kindsOf_126 : decode cX11_kindsOf 126 = .ok (.goto (-122), 3) := by decide +kernel
theorem dX11_kindsOf_129 : decode cX11_kindsOf 129 = .ok (.iload_n 2, 1) := by decide +kernel
theorem dX11_kindsOf_130 : decode cX11_kindsOf 130 = .ok (.ireturn, 1) := by decide +kernel
theorem dX11_is_0 : decode cX11_is 0 = .ok (.iload_n 1, 1) := by decide +kernel
theorem dX11_is_1 : decode cX11_is 1 = .ok (.invokestatic 70, 3) := by decide +kernel
theorem dX11_is_4 : decode cX11_is 4 = .ok (.ifCond .eq 11, 3) := by decide +kernel
theorem dX11_is_7 : decode cX11_is 7 = .ok (.aload_n 0, 1) := by decide +kernel
theorem dX11_is_8 : decode cX11_is 8 = .ok (.iload_n 1, 1) := by decide +kernel
theorem dX11_is_9 : decode cX11_is 9 = .ok (.invokevirtual 199, 3) := by decide +kernel
theorem dX11_is_12 : decode cX11_is 12 = .ok (.goto 9, 3) := by decide +kernel
theorem dX11_is_15 : decode cX11_is 15 = .ok (.aload_n 0, 1) := by decide +kernel
theorem dX11_is_16 : decode cX11_is 16 = .ok (.bipush (-2), 2) := by decide +kernel
theorem dX11_is_18 : decode cX11_is 18 = .ok (.invokevirtual 66, 3) := by decide +kernel
theorem dX11_is_21 : decode cX11_is 21 = .ok (.ireturn, 1) := by decide +kernel
theorem dX11_next_0 : decode cX11_next 0 = .ok (.iload_n 1, 1) := by decide +kernel
theorem dX11_next_1 : decode cX11_next 1 = .ok (.invokestatic 70, 3) := by decide +kernel
theorem dX11_next_4 : decode cX11_next 4 = .ok (.ifCond .ne 10, 3) := by decide +kernel
theorem dX11_next_7 : decode cX11_next 7 = .ok (.aload_n 0, 1) := by decide +kernel
theorem dX11_next_8 : decode cX11_next 8 = .ok (.bipush (-2), 2) := by decide +kernel
theorem dX11_next_10 : decode cX11_next 10 = .ok (.invokevirtual 66, 3) := by decide +kernel
theorem dX11_next_13 : decode cX11_next 13 = .ok (.ireturn, 1) := by decide +kernel
theorem dX11_next_14 : decode cX11_next 14 = .ok (.aload_n 0, 1) := by decide +kernel
theorem dX11_next_15 : decode cX11_next 15 = .ok (.iload_n 1, 1) := by decide +kernel
theorem dX11_next_16 : decode cX11_next 16 = .ok (.invokevirtual 199, 3) := by decide +kernel
theorem dX11_next_19 : decode cX11_next 19 = .ok (.istore_n 2, 1) := by decide +kernel
theorem dX11_next_20 : decode cX11_next 20 = .ok (.iconst (-1), 1) := by decide +kernel
theorem dX11_next_21 : decode cX11_next 21 = .ok (.istore_n 3, 1) := by decide +kernel
theorem dX11_next_22 : decode cX11_next 22 = .ok (.ldc 111, 2) := by decide +kernel
theorem dX11_next_24 : decode cX11_next 24 = .ok (.istore 4, 2) := by decide +kernel
theorem dX11_next_26 : decode cX11_next 26 = .ok (.iconst 0, 1) := by decide +kernel
theorem dX11_next_27 : decode cX11_next 27 = .ok (.istore 5, 2) := by decide +kernel
theorem dX11_next_29 : decode cX11_next 29 = .ok (.iload 5, 2) := by decide +kernel
theorem dX11_next_31 : decode cX11_next 31 = .ok (.bipush 100, 2) := by decide +kernel
theorem dX11_next_33 : decode cX11_next 33 = .ok (.if_icmp .ge 178, 3) := by decide +kernel
theorem dX11_next_36 : decode cX11_next 36 = .ok (.iload_n 2, 1) := by decide +kernel
theorem dX11_next_37 : decode cX11_next 37 = .ok (.ifCond .le 174, 3) := by decide +kernel
theorem dX11_next_40 : decode cX11_next 40 = .ok (.iconst 0, 1) := by decide +kernel
theorem dX11_next_41 : decode cX11_next 41 = .ok (.istore 6, 2) := by decide +kernel
theorem dX11_next_43 : decode cX11_next 43 = .ok (.iconst 0, 1) := by decide +kernel
theorem dX11_next_44 : decode cX11_next 44 = .ok (.istore 7, 2) := by decide +kernel
theorem dX11_next_46 : decode cX11_next 46 = .ok (.iload 7, 2) := by decide +kernel
theorem dX11_next_48 : decode cX11_next 48 = .ok (.bipush 6, 2) := by decide +kernel
theorem dX11_next_50 : decode cX11_next 50 = .ok (.if_icmp .ge 125, 3) := by decide +kernel
theorem dX11_next_53 : decode cX11_next 53 = .ok (.iconst 0, 1) := by decide +kernel
theorem dX11_next_54 : decode cX11_next 54 = .ok (.istore 8, 2) := by decide +kernel
theorem dX11_next_56 : decode cX11_next 56 = .ok (.iload 7, 2) := by decide +kernel
theorem dX11_next_58 : decode cX11_next 58 = .ok (.aload_n 0, 1) := by decide +kernel
theorem dX11_next_59 : decode cX11_next 59 = .ok (.getfield 7, 3) := by decide +kernel
theorem dX11_next_62 : decode cX11_next 62 = .ok (.iconst 4, 1) := by decide +kernel
theorem dX11_next_63 : decode cX11_next 63 = .ok (.iload_n 1, 1) := by decide +kernel
theorem dX11_next_64 : decode cX11_next 64 = .ok (.iadd, 1) := by decide +kernel
theorem dX11_next_65 : decode cX11_next 65 = .ok (.iaload, 1) := by decide +kernel
theorem dX11_next_66 : decode cX11_next 66 = .ok (.iload 5, 2) := by decide +kernel
theorem dX11_next_68 : decode cX11_next 68 = .ok (.bipush 10, 2) := by decide +kernel
theorem dX11_next_70 : decode cX11_next 70 = .ok (.idiv, 1) := by decide +kernel
theorem dX11_next_71 : decode cX11_next 71 = .ok (.iload 5, 2) := by decide +kernel
theorem dX11_next_73 : decode cX11_next 73 = .ok (.bipush 10, 2) := by decide +kernel
theorem dX11_next_75 : decode cX11_next 75 = .ok (.irem, 1) := by decide +kernel
theorem dX11_next_76 : decode cX11_next 76 = .ok (.invokestatic 103, 3) := by decide +kernel
theorem dX11_next_79 : decode cX11_next 79 = .ok (.istore 9, 2) := by decide +kernel
theorem dX11_next_81 : decode cX11_next 81 = .ok (.iconst 0, 1) := by decide +kernel
theorem dX11_next_82 : decode cX11_next 82 = .ok (.istore 10, 2) := by decide +kernel
theorem dX11_next_84 : decode cX11_next 84 = .ok (.iload 10, 2) := by decide +kernel
theorem dX11_next_86 : decode cX11_next 86 = .ok (.bipush 6, 2) := by decide +kernel
theorem dX11_next_88 : decode cX11_next 88 = .ok (.if_icmp .ge 65, 3) := by decide +kernel
theorem dX11_next_91 : decode cX11_next 91 = .ok (.iload_n 2, 1) := by decide +kernel
theorem dX11_next_92 : decode cX11_next 92 = .ok (.iload 7, 2) := by decide +kernel
theorem dX11_next_94 : decode cX11_next 94 = .ok (.invokestatic 161, 3) := by decide +kernel
theorem dX11_next_97 : decode cX11_next 97 = .ok (.ifCond .eq 56, 3) := by decide +kernel
theorem dX11_next_100 : decode cX11_next 100 = .ok (.iload 8, 2) := by decide +kernel
theorem dX11_next_102 : decode cX11_next 102 = .ok (.iload_n 2, 1) := by decide +kernel
theorem dX11_next_103 : decode cX11_next 103 = .ok (.iload 10, 2) := by decide +kernel
theorem dX11_next_105 : decode cX11_next 105 = .ok (.invokestatic 161, 3) := by decide +kernel
theorem dX11_next_108 : decode cX11_next 108 = .ok (.ifCond .eq 35, 3) := by decide +kernel
theorem dX11_next_111 : decode cX11_next 111 = .ok (.iload 10, 2) := by decide +kernel
theorem dX11_next_113 : decode cX11_next 113 = .ok (.aload_n 0, 1) := by decide +kernel
theorem dX11_next_114 : decode cX11_next 114 = .ok (.getfield 7, 3) := by decide +kernel
theorem dX11_next_117 : decode cX11_next 117 = .ok (.iconst 4, 1) := by decide +kernel
theorem dX11_next_118 : decode cX11_next 118 = .ok (.iload_n 1, 1) := by decide +kernel
theorem dX11_next_119 : decode cX11_next 119 = .ok (.iadd, 1) := by decide +kernel
theorem dX11_next_120 : decode cX11_next 120 = .ok (.iaload, 1) := by decide +kernel
theorem dX11_next_121 : decode cX11_next 121 = .ok (.iload 5, 2) := by decide +kernel
theorem dX11_next_123 : decode cX11_next 123 = .ok (.bipush 10, 2) := by decide +kernel
theorem dX11_next_125 : decode cX11_next 125 = .ok (.idiv, 1) := by decide +kernel
theorem dX11_next_126 : decode cX11_next 126 = .ok (.iload 5, 2) := by decide +kernel
theorem dX11_next_128 : decode cX11_next 128 = .ok (.bipush 10, 2) := by decide +kernel
theorem dX11_next_130 : decode cX11_next 130 = .ok (.irem, 1) := by decide +kernel
theorem dX11_next_131 : decode cX11_next 131 = .ok (.invokestatic 103, 3) := by decide +kernel
theorem dX11_next_134 : decode cX11_next 134 = .ok (.iload 9, 2) := by decide +kernel
theorem dX11_next_136 : decode cX11_next 136 = .ok (.if_icmp .ne 7, 3) := by decide +kernel
theorem dX11_next_139 : decode cX11_next 139 = .ok (.iconst 1, 1) := by decide +kernel
theorem dX11_next_140 : decode cX11_next 140 = .ok (.goto 4, 3) := by decide +kernel
theorem dX11_next_143 : decode cX11_next 143 = .ok (.iconst 0, 1) := by decide +kernel
theorem dX11_next_144 : decode cX11_next 144 = .ok (.iadd, 1) := by decide +kernel
theorem dX11_next_145 : decode cX11_next 145 = .ok (.istore 8, 2) := by decide +kernel
theorem dX11_next_147 : decode cX11_next 147 = .ok (.iinc 10 1, 3) := by decide +kernel
theorem dX11_next_150 : decode cX11_next 150 = .ok (.goto (-66), 3) := by decide +kernel
theorem dX11_next_153 : decode cX11_next 153 = .ok (.iload 8, 2) := by decide +kernel
theorem dX11_next_155 : decode cX11_next 155 = .ok (.iload 6, 2) := by decide +kernel
theorem dX11_next_157 : decode cX11_next 157 = .ok (.if_icmp .le 8, 3) := by decide +kernel
theorem dX11_next_160 : decode cX11_next 160 = .ok (.iload 8, 2) := by decide +kernel
theorem dX11_next_162 : decode cX11_next 162 = .ok (.goto 5, 3) := by decide +kernel
theorem dX11_next_165 : decode cX11_next 165 = .ok (.iload 6, 2) := by decide +kernel
theorem dX11_next_167 : decode cX11_next 167 = .ok (.istore 6, 2) := by decide +kernel
theorem dX11_next_169 : decode cX11_next 169 = .ok (.iinc 7 1, 3) := by decide +kernel
theorem dX11_next_172 : decode cX11_next 172 = .ok (.goto (-126), 3) := by decide +kernel
theorem dX11_next_175 : decode cX11_next 175 = .ok (.iload 6, 2) := by decide +kernel
theorem dX11_next_177 : decode cX11_next 177 = .ok (.iload 4, 2) := by decide +kernel
theorem dX11_next_179 : decode cX11_next 179 = .ok (.if_icmp .ge 8, 3) := by decide +kernel
theorem dX11_next_182 : decode cX11_next 182 = .ok (.iload 5, 2) := by decide +kernel
theorem dX11_next_184 : decode cX11_next 184 = .ok (.goto 4, 3) := by decide +kernel
theorem dX11_next_187 : decode cX11_next 187 = .ok (.iload_n 3, 1) := by decide +kernel
theorem dX11_next_188 : decode cX11_next 188 = .ok (.istore_n 3, 1) := by decide +kernel
theorem dX11_next_189 : decode cX11_next 189 = .ok (.iload 6, 2) := by decide +kernel
theorem dX11_next_191 : decode cX11_next 191 = .ok (.iload 4, 2) := by decide +kernel
theorem dX11_next_193 : decode cX11_next 193 = .ok (.if_icmp .ge 8, 3) := by decide +kernel
theorem dX11_next_196 : decode cX11_next 196 = .ok (.iload 6, 2) := by decide +kernel
theorem dX11_next_198 : decode cX11_next 198 = .ok (.goto 5, 3) := by decide +kernel
theorem dX11_next_201 : decode cX11_next 201 = .ok (.iload 4, 2) := by decide +kernel
theorem dX11_next_203 : decode cX11_next 203 = .ok (.istore 4, 2) := by decide +kernel
theorem dX11_next_205 : decode cX11_next 205 = .ok (.iinc 5 1, 3) := by decide +kernel
theorem dX11_next_208 : decode cX11_next 208 = .ok (.goto (-179), 3) := by decide +kernel
theorem dX11_next_211 : decode cX11_next 211 = .ok (.iload_n 3, 1) := by decide +kernel
theorem dX11_next_212 : decode cX11_next 212 = .ok (.ireturn, 1) := by decide +kernel
theorem dX11_who_0 : decode cX11_who 0 = .ok (.aload_n 0, 1) := by decide +kernel
theorem dX11_who_1 : decode cX11_who 1 = .ok (.iload_n 1, 1) := by decide +kernel
theorem dX11_who_2 : decode cX11_who 2 = .ok (.invokevirtual 146, 3) := by decide +kernel
theorem dX11_who_5 : decode cX11_who 5 = .ok (.ifCond .ne 10, 3) := by decide +kernel
theorem dX11_who_8 : decode cX11_who 8 = .ok (.aload_n 0, 1) := by decide +kernel
theorem dX11_who_9 : decode cX11_who 9 = .ok (.bipush (-2), 2) := by decide +kernel
theorem dX11_who_11 : decode cX11_who 11 = .ok (.invokevirtual 66, 3) := by decide +kernel
theorem dX11_who_14 : decode cX11_who 14 = .ok (.ireturn, 1) := by decide +kernel
theorem dX11_who_15 : decode cX11_who 15 = .ok (.iconst 0, 1) := by decide +kernel
theorem dX11_who_16 : decode cX11_who 16 = .ok (.istore_n 2, 1) := by decide +kernel
theorem dX11_who_17 : decode cX11_who 17 = .ok (.iconst 0, 1) := by decide +kernel
theorem dX11_who_18 : decode cX11_who 18 = .ok (.istore_n 3, 1) := by decide +kernel
theorem dX11_who_19 : decode cX11_who 19 = .ok (.iload_n 3, 1) := by decide +kernel
theorem dX11_who_20 : decode cX11_who 20 = .ok (.bipush 6, 2) := by decide +kernel
theorem dX11_who_22 : decode cX11_who 22 = .ok (.if_icmp .ge 144, 3) := by decide +kernel
theorem dX11_who_25 : decode cX11_who 25 = .ok (.iconst 1, 1) := by decide +kernel
theorem dX11_who_26 : decode cX11_who 26 = .ok (.istore 4, 2) := by decide +kernel
theorem dX11_who_28 : decode cX11_who 28 = .ok (.iconst 0, 1) := by decide +kernel
theorem dX11_who_29 : decode cX11_who 29 = .ok (.istore 5, 2) := by decide +kernel
theorem dX11_who_31 : decode cX11_who 31 = .ok (.iload 5, 2) := by decide +kernel
theorem dX11_who_33 : decode cX11_who 33 = .ok (.aload_n 0, 1) := by decide +kernel
theorem dX11_who_34 : decode cX11_who 34 = .ok (.getfield 7, 3) := by decide +kernel
theorem dX11_who_37 : decode cX11_who 37 = .ok (.iconst 2, 1) := by decide +kernel
theorem dX11_who_38 : decode cX11_who 38 = .ok (.iaload, 1) := by decide +kernel
theorem dX11_who_39 : decode cX11_who 39 = .ok (.if_icmp .ge 106, 3) := by decide +kernel
theorem dX11_who_42 : decode cX11_who 42 = .ok (.bipush 124, 2) := by decide +kernel
theorem dX11_who_44 : decode cX11_who 44 = .ok (.iconst 5, 1) := by decide +kernel
theorem dX11_who_45 : decode cX11_who 45 = .ok (.iload 5, 2) := by decide +kernel
theorem dX11_who_47 : decode cX11_who 47 = .ok (.imul, 1) := by decide +kernel
theorem dX11_who_48 : decode cX11_who 48 = .ok (.iadd, 1) := by decide +kernel
theorem dX11_who_49 : decode cX11_who 49 = .ok (.istore 6, 2) := by decide +kernel
theorem dX11_who_51 : decode cX11_who 51 = .ok (.iload_n 3, 1) := by decide +kernel
theorem dX11_who_52 : decode cX11_who 52 = .ok (.aload_n 0, 1) := by decide +kernel
theorem dX11_who_53 : decode cX11_who 53 = .ok (.getfield 7, 3) := by decide +kernel
theorem dX11_who_56 : decode cX11_who 56 = .ok (.bipush 80, 2) := by decide +kernel
theorem dX11_who_58 : decode cX11_who 58 = .ok (.iload_n 1, 1) := by decide +kernel
theorem dX11_who_59 : decode cX11_who 59 = .ok (.iadd, 1) := by decide +kernel
theorem dX11_who_60 : decode cX11_who 60 = .ok (.iaload, 1) := by decide +kernel
theorem dX11_who_61 : decode cX11_who 61 = .ok (.aload_n 0, 1) := by decide +kernel
theorem dX11_who_62 : decode cX11_who 62 = .ok (.getfield 7, 3) := by decide +kernel
theorem dX11_who_65 : decode cX11_who 65 = .ok (.iload 6, 2) := by decide +kernel
theorem dX11_who_67 : decode cX11_who 67 = .ok (.iconst 2, 1) := by decide +kernel
theorem dX11_who_68 : decode cX11_who 68 = .ok (.iadd, 1) := by decide +kernel
theorem dX11_who_69 : decode cX11_who 69 = .ok (.iaload, 1) := by decide +kernel
theorem dX11_who_70 : decode cX11_who 70 = .ok (.aload_n 0, 1) := by decide +kernel
theorem dX11_who_71 : decode cX11_who 71 = .ok (.getfield 7, 3) := by decide +kernel
theorem dX11_who_74 : decode cX11_who 74 = .ok (.iload 6, 2) := by decide +kernel
theorem dX11_who_76 : decode cX11_who 76 = .ok (.iconst 3, 1) := by decide +kernel
theorem dX11_who_77 : decode cX11_who 77 = .ok (.iadd, 1) := by decide +kernel
theorem dX11_who_78 : decode cX11_who 78 = .ok (.iaload, 1) := by decide +kernel
theorem dX11_who_79 : decode cX11_who 79 = .ok (.aload_n 0, 1) := by decide +kernel
theorem dX11_who_80 : decode cX11_who 80 = .ok (.getfield 7, 3) := by decide +kernel
theorem dX11_who_83 : decode cX11_who 83 = .ok (.iload 6, 2) := by decide +kernel
theorem dX11_who_85 : decode cX11_who 85 = .ok (.iconst 4, 1) := by decide +kernel
theorem dX11_who_86 : decode cX11_who 86 = .ok (.iadd, 1) := by decide +kernel
theorem dX11_who_87 : decode cX11_who 87 = .ok (.iaload, 1) := by decide +kernel
theorem dX11_who_88 : decode cX11_who 88 = .ok (.invokestatic 142, 3) := by decide +kernel
theorem dX11_who_91 : decode cX11_who 91 = .ok (.istore 7, 2) := by decide +kernel
theorem dX11_who_93 : decode cX11_who 93 = .ok (.iload 4, 2) := by decide +kernel
theorem dX11_who_95 : decode cX11_who 95 = .ok (.ifCond .eq 41, 3) := by decide +kernel
theorem dX11_who_98 : decode cX11_who 98 = .ok (.aload_n 0, 1) := by decide +kernel
theorem dX11_who_99 : decode cX11_who 99 = .ok (.getfield 7, 3) := by decide +kernel
theorem dX11_who_102 : decode cX11_who 102 = .ok (.iload 6, 2) := by decide +kernel
theorem dX11_who_104 : decode cX11_who 104 = .ok (.iaload, 1) := by decide +kernel
theorem dX11_who_105 : decode cX11_who 105 = .ok (.iload_n 1, 1) := by decide +kernel
theorem dX11_who_106 : decode cX11_who 106 = .ok (.if_icmp .ne 26, 3) := by decide +kernel
theorem dX11_who_109 : decode cX11_who 109 = .ok (.iload 7, 2) := by decide +kernel
theorem dX11_who_111 : decode cX11_who 111 = .ok (.aload_n 0, 1) := by decide +kernel
theorem dX11_who_112 : decode cX11_who 112 = .ok (.getfield 7, 3) := by decide +kernel
theorem dX11_who_115 : decode cX11_who 115 = .ok (.iload 6, 2) := by decide +kernel
theorem dX11_who_117 : decode cX11_who 117 = .ok (.iconst 1, 1) := by decide +kernel
theorem dX11_who_118 : decode cX11_who 118 = .ok (.iadd, 1) := by decide +kernel
theorem dX11_who_119 : decode cX11_who 119 = .ok (.iaload, 1) := by decide +kernel
theorem dX11_who_120 : decode cX11_who 120 = .ok (.iconst 1, 1) := by decide +kernel
theorem dX11_who_121 : decode cX11_who 121 = .ok (.if_icmp .ne 7, 3) := by decide +kernel
theorem dX11_who_124 : decode cX11_who 124 = .ok (.iconst 1, 1) := by decide +kernel
theorem dX11_who_125 : decode cX11_who 125 = .ok (.goto 4, 3) := by decide +kernel
theorem dX11_who_128 : decode cX11_who 128 = .ok (.iconst 0, 1) := by decide +kernel
theorem dX11_who_129 : decode cX11_who 129 = .ok (.if_icmp .ne 7, 3) := by decide +kernel
theorem dX11_who_132 : decode cX11_who 132 = .ok (.iconst 1, 1) := by decide +kernel
theorem dX11_who_133 : decode cX11_who 133 = .ok (.goto 4, 3) := by decide +kernel
theorem dX11_who_136 : decode cX11_who 136 = .ok (.iconst 0, 1) := by decide +kernel
theorem dX11_who_137 : decode cX11_who 137 = .ok (.istore 4, 2) := by decide +kernel
theorem dX11_who_139 : decode cX11_who 139 = .ok (.iinc 5 1, 3) := by decide +kernel
theorem dX11_who_142 : decode cX11_who 142 = .ok (.goto (-111), 3) := by decide +kernel
theorem dX11_who_145 : decode cX11_who 145 = .ok (.iload_n 2, 1) := by decide +kernel
theorem dX11_who_146 : decode cX11_who 146 = .ok (.iload 4, 2) := by decide +kernel
theorem dX11_who_148 : decode cX11_who 148 = .ok (.ifCond .eq 9, 3) := by decide +kernel
theorem dX11_who_151 : decode cX11_who 151 = .ok (.iconst 1, 1) := by decide +kernel
theorem dX11_who_152 : decode cX11_who 152 = .ok (.iload_n 3, 1) := by decide +kernel
theorem dX11_who_153 : decode cX11_who 153 = .ok (.ishl, 1) := by decide +kernel
theorem dX11_who_154 : decode cX11_who 154 = .ok (.goto 4, 3) := by decide +kernel
theorem dX11_who_157 : decode cX11_who 157 = .ok (.iconst 0, 1) := by decide +kernel
theorem dX11_who_158 : decode cX11_who 158 = .ok (.ior, 1) := by decide +kernel
theorem dX11_who_159 : decode cX11_who 159 = .ok (.istore_n 2, 1) := by decide +kernel
theorem dX11_who_160 : decode cX11_who 160 = .ok (.iinc 3 1, 3) := by decide +kernel
theorem dX11_who_163 : decode cX11_who 163 = .ok (.goto (-144), 3) := by decide +kernel
theorem dX11_who_166 : decode cX11_who 166 = .ok (.iload_n 2, 1) := by decide +kernel
theorem dX11_who_167 : decode cX11_who 167 = .ok (.ireturn, 1) := by decide +kernel
theorem dX11_hasBy_0 : decode cX11_hasBy 0 = .ok (.aload_n 0, 1) := by decide +kernel
theorem dX11_hasBy_1 : decode cX11_hasBy 1 = .ok (.iload_n 2, 1) := by decide +kernel
theorem dX11_hasBy_2 : decode cX11_hasBy 2 = .ok (.invokevirtual 187, 3) := by decide +kernel
theorem dX11_hasBy_5 : decode cX11_hasBy 5 = .ok (.ifCond .ne 7, 3) := by decide +kernel
theorem dX11_hasBy_8 : decode cX11_hasBy 8 = .ok (.iconst 0, 1) := by decide +kernel
theorem dX11_hasBy_9 : decode cX11_hasBy 9 = .ok (.goto 29, 3) := by decide +kernel
theorem dX11_hasBy_12 : decode cX11_hasBy 12 = .ok (.aload_n 0, 1) := by decide +kernel
theorem dX11_hasBy_13 : decode cX11_hasBy 13 = .ok (.iload_n 1, 1) := by decide +kernel
theorem dX11_hasBy_14 : decode cX11_hasBy 14 = .ok (.invokevirtual 190, 3) := by decide +kernel
theorem dX11_hasBy_17 : decode cX11_hasBy 17 = .ok (.ifCond .eq 7, 3) := by decide +kernel
theorem dX11_hasBy_20 : decode cX11_hasBy 20 = .ok (.iconst 2, 1) := by decide +kernel
theorem dX11_hasBy_21 : decode cX11_hasBy 21 = .ok (.goto 17, 3) := by decide +kernel
theorem dX11_hasBy_24 : decode cX11_hasBy 24 = .ok (.iload_n 2, 1) := by decide +kernel
theorem dX11_hasBy_25 : decode cX11_hasBy 25 = .ok (.iload_n 1, 1) := by decide +kernel
theorem dX11_hasBy_26 : decode cX11_hasBy 26 = .ok (.invokestatic 161, 3) := by decide +kernel
theorem dX11_hasBy_29 : decode cX11_hasBy 29 = .ok (.ifCond .eq 8, 3) := by decide +kernel
theorem dX11_hasBy_32 : decode cX11_hasBy 32 = .ok (.bipush (-3), 2) := by decide +kernel
theorem dX11_hasBy_34 : decode cX11_hasBy 34 = .ok (.goto 4, 3) := by decide +kernel
theorem dX11_hasBy_37 : decode cX11_hasBy 37 = .ok (.iconst (-1), 1) := by decide +kernel
theorem dX11_hasBy_38 : decode cX11_hasBy 38 = .ok (.ireturn, 1) := by decide +kernel
theorem dX11_two_0 : decode cX11_two 0 = .ok (.aload_n 0, 1) := by decide +kernel
theorem dX11_two_1 : decode cX11_two 1 = .ok (.iload_n 1, 1) := by decide +kernel
theorem dX11_two_2 : decode cX11_two 2 = .ok (.invokevirtual 146, 3) := by decide +kernel
theorem dX11_two_5 : decode cX11_two 5 = .ok (.ifCond .eq 16, 3) := by decide +kernel
theorem dX11_two_8 : decode cX11_two 8 = .ok (.aload_n 0, 1) := by decide +kernel
theorem dX11_two_9 : decode cX11_two 9 = .ok (.iload_n 2, 1) := by decide +kernel
theorem dX11_two_10 : decode cX11_two 10 = .ok (.invokevirtual 146, 3) := by decide +kernel
theorem dX11_two_13 : decode cX11_two 13 = .ok (.ifCond .eq 8, 3) := by decide +kernel
theorem dX11_two_16 : decode cX11_two 16 = .ok (.iload_n 1, 1) := by decide +kernel
theorem dX11_two_17 : decode cX11_two 17 = .ok (.iload_n 2, 1) := by decide +kernel
theorem dX11_two_18 : decode cX11_two 18 = .ok (.if_icmp .ne 10, 3) := by decide +kernel
theorem dX11_two_21 : decode cX11_two 21 = .ok (.aload_n 0, 1) := by decide +kernel
theorem dX11_two_22 : decode cX11_two 22 = .ok (.bipush (-2), 2) := by decide +kernel
theorem dX11_two_24 : decode cX11_two 24 = .ok (.invokevirtual 66, 3) := by decide +kernel
theorem dX11_two_27 : decode cX11_two 27 = .ok (.ireturn, 1) := by decide +kernel
theorem dX11_two_28 : decode cX11_two 28 = .ok (.aload_n 0, 1) := by decide +kernel
theorem dX11_two_29 : decode cX11_two 29 = .ok (.invokevirtual 124, 3) := by decide +kernel
theorem dX11_two_32 : decode cX11_two 32 = .ok (.iconst 0, 1) := by decide +kernel
theorem dX11_two_33 : decode cX11_two 33 = .ok (.istore_n 3, 1) := by decide +kernel
theorem dX11_two_34 : decode cX11_two 34 = .ok (.aload_n 0, 1) := by decide +kernel
theorem dX11_two_35 : decode cX11_two 35 = .ok (.aload_n 0, 1) := by decide +kernel
theorem dX11_two_36 : decode cX11_two 36 = .ok (.invokevirtual 149, 3) := by decide +kernel
theorem dX11_two_39 : decode cX11_two 39 = .ok (.invokevirtual 193, 3) := by decide +kernel
theorem dX11_two_42 : decode cX11_two 42 = .ok (.iconst 1, 1) := by decide +kernel
theorem dX11_two_43 : decode cX11_two 43 = .ok (.iload_n 1, 1) := by decide +kernel
theorem dX11_two_44 : decode cX11_two 44 = .ok (.ishl, 1) := by decide +kernel
theorem dX11_two_45 : decode cX11_two 45 = .ok (.iconst (-1), 1) := by decide +kernel
theorem dX11_two_46 : decode cX11_two 46 = .ok (.ixor, 1) := by decide +kernel
theorem dX11_two_47 : decode cX11_two 47 = .ok (.iand, 1) := by decide +kernel
theorem dX11_two_48 : decode cX11_two 48 = .ok (.iconst 1, 1) := by decide +kernel
theorem dX11_two_49 : decode cX11_two 49 = .ok (.iload_n 2, 1) := by decide +kernel
theorem dX11_two_50 : decode cX11_two 50 = .ok (.ishl, 1) := by decide +kernel
theorem dX11_two_51 : decode cX11_two 51 = .ok (.iconst (-1), 1) := by decide +kernel
theorem dX11_two_52 : decode cX11_two 52 = .ok (.ixor, 1) := by decide +kernel
theorem dX11_two_53 : decode cX11_two 53 = .ok (.iand, 1) := by decide +kernel
theorem dX11_two_54 : decode cX11_two 54 = .ok (.istore 4, 2) := by decide +kernel
theorem dX11_two_56 : decode cX11_two 56 = .ok (.iconst 0, 1) := by decide +kernel
theorem dX11_two_57 : decode cX11_two 57 = .ok (.istore 5, 2) := by decide +kernel
theorem dX11_two_59 : decode cX11_two 59 = .ok (.iload 5, 2) := by decide +kernel
theorem dX11_two_61 : decode cX11_two 61 = .ok (.iconst 4, 1) := by decide +kernel
theorem dX11_two_62 : decode cX11_two 62 = .ok (.if_icmp .ge 92, 3) := by decide +kernel
theorem dX11_two_65 : decode cX11_two 65 = .ok (.iload 4, 2) := by decide +kernel
theorem dX11_two_67 : decode cX11_two 67 = .ok (.iload 5, 2) := by decide +kernel
theorem dX11_two_69 : decode cX11_two 69 = .ok (.iconst 1, 1) := by decide +kernel
theorem dX11_two_70 : decode cX11_two 70 = .ok (.iand, 1) := by decide +kernel
theorem dX11_two_71 : decode cX11_two 71 = .ok (.iload_n 1, 1) := by decide +kernel
theorem dX11_two_72 : decode cX11_two 72 = .ok (.ishl, 1) := by decide +kernel
theorem dX11_two_73 : decode cX11_two 73 = .ok (.ior, 1) := by decide +kernel
theorem dX11_two_74 : decode cX11_two 74 = .ok (.iload 5, 2) := by decide +kernel
theorem dX11_two_76 : decode cX11_two 76 = .ok (.iconst 2, 1) := by decide +kernel
theorem dX11_two_77 : decode cX11_two 77 = .ok (.idiv, 1) := by decide +kernel
theorem dX11_two_78 : decode cX11_two 78 = .ok (.iload_n 2, 1) := by decide +kernel
theorem dX11_two_79 : decode cX11_two 79 = .ok (.ishl, 1) := by decide +kernel
theorem dX11_two_80 : decode cX11_two 80 = .ok (.ior, 1) := by decide +kernel
theorem dX11_two_81 : decode cX11_two 81 = .ok (.istore 6, 2) := by decide +kernel
theorem dX11_two_83 : decode cX11_two 83 = .ok (.aload_n 0, 1) := by decide +kernel
theorem dX11_two_84 : decode cX11_two 84 = .ok (.iload_n 1, 1) := by decide +kernel
theorem dX11_two_85 : decode cX11_two 85 = .ok (.iload 6, 2) := by decide +kernel
theorem dX11_two_87 : decode cX11_two 87 = .ok (.invokevirtual 202, 3) := by decide +kernel
theorem dX11_two_90 : decode cX11_two 90 = .ok (.aload_n 0, 1) := by decide +kernel
theorem dX11_two_91 : decode cX11_two 91 = .ok (.iload_n 1, 1) := by decide +kernel
theorem dX11_two_92 : decode cX11_two 92 = .ok (.iload 6, 2) := by decide +kernel
theorem dX11_two_94 : decode cX11_two 94 = .ok (.iconst 1, 1) := by decide +kernel
theorem dX11_two_95 : decode cX11_two 95 = .ok (.iload_n 1, 1) := by decide +kernel
theorem dX11_two_96 : decode cX11_two 96 = .ok (.ishl, 1) := by decide +kernel
theorem dX11_two_97 : decode cX11_two 97 = .ok (.ixor, 1) := by decide +kernel
theorem dX11_two_98 : decode cX11_two 98 = .ok (.invokevirtual 202, 3) := by decide +kernel
theorem dX11_two_101 : decode cX11_two 101 = .ok (.if_icmp .lt 28, 3) := by decide +kernel
theorem dX11_two_104 : decode cX11_two 104 = .ok (.aload_n 0, 1) := by decide +kernel
theorem dX11_two_105 : decode cX11_two 105 = .ok (.iload_n 2, 1) := by decide +kernel
theorem dX11_two_106 : decode cX11_two 106 = .ok (.iload 6, 2) := by decide +kernel
theorem dX11_two_108 : decode cX11_two 108 = .ok (.invokevirtual 202, 3) := by decide +kernel
theorem dX11_two_111 : decode cX11_two 111 = .ok (.aload_n 0, 1) := by decide +kernel
theorem dX11_two_112 : decode cX11_two 112 = .ok (.iload_n 2, 1) := by decide +kernel
theorem dX11_two_113 : decode cX11_two 113 = .ok (.iload 6, 2) := by decide +kernel
theorem dX11_two_115 : decode cX11_two 115 = .ok (.iconst 1, 1) := by decide +kernel
theorem dX11_two_116 : decode cX11_two 116 = .ok (.iload_n 2, 1) := by decide +kernel
theorem dX11_two_117 : decode cX11_two 117 = .ok (.ishl, 1) := by decide +kernel
theorem dX11_two_118 : decode cX11_two 118 = .ok (.ixor, 1) := by decide +kernel
theorem dX11_two_119 : decode cX11_two 119 = .ok (.invokevirtual 202, 3) := by decide +kernel
theorem dX11_two_122 : decode cX11_two 122 = .ok (.if_icmp .lt 7, 3) := by decide +kernel
theorem dX11_two_125 : decode cX11_two 125 = .ok (.iconst 1, 1) := by decide +kernel
theorem dX11_two_126 : decode cX11_two 126 = .ok (.goto 4, 3) := by decide +kernel
theorem dX11_two_129 : decode cX11_two 129 = .ok (.iconst 0, 1) := by decide +kernel
theorem dX11_two_130 : decode cX11_two 130 = .ok (.istore 7, 2) := by decide +kernel
theorem dX11_two_132 : decode cX11_two 132 = .ok (.iload_n 3, 1) := by decide +kernel
theorem dX11_two_133 : decode cX11_two 133 = .ok (.iload 7, 2) := by decide +kernel
theorem dX11_two_135 : decode cX11_two 135 = .ok (.ifCond .eq 10, 3) := by decide +kernel
theorem dX11_two_138 : decode cX11_two 138 = .ok (.iconst 1, 1) := by decide +kernel
theorem dX11_two_139 : decode cX11_two 139 = .ok (.iload 5, 2) := by decide +kernel
theorem dX11_two_141 : decode cX11_two 141 = .ok (.ishl, 1) := by decide +kernel
theorem dX11_two_142 : decode cX11_two 142 = .ok (.goto 4, 3) := by decide +kernel
theorem dX11_two_145 : decode cX11_two 145 = .ok (.iconst 0, 1) := by decide +kernel
theorem dX11_two_146 : decode cX11_two 146 = .ok (.ior, 1) := by decide +kernel
theorem dX11_two_147 : decode cX11_two 147 = .ok (.istore_n 3, 1) := by decide +kernel
theorem dX11_two_148 : decode cX11_two 148 = .ok (.iinc 5 1, 3) := by decide +kernel
theorem dX11_two_151 : decode cX11_two 151 = .ok (.goto (-92), 3) := by decide +kernel
theorem dX11_two_154 : decode cX11_two 154 = .ok (.iload_n 3, 1) := by decide +kernel
theorem dX11_two_155 : decode cX11_two 155 = .ok (.ireturn, 1) := by decide +kernel
theorem dX11_fraction_0 : decode cX11_fraction 0 = .ok (.lload_n 1, 1) := by decide +kernel
theorem dX11_fraction_1 : decode cX11_fraction 1 = .ok (.lstore 5, 2) := by decide +kernel
theorem dX11_fraction_3 : decode cX11_fraction 3 = .ok (.lload_n 3, 1) := by decide +kernel
theorem dX11_fraction_4 : decode cX11_fraction 4 = .ok (.lstore 7, 2) := by decide +kernel
theorem dX11_fraction_6 : decode cX11_fraction 6 = .ok (.lload 7, 2) := by decide +kernel
theorem dX11_fraction_8 : decode cX11_fraction 8 = .ok (.lconst 0, 1) := by decide +kernel
theorem dX11_fraction_9 : decode cX11_fraction 9 = .ok (.lcmp, 1) := by decide +kernel
theorem dX11_fraction_10 : decode cX11_fraction 10 = .ok (.ifCond .eq 21, 3) := by decide +kernel
theorem dX11_fraction_13 : decode cX11_fraction 13 = .ok (.lload 5, 2) := by decide +kernel
theorem dX11_fraction_15 : decode cX11_fraction 15 = .ok (.lload 7, 2) := by decide +kernel
theorem dX11_fraction_17 : decode cX11_fraction 17 = .ok (.lrem, 1) := by decide +kernel
theorem dX11_fraction_18 : decode cX11_fraction 18 = .ok (.lstore 9, 2) := by decide +kernel
theorem dX11_fraction_20 : decode cX11_fraction 20 = .ok (.lload 7, 2) := by decide +kernel
theorem dX11_fraction_22 : decode cX11_fraction 22 = .ok (.lstore 5, 2) := by decide +kernel
theorem dX11_fraction_24 : decode cX11_fraction 24 = .ok (.lload 9, 2) := by decide +kernel
theorem dX11_fraction_26 : decode cX11_fraction 26 = .ok (.lstore 7, 2) := by decide +kernel
theorem dX11_fraction_28 : decode cX11_fraction 28 = .ok (.goto (-22), 3) := by decide +kernel
theorem dX11_fraction_31 : decode cX11_fraction 31 = .ok (.aload_n 0, 1) := by decide +kernel
theorem dX11_fraction_32 : decode cX11_fraction 32 = .ok (.lload_n 1, 1) := by decide +kernel
theorem dX11_fraction_33 : decode cX11_fraction 33 = .ok (.lload 5, 2) := by decide +kernel
theorem dX11_fraction_35 : decode cX11_fraction 35 = .ok (.ldiv, 1) := by decide +kernel
theorem dX11_fraction_36 : decode cX11_fraction 36 = .ok (.putfield 205, 3) := by decide +kernel
theorem dX11_fraction_39 : decode cX11_fraction 39 = .ok (.aload_n 0, 1) := by decide +kernel
theorem dX11_fraction_40 : decode cX11_fraction 40 = .ok (.lload_n 3, 1) := by decide +kernel
theorem dX11_fraction_41 : decode cX11_fraction 41 = .ok (.lload 5, 2) := by decide +kernel
theorem dX11_fraction_43 : decode cX11_fraction 43 = .ok (.ldiv, 1) := by decide +kernel
theorem dX11_fraction_44 : decode cX11_fraction 44 = .ok (.putfield 23, 3) := by decide +kernel
theorem dX11_fraction_47 : decode cX11_fraction 47 = .ok (.return_, 1) := by decide +kernel
theorem dX11_thaw_0 : decode cX11_thaw 0 = .ok (.iload_n 1, 1) := by decide +kernel
theorem dX11_thaw_1 : decode cX11_thaw 1 = .ok (.invokestatic 70, 3) := by decide +kernel
theorem dX11_thaw_4 : decode cX11_thaw 4 = .ok (.ifCond .eq 35, 3) := by decide +kernel
theorem dX11_thaw_7 : decode cX11_thaw 7 = .ok (.iload_n 2, 1) := by decide +kernel
theorem dX11_thaw_8 : decode cX11_thaw 8 = .ok (.invokestatic 155, 3) := by decide +kernel
theorem dX11_thaw_11 : decode cX11_thaw 11 = .ok (.ifCond .eq 28, 3) := by decide +kernel
theorem dX11_thaw_14 : decode cX11_thaw 14 = .ok (.iload_n 3, 1) := by decide +kernel
theorem dX11_thaw_15 : decode cX11_thaw 15 = .ok (.i2l, 1) := by decide +kernel
theorem dX11_thaw_16 : decode cX11_thaw 16 = .ok (.lconst 0, 1) := by decide +kernel
theorem dX11_thaw_17 : decode cX11_thaw 17 = .ok (.ldc2_w 208, 3) := by decide +kernel
theorem dX11_thaw_20 : decode cX11_thaw 20 = .ok (.invokestatic 50, 3) := by decide +kernel
theorem dX11_thaw_23 : decode cX11_thaw 23 = .ok (.ifCond .eq 16, 3) := by decide +kernel
theorem dX11_thaw_26 : decode cX11_thaw 26 = .ok (.iload 4, 2) := by decide +kernel
theorem dX11_thaw_28 : decode cX11_thaw 28 = .ok (.i2l, 1) := by decide +kernel
theorem dX11_thaw_29 : decode cX11_thaw 29 = .ok (.lconst 0, 1) := by decide +kernel
theorem dX11_thaw_30 : decode cX11_thaw 30 = .ok (.ldc2_w 210, 3) := by decide +kernel
theorem dX11_thaw_33 : decode cX11_thaw 33 = .ok (.invokestatic 50, 3) := by decide +kernel
theorem dX11_thaw_36 : decode cX11_thaw 36 = .ok (.ifCond .ne 10, 3) := by decide +kernel
theorem dX11_thaw_39 : decode cX11_thaw 39 = .ok (.aload_n 0, 1) := by decide +kernel
theorem dX11_thaw_40 : decode cX11_thaw 40 = .ok (.bipush (-2), 2) := by decide +kernel
theorem dX11_thaw_42 : decode cX11_thaw 42 = .ok (.invokevirtual 66, 3) := by decide +kernel
theorem dX11_thaw_45 : decode cX11_thaw 45 = .ok (.ireturn, 1) := by decide +kernel
theorem dX11_thaw_46 : decode cX11_thaw 46 = .ok (.lconst 0, 1) := by decide +kernel
theorem dX11_thaw_47 : decode cX11_thaw 47 = .ok (.lstore 5, 2) := by decide +kernel
theorem dX11_thaw_49 : decode cX11_thaw 49 = .ok (.lconst 1, 1) := by decide +kernel
theorem dX11_thaw_50 : decode cX11_thaw 50 = .ok (.lstore 7, 2) := by decide +kernel
theorem dX11_thaw_52 : decode cX11_thaw 52 = .ok (.iconst 0, 1) := by decide +kernel
theorem dX11_thaw_53 : decode cX11_thaw 53 = .ok (.istore 9, 2) := by decide +kernel
theorem dX11_thaw_55 : decode cX11_thaw 55 = .ok (.iload 9, 2) := by decide +kernel
theorem dX11_thaw_57 : decode cX11_thaw 57 = .ok (.iload_n 3, 1) := by decide +kernel
theorem dX11_thaw_58 : decode cX11_thaw 58 = .ok (.if_icmp .ge 17, 3) := by decide +kernel
theorem dX11_thaw_61 : decode cX11_thaw 61 = .ok (.lload 7, 2) := by decide +kernel
theorem dX11_thaw_63 : decode cX11_thaw 63 = .ok (.ldc2_w 210, 3) := by decide +kernel
theorem dX11_thaw_66 : decode cX11_thaw 66 = .ok (.lmul, 1) := by decide +kernel
theorem dX11_thaw_67 : decode cX11_thaw 67 = .ok (.lstore 7, 2) := by decide +kernel
theorem dX11_thaw_69 : decode cX11_thaw 69 = .ok (.iinc 9 1, 3) := by decide +kernel
theorem dX11_thaw_72 : decode cX11_thaw 72 = .ok (.goto (-17), 3) := by decide +kernel
theorem dX11_thaw_75 : decode cX11_thaw 75 = .ok (.iconst 0, 1) := by decide +kernel
theorem dX11_thaw_76 : decode cX11_thaw 76 = .ok (.istore 9, 2) := by decide +kernel
theorem dX11_thaw_78 : decode cX11_thaw 78 = .ok (.iload 9, 2) := by decide +kernel
theorem dX11_thaw_80 : decode cX11_thaw 80 = .ok (.iconst 1, 1) := by decide +kernel
theorem dX11_thaw_81 : decode cX11_thaw 81 = .ok (.iload_n 3, 1) := by decide +kernel
theorem dX11_thaw_82 : decode cX11_thaw 82 = .ok (.ishl, 1) := by decide +kernel
theorem dX11_thaw_83 : decode cX11_thaw 83 = .ok (.if_icmp .ge 150, 3) := by decide +kernel
theorem dX11_thaw_86 : decode cX11_thaw 86 = .ok (.lconst 1, 1) := by decide +kernel
theorem dX11_thaw_87 : decode cX11_thaw 87 = .ok (.lstore 10, 2) := by decide +kernel
theorem dX11_thaw_89 : decode cX11_thaw 89 = .ok (.aload_n 0, 1) := by decide +kernel
theorem dX11_thaw_90 : decode cX11_thaw 90 = .ok (.getfield 7, 3) := by decide +kernel
theorem dX11_thaw_93 : decode cX11_thaw 93 = .ok (.iconst 4, 1) := by decide +kernel
theorem dX11_thaw_94 : decode cX11_thaw 94 = .ok (.iload_n 1, 1) := by decide +kernel
theorem dX11_thaw_95 : decode cX11_thaw 95 = .ok (.iadd, 1) := by decide +kernel
theorem dX11_thaw_96 : decode cX11_thaw 96 = .ok (.iaload, 1) := by decide +kernel
theorem dX11_thaw_97 : decode cX11_thaw 97 = .ok (.istore 12, 2) := by decide +kernel
theorem dX11_thaw_99 : decode cX11_thaw 99 = .ok (.iconst 0, 1) := by decide +kernel
theorem dX11_thaw_100 : decode cX11_thaw 100 = .ok (.istore 13, 2) := by decide +kernel
theorem dX11_thaw_102 : decode cX11_thaw 102 = .ok (.iload 13, 2) := by decide +kernel
theorem dX11_thaw_104 : decode cX11_thaw 104 = .ok (.iload_n 3, 1) := by decide +kernel
theorem dX11_thaw_105 : decode cX11_thaw 105 = .ok (.if_icmp .ge 97, 3) := by decide +kernel
theorem dX11_thaw_108 : decode cX11_thaw 108 = .ok (.aload_n 0, 1) := by decide +kernel
theorem dX11_thaw_109 : decode cX11_thaw 109 = .ok (.getfield 7, 3) := by decide +kernel
theorem dX11_thaw_112 : decode cX11_thaw 112 = .ok (.bipush 29, 2) := by decide +kernel
theorem dX11_thaw_114 : decode cX11_thaw 114 = .ok (.iaload, 1) := by decide +kernel
theorem dX11_thaw_115 : decode cX11_thaw 115 = .ok (.iload 13, 2) := by decide +kernel
theorem dX11_thaw_117 : decode cX11_thaw 117 = .ok (.iadd, 1) := by decide +kernel
theorem dX11_thaw_118 : decode cX11_thaw 118 = .ok (.bipush 7, 2) := by decide +kernel
theorem dX11_thaw_120 : decode cX11_thaw 120 = .ok (.irem, 1) := by decide +kernel
theorem dX11_thaw_121 : decode cX11_thaw 121 = .ok (.istore 14, 2) := by decide +kernel
theorem dX11_thaw_123 : decode cX11_thaw 123 = .ok (.lload 10, 2) := by decide +kernel
theorem dX11_thaw_125 : decode cX11_thaw 125 = .ok (.iload 9, 2) := by decide +kernel
theorem dX11_thaw_127 : decode cX11_thaw 127 = .ok (.iload 13, 2) := by decide +kernel
theorem dX11_thaw_129 : decode cX11_thaw 129 = .ok (.invokestatic 161, 3) := by decide +kernel
theorem dX11_thaw_132 : decode cX11_thaw 132 = .ok (.ifCond .eq 9, 3) := by decide +kernel
theorem dX11_thaw_135 : decode cX11_thaw 135 = .ok (.iload 4, 2) := by decide +kernel
theorem dX11_thaw_137 : decode cX11_thaw 137 = .ok (.i2l, 1) := by decide +kernel
theorem dX11_thaw_138 : decode cX11_thaw 138 = .ok (.goto 9, 3) := by decide +kernel
theorem dX11_thaw_141 : decode cX11_thaw 141 = .ok (.bipush 10, 2) := by decide +kernel
theorem dX11_thaw_143 : decode cX11_thaw 143 = .ok (.iload 4, 2) := by decide +kernel
theorem dX11_thaw_145 : decode cX11_thaw 145 = .ok (.isub, 1) := by decide +kernel
theorem dX11_thaw_146 : decode cX11_thaw 146 = .ok (.i2l, 1) := by decide +kernel
theorem dX11_thaw_147 : decode cX11_thaw 147 = .ok (.lmul, 1) := by decide +kernel
theorem dX11_thaw_148 : decode cX11_thaw 148 = .ok (.lstore 10, 2) := by decide +kernel
theorem dX11_thaw_150 : decode cX11_thaw 150 = .ok (.aload_n 0, 1) := by decide +kernel
theorem dX11_thaw_151 : decode cX11_thaw 151 = .ok (.iload_n 1, 1) := by decide +kernel
theorem dX11_thaw_152 : decode cX11_thaw 152 = .ok (.invokevirtual 97, 3) := by decide +kernel
theorem dX11_thaw_155 : decode cX11_thaw 155 = .ok (.iload 12, 2) := by decide +kernel
theorem dX11_thaw_157 : decode cX11_thaw 157 = .ok (.iload 9, 2) := by decide +kernel
theorem dX11_thaw_159 : decode cX11_thaw 159 = .ok (.iload 13, 2) := by decide +kernel
theorem dX11_thaw_161 : decode cX11_thaw 161 = .ok (.invokestatic 161, 3) := by decide +kernel
theorem dX11_thaw_164 : decode cX11_thaw 164 = .ok (.ifCond .eq 7, 3) := by decide +kernel
theorem dX11_thaw_167 : decode cX11_thaw 167 = .ok (.iconst 0, 1) := by decide +kernel
theorem dX11_thaw_168 : decode cX11_thaw 168 = .ok (.goto 13, 3) := by decide +kernel
theorem dX11_thaw_171 : decode cX11_thaw 171 = .ok (.aload_n 0, 1) := by decide +kernel
theorem dX11_thaw_172 : decode cX11_thaw 172 = .ok (.getfield 7, 3) := by decide +kernel
theorem dX11_thaw_175 : decode cX11_thaw 175 = .ok (.bipush 55, 2) := by decide +kernel
theorem dX11_thaw_177 : decode cX11_thaw 177 = .ok (.iload 14, 2) := by decide +kernel
theorem dX11_thaw_179 : decode cX11_thaw 179 = .ok (.iadd, 1) := by decide +kernel
theorem dX11_thaw_180 : decode cX11_thaw 180 = .ok (.iaload, 1) := by decide +kernel
theorem dX11_thaw_181 : decode cX11_thaw 181 = .ok (.aload_n 0, 1) := by decide +kernel
theorem dX11_thaw_182 : decode cX11_thaw 182 = .ok (.getfield 7, 3) := by decide +kernel
theorem dX11_thaw_185 : decode cX11_thaw 185 = .ok (.bipush 62, 2) := by decide +kernel
theorem dX11_thaw_187 : decode cX11_thaw 187 = .ok (.iload 14, 2) := by decide +kernel
theorem dX11_thaw_189 : decode cX11_thaw 189 = .ok (.iadd, 1) := by decide +kernel
theorem dX11_thaw_190 : decode cX11_thaw 190 = .ok (.iaload, 1) := by decide +kernel
theorem dX11_thaw_191 : decode cX11_thaw 191 = .ok (.invokestatic 103, 3) := by decide +kernel
theorem dX11_thaw_194 : decode cX11_thaw 194 = .ok (.istore 12, 2) := by decide +kernel
theorem dX11_thaw_196 : decode cX11_thaw 196 = .ok (.iinc 13 1, 3) := by decide +kernel
theorem dX11_thaw_199 : decode cX11_thaw 199 = .ok (.goto (-97), 3) := by decide +kernel
theorem dX11_thaw_202 : decode cX11_thaw 202 = .ok (.lload 5, 2) := by decide +kernel
theorem dX11_thaw_204 : decode cX11_thaw 204 = .ok (.aload_n 0, 1) := by decide +kernel
theorem dX11_thaw_205 : decode cX11_thaw 205 = .ok (.iload_n 1, 1) := by decide +kernel
theorem dX11_thaw_206 : decode cX11_thaw 206 = .ok (.invokevirtual 97, 3) := by decide +kernel
theorem dX11_thaw_209 : decode cX11_thaw 209 = .ok (.iload 12, 2) := by decide +kernel
theorem dX11_thaw_211 : decode cX11_thaw 211 = .ok (.invokestatic 100, 3) := by decide +kernel
theorem dX11_thaw_214 : decode cX11_thaw 214 = .ok (.iload_n 2, 1) := by decide +kernel
theorem dX11_thaw_215 : decode cX11_thaw 215 = .ok (.if_icmp .lt 8, 3) := by decide +kernel
theorem dX11_thaw_218 : decode cX11_thaw 218 = .ok (.lload 10, 2) := by decide +kernel
theorem dX11_thaw_220 : decode cX11_thaw 220 = .ok (.goto 4, 3) := by decide +kernel
theorem dX11_thaw_223 : decode cX11_thaw 223 = .ok (.lconst 0, 1) := by decide +kernel
theorem dX11_thaw_224 : decode cX11_thaw 224 = .ok (.ladd, 1) := by decide +kernel
theorem dX11_thaw_225 : decode cX11_thaw 225 = .ok (.lstore 5, 2) := by decide +kernel
theorem dX11_thaw_227 : decode cX11_thaw 227 = .ok (.iinc 9 1, 3) := by decide +kernel
theorem dX11_thaw_230 : decode cX11_thaw 230 = .ok (.goto (-152), 3) := by decide +kernel
theorem dX11_thaw_233 : decode cX11_thaw 233 = .ok (.aload_n 0, 1) := by decide +kernel
theorem dX11_thaw_234 : decode cX11_thaw 234 = .ok (.lload 5, 2) := by decide +kernel
theorem dX11_thaw_236 : decode cX11_thaw 236 = .ok (.lload 7, 2) := by decide +kernel
theorem dX11_thaw_238 : decode cX11_thaw 238 = .ok (.invokevirtual 212, 3) := by decide +kernel
theorem dX11_thaw_241 : decode cX11_thaw 241 = .ok (.iconst 1, 1) := by decide +kernel
theorem dX11_thaw_242 : decode cX11_thaw 242 = .ok (.ireturn, 1) := by decide +kernel
theorem dX11_winters_0 : decode cX11_winters 0 = .ok (.iload_n 1, 1) := by decide +kernel
theorem dX11_winters_1 : decode cX11_winters 1 = .ok (.i2l, 1) := by decide +kernel
theorem dX11_winters_2 : decode cX11_winters 2 = .ok (.lconst 0, 1) := by decide +kernel
theorem dX11_winters_3 : decode cX11_winters 3 = .ok (.ldc2_w 216, 3) := by decide +kernel
theorem dX11_winters_6 : decode cX11_winters 6 = .ok (.invokestatic 50, 3) := by decide +kernel
theorem dX11_winters_9 : decode cX11_winters 9 = .ok (.ifCond .eq 15, 3) := by decide +kernel
theorem dX11_winters_12 : decode cX11_winters 12 = .ok (.iload_n 2, 1) := by decide +kernel
theorem dX11_winters_13 : decode cX11_winters 13 = .ok (.i2l, 1) := by decide +kernel
theorem dX11_winters_14 : decode cX11_winters 14 = .ok (.lconst 0, 1) := by decide +kernel
theorem dX11_winters_15 : decode cX11_winters 15 = .ok (.ldc2_w 119, 3) := by decide +kernel
theorem dX11_winters_18 : decode cX11_winters 18 = .ok (.invokestatic 50, 3) := by decide +kernel
theorem dX11_winters_21 : decode cX11_winters 21 = .ok (.ifCond .ne 10, 3) := by decide +kernel
theorem dX11_winters_24 : decode cX11_winters 24 = .ok (.aload_n 0, 1) := by decide +kernel
theorem dX11_winters_25 : decode cX11_winters 25 = .ok (.bipush (-2), 2) := by decide +kernel
theorem dX11_winters_27 : decode cX11_winters 27 = .ok (.invokevirtual 66, 3) := by decide +kernel
theorem dX11_winters_30 : decode cX11_winters 30 = .ok (.ireturn, 1) := by decide +kernel
theorem dX11_winters_31 : decode cX11_winters 31 = .ok (.iload_n 1, 1) := by decide +kernel
theorem dX11_winters_32 : decode cX11_winters 32 = .ok (.i2l, 1) := by decide +kernel
theorem dX11_winters_33 : decode cX11_winters 33 = .ok (.lstore_n 3, 1) := by decide +kernel
theorem dX11_winters_34 : decode cX11_winters 34 = .ok (.iconst 0, 1) := by decide +kernel
theorem dX11_winters_35 : decode cX11_winters 35 = .ok (.istore 5, 2) := by decide +kernel
theorem dX11_winters_37 : decode cX11_winters 37 = .ok (.aload_n 0, 1) := by decide +kernel
theorem dX11_winters_38 : decode cX11_winters 38 = .ok (.invokevirtual 124, 3) := by decide +kernel
theorem dX11_winters_41 : decode cX11_winters 41 = .ok (.iconst 0, 1) := by decide +kernel
theorem dX11_winters_42 : decode cX11_winters 42 = .ok (.istore 6, 2) := by decide +kernel
theorem dX11_winters_44 : decode cX11_winters 44 = .ok (.iload 6, 2) := by decide +kernel
theorem dX11_winters_46 : decode cX11_winters 46 = .ok (.iload_n 2, 1) := by decide +kernel
theorem dX11_winters_47 : decode cX11_winters 47 = .ok (.if_icmp .ge 69, 3) := by decide +kernel
theorem dX11_winters_50 : decode cX11_winters 50 = .ok (.lload_n 3, 1) := by decide +kernel
theorem dX11_winters_51 : decode cX11_winters 51 = .ok (.ldc2_w 218, 3) := by decide +kernel
theorem dX11_winters_54 : decode cX11_winters 54 = .ok (.lmul, 1) := by decide +kernel
theorem dX11_winters_55 : decode cX11_winters 55 = .ok (.ldc2_w 220, 3) := by decide +kernel
theorem dX11_winters_58 : decode cX11_winters 58 = .ok (.ladd, 1) := by decide +kernel
theorem dX11_winters_59 : decode cX11_winters 59 = .ok (.ldc2_w 222, 3) := by decide +kernel
theorem dX11_winters_62 : decode cX11_winters 62 = .ok (.lrem, 1) := by decide +kernel
theorem dX11_winters_63 : decode cX11_winters 63 = .ok (.lstore_n 3, 1) := by decide +kernel
theorem dX11_winters_64 : decode cX11_winters 64 = .ok (.lload_n 3, 1) := by decide +kernel
theorem dX11_winters_65 : decode cX11_winters 65 = .ok (.ldc2_w 224, 3) := by decide +kernel
theorem dX11_winters_68 : decode cX11_winters 68 = .ok (.ldiv, 1) := by decide +kernel
theorem dX11_winters_69 : decode cX11_winters 69 = .ok (.ldc2_w 210, 3) := by decide +kernel
theorem dX11_winters_72 : decode cX11_winters 72 = .ok (.lrem, 1) := by decide +kernel
theorem dX11_winters_73 : decode cX11_winters 73 = .ok (.l2i, 1) := by decide +kernel
theorem dX11_winters_74 : decode cX11_winters 74 = .ok (.istore 7, 2) := by decide +kernel
theorem dX11_winters_76 : decode cX11_winters 76 = .ok (.aload_n 0, 1) := by decide +kernel
theorem dX11_winters_77 : decode cX11_winters 77 = .ok (.iload 7, 2) := by decide +kernel
theorem dX11_winters_79 : decode cX11_winters 79 = .ok (.lload_n 3, 1) := by decide +kernel
theorem dX11_winters_80 : decode cX11_winters 80 = .ok (.ldc2_w 226, 3) := by decide +kernel
theorem dX11_winters_83 : decode cX11_winters 83 = .ok (.ldiv, 1) := by decide +kernel
theorem dX11_winters_84 : decode cX11_winters 84 = .ok (.ldc2_w 210, 3) := by decide +kernel
theorem dX11_winters_87 : decode cX11_winters 87 = .ok (.lrem, 1) := by decide +kernel
theorem dX11_winters_88 : decode cX11_winters 88 = .ok (.l2i, 1) := by decide +kernel
theorem dX11_winters_89 : decode cX11_winters 89 = .ok (.invokevirtual 107, 3) := by decide +kernel
theorem dX11_winters_92 : decode cX11_winters 92 = .ok (.iload 5, 2) := by decide +kernel
theorem dX11_winters_94 : decode cX11_winters 94 = .ok (.aload_n 0, 1) := by decide +kernel
theorem dX11_winters_95 : decode cX11_winters 95 = .ok (.aload_n 0, 1) := by decide +kernel
theorem dX11_winters_96 : decode cX11_winters 96 = .ok (.iload 7, 2) := by decide +kernel
theorem dX11_winters_98 : decode cX11_winters 98 = .ok (.invokevirtual 193, 3) := by decide +kernel
theorem dX11_winters_101 : decode cX11_winters 101 = .ok (.invokevirtual 196, 3) := by decide +kernel
theorem dX11_winters_104 : decode cX11_winters 104 = .ok (.invokestatic 181, 3) := by decide +kernel
theorem dX11_winters_107 : decode cX11_winters 107 = .ok (.iadd, 1) := by decide +kernel
theorem dX11_winters_108 : decode cX11_winters 108 = .ok (.istore 5, 2) := by decide +kernel
theorem dX11_winters_110 : decode cX11_winters 110 = .ok (.iinc 6 1, 3) := by decide +kernel
theorem dX11_winters_113 : decode cX11_winters 113 = .ok (.goto (-69), 3) := by decide +kernel
theorem dX11_winters_116 : decode cX11_winters 116 = .ok (.iload 5, 2) := by decide +kernel
theorem dX11_winters_118 : decode cX11_winters 118 = .ok (.ireturn, 1) := by decide +kernel
theorem dX11_type_0 : decode cX11_type 0 = .ok (.iload_n 1, 1) := by decide +kernel
theorem dX11_type_1 : decode cX11_type 1 = .ok (.i2l, 1) := by decide +kernel
theorem dX11_type_2 : decode cX11_type 2 = .ok (.lconst 0, 1) := by decide +kernel
theorem dX11_type_3 : decode cX11_type 3 = .ok (.ldc2_w 228, 3) := by decide +kernel
theorem dX11_type_6 : decode cX11_type 6 = .ok (.invokestatic 50, 3) := by decide +kernel
theorem dX11_type_9 : decode cX11_type 9 = .ok (.ifCond .ne 10, 3) := by decide +kernel
theorem dX11_type_12 : decode cX11_type 12 = .ok (.aload_n 0, 1) := by decide +kernel
theorem dX11_type_13 : decode cX11_type 13 = .ok (.bipush (-2), 2) := by decide +kernel
theorem dX11_type_15 : decode cX11_type 15 = .ok (.invokevirtual 66, 3) := by decide +kernel
theorem dX11_type_18 : decode cX11_type 18 = .ok (.ireturn, 1) := by decide +kernel
theorem dX11_type_19 : decode cX11_type 19 = .ok (.aload_n 0, 1) := by decide +kernel
theorem dX11_type_20 : decode cX11_type 20 = .ok (.getfield 230, 3) := by decide +kernel
theorem dX11_type_23 : decode cX11_type 23 = .ok (.sipush 150, 3) := by decide +kernel
theorem dX11_type_26 : decode cX11_type 26 = .ok (.if_icmp .ne 8, 3) := by decide +kernel
theorem dX11_type_29 : decode cX11_type 29 = .ok (.aload_n 0, 1) := by decide +kernel
theorem dX11_type_30 : decode cX11_type 30 = .ok (.invokevirtual 82, 3) := by decide +kernel
theorem dX11_type_33 : decode cX11_type 33 = .ok (.ireturn, 1) := by decide +kernel
theorem dX11_type_34 : decode cX11_type 34 = .ok (.aload_n 0, 1) := by decide +kernel
theorem dX11_type_35 : decode cX11_type 35 = .ok (.getfield 33, 3) := by decide +kernel
theorem dX11_type_38 : decode cX11_type 38 = .ok (.aload_n 0, 1) := by decide +kernel
theorem dX11_type_39 : decode cX11_type 39 = .ok (.getfield 230, 3) := by decide +kernel
theorem dX11_type_42 : decode cX11_type 42 = .ok (.iload_n 1, 1) := by decide +kernel
theorem dX11_type_43 : decode cX11_type 43 = .ok (.iastore, 1) := by decide +kernel
theorem dX11_type_44 : decode cX11_type 44 = .ok (.aload_n 0, 1) := by decide +kernel
theorem dX11_type_45 : decode cX11_type 45 = .ok (.dup, 1) := by decide +kernel
theorem dX11_type_46 : decode cX11_type 46 = .ok (.getfield 230, 3) := by decide +kernel
theorem dX11_type_49 : decode cX11_type 49 = .ok (.iconst 1, 1) := by decide +kernel
theorem dX11_type_50 : decode cX11_type 50 = .ok (.iadd, 1) := by decide +kernel
theorem dX11_type_51 : decode cX11_type 51 = .ok (.putfield 230, 3) := by decide +kernel
theorem dX11_type_54 : decode cX11_type 54 = .ok (.aload_n 0, 1) := by decide +kernel
theorem dX11_type_55 : decode cX11_type 55 = .ok (.getfield 230, 3) := by decide +kernel
theorem dX11_type_58 : decode cX11_type 58 = .ok (.ireturn, 1) := by decide +kernel
theorem dX11_clear_0 : decode cX11_clear 0 = .ok (.aload_n 0, 1) := by decide +kernel
theorem dX11_clear_1 : decode cX11_clear 1 = .ok (.getfield 230, 3) := by decide +kernel
theorem dX11_clear_4 : decode cX11_clear 4 = .ok (.istore_n 1, 1) := by decide +kernel
theorem dX11_clear_5 : decode cX11_clear 5 = .ok (.aload_n 0, 1) := by decide +kernel
theorem dX11_clear_6 : decode cX11_clear 6 = .ok (.iconst 0, 1) := by decide +kernel
theorem dX11_clear_7 : decode cX11_clear 7 = .ok (.putfield 230, 3) := by decide +kernel
theorem dX11_clear_10 : decode cX11_clear 10 = .ok (.iload_n 1, 1) := by decide +kernel
theorem dX11_clear_11 : decode cX11_clear 11 = .ok (.ireturn, 1) := by decide +kernel
theorem dX11_isSmall_0 : decode cX11_isSmall 0 = .ok (.iload_n 0, 1) := by decide +kernel
theorem dX11_isSmall_1 : decode cX11_isSmall 1 = .ok (.i2l, 1) := by decide +kernel
theorem dX11_isSmall_2 : decode cX11_isSmall 2 = .ok (.ldc2_w 234, 3) := by decide +kernel
theorem dX11_isSmall_5 : decode cX11_isSmall 5 = .ok (.ldc2_w 236, 3) := by decide +kernel
theorem dX11_isSmall_8 : decode cX11_isSmall 8 = .ok (.invokestatic 50, 3) := by decide +kernel
theorem dX11_isSmall_11 : decode cX11_isSmall 11 = .ok (.ireturn, 1) := by decide +kernel
theorem dX11_isFigure_0 : decode cX11_isFigure 0 = .ok (.iload_n 0, 1) := by decide +kernel
theorem dX11_isFigure_1 : decode cX11_isFigure 1 = .ok (.i2l, 1) := by decide +kernel
theorem dX11_isFigure_2 : decode cX11_isFigure 2 = .ok (.ldc2_w 238, 3) := by decide +kernel
theorem dX11_isFigure_5 : decode cX11_isFigure 5 = .ok (.ldc2_w 240, 3) := by decide +kernel
theorem dX11_isFigure_8 : decode cX11_isFigure 8 = .ok (.invokestatic 50, 3) := by decide +kernel
theorem dX11_isFigure_11 : decode cX11_isFigure 11 = .ok (.ireturn, 1) := by decide +kernel
theorem dX11_lookAt_0 : decode cX11_lookAt 0 = .ok (.aload_n 0, 1) := by decide +kernel
theorem dX11_lookAt_1 : decode cX11_lookAt 1 = .ok (.iload_n 1, 1) := by decide +kernel
theorem dX11_lookAt_2 : decode cX11_lookAt 2 = .ok (.putfield 242, 3) := by decide +kernel
theorem dX11_lookAt_5 : decode cX11_lookAt 5 = .ok (.aload_n 0, 1) := by decide +kernel
theorem dX11_lookAt_6 : decode cX11_lookAt 6 = .ok (.getfield 242, 3) := by decide +kernel
theorem dX11_lookAt_9 : decode cX11_lookAt 9 = .ok (.aload_n 0, 1) := by decide +kernel
theorem dX11_lookAt_10 : decode cX11_lookAt 10 = .ok (.getfield 230, 3) := by decide +kernel
theorem dX11_lookAt_13 : decode cX11_lookAt 13 = .ok (.if_icmp .ge 30, 3) := by decide +kernel
theorem dX11_lookAt_16 : decode cX11_lookAt 16 = .ok (.aload_n 0, 1) := by decide +kernel
theorem dX11_lookAt_17 : decode cX11_lookAt 17 = .ok (.getfield 33, 3) := by decide +kernel
theorem dX11_lookAt_20 : decode cX11_lookAt 20 = .ok (.aload_n 0, 1) := by decide +kernel
theorem dX11_lookAt_21 : decode cX11_lookAt 21 = .ok (.getfield 242, 3) := by decide +kernel
theorem dX11_lookAt_24 : decode cX11_lookAt 24 = .ok (.iaload, 1) := by decide +kernel
theorem dX11_lookAt_25 : decode cX11_lookAt 25 = .ok (.bipush 32, 2) := by decide +kernel
theorem dX11_lookAt_27 : decode cX11_lookAt 27 = .ok (.if_icmp .ne 16, 3) := by decide +kernel
theorem dX11_lookAt_30 : decode cX11_lookAt 30 = .ok (.aload_n 0, 1) := by decide +kernel
theorem dX11_lookAt_31 : decode cX11_lookAt 31 = .ok (.dup, 1) := by decide +kernel
theorem dX11_lookAt_32 : decode cX11_lookAt 32 = .ok (.getfield 242, 3) := by decide +kernel
theorem dX11_lookAt_35 : decode cX11_lookAt 35 = .ok (.iconst 1, 1) := by decide +kernel
theorem dX11_lookAt_36 : decode cX11_lookAt 36 = .ok (.iadd, 1) := by decide +kernel
theorem dX11_lookAt_37 : decode cX11_lookAt 37 = .ok (.putfield 242, 3) := by decide +kernel
theorem dX11_lookAt_40 : decode cX11_lookAt 40 = .ok (.goto (-35), 3) := by decide +kernel
theorem dX11_lookAt_43 : decode cX11_lookAt 43 = .ok (.aload_n 0, 1) := by decide +kernel
theorem dX11_lookAt_44 : decode cX11_lookAt 44 = .ok (.iconst 0, 1) := by decide +kernel
theorem dX11_lookAt_45 : decode cX11_lookAt 45 = .ok (.putfield 245, 3) := by decide +kernel
theorem dX11_lookAt_48 : decode cX11_lookAt 48 = .ok (.aload_n 0, 1) := by decide +kernel
theorem dX11_lookAt_49 : decode cX11_lookAt 49 = .ok (.iconst 0, 1) := by decide +kernel
theorem dX11_lookAt_50 : decode cX11_lookAt 50 = .ok (.putfield 248, 3) := by decide +kernel
theorem dX11_lookAt_53 : decode cX11_lookAt 53 = .ok (.aload_n 0, 1) := by decide +kernel
theorem dX11_lookAt_54 : decode cX11_lookAt 54 = .ok (.iconst 0, 1) := by decide +kernel
theorem dX11_lookAt_55 : decode cX11_lookAt 55 = .ok (.putfield 251, 3) := by decide +kernel
theorem dX11_lookAt_58 : decode cX11_lookAt 58 = .ok (.aload_n 0, 1) := by decide +kernel
theorem dX11_lookAt_59 : decode cX11_lookAt 59 = .ok (.getfield 242, 3) := by decide +kernel
theorem dX11_lookAt_62 : decode cX11_lookAt 62 = .ok (.aload_n 0, 1) := by decide +kernel
theorem dX11_lookAt_63 : decode cX11_lookAt 63 = .ok (.getfield 230, 3) := by decide +kernel
theorem dX11_lookAt_66 : decode cX11_lookAt 66 = .ok (.if_icmp .ne 4, 3) := by decide +kernel
theorem dX11_lookAt_69 : decode cX11_lookAt 69 = .ok (.return_, 1) := by decide +kernel
theorem dX11_lookAt_70 : decode cX11_lookAt 70 = .ok (.aload_n 0, 1) := by decide +kernel
theorem dX11_lookAt_71 : decode cX11_lookAt 71 = .ok (.getfield 33, 3) := by decide +kernel
theorem dX11_lookAt_74 : decode cX11_lookAt 74 = .ok (.aload_n 0, 1) := by decide +kernel
theorem dX11_lookAt_75 : decode cX11_lookAt 75 = .ok (.getfield 242, 3) := by decide +kernel
theorem dX11_lookAt_78 : decode cX11_lookAt 78 = .ok (.iaload, 1) := by decide +kernel
theorem dX11_lookAt_79 : decode cX11_lookAt 79 = .ok (.istore_n 2, 1) := by decide +kernel
theorem dX11_lookAt_80 : decode cX11_lookAt 80 = .ok (.aload_n 0, 1) := by decide +kernel
theorem dX11_lookAt_81 : decode cX11_lookAt 81 = .ok (.iload_n 2, 1) := by decide +kernel
theorem dX11_lookAt_82 : decode cX11_lookAt 82 = .ok (.invokestatic 254, 3) := by decide +kernel
theorem dX11_lookAt_85 : decode cX11_lookAt 85 = .ok (.ifCond .eq 7, 3) := by decide +kernel
theorem dX11_lookAt_88 : decode cX11_lookAt 88 = .ok (.iconst 1, 1) := by decide +kernel
theorem dX11_lookAt_89 : decode cX11_lookAt 89 = .ok (.goto 25, 3) := by decide +kernel
theorem dX11_lookAt_92 : decode cX11_lookAt 92 = .ok (.iload_n 2, 1) := by decide +kernel
theorem dX11_lookAt_93 : decode cX11_lookAt 93 = .ok (.invokestatic 257, 3) := by decide +kernel
theorem dX11_lookAt_96 : decode cX11_lookAt 96 = .ok (.ifCond .eq 7, 3) := by decide +kernel
theorem dX11_lookAt_99 : decode cX11_lookAt 99 = .ok (.iconst 2, 1) := by decide +kernel
theorem dX11_lookAt_100 : decode cX11_lookAt 100 = .ok (.goto 14, 3) := by decide +kernel
theorem dX11_lookAt_103 : decode cX11_lookAt 103 = .ok (.iload_n 2, 1) := by decide +kernel
theorem dX11_lookAt_104 : decode cX11_lookAt 104 = .ok (.bipush 59, 2) := by decide +kernel
theorem dX11_lookAt_106 : decode cX11_lookAt 106 = .ok (.if_icmp .ne 7, 3) := by decide +kernel
theorem dX11_lookAt_109 : decode cX11_lookAt 109 = .ok (.iconst 3, 1) := by decide +kernel
theorem dX11_lookAt_110 : decode cX11_lookAt 110 = .ok (.goto 4, 3) := by decide +kernel
theorem dX11_lookAt_113 : decode cX11_lookAt 113 = .ok (.iconst 4, 1) := by decide +kernel
theorem dX11_lookAt_114 : decode cX11_lookAt 114 = .ok (.putfield 248, 3) := by decide +kernel
theorem dX11_lookAt_117 : decode cX11_lookAt 117 = .ok (.aload_n 0, 1) := by decide +kernel
theorem dX11_lookAt_118 : decode cX11_lookAt 118 = .ok (.iconst 1, 1) := by decide +kernel
theorem dX11_lookAt_119 : decode cX11_lookAt 119 = .ok (.putfield 245, 3) := by decide +kernel
theorem dX11_lookAt_122 : decode cX11_lookAt 122 = .ok (.aload_n 0, 1) := by decide +kernel
theorem dX11_lookAt_123 : decode cX11_lookAt 123 = .ok (.getfield 248, 3) := by decide +kernel
theorem dX11_lookAt_126 : decode cX11_lookAt 126 = .ok (.iconst 3, 1) := by decide +kernel
theorem dX11_lookAt_127 : decode cX11_lookAt 127 = .ok (.if_icmp .ge 7, 3) := by decide +kernel
theorem dX11_lookAt_130 : decode cX11_lookAt 130 = .ok (.iconst 1, 1) := by decide +kernel
theorem dX11_lookAt_131 : decode cX11_lookAt 131 = .ok (.goto 4, 3) := by decide +kernel
theorem dX11_lookAt_134 : decode cX11_lookAt 134 = .ok (.iconst 0, 1) := by decide +kernel
theorem dX11_lookAt_135 : decode cX11_lookAt 135 = .ok (.istore_n 3, 1) := by decide +kernel
theorem dX11_lookAt_136 : decode cX11_lookAt 136 = .ok (.iload_n 3, 1) := by decide +kernel
theorem dX11_lookAt_137 : decode cX11_lookAt 137 = .ok (.ifCond .eq 78, 3) := by decide +kernel
theorem dX11_lookAt_140 : decode cX11_lookAt 140 = .ok (.aload_n 0, 1) := by decide +kernel
theorem dX11_lookAt_141 : decode cX11_lookAt 141 = .ok (.getfield 242, 3) := by decide +kernel
theorem dX11_lookAt_144 : decode cX11_lookAt 144 = .ok (.aload_n 0, 1) := by decide +kernel
theorem dX11_lookAt_145 : decode cX11_lookAt 145 = .ok (.getfield 245, 3) := by decide +kernel
theorem dX11_lookAt_148 : decode cX11_lookAt 148 = .ok (.iadd, 1) := by decide +kernel
theorem dX11_lookAt_149 : decode cX11_lookAt 149 = .ok (.aload_n 0, 1) := by decide +kernel
theorem dX11_lookAt_150 : decode cX11_lookAt 150 = .ok (.getfield 230, 3) := by decide +kernel
theorem dX11_lookAt_153 : decode cX11_lookAt 153 = .ok (.if_icmp .ge 62, 3) := by decide +kernel
theorem dX11_lookAt_156 : decode cX11_lookAt 156 = .ok (.aload_n 0, 1) := by decide +kernel
theorem dX11_lookAt_157 : decode cX11_lookAt 157 = .ok (.getfield 33, 3) := by decide +kernel
theorem dX11_lookAt_160 : decode cX11_lookAt 160 = .ok (.aload_n 0, 1) := by decide +kernel
theorem dX11_lookAt_161 : decode cX11_lookAt 161 = .ok (.getfield 242, 3) := by decide +kernel
theorem dX11_lookAt_164 : decode cX11_lookAt 164 = .ok (.aload_n 0, 1) := by decide +kernel
theorem dX11_lookAt_165 : decode cX11_lookAt 165 = .ok (.getfield 245, 3) := by decide +kernel
theorem dX11_lookAt_168 : decode cX11_lookAt 168 = .ok (.iadd, 1) := by decide +kernel
theorem dX11_lookAt_169 : decode cX11_lookAt 169 = .ok (.iaload, 1) := by decide +kernel
theorem dX11_lookAt_170 : decode cX11_lookAt 170 = .ok (.istore 4, 2) := by decide +kernel
theorem dX11_lookAt_172 : decode cX11_lookAt 172 = .ok (.aload_n 0, 1) := by decide +kernel
theorem dX11_lookAt_173 : decode cX11_lookAt 173 = .ok (.getfield 248, 3) := by decide +kernel
theorem dX11_lookAt_176 : decode cX11_lookAt 176 = .ok (.iconst 1, 1) := by decide +kernel
theorem dX11_lookAt_177 : decode cX11_lookAt 177 = .ok (.if_icmp .ne 11, 3) := by decide +kernel
theorem dX11_lookAt_180 : decode cX11_lookAt 180 = .ok (.iload 4, 2) := by decide +kernel
theorem dX11_lookAt_182 : decode cX11_lookAt 182 = .ok (.invokestatic 254, 3) := by decide +kernel
theorem dX11_lookAt_185 : decode cX11_lookAt 185 = .ok (.goto 8, 3) := by decide +kernel
theorem dX11_lookAt_188 : decode cX11_lookAt 188 = .ok (.iload 4, 2) := by decide +kernel
theorem dX11_lookAt_190 : decode cX11_lookAt 190 = .ok (.invokestatic 257, 3) := by decide +kernel
theorem dX11_lookAt_193 : decode cX11_lookAt 193 = .ok (.istore_n 3, 1) := by decide +kernel
theorem dX11_lookAt_194 : decode cX11_lookAt 194 = .ok (.aload_n 0, 1) := by decide +kernel
theorem dX11_lookAt_195 : decode cX11_lookAt 195 = .ok (.dup, 1) := by decide +kernel
theorem dX11_lookAt_196 : decode cX11_lookAt 196 = .ok (.getfield 245, 3) := by decide +kernel
theorem dX11_lookAt_199 : decode cX11_lookAt 199 = .ok (.iload_n 3, 1) := by decide +kernel
theorem dX11_lookAt_200 : decode cX11_lookAt 200 = .ok (.ifCond .eq 7, 3) := by decide +kernel
theorem dX11_lookAt_203 : decode cX11_lookAt 203 = .ok (.iconst 1, 1) := by decide +kernel
theorem dX11_lookAt_204 : decode cX11_lookAt 204 = .ok (.goto 4, 3) := by decide +kernel
theorem dX11_lookAt_207 : decode cX11_lookAt 207 = .ok (.iconst 0, 1) := by decide +kernel
theorem dX11_lookAt_208 : decode cX11_lookAt 208 = .ok (.iadd, 1) := by decide +kernel
theorem dX11_lookAt_209 : decode cX11_lookAt 209 = .ok (.putfield 245, 3) := by decide +kernel
theorem dX11_lookAt_212 : decode cX11_lookAt 212 = .ok (.goto (-76), 3) := by decide +kernel
theorem dX11_lookAt_215 : decode cX11_lookAt 215 = .ok (.iconst 0, 1) := by decide +kernel
theorem dX11_lookAt_216 : decode cX11_lookAt 216 = .ok (.istore 4, 2) := by decide +kernel
theorem dX11_lookAt_218 : decode cX11_lookAt 218 = .ok (.iload 4, 2) := by decide +kernel
theorem dX11_lookAt_220 : decode cX11_lookAt 220 = .ok (.aload_n 0, 1) := by decide +kernel
theorem dX11_lookAt_221 : decode cX11_lookAt 221 = .ok (.getfield 245, 3) := by decide +kernel
theorem dX11_lookAt_224 : decode cX11_lookAt 224 = .ok (.if_icmp .ge 50, 3) := by decide +kernel
theorem dX11_lookAt_227 : decode cX11_lookAt 227 = .ok (.iload 4, 2) := by decide +kernel
theorem dX11_lookAt_229 : decode cX11_lookAt 229 = .ok (.iconst 2, 1) := by decide +kernel
theorem dX11_lookAt_230 : decode cX11_lookAt 230 = .ok (.if_icmp .ge 44, 3) := by decide +kernel
theorem dX11_lookAt_233 : decode cX11_lookAt 233 = .ok (.aload_n 0, 1) := by decide +kernel
theorem dX11_lookAt_234 : decode cX11_lookAt 234 = .ok (.getfield 248, 3) := by decide +kernel
theorem dX11_lookAt_237 : decode cX11_lookAt 237 = .ok (.iconst 2, 1) := by decide +kernel
theorem dX11_lookAt_238 : decode cX11_lookAt 238 = .ok (.if_icmp .ne 36, 3) := by decide +kernel
theorem dX11_lookAt_241 : decode cX11_lookAt 241 = .ok (.aload_n 0, 1) := by decide +kernel
theorem dX11_lookAt_242 : decode cX11_lookAt 242 = .ok (.bipush 10, 2) := by decide +kernel
theorem dX11_lookAt_244 : decode cX11_lookAt 244 = .ok (.aload_n 0, 1) := by decide +kernel
theorem dX11_lookAt_245 : decode cX11_lookAt 245 = .ok (.getfield 251, 3) := by decide +kernel
theorem dX11_lookAt_248 : decode cX11_lookAt 248 = .ok (.imul, 1) := by decide +kernel
theorem dX11_lookAt_249 : decode cX11_lookAt 249 = .ok (.aload_n 0, 1) := by decide +kernel
theorem dX11_lookAt_250 : decode cX11_lookAt 250 = .ok (.getfield 33, 3) := by decide +kernel
theorem dX11_lookAt_253 : decode cX11_lookAt 253 = .ok (.aload_n 0, 1) := by decide +kernel
theorem dX11_lookAt_254 : decode cX11_lookAt 254 = .ok (.getfield 242, 3) := by decide +kernel
theorem dX11_lookAt_257 : decode cX11_lookAt 257 = .ok (.iload 4, 2) := by decide +kernel
theorem dX11_lookAt_259 : decode cX11_lookAt 259 = .ok (.iadd, 1) := by decide +kernel
theorem dX11_lookAt_260 : decode cX11_lookAt 260 = .ok (.iaload, 1) := by decide +kernel
theorem dX11_lookAt_261 : decode cX11_lookAt 261 = .ok (.iadd, 1) := by decide +kernel
theorem dX11_lookAt_262 : decode cX11_lookAt 262 = .ok (.bipush 48, 2) := by decide +kernel
theorem dX11_lookAt_264 : decode cX11_lookAt 264 = .ok (.isub, 1) := by decide +kernel
theorem dX11_lookAt_265 : decode cX11_lookAt 265 = .ok (.putfield 251, 3) := by decide +kernel
theorem dX11_lookAt_268 : decode cX11_lookAt 268 = .ok (.iinc 4 1, 3) := by decide +kernel
theorem dX11_lookAt_271 : decode cX11_lookAt 271 = .ok (.goto (-53), 3) := by decide +kernel
theorem dX11_lookAt_274 : decode cX11_lookAt 274 = .ok (.aload_n 0, 1) := by decide +kernel
theorem dX11_lookAt_275 : decode cX11_lookAt 275 = .ok (.aload_n 0, 1) := by decide +kernel
theorem dX11_lookAt_276 : decode cX11_lookAt 276 = .ok (.getfield 248, 3) := by decide +kernel
theorem dX11_lookAt_279 : decode cX11_lookAt 279 = .ok (.iconst 2, 1) := by decide +kernel
theorem dX11_lookAt_280 : decode cX11_lookAt 280 = .ok (.if_icmp .ne 15, 3) := by decide +kernel
theorem dX11_lookAt_283 : decode cX11_lookAt 283 = .ok (.aload_n 0, 1) := by decide +kernel
theorem dX11_lookAt_284 : decode cX11_lookAt 284 = .ok (.getfield 245, 3) := by decide +kernel
theorem dX11_lookAt_287 : decode cX11_lookAt 287 = .ok (.iconst 2, 1) := by decide +kernel
theorem dX11_lookAt_288 : decode cX11_lookAt 288 = .ok (.if_icmp .le 7, 3) := by decide +kernel
theorem dX11_lookAt_291 : decode cX11_lookAt 291 = .ok (.iconst 4, 1) := by decide +kernel
theorem dX11_lookAt_292 : decode cX11_lookAt 292 = .ok (.goto 7, 3) := by decide +kernel
theorem dX11_lookAt_295 : decode cX11_lookAt 295 = .ok (.aload_n 0, 1) := by decide +kernel
theorem dX11_lookAt_296 : decode cX11_lookAt 296 = .ok (.getfield 248, 3) := by decide +kernel
theorem dX11_lookAt_299 : decode cX11_lookAt 299 = .ok (.putfield 248, 3) := by decide +kernel
theorem dX11_lookAt_302 : decode cX11_lookAt 302 = .ok (.return_, 1) := by decide +kernel
theorem dX11_goBehind_0 : decode cX11_goBehind 0 = .ok (.aload_n 0, 1) := by decide +kernel
theorem dX11_goBehind_1 : decode cX11_goBehind 1 = .ok (.aload_n 0, 1) := by decide +kernel
theorem dX11_goBehind_2 : decode cX11_goBehind 2 = .ok (.getfield 242, 3) := by decide +kernel
theorem dX11_goBehind_5 : decode cX11_goBehind 5 = .ok (.aload_n 0, 1) := by decide +kernel
theorem dX11_goBehind_6 : decode cX11_goBehind 6 = .ok (.getfield 245, 3) := by decide +kernel
theorem dX11_goBehind_9 : decode cX11_goBehind 9 = .ok (.iadd, 1) := by decide +kernel
theorem dX11_goBehind_10 : decode cX11_goBehind 10 = .ok (.invokevirtual 260, 3) := by decide +kernel
theorem dX11_goBehind_13 : decode cX11_goBehind 13 = .ok (.return_, 1) := by decide +kernel
theorem dX11_spells_0 : decode cX11_spells 0 = .ok (.aload_n 0, 1) := by decide +kernel
theorem dX11_spells_1 : decode cX11_spells 1 = .ok (.getfield 248, 3) := by decide +kernel
theorem dX11_spells_4 : decode cX11_spells 4 = .ok (.iconst 1, 1) := by decide +kernel
theorem dX11_spells_5 : decode cX11_spells 5 = .ok (.if_icmp .ne 15, 3) := by decide +kernel
theorem dX11_spells_8 : decode cX11_spells 8 = .ok (.aload_n 0, 1) := by decide +kernel
theorem dX11_spells_9 : decode cX11_spells 9 = .ok (.getfield 245, 3) := by decide +kernel
theorem dX11_spells_12 : decode cX11_spells 12 = .ok (.iload_n 1, 1) := by decide +kernel
theorem dX11_spells_13 : decode cX11_spells 13 = .ok (.if_icmp .ne 7, 3) := by decide +kernel
theorem dX11_spells_16 : decode cX11_spells 16 = .ok (.iconst 1, 1) := by decide +kernel
theorem dX11_spells_17 : decode cX11_spells 17 = .ok (.goto 4, 3) := by decide +kernel
theorem dX11_spells_20 : decode cX11_spells 20 = .ok (.iconst 0, 1) := by decide +kernel
theorem dX11_spells_21 : decode cX11_spells 21 = .ok (.istore 8, 2) := by decide +kernel
theorem dX11_spells_23 : decode cX11_spells 23 = .ok (.iconst 0, 1) := by decide +kernel
theorem dX11_spells_24 : decode cX11_spells 24 = .ok (.istore 9, 2) := by decide +kernel
theorem dX11_spells_26 : decode cX11_spells 26 = .ok (.iload 9, 2) := by decide +kernel
theorem dX11_spells_28 : decode cX11_spells 28 = .ok (.iload_n 1, 1) := by decide +kernel
theorem dX11_spells_29 : decode cX11_spells 29 = .ok (.if_icmp .ge 90, 3) := by decide +kernel
theorem dX11_spells_32 : decode cX11_spells 32 = .ok (.iload 8, 2) := by decide +kernel
theorem dX11_spells_34 : decode cX11_spells 34 = .ok (.ifCond .eq 85, 3) := by decide +kernel
theorem dX11_spells_37 : decode cX11_spells 37 = .ok (.aload_n 0, 1) := by decide +kernel
theorem dX11_spells_38 : decode cX11_spells 38 = .ok (.getfield 33, 3) := by decide +kernel
theorem dX11_spells_41 : decode cX11_spells 41 = .ok (.aload_n 0, 1) := by decide +kernel
theorem dX11_spells_42 : decode cX11_spells 42 = .ok (.getfield 242, 3) := by decide +kernel
theorem dX11_spells_45 : decode cX11_spells 45 = .ok (.iload 9, 2) := by decide +kernel
theorem dX11_spells_47 : decode cX11_spells 47 = .ok (.iadd, 1) := by decide +kernel
theorem dX11_spells_48 : decode cX11_spells 48 = .ok (.iaload, 1) := by decide +kernel
theorem dX11_spells_49 : decode cX11_spells 49 = .ok (.iload 9, 2) := by decide +kernel
theorem dX11_spells_51 : decode cX11_spells 51 = .ok (.ifCond .ne 7, 3) := by decide +kernel
theorem dX11_spells_54 : decode cX11_spells 54 = .ok (.iload_n 2, 1) := by decide +kernel
theorem dX11_spells_55 : decode cX11_spells 55 = .ok (.goto 48, 3) := by decide +kernel
theorem dX11_spells_58 : decode cX11_spells 58 = .ok (.iload 9, 2) := by decide +kernel
theorem dX11_spells_60 : decode cX11_spells 60 = .ok (.iconst 1, 1) := by decide +kernel
theorem dX11_spells_61 : decode cX11_spells 61 = .ok (.if_icmp .ne 7, 3) := by decide +kernel
theorem dX11_spells_64 : decode cX11_spells 64 = .ok (.iload_n 3, 1) := by decide +kernel
theorem dX11_spells_65 : decode cX11_spells 65 = .ok (.goto 38, 3) := by decide +kernel
theorem dX11_spells_68 : decode cX11_spells 68 = .ok (.iload 9, 2) := by decide +kernel
theorem dX11_spells_70 : decode cX11_spells 70 = .ok (.iconst 2, 1) := by decide +kernel
theorem dX11_spells_71 : decode cX11_spells 71 = .ok (.if_icmp .ne 8, 3) := by decide +kernel
theorem dX11_spells_74 : decode cX11_spells 74 = .ok (.iload 4, 2) := by decide +kernel
theorem dX11_spells_76 : decode cX11_spells 76 = .ok (.goto 27, 3) := by decide +kernel
theorem dX11_spells_79 : decode cX11_spells 79 = .ok (.iload 9, 2) := by decide +kernel
theorem dX11_spells_81 : decode cX11_spells 81 = .ok (.iconst 3, 1) := by decide +kernel
theorem dX11_spells_82 : decode cX11_spells 82 = .ok (.if_icmp .ne 8, 3) := by decide +kernel
theorem dX11_spells_85 : decode cX11_spells 85 = .ok (.iload 5, 2) := by decide +kernel
theorem dX11_spells_87 : decode cX11_spells 87 = .ok (.goto 16, 3) := by decide +kernel
theorem dX11_spells_90 : decode cX11_spells 90 = .ok (.iload 9, 2) := by decide +kernel
theorem dX11_spells_92 : decode cX11_spells 92 = .ok (.iconst 4, 1) := by decide +kernel
theorem dX11_spells_93 : decode cX11_spells 93 = .ok (.if_icmp .ne 8, 3) := by decide +kernel
theorem dX11_spells_96 : decode cX11_spells 96 = .ok (.iload 6, 2) := by decide +kernel
theorem dX11_spells_98 : decode cX11_spells 98 = .ok (.goto 5, 3) := by decide +kernel
theorem dX11_spells_101 : decode cX11_spells 101 = .ok (.iload 7, 2) := by decide +kernel
theorem dX11_spells_103 : decode cX11_spells 103 = .ok (.if_icmp .ne 7, 3) := by decide +kernel
theorem dX11_spells_106 : decode cX11_spells 106 = .ok (.iconst 1, 1) := by decide +kernel
theorem dX11_spells_107 : decode cX11_spells 107 = .ok (.goto 4, 3) := by decide +kernel
theorem dX11_spells_110 : decode cX11_spells 110 = .ok (.iconst 0, 1) := by decide +kernel
theorem dX11_spells_111 : decode cX11_spells 111 = .ok (.istore 8, 2) := by decide +kernel
theorem dX11_spells_113 : decode cX11_spells 113 = .ok (.iinc 9 1, 3) := by decide +kernel
theorem dX11_spells_116 : decode cX11_spells 116 = .ok (.goto (-90), 3) := by decide +kernel
theorem dX11_spells_119 : decode cX11_spells 119 = .ok (.iload 8, 2) := by decide +kernel
theorem dX11_spells_121 : decode cX11_spells 121 = .ok (.ireturn, 1) := by decide +kernel
theorem dX11_takes_0 : decode cX11_takes 0 = .ok (.aload_n 0, 1) := by decide +kernel
theorem dX11_takes_1 : decode cX11_takes 1 = .ok (.getfield 248, 3) := by decide +kernel
theorem dX11_takes_4 : decode cX11_takes 4 = .ok (.iconst 2, 1) := by decide +kernel
theorem dX11_takes_5 : decode cX11_takes 5 = .ok (.if_icmp .ne 18, 3) := by decide +kernel
theorem dX11_takes_8 : decode cX11_takes 8 = .ok (.aload_n 0, 1) := by decide +kernel
theorem dX11_takes_9 : decode cX11_takes 9 = .ok (.getfield 251, 3) := by decide +kernel
theorem dX11_takes_12 : decode cX11_takes 12 = .ok (.i2l, 1) := by decide +kernel
theorem dX11_takes_13 : decode cX11_takes 13 = .ok (.iload_n 2, 1) := by decide +kernel
theorem dX11_takes_14 : decode cX11_takes 14 = .ok (.i2l, 1) := by decide +kernel
theorem dX11_takes_15 : decode cX11_takes 15 = .ok (.iload_n 3, 1) := by decide +kernel
theorem dX11_takes_16 : decode cX11_takes 16 = .ok (.i2l, 1) := by decide +kernel
theorem dX11_takes_17 : decode cX11_takes 17 = .ok (.invokestatic 50, 3) := by decide +kernel
theorem dX11_takes_20 : decode cX11_takes 20 = .ok (.ifCond .ne 5, 3) := by decide +kernel
theorem dX11_takes_23 : decode cX11_takes 23 = .ok (.iconst 0, 1) := by decide +kernel
theorem dX11_takes_24 : decode cX11_takes 24 = .ok (.ireturn, 1) := by decide +kernel
theorem dX11_takes_25 : decode cX11_takes 25 = .ok (.aload_n 0, 1) := by decide +kernel
theorem dX11_takes_26 : decode cX11_takes 26 = .ok (.getfield 39, 3) := by decide +kernel
theorem dX11_takes_29 : decode cX11_takes 29 = .ok (.iload_n 1, 1) := by decide +kernel
theorem dX11_takes_30 : decode cX11_takes 30 = .ok (.aload_n 0, 1) := by decide +kernel
theorem dX11_takes_31 : decode cX11_takes 31 = .ok (.getfield 251, 3) := by decide +kernel
theorem dX11_takes_34 : decode cX11_takes 34 = .ok (.iastore, 1) := by decide +kernel
theorem dX11_takes_35 : decode cX11_takes 35 = .ok (.aload_n 0, 1) := by decide +kernel
theorem dX11_takes_36 : decode cX11_takes 36 = .ok (.invokevirtual 263, 3) := by decide +kernel
theorem dX11_takes_39 : decode cX11_takes 39 = .ok (.iconst 1, 1) := by decide +kernel
theorem dX11_takes_40 : decode cX11_takes 40 = .ok (.ireturn, 1) := by decide +kernel
theorem dX11_takesLake_0 : decode cX11_takesLake 0 = .ok (.aload_n 0, 1) := by decide +kernel
theorem dX11_takesLake_1 : decode cX11_takesLake 1 = .ok (.iconst 4, 1) := by decide +kernel
theorem dX11_takesLake_2 : decode cX11_takesLake 2 = .ok (.bipush 108, 2) := by decide +kernel
theorem dX11_takesLake_4 : decode cX11_takesLake 4 = .ok (.bipush 97, 2) := by decide +kernel
theorem dX11_takesLake_6 : decode cX11_takesLake 6 = .ok (.bipush 107, 2) := by decide +kernel
theorem dX11_takesLake_8 : decode cX11_takesLake 8 = .ok (.bipush 101, 2) := by decide +kernel
theorem dX11_takesLake_10 : decode cX11_takesLake 10 = .ok (.iconst 0, 1) := by decide +kernel
theorem dX11_takesLake_11 : decode cX11_takesLake 11 = .ok (.iconst 0, 1) := by decide +kernel
theorem dX11_takesLake_12 : decode cX11_takesLake 12 = .ok (.invokevirtual 266, 3) := by decide +kernel
theorem dX11_takesLake_15 : decode cX11_takesLake 15 = .ok (.ifCond .ne 5, 3) := by decide +kernel
theorem dX11_takesLake_18 : decode cX11_takesLake 18 = .ok (.iconst 0, 1) := by decide +kernel
theorem dX11_takesLake_19 : decode cX11_takesLake 19 = .ok (.ireturn, 1) := by decide +kernel
theorem dX11_takesLake_20 : decode cX11_takesLake 20 = .ok (.aload_n 0, 1) := by decide +kernel
theorem dX11_takesLake_21 : decode cX11_takesLake 21 = .ok (.invokevirtual 263, 3) := by decide +kernel
theorem dX11_takesLake_24 : decode cX11_takesLake 24 = .ok (.aload_n 0, 1) := by decide +kernel
theorem dX11_takesLake_25 : decode cX11_takesLake 25 = .ok (.iconst 0, 1) := by decide +kernel
theorem dX11_takesLake_26 : decode cX11_takesLake 26 = .ok (.iconst 0, 1) := by decide +kernel
theorem dX11_takesLake_27 : decode cX11_takesLake 27 = .ok (.bipush 99, 2) := by decide +kernel
theorem dX11_takesLake_29 : decode cX11_takesLake 29 = .ok (.invokevirtual 270, 3) := by decide +kernel
theorem dX11_takesLake_32 : decode cX11_takesLake 32 = .ok (.ifCond .ne 5, 3) := by decide +kernel
theorem dX11_takesLake_35 : decode cX11_takesLake 35 = .ok (.iconst 0, 1) := by decide +kernel
theorem dX11_takesLake_36 : decode cX11_takesLake 36 = .ok (.ireturn, 1) := by decide +kernel
theorem dX11_takesLake_37 : decode cX11_takesLake 37 = .ok (.aload_n 0, 1) := by decide +kernel
theorem dX11_takesLake_38 : decode cX11_takesLake 38 = .ok (.getfield 36, 3) := by decide +kernel
theorem dX11_takesLake_41 : decode cX11_takesLake 41 = .ok (.aload_n 0, 1) := by decide +kernel
theorem dX11_takesLake_42 : decode cX11_takesLake 42 = .ok (.getfield 39, 3) := by decide +kernel
theorem dX11_takesLake_45 : decode cX11_takesLake 45 = .ok (.iconst 0, 1) := by decide +kernel
theorem dX11_takesLake_46 : decode cX11_takesLake 46 = .ok (.iaload, 1) := by decide +kernel
theorem dX11_takesLake_47 : decode cX11_takesLake 47 = .ok (.invokestatic 42, 3) := by decide +kernel
theorem dX11_takesLake_50 : decode cX11_takesLake 50 = .ok (.aload_n 0, 1) := by decide +kernel
theorem dX11_takesLake_51 : decode cX11_takesLake 51 = .ok (.getfield 248, 3) := by decide +kernel
theorem dX11_takesLake_54 : decode cX11_takesLake 54 = .ok (.iconst 3, 1) := by decide +kernel
theorem dX11_takesLake_55 : decode cX11_takesLake 55 = .ok (.if_icmp .ne 7, 3) := by decide +kernel
theorem dX11_takesLake_58 : decode cX11_takesLake 58 = .ok (.iconst 1, 1) := by decide +kernel
theorem dX11_takesLake_59 : decode cX11_takesLake 59 = .ok (.goto 4, 3) := by decide +kernel
theorem dX11_takesLake_62 : decode cX11_takesLake 62 = .ok (.iconst 0, 1) := by decide +kernel
theorem dX11_takesLake_63 : decode cX11_takesLake 63 = .ok (.ireturn, 1) := by decide +kernel
theorem dX11_takesCell_0 : decode cX11_takesCell 0 = .ok (.aload_n 0, 1) := by decide +kernel
theorem dX11_takesCell_1 : decode cX11_takesCell 1 = .ok (.invokevirtual 263, 3) := by decide +kernel
theorem dX11_takesCell_4 : decode cX11_takesCell 4 = .ok (.aload_n 0, 1) := by decide +kernel
theorem dX11_takesCell_5 : decode cX11_takesCell 5 = .ok (.iconst 0, 1) := by decide +kernel
theorem dX11_takesCell_6 : decode cX11_takesCell 6 = .ok (.iconst 0, 1) := by decide +kernel
theorem dX11_takesCell_7 : decode cX11_takesCell 7 = .ok (.iconst 5, 1) := by decide +kernel
theorem dX11_takesCell_8 : decode cX11_takesCell 8 = .ok (.invokevirtual 270, 3) := by decide +kernel
theorem dX11_takesCell_11 : decode cX11_takesCell 11 = .ok (.ifCond .eq 14, 3) := by decide +kernel
theorem dX11_takesCell_14 : decode cX11_takesCell 14 = .ok (.aload_n 0, 1) := by decide +kernel
theorem dX11_takesCell_15 : decode cX11_takesCell 15 = .ok (.iconst 1, 1) := by decide +kernel
theorem dX11_takesCell_16 : decode cX11_takesCell 16 = .ok (.iconst 0, 1) := by decide +kernel
theorem dX11_takesCell_17 : decode cX11_takesCell 17 = .ok (.bipush 24, 2) := by decide +kernel
theorem dX11_takesCell_19 : decode cX11_takesCell 19 = .ok (.invokevirtual 270, 3) := by decide +kernel
theorem dX11_takesCell_22 : decode cX11_takesCell 22 = .ok (.ifCond .ne 5, 3) := by decide +kernel
theorem dX11_takesCell_25 : decode cX11_takesCell 25 = .ok (.iconst 0, 1) := by decide +kernel
theorem dX11_takesCell_26 : decode cX11_takesCell 26 = .ok (.ireturn, 1) := by decide +kernel
theorem dX11_takesCell_27 : decode cX11_takesCell 27 = .ok (.aload_n 0, 1) := by decide +kernel
theorem dX11_takesCell_28 : decode cX11_takesCell 28 = .ok (.getfield 36, 3) := by decide +kernel
theorem dX11_takesCell_31 : decode cX11_takesCell 31 = .ok (.bipush 30, 2) := by decide +kernel
theorem dX11_takesCell_33 : decode cX11_takesCell 33 = .ok (.aload_n 0, 1) := by decide +kernel
theorem dX11_takesCell_34 : decode cX11_takesCell 34 = .ok (.getfield 39, 3) := by decide +kernel
theorem dX11_takesCell_37 : decode cX11_takesCell 37 = .ok (.iconst 1, 1) := by decide +kernel
theorem dX11_takesCell_38 : decode cX11_takesCell 38 = .ok (.iaload, 1) := by decide +kernel
theorem dX11_takesCell_39 : decode cX11_takesCell 39 = .ok (.iadd, 1) := by decide +kernel
theorem dX11_takesCell_40 : decode cX11_takesCell 40 = .ok (.aload_n 0, 1) := by decide +kernel
theorem dX11_takesCell_41 : decode cX11_takesCell 41 = .ok (.getfield 39, 3) := by decide +kernel
theorem dX11_takesCell_44 : decode cX11_takesCell 44 = .ok (.iconst 0, 1) := by decide +kernel
theorem dX11_takesCell_45 : decode cX11_takesCell 45 = .ok (.iaload, 1) := by decide +kernel
theorem dX11_takesCell_46 : decode cX11_takesCell 46 = .ok (.iastore, 1) := by decide +kernel
theorem dX11_takesCell_47 : decode cX11_takesCell 47 = .ok (.aload_n 0, 1) := by decide +kernel
theorem dX11_takesCell_48 : decode cX11_takesCell 48 = .ok (.iconst 1, 1) := by decide +kernel
theorem dX11_takesCell_49 : decode cX11_takesCell 49 = .ok (.iconst 0, 1) := by decide +kernel
theorem dX11_takesCell_50 : decode cX11_takesCell 50 = .ok (.bipush 24, 2) := by decide +kernel
theorem dX11_takesCell_52 : decode cX11_takesCell 52 = .ok (.invokevirtual 270, 3) := by decide +kernel
theorem dX11_takesCell_55 : decode cX11_takesCell 55 = .ok (.ifCond .eq 26, 3) := by decide +kernel
theorem dX11_takesCell_58 : decode cX11_takesCell 58 = .ok (.aload_n 0, 1) := by decide +kernel
theorem dX11_takesCell_59 : decode cX11_takesCell 59 = .ok (.getfield 36, 3) := by decide +kernel
theorem dX11_takesCell_62 : decode cX11_takesCell 62 = .ok (.bipush 30, 2) := by decide +kernel
theorem dX11_takesCell_64 : decode cX11_takesCell 64 = .ok (.aload_n 0, 1) := by decide +kernel
theorem dX11_takesCell_65 : decode cX11_takesCell 65 = .ok (.getfield 39, 3) := by decide +kernel
theorem dX11_takesCell_68 : decode cX11_takesCell 68 = .ok (.iconst 1, 1) := by decide +kernel
theorem dX11_takesCell_69 : decode cX11_takesCell 69 = .ok (.iaload, 1) := by decide +kernel
theorem dX11_takesCell_70 : decode cX11_takesCell 70 = .ok (.iadd, 1) := by decide +kernel
theorem dX11_takesCell_71 : decode cX11_takesCell 71 = .ok (.aload_n 0, 1) := by decide +kernel
theorem dX11_takesCell_72 : decode cX11_takesCell 72 = .ok (.getfield 39, 3) := by decide +kernel
theorem dX11_takesCell_75 : decode cX11_takesCell 75 = .ok (.iconst 0, 1) := by decide +kernel
theorem dX11_takesCell_76 : decode cX11_takesCell 76 = .ok (.iaload, 1) := by decide +kernel
theorem dX11_takesCell_77 : decode cX11_takesCell 77 = .ok (.iastore, 1) := by decide +kernel
theorem dX11_takesCell_78 : decode cX11_takesCell 78 = .ok (.goto (-31), 3) := by decide +kernel
theorem dX11_takesCell_81 : decode cX11_takesCell 81 = .ok (.iconst 1, 1) := by decide +kernel
theorem dX11_takesCell_82 : decode cX11_takesCell 82 = .ok (.ireturn, 1) := by decide +kernel
theorem dX11_takesWeek_0 : decode cX11_takesWeek 0 = .ok (.iconst 0, 1) := by decide +kernel
theorem dX11_takesWeek_1 : decode cX11_takesWeek 1 = .ok (.istore_n 1, 1) := by decide +kernel
theorem dX11_takesWeek_2 : decode cX11_takesWeek 2 = .ok (.aload_n 0, 1) := by decide +kernel
theorem dX11_takesWeek_3 : decode cX11_takesWeek 3 = .ok (.invokevirtual 263, 3) := by decide +kernel
theorem dX11_takesWeek_6 : decode cX11_takesWeek 6 = .ok (.iload_n 1, 1) := by decide +kernel
theorem dX11_takesWeek_7 : decode cX11_takesWeek 7 = .ok (.ifCond .eq 11, 3) := by decide +kernel
theorem dX11_takesWeek_10 : decode cX11_takesWeek 10 = .ok (.aload_n 0, 1) := by decide +kernel
theorem dX11_takesWeek_11 : decode cX11_takesWeek 11 = .ok (.getfield 248, 3) := by decide +kernel
theorem dX11_takesWeek_14 : decode cX11_takesWeek 14 = .ok (.iconst 3, 1) := by decide +kernel
theorem dX11_takesWeek_15 : decode cX11_takesWeek 15 = .ok (.if_icmp .eq 69, 3) := by decide +kernel
theorem dX11_takesWeek_18 : decode cX11_takesWeek 18 = .ok (.iload_n 1, 1) := by decide +kernel
theorem dX11_takesWeek_19 : decode cX11_takesWeek 19 = .ok (.bipush 7, 2) := by decide +kernel
theorem dX11_takesWeek_21 : decode cX11_takesWeek 21 = .ok (.if_icmp .eq 25, 3) := by decide +kernel
theorem dX11_takesWeek_24 : decode cX11_takesWeek 24 = .ok (.aload_n 0, 1) := by decide +kernel
theorem dX11_takesWeek_25 : decode cX11_takesWeek 25 = .ok (.iconst 0, 1) := by decide +kernel
theorem dX11_takesWeek_26 : decode cX11_takesWeek 26 = .ok (.iconst 0, 1) := by decide +kernel
theorem dX11_takesWeek_27 : decode cX11_takesWeek 27 = .ok (.bipush 9, 2) := by decide +kernel
theorem dX11_takesWeek_29 : decode cX11_takesWeek 29 = .ok (.invokevirtual 270, 3) := by decide +kernel
theorem dX11_takesWeek_32 : decode cX11_takesWeek 32 = .ok (.ifCond .eq 14, 3) := by decide +kernel
theorem dX11_takesWeek_35 : decode cX11_takesWeek 35 = .ok (.aload_n 0, 1) := by decide +kernel
theorem dX11_takesWeek_36 : decode cX11_takesWeek 36 = .ok (.iconst 1, 1) := by decide +kernel
theorem dX11_takesWeek_37 : decode cX11_takesWeek 37 = .ok (.iconst 0, 1) := by decide +kernel
theorem dX11_takesWeek_38 : decode cX11_takesWeek 38 = .ok (.bipush 9, 2) := by decide +kernel
theorem dX11_takesWeek_40 : decode cX11_takesWeek 40 = .ok (.invokevirtual 270, 3) := by decide +kernel
theorem dX11_takesWeek_43 : decode cX11_takesWeek 43 = .ok (.ifCond .ne 5, 3) := by decide +kernel
theorem dX11_takesWeek_46 : decode cX11_takesWeek 46 = .ok (.iconst 0, 1) := by decide +kernel
theorem dX11_takesWeek_47 : decode cX11_takesWeek 47 = .ok (.ireturn, 1) := by decide +kernel
theorem dX11_takesWeek_48 : decode cX11_takesWeek 48 = .ok (.aload_n 0, 1) := by decide +kernel
theorem dX11_takesWeek_49 : decode cX11_takesWeek 49 = .ok (.getfield 36, 3) := by decide +kernel
theorem dX11_takesWeek_52 : decode cX11_takesWeek 52 = .ok (.bipush 55, 2) := by decide +kernel
theorem dX11_takesWeek_54 : decode cX11_takesWeek 54 = .ok (.iload_n 1, 1) := by decide +kernel
theorem dX11_takesWeek_55 : decode cX11_takesWeek 55 = .ok (.iadd, 1) := by decide +kernel
theorem dX11_takesWeek_56 : decode cX11_takesWeek 56 = .ok (.aload_n 0, 1) := by decide +kernel
theorem dX11_takesWeek_57 : decode cX11_takesWeek 57 = .ok (.getfield 39, 3) := by decide +kernel
theorem dX11_takesWeek_60 : decode cX11_takesWeek 60 = .ok (.iconst 0, 1) := by decide +kernel
theorem dX11_takesWeek_61 : decode cX11_takesWeek 61 = .ok (.iaload, 1) := by decide +kernel
theorem dX11_takesWeek_62 : decode cX11_takesWeek 62 = .ok (.iastore, 1) := by decide +kernel
theorem dX11_takesWeek_63 : decode cX11_takesWeek 63 = .ok (.aload_n 0, 1) := by decide +kernel
theorem dX11_takesWeek_64 : decode cX11_takesWeek 64 = .ok (.getfield 36, 3) := by decide +kernel
theorem dX11_takesWeek_67 : decode cX11_takesWeek 67 = .ok (.bipush 62, 2) := by decide +kernel
theorem dX11_takesWeek_69 : decode cX11_takesWeek 69 = .ok (.iload_n 1, 1) := by decide +kernel
theorem dX11_takesWeek_70 : decode cX11_takesWeek 70 = .ok (.iadd, 1) := by decide +kernel
theorem dX11_takesWeek_71 : decode cX11_takesWeek 71 = .ok (.aload_n 0, 1) := by decide +kernel
theorem dX11_takesWeek_72 : decode cX11_takesWeek 72 = .ok (.getfield 39, 3) := by decide +kernel
theorem dX11_takesWeek_75 : decode cX11_takesWeek 75 = .ok (.iconst 1, 1) := by decide +kernel
theorem dX11_takesWeek_76 : decode cX11_takesWeek 76 = .ok (.iaload, 1) := by decide +kernel
theorem dX11_takesWeek_77 : decode cX11_takesWeek 77 = .ok (.iastore, 1) := by decide +kernel
theorem dX11_takesWeek_78 : decode cX11_takesWeek 78 = .ok (.iinc 1 1, 3) := by decide +kernel
theorem dX11_takesWeek_81 : decode cX11_takesWeek 81 = .ok (.goto (-75), 3) := by decide +kernel
theorem dX11_takesWeek_84 : decode cX11_takesWeek 84 = .ok (.iconst 1, 1) := by decide +kernel
theorem dX11_takesWeek_85 : decode cX11_takesWeek 85 = .ok (.ireturn, 1) := by decide +kernel
theorem dX11_takesVoter_0 : decode cX11_takesVoter 0 = .ok (.aload_n 0, 1) := by decide +kernel
theorem dX11_takesVoter_1 : decode cX11_takesVoter 1 = .ok (.getfield 36, 3) := by decide +kernel
theorem dX11_takesVoter_4 : decode cX11_takesVoter 4 = .ok (.iconst 0, 1) := by decide +kernel
theorem dX11_takesVoter_5 : decode cX11_takesVoter 5 = .ok (.iaload, 1) := by decide +kernel
theorem dX11_takesVoter_6 : decode cX11_takesVoter 6 = .ok (.bipush 7, 2) := by decide +kernel
theorem dX11_takesVoter_8 : decode cX11_takesVoter 8 = .ok (.if_icmp .ne 5, 3) := by decide +kernel
theorem dX11_takesVoter_11 : decode cX11_takesVoter 11 = .ok (.iconst 0, 1) := by decide +kernel
theorem dX11_takesVoter_12 : decode cX11_takesVoter 12 = .ok (.ireturn, 1) := by decide +kernel
theorem dX11_takesVoter_13 : decode cX11_takesVoter 13 = .ok (.aload_n 0, 1) := by decide +kernel
theorem dX11_takesVoter_14 : decode cX11_takesVoter 14 = .ok (.invokevirtual 263, 3) := by decide +kernel
theorem dX11_takesVoter_17 : decode cX11_takesVoter 17 = .ok (.aload_n 0, 1) := by decide +kernel
theorem dX11_takesVoter_18 : decode cX11_takesVoter 18 = .ok (.iconst 0, 1) := by decide +kernel
theorem dX11_takesVoter_19 : decode cX11_takesVoter 19 = .ok (.iconst 0, 1) := by decide +kernel
theorem dX11_takesVoter_20 : decode cX11_takesVoter 20 = .ok (.iconst 5, 1) := by decide +kernel
theorem dX11_takesVoter_21 : decode cX11_takesVoter 21 = .ok (.invokevirtual 270, 3) := by decide +kernel
theorem dX11_takesVoter_24 : decode cX11_takesVoter 24 = .ok (.ifCond .eq 25, 3) := by decide +kernel
theorem dX11_takesVoter_27 : decode cX11_takesVoter 27 = .ok (.aload_n 0, 1) := by decide +kernel
theorem dX11_takesVoter_28 : decode cX11_takesVoter 28 = .ok (.iconst 1, 1) := by decide +kernel
theorem dX11_takesVoter_29 : decode cX11_takesVoter 29 = .ok (.iconst 1, 1) := by decide +kernel
theorem dX11_takesVoter_30 : decode cX11_takesVoter 30 = .ok (.bipush 99, 2) := by decide +kernel
theorem dX11_takesVoter_32 : decode cX11_takesVoter 32 = .ok (.invokevirtual 270, 3) := by decide +kernel
theorem dX11_takesVoter_35 : decode cX11_takesVoter 35 = .ok (.ifCond .eq 14, 3) := by decide +kernel
theorem dX11_takesVoter_38 : decode cX11_takesVoter 38 = .ok (.aload_n 0, 1) := by decide +kernel
theorem dX11_takesVoter_39 : decode cX11_takesVoter 39 = .ok (.iconst 2, 1) := by decide +kernel
theorem dX11_takesVoter_40 : decode cX11_takesVoter 40 = .ok (.iconst 0, 1) := by decide +kernel
theorem dX11_takesVoter_41 : decode cX11_takesVoter 41 = .ok (.bipush 24, 2) := by decide +kernel
theorem dX11_takesVoter_43 : decode cX11_takesVoter 43 = .ok (.invokevirtual 270, 3) := by decide +kernel
theorem dX11_takesVoter_46 : decode cX11_takesVoter 46 = .ok (.ifCond .ne 5, 3) := by decide +kernel
theorem dX11_takesVoter_49 : decode cX11_takesVoter 49 = .ok (.iconst 0, 1) := by decide +kernel
theorem dX11_takesVoter_50 : decode cX11_takesVoter 50 = .ok (.ireturn, 1) := by decide +kernel
theorem dX11_takesVoter_51 : decode cX11_takesVoter 51 = .ok (.aload_n 0, 1) := by decide +kernel
theorem dX11_takesVoter_52 : decode cX11_takesVoter 52 = .ok (.getfield 36, 3) := by decide +kernel
theorem dX11_takesVoter_55 : decode cX11_takesVoter 55 = .ok (.aload_n 0, 1) := by decide +kernel
theorem dX11_takesVoter_56 : decode cX11_takesVoter 56 = .ok (.getfield 39, 3) := by decide +kernel
theorem dX11_takesVoter_59 : decode cX11_takesVoter 59 = .ok (.iconst 0, 1) := by decide +kernel
theorem dX11_takesVoter_60 : decode cX11_takesVoter 60 = .ok (.iaload, 1) := by decide +kernel
theorem dX11_takesVoter_61 : decode cX11_takesVoter 61 = .ok (.aload_n 0, 1) := by decide +kernel
theorem dX11_takesVoter_62 : decode cX11_takesVoter 62 = .ok (.getfield 39, 3) := by decide +kernel
theorem dX11_takesVoter_65 : decode cX11_takesVoter 65 = .ok (.iconst 1, 1) := by decide +kernel
theorem dX11_takesVoter_66 : decode cX11_takesVoter 66 = .ok (.iaload, 1) := by decide +kernel
theorem dX11_takesVoter_67 : decode cX11_takesVoter 67 = .ok (.aload_n 0, 1) := by decide +kernel
theorem dX11_takesVoter_68 : decode cX11_takesVoter 68 = .ok (.getfield 39, 3) := by decide +kernel
theorem dX11_takesVoter_71 : decode cX11_takesVoter 71 = .ok (.iconst 2, 1) := by decide +kernel
theorem dX11_takesVoter_72 : decode cX11_takesVoter 72 = .ok (.iaload, 1) := by decide +kernel
theorem dX11_takesVoter_73 : decode cX11_takesVoter 73 = .ok (.invokestatic 85, 3) := by decide +kernel
theorem dX11_takesVoter_76 : decode cX11_takesVoter 76 = .ok (.iconst 1, 1) := by decide +kernel
theorem dX11_takesVoter_77 : decode cX11_takesVoter 77 = .ok (.ireturn, 1) := by decide +kernel
theorem dX11_takesItem_0 : decode cX11_takesItem 0 = .ok (.aload_n 0, 1) := by decide +kernel
theorem dX11_takesItem_1 : decode cX11_takesItem 1 = .ok (.iconst 4, 1) := by decide +kernel
theorem dX11_takesItem_2 : decode cX11_takesItem 2 = .ok (.bipush 99, 2) := by decide +kernel
theorem dX11_takesItem_4 : decode cX11_takesItem 4 = .ok (.bipush 101, 2) := by decide +kernel
theorem dX11_takesItem_6 : decode cX11_takesItem 6 = .ok (.bipush 108, 2) := by decide +kernel
theorem dX11_takesItem_8 : decode cX11_takesItem 8 = .ok (.bipush 108, 2) := by decide +kernel
theorem dX11_takesItem_10 : decode cX11_takesItem 10 = .ok (.iconst 0, 1) := by decide +kernel
theorem dX11_takesItem_11 : decode cX11_takesItem 11 = .ok (.iconst 0, 1) := by decide +kernel
theorem dX11_takesItem_12 : decode cX11_takesItem 12 = .ok (.invokevirtual 266, 3) := by decide +kernel
theorem dX11_takesItem_15 : decode cX11_takesItem 15 = .ok (.ifCond .eq 8, 3) := by decide +kernel
theorem dX11_takesItem_18 : decode cX11_takesItem 18 = .ok (.aload_n 0, 1) := by decide +kernel
theorem dX11_takesItem_19 : decode cX11_takesItem 19 = .ok (.invokevirtual 274, 3) := by decide +kernel
theorem dX11_takesItem_22 : decode cX11_takesItem 22 = .ok (.ireturn, 1) := by decide +kernel
theorem dX11_takesItem_23 : decode cX11_takesItem 23 = .ok (.aload_n 0, 1) := by decide +kernel
theorem dX11_takesItem_24 : decode cX11_takesItem 24 = .ok (.iconst 4, 1) := by decide +kernel
theorem dX11_takesItem_25 : decode cX11_takesItem 25 = .ok (.bipush 119, 2) := by decide +kernel
theorem dX11_takesItem_27 : decode cX11_takesItem 27 = .ok (.bipush 101, 2) := by decide +kernel
theorem dX11_takesItem_29 : decode cX11_takesItem 29 = .ok (.bipush 101, 2) := by decide +kernel
theorem dX11_takesItem_31 : decode cX11_takesItem 31 = .ok (.bipush 107, 2) := by decide +kernel
theorem dX11_takesItem_33 : decode cX11_takesItem 33 = .ok (.iconst 0, 1) := by decide +kernel
theorem dX11_takesItem_34 : decode cX11_takesItem 34 = .ok (.iconst 0, 1) := by decide +kernel
theorem dX11_takesItem_35 : decode cX11_takesItem 35 = .ok (.invokevirtual 266, 3) := by decide +kernel
theorem dX11_takesItem_38 : decode cX11_takesItem 38 = .ok (.ifCond .eq 8, 3) := by decide +kernel
theorem dX11_takesItem_41 : decode cX11_takesItem 41 = .ok (.aload_n 0, 1) := by decide +kernel
theorem dX11_takesItem_42 : decode cX11_takesItem 42 = .ok (.invokevirtual 278, 3) := by decide +kernel
theorem dX11_takesItem_45 : decode cX11_takesItem 45 = .ok (.ireturn, 1) := by decide +kernel
theorem dX11_takesItem_46 : decode cX11_takesItem 46 = .ok (.aload_n 0, 1) := by decide +kernel
theorem dX11_takesItem_47 : decode cX11_takesItem 47 = .ok (.iconst 5, 1) := by decide +kernel
theorem dX11_takesItem_48 : decode cX11_takesItem 48 = .ok (.bipush 118, 2) := by decide +kernel
theorem dX11_takesItem_50 : decode cX11_takesItem 50 = .ok (.bipush 111, 2) := by decide +kernel
theorem dX11_takesItem_52 : decode cX11_takesItem 52 = .ok (.bipush 116, 2) := by decide +kernel
theorem dX11_takesItem_54 : decode cX11_takesItem 54 = .ok (.bipush 101, 2) := by decide +kernel
theorem dX11_takesItem_56 : decode cX11_takesItem 56 = .ok (.bipush 114, 2) := by decide +kernel
theorem dX11_takesItem_58 : decode cX11_takesItem 58 = .ok (.iconst 0, 1) := by decide +kernel
theorem dX11_takesItem_59 : decode cX11_takesItem 59 = .ok (.invokevirtual 266, 3) := by decide +kernel
theorem dX11_takesItem_62 : decode cX11_takesItem 62 = .ok (.ifCond .eq 14, 3) := by decide +kernel
theorem dX11_takesItem_65 : decode cX11_takesItem 65 = .ok (.aload_n 0, 1) := by decide +kernel
theorem dX11_takesItem_66 : decode cX11_takesItem 66 = .ok (.invokevirtual 281, 3) := by decide +kernel
theorem dX11_takesItem_69 : decode cX11_takesItem 69 = .ok (.ifCond .eq 7, 3) := by decide +kernel
theorem dX11_takesItem_72 : decode cX11_takesItem 72 = .ok (.iconst 1, 1) := by decide +kernel
theorem dX11_takesItem_73 : decode cX11_takesItem 73 = .ok (.goto 4, 3) := by decide +kernel
theorem dX11_takesItem_76 : decode cX11_takesItem 76 = .ok (.iconst 0, 1) := by decide +kernel
theorem dX11_takesItem_77 : decode cX11_takesItem 77 = .ok (.ireturn, 1) := by decide +kernel
theorem dX11_read_0 : decode cX11_read 0 = .ok (.aload_n 0, 1) := by decide +kernel
theorem dX11_read_1 : decode cX11_read 1 = .ok (.iconst 0, 1) := by decide +kernel
theorem dX11_read_2 : decode cX11_read 2 = .ok (.invokevirtual 260, 3) := by decide +kernel
theorem dX11_read_5 : decode cX11_read 5 = .ok (.aload_n 0, 1) := by decide +kernel
theorem dX11_read_6 : decode cX11_read 6 = .ok (.invokevirtual 284, 3) := by decide +kernel
theorem dX11_read_9 : decode cX11_read 9 = .ok (.ifCond .ne 11, 3) := by decide +kernel
theorem dX11_read_12 : decode cX11_read 12 = .ok (.bipush (-10), 2) := by decide +kernel
theorem dX11_read_14 : decode cX11_read 14 = .ok (.aload_n 0, 1) := by decide +kernel
theorem dX11_read_15 : decode cX11_read 15 = .ok (.getfield 242, 3) := by decide +kernel
theorem dX11_read_18 : decode cX11_read 18 = .ok (.isub, 1) := by decide +kernel
theorem dX11_read_19 : decode cX11_read 19 = .ok (.ireturn, 1) := by decide +kernel
theorem dX11_read_20 : decode cX11_read 20 = .ok (.aload_n 0, 1) := by decide +kernel
theorem dX11_read_21 : decode cX11_read 21 = .ok (.invokevirtual 263, 3) := by decide +kernel
theorem dX11_read_24 : decode cX11_read 24 = .ok (.iconst 1, 1) := by decide +kernel
theorem dX11_read_25 : decode cX11_read 25 = .ok (.istore_n 1, 1) := by decide +kernel
theorem dX11_read_26 : decode cX11_read 26 = .ok (.aload_n 0, 1) := by decide +kernel
theorem dX11_read_27 : decode cX11_read 27 = .ok (.getfield 248, 3) := by decide +kernel
theorem dX11_read_30 : decode cX11_read 30 = .ok (.ifCond .eq 36, 3) := by decide +kernel
theorem dX11_read_33 : decode cX11_read 33 = .ok (.aload_n 0, 1) := by decide +kernel
theorem dX11_read_34 : decode cX11_read 34 = .ok (.invokevirtual 287, 3) := by decide +kernel
theorem dX11_read_37 : decode cX11_read 37 = .ok (.ifCond .eq 11, 3) := by decide +kernel
theorem dX11_read_40 : decode cX11_read 40 = .ok (.aload_n 0, 1) := by decide +kernel
theorem dX11_read_41 : decode cX11_read 41 = .ok (.getfield 248, 3) := by decide +kernel
theorem dX11_read_44 : decode cX11_read 44 = .ok (.iconst 3, 1) := by decide +kernel
theorem dX11_read_45 : decode cX11_read 45 = .ok (.if_icmp .eq 11, 3) := by decide +kernel
theorem dX11_read_48 : decode cX11_read 48 = .ok (.bipush (-10), 2) := by decide +kernel
theorem dX11_read_50 : decode cX11_read 50 = .ok (.aload_n 0, 1) := by decide +kernel
theorem dX11_read_51 : decode cX11_read 51 = .ok (.getfield 242, 3) := by decide +kernel
theorem dX11_read_54 : decode cX11_read 54 = .ok (.isub, 1) := by decide +kernel
theorem dX11_read_55 : decode cX11_read 55 = .ok (.ireturn, 1) := by decide +kernel
theorem dX11_read_56 : decode cX11_read 56 = .ok (.aload_n 0, 1) := by decide +kernel
theorem dX11_read_57 : decode cX11_read 57 = .ok (.invokevirtual 263, 3) := by decide +kernel
theorem dX11_read_60 : decode cX11_read 60 = .ok (.iinc 1 1, 3) := by decide +kernel
theorem dX11_read_63 : decode cX11_read 63 = .ok (.goto (-37), 3) := by decide +kernel
theorem dX11_read_66 : decode cX11_read 66 = .ok (.iconst 0, 1) := by decide +kernel
theorem dX11_read_67 : decode cX11_read 67 = .ok (.istore_n 2, 1) := by decide +kernel
theorem dX11_read_68 : decode cX11_read 68 = .ok (.iload_n 2, 1) := by decide +kernel
theorem dX11_read_69 : decode cX11_read 69 = .ok (.sipush 154, 3) := by decide +kernel
theorem dX11_read_72 : decode cX11_read 72 = .ok (.if_icmp .ge 21, 3) := by decide +kernel
theorem dX11_read_75 : decode cX11_read 75 = .ok (.aload_n 0, 1) := by decide +kernel
theorem dX11_read_76 : decode cX11_read 76 = .ok (.getfield 7, 3) := by decide +kernel
theorem dX11_read_79 : decode cX11_read 79 = .ok (.iload_n 2, 1) := by decide +kernel
theorem dX11_read_80 : decode cX11_read 80 = .ok (.aload_n 0, 1) := by decide +kernel
theorem dX11_read_81 : decode cX11_read 81 = .ok (.getfield 36, 3) := by decide +kernel
theorem dX11_read_84 : decode cX11_read 84 = .ok (.iload_n 2, 1) := by decide +kernel
theorem dX11_read_85 : decode cX11_read 85 = .ok (.iaload, 1) := by decide +kernel
theorem dX11_read_86 : decode cX11_read 86 = .ok (.iastore, 1) := by decide +kernel
theorem dX11_read_87 : decode cX11_read 87 = .ok (.iinc 2 1, 3) := by decide +kernel
theorem dX11_read_90 : decode cX11_read 90 = .ok (.goto (-22), 3) := by decide +kernel
theorem dX11_read_93 : decode cX11_read 93 = .ok (.iload_n 1, 1) := by decide +kernel
theorem dX11_read_94 : decode cX11_read 94 = .ok (.ireturn, 1) := by decide +kernel
theorem dX11_part_0 : decode cX11_part 0 = .ok (.iload_n 1, 1) := by decide +kernel
theorem dX11_part_1 : decode cX11_part 1 = .ok (.ifCond .ne 10, 3) := by decide +kernel
theorem dX11_part_4 : decode cX11_part 4 = .ok (.aload_n 0, 1) := by decide +kernel
theorem dX11_part_5 : decode cX11_part 5 = .ok (.getfield 205, 3) := by decide +kernel
theorem dX11_part_8 : decode cX11_part 8 = .ok (.goto 22, 3) := by decide +kernel
theorem dX11_part_11 : decode cX11_part 11 = .ok (.iload_n 1, 1) := by decide +kernel
theorem dX11_part_12 : decode cX11_part 12 = .ok (.iconst 1, 1) := by decide +kernel
theorem dX11_part_13 : decode cX11_part 13 = .ok (.if_icmp .ne 10, 3) := by decide +kernel
theorem dX11_part_16 : decode cX11_part 16 = .ok (.aload_n 0, 1) := by decide +kernel
theorem dX11_part_17 : decode cX11_part 17 = .ok (.getfield 23, 3) := by decide +kernel
theorem dX11_part_20 : decode cX11_part 20 = .ok (.goto 10, 3) := by decide +kernel
theorem dX11_part_23 : decode cX11_part 23 = .ok (.aload_n 0, 1) := by decide +kernel
theorem dX11_part_24 : decode cX11_part 24 = .ok (.bipush (-2), 2) := by decide +kernel
theorem dX11_part_26 : decode cX11_part 26 = .ok (.invokevirtual 66, 3) := by decide +kernel
theorem dX11_part_29 : decode cX11_part 29 = .ok (.i2l, 1) := by decide +kernel
theorem dX11_part_30 : decode cX11_part 30 = .ok (.lreturn, 1) := by decide +kernel
theorem dX11_image_0 : decode cX11_image 0 = .ok (.iload_n 1, 1) := by decide +kernel
theorem dX11_image_1 : decode cX11_image 1 = .ok (.i2l, 1) := by decide +kernel
theorem dX11_image_2 : decode cX11_image 2 = .ok (.lconst 0, 1) := by decide +kernel
theorem dX11_image_3 : decode cX11_image 3 = .ok (.lconst 1, 1) := by decide +kernel
theorem dX11_image_4 : decode cX11_image 4 = .ok (.invokestatic 50, 3) := by decide +kernel
theorem dX11_image_7 : decode cX11_image 7 = .ok (.ifCond .ne 10, 3) := by decide +kernel
theorem dX11_image_10 : decode cX11_image 10 = .ok (.aload_n 0, 1) := by decide +kernel
theorem dX11_image_11 : decode cX11_image 11 = .ok (.bipush (-2), 2) := by decide +kernel
theorem dX11_image_13 : decode cX11_image 13 = .ok (.invokevirtual 66, 3) := by decide +kernel
theorem dX11_image_16 : decode cX11_image 16 = .ok (.ireturn, 1) := by decide +kernel
theorem dX11_image_17 : decode cX11_image 17 = .ok (.iconst 0, 1) := by decide +kernel
theorem dX11_image_18 : decode cX11_image 18 = .ok (.istore_n 2, 1) := by decide +kernel
theorem dX11_image_19 : decode cX11_image 19 = .ok (.iload_n 2, 1) := by decide +kernel
theorem dX11_image_20 : decode cX11_image 20 = .ok (.sipush 362, 3) := by decide +kernel
theorem dX11_image_23 : decode cX11_image 23 = .ok (.if_icmp .ge 27, 3) := by decide +kernel
theorem dX11_image_26 : decode cX11_image 26 = .ok (.aload_n 0, 1) := by decide +kernel
theorem dX11_image_27 : decode cX11_image 27 = .ok (.getfield 13, 3) := by decide +kernel
theorem dX11_image_30 : decode cX11_image 30 = .ok (.sipush 362, 3) := by decide +kernel
theorem dX11_image_33 : decode cX11_image 33 = .ok (.iload_n 1, 1) := by decide +kernel
theorem dX11_image_34 : decode cX11_image 34 = .ok (.imul, 1) := by decide +kernel
theorem dX11_image_35 : decode cX11_image 35 = .ok (.iload_n 2, 1) := by decide +kernel
theorem dX11_image_36 : decode cX11_image 36 = .ok (.iadd, 1) := by decide +kernel
theorem dX11_image_37 : decode cX11_image 37 = .ok (.aload_n 0, 1) := by decide +kernel
theorem dX11_image_38 : decode cX11_image 38 = .ok (.getfield 7, 3) := by decide +kernel
theorem dX11_image_41 : decode cX11_image 41 = .ok (.iload_n 2, 1) := by decide +kernel
theorem dX11_image_42 : decode cX11_image 42 = .ok (.iaload, 1) := by decide +kernel
theorem dX11_image_43 : decode cX11_image 43 = .ok (.iastore, 1) := by decide +kernel
theorem dX11_image_44 : decode cX11_image 44 = .ok (.iinc 2 1, 3) := by decide +kernel
theorem dX11_image_47 : decode cX11_image 47 = .ok (.goto (-28), 3) := by decide +kernel
theorem dX11_image_50 : decode cX11_image 50 = .ok (.aload_n 0, 1) := by decide +kernel
theorem dX11_image_51 : decode cX11_image 51 = .ok (.getfield 16, 3) := by decide +kernel
theorem dX11_image_54 : decode cX11_image 54 = .ok (.iload_n 1, 1) := by decide +kernel
theorem dX11_image_55 : decode cX11_image 55 = .ok (.iconst 1, 1) := by decide +kernel
theorem dX11_image_56 : decode cX11_image 56 = .ok (.bastore, 1) := by decide +kernel
theorem dX11_image_57 : decode cX11_image 57 = .ok (.iconst 1, 1) := by decide +kernel
theorem dX11_image_58 : decode cX11_image 58 = .ok (.ireturn, 1) := by decide +kernel
theorem dX11_from_0 : decode cX11_from 0 = .ok (.iload_n 1, 1) := by decide +kernel
theorem dX11_from_1 : decode cX11_from 1 = .ok (.i2l, 1) := by decide +kernel
theorem dX11_from_2 : decode cX11_from 2 = .ok (.lconst 0, 1) := by decide +kernel
theorem dX11_from_3 : decode cX11_from 3 = .ok (.lconst 1, 1) := by decide +kernel
theorem dX11_from_4 : decode cX11_from 4 = .ok (.invokestatic 50, 3) := by decide +kernel
theorem dX11_from_7 : decode cX11_from 7 = .ok (.ifCond .ne 10, 3) := by decide +kernel
theorem dX11_from_10 : decode cX11_from 10 = .ok (.aload_n 0, 1) := by decide +kernel
theorem dX11_from_11 : decode cX11_from 11 = .ok (.bipush (-2), 2) := by decide +kernel
theorem dX11_from_13 : decode cX11_from 13 = .ok (.invokevirtual 66, 3) := by decide +kernel
theorem dX11_from_16 : decode cX11_from 16 = .ok (.ireturn, 1) := by decide +kernel
theorem dX11_from_17 : decode cX11_from 17 = .ok (.aload_n 0, 1) := by decide +kernel
theorem dX11_from_18 : decode cX11_from 18 = .ok (.getfield 16, 3) := by decide +kernel
theorem dX11_from_21 : decode cX11_from 21 = .ok (.iload_n 1, 1) := by decide +kernel
theorem dX11_from_22 : decode cX11_from 22 = .ok (.baload, 1) := by decide +kernel
theorem dX11_from_23 : decode cX11_from 23 = .ok (.ifCond .ne 8, 3) := by decide +kernel
theorem dX11_from_26 : decode cX11_from 26 = .ok (.aload_n 0, 1) := by decide +kernel
theorem dX11_from_27 : decode cX11_from 27 = .ok (.invokevirtual 134, 3) := by decide +kernel
theorem dX11_from_30 : decode cX11_from 30 = .ok (.ireturn, 1) := by decide +kernel
theorem dX11_from_31 : decode cX11_from 31 = .ok (.iconst 0, 1) := by decide +kernel
theorem dX11_from_32 : decode cX11_from 32 = .ok (.istore_n 2, 1) := by decide +kernel
theorem dX11_from_33 : decode cX11_from 33 = .ok (.iload_n 2, 1) := by decide +kernel
theorem dX11_from_34 : decode cX11_from 34 = .ok (.sipush 362, 3) := by decide +kernel
theorem dX11_from_37 : decode cX11_from 37 = .ok (.if_icmp .ge 27, 3) := by decide +kernel
theorem dX11_from_40 : decode cX11_from 40 = .ok (.aload_n 0, 1) := by decide +kernel
theorem dX11_from_41 : decode cX11_from 41 = .ok (.getfield 7, 3) := by decide +kernel
theorem dX11_from_44 : decode cX11_from 44 = .ok (.iload_n 2, 1) := by decide +kernel
theorem dX11_from_45 : decode cX11_from 45 = .ok (.aload_n 0, 1) := by decide +kernel
theorem dX11_from_46 : decode cX11_from 46 = .ok (.getfield 13, 3) := by decide +kernel
theorem dX11_from_49 : decode cX11_from 49 = .ok (.sipush 362, 3) := by decide +kernel
theorem dX11_from_52 : decode cX11_from 52 = .ok (.iload_n 1, 1) := by decide +kernel
theorem dX11_from_53 : decode cX11_from 53 = .ok (.imul, 1) := by decide +kernel
theorem dX11_from_54 : decode cX11_from 54 = .ok (.iload_n 2, 1) := by decide +kernel
theorem dX11_from_55 : decode cX11_from 55 = .ok (.iadd, 1) := by decide +kernel
theorem dX11_from_56 : decode cX11_from 56 = .ok (.iaload, 1) := by decide +kernel
theorem dX11_from_57 : decode cX11_from 57 = .ok (.iastore, 1) := by decide +kernel
theorem dX11_from_58 : decode cX11_from 58 = .ok (.iinc 2 1, 3) := by decide +kernel
theorem dX11_from_61 : decode cX11_from 61 = .ok (.goto (-28), 3) := by decide +kernel
theorem dX11_from_64 : decode cX11_from 64 = .ok (.iconst 1, 1) := by decide +kernel
theorem dX11_from_65 : decode cX11_from 65 = .ok (.ireturn, 1) := by decide +kernel
theorem dX11_status_0 : decode cX11_status 0 = .ok (.iload_n 1, 1) := by decide +kernel
theorem dX11_status_1 : decode cX11_status 1 = .ok (.i2l, 1) := by decide +kernel
theorem dX11_status_2 : decode cX11_status 2 = .ok (.lconst 0, 1) := by decide +kernel
theorem dX11_status_3 : decode cX11_status 3 = .ok (.ldc2_w 137, 3) := by decide +kernel
theorem dX11_status_6 : decode cX11_status 6 = .ok (.invokestatic 50, 3) := by decide +kernel
theorem dX11_status_9 : decode cX11_status 9 = .ok (.ifCond .eq 12, 3) := by decide +kernel
theorem dX11_status_12 : decode cX11_status 12 = .ok (.aload_n 0, 1) := by decide +kernel
theorem dX11_status_13 : decode cX11_status 13 = .ok (.getfield 20, 3) := by decide +kernel
theorem dX11_status_16 : decode cX11_status 16 = .ok (.iload_n 1, 1) := by decide +kernel
theorem dX11_status_17 : decode cX11_status 17 = .ok (.iaload, 1) := by decide +kernel
theorem dX11_status_18 : decode cX11_status 18 = .ok (.goto 8, 3) := by decide +kernel
theorem dX11_status_21 : decode cX11_status 21 = .ok (.aload_n 0, 1) := by decide +kernel
theorem dX11_status_22 : decode cX11_status 22 = .ok (.iconst (-1), 1) := by decide +kernel
theorem dX11_status_23 : decode cX11_status 23 = .ok (.invokevirtual 66, 3) := by decide +kernel
theorem dX11_status_26 : decode cX11_status 26 = .ok (.ireturn, 1) := by decide +kernel
theorem dX11_counted_0 : decode cX11_counted 0 = .ok (.iload_n 1, 1) := by decide +kernel
theorem dX11_counted_1 : decode cX11_counted 1 = .ok (.tableswitch 78 0 5 #[39, 44, 52, 57, 64, 71], 39) := by decide +kernel
theorem dX11_counted_40 : decode cX11_counted 40 = .ok (.aload_n 0, 1) := by decide +kernel
theorem dX11_counted_41 : decode cX11_counted 41 = .ok (.invokevirtual 46, 3) := by decide +kernel
theorem dX11_counted_44 : decode cX11_counted 44 = .ok (.ireturn, 1) := by decide +kernel
theorem dX11_counted_45 : decode cX11_counted 45 = .ok (.aload_n 0, 1) := by decide +kernel
theorem dX11_counted_46 : decode cX11_counted 46 = .ok (.getfield 7, 3) := by decide +kernel
theorem dX11_counted_49 : decode cX11_counted 49 = .ok (.bipush 29, 2) := by decide +kernel
theorem dX11_counted_51 : decode cX11_counted 51 = .ok (.iaload, 1) := by decide +kernel
theorem dX11_counted_52 : decode cX11_counted 52 = .ok (.ireturn, 1) := by decide +kernel
theorem dX11_counted_53 : decode cX11_counted 53 = .ok (.aload_n 0, 1) := by decide +kernel
theorem dX11_counted_54 : decode cX11_counted 54 = .ok (.invokevirtual 131, 3) := by decide +kernel
theorem dX11_counted_57 : decode cX11_counted 57 = .ok (.ireturn, 1) := by decide +kernel
theorem dX11_counted_58 : decode cX11_counted 58 = .ok (.aload_n 0, 1) := by decide +kernel
theorem dX11_counted_59 : decode cX11_counted 59 = .ok (.getfield 7, 3) := by decide +kernel
theorem dX11_counted_62 : decode cX11_counted 62 = .ok (.iconst 1, 1) := by decide +kernel
theorem dX11_counted_63 : decode cX11_counted 63 = .ok (.iaload, 1) := by decide +kernel
theorem dX11_counted_64 : decode cX11_counted 64 = .ok (.ireturn, 1) := by decide +kernel
theorem dX11_counted_65 : decode cX11_counted 65 = .ok (.aload_n 0, 1) := by decide +kernel
theorem dX11_counted_66 : decode cX11_counted 66 = .ok (.getfield 7, 3) := by decide +kernel
theorem dX11_counted_69 : decode cX11_counted 69 = .ok (.iconst 2, 1) := by decide +kernel
theorem dX11_counted_70 : decode cX11_counted 70 = .ok (.iaload, 1) := by decide +kernel
theorem dX11_counted_71 : decode cX11_counted 71 = .ok (.ireturn, 1) := by decide +kernel
theorem dX11_counted_72 : decode cX11_counted 72 = .ok (.aload_n 0, 1) := by decide +kernel
theorem dX11_counted_73 : decode cX11_counted 73 = .ok (.getfield 7, 3) := by decide +kernel
theorem dX11_counted_76 : decode cX11_counted 76 = .ok (.iconst 3, 1) := by decide +kernel
theorem dX11_counted_77 : decode cX11_counted 77 = .ok (.iaload, 1) := by decide +kernel
theorem dX11_counted_78 : decode cX11_counted 78 = .ok (.ireturn, 1) := by decide +kernel
theorem dX11_counted_79 : decode cX11_counted 79 = .ok (.aload_n 0, 1) := by decide +kernel
theorem dX11_counted_80 : decode cX11_counted 80 = .ok (.getfield 230, 3) := by decide +kernel
theorem dX11_counted_83 : decode cX11_counted 83 = .ok (.ireturn, 1) := by decide +kernel
theorem dX11_count_0 : decode cX11_count 0 = .ok (.iload_n 1, 1) := by decide +kernel
theorem dX11_count_1 : decode cX11_count 1 = .ok (.i2l, 1) := by decide +kernel
theorem dX11_count_2 : decode cX11_count 2 = .ok (.lconst 0, 1) := by decide +kernel
theorem dX11_count_3 : decode cX11_count 3 = .ok (.ldc2_w 75, 3) := by decide +kernel
theorem dX11_count_6 : decode cX11_count 6 = .ok (.invokestatic 50, 3) := by decide +kernel
theorem dX11_count_9 : decode cX11_count 9 = .ok (.ifCond .eq 11, 3) := by decide +kernel
theorem dX11_count_12 : decode cX11_count 12 = .ok (.aload_n 0, 1) := by decide +kernel
theorem dX11_count_13 : decode cX11_count 13 = .ok (.iload_n 1, 1) := by decide +kernel
theorem dX11_count_14 : decode cX11_count 14 = .ok (.invokevirtual 290, 3) := by decide +kernel
theorem dX11_count_17 : decode cX11_count 17 = .ok (.goto 9, 3) := by decide +kernel
theorem dX11_count_20 : decode cX11_count 20 = .ok (.aload_n 0, 1) := by decide +kernel
theorem dX11_count_21 : decode cX11_count 21 = .ok (.bipush (-2), 2) := by decide +kernel
theorem dX11_count_23 : decode cX11_count 23 = .ok (.invokevirtual 66, 3) := by decide +kernel
theorem dX11_count_26 : decode cX11_count 26 = .ok (.ireturn, 1) := by decide +kernel
theorem dX11_sums_0 : decode cX11_sums 0 = .ok (.lload_n 1, 1) := by decide +kernel
theorem dX11_sums_1 : decode cX11_sums 1 = .ok (.lstore 5, 2) := by decide +kernel
theorem dX11_sums_3 : decode cX11_sums 3 = .ok (.iconst 0, 1) := by decide +kernel
theorem dX11_sums_4 : decode cX11_sums 4 = .ok (.istore 7, 2) := by decide +kernel
theorem dX11_sums_6 : decode cX11_sums 6 = .ok (.iload 7, 2) := by decide +kernel
theorem dX11_sums_8 : decode cX11_sums 8 = .ok (.iload 4, 2) := by decide +kernel
theorem dX11_sums_10 : decode cX11_sums 10 = .ok (.if_icmp .ge 28, 3) := by decide +kernel
theorem dX11_sums_13 : decode cX11_sums 13 = .ok (.ldc2_w 293, 3) := by decide +kernel
theorem dX11_sums_16 : decode cX11_sums 16 = .ok (.lload 5, 2) := by decide +kernel
theorem dX11_sums_18 : decode cX11_sums 18 = .ok (.lmul, 1) := by decide +kernel
theorem dX11_sums_19 : decode cX11_sums 19 = .ok (.aload_n 0, 1) := by decide +kernel
theorem dX11_sums_20 : decode cX11_sums 20 = .ok (.getfield 7, 3) := by decide +kernel
theorem dX11_sums_23 : decode cX11_sums 23 = .ok (.iload_n 3, 1) := by decide +kernel
theorem dX11_sums_24 : decode cX11_sums 24 = .ok (.iload 7, 2) := by decide +kernel
theorem dX11_sums_26 : decode cX11_sums 26 = .ok (.iadd, 1) := by decide +kernel
theorem dX11_sums_27 : decode cX11_sums 27 = .ok (.iaload, 1) := by decide +kernel
theorem dX11_sums_28 : decode cX11_sums 28 = .ok (.i2l, 1) := by decide +kernel
theorem dX11_sums_29 : decode cX11_sums 29 = .ok (.ladd, 1) := by decide +kernel
theorem dX11_sums_30 : decode cX11_sums 30 = .ok (.lstore 5, 2) := by decide +kernel
theorem dX11_sums_32 : decode cX11_sums 32 = .ok (.iinc 7 1, 3) := by decide +kernel
theorem dX11_sums_35 : decode cX11_sums 35 = .ok (.goto (-29), 3) := by decide +kernel
theorem dX11_sums_38 : decode cX11_sums 38 = .ok (.lload 5, 2) := by decide +kernel
theorem dX11_sums_40 : decode cX11_sums 40 = .ok (.lreturn, 1) := by decide +kernel
theorem dX11_digest_0 : decode cX11_digest 0 = .ok (.ldc2_w 295, 3) := by decide +kernel
theorem dX11_digest_3 : decode cX11_digest 3 = .ok (.lstore_n 1, 1) := by decide +kernel
theorem dX11_digest_4 : decode cX11_digest 4 = .ok (.iconst 0, 1) := by decide +kernel
theorem dX11_digest_5 : decode cX11_digest 5 = .ok (.istore_n 3, 1) := by decide +kernel
theorem dX11_digest_6 : decode cX11_digest 6 = .ok (.iload_n 3, 1) := by decide +kernel
theorem dX11_digest_7 : decode cX11_digest 7 = .ok (.bipush 7, 2) := by decide +kernel
theorem dX11_digest_9 : decode cX11_digest 9 = .ok (.if_icmp .ge 22, 3) := by decide +kernel
theorem dX11_digest_12 : decode cX11_digest 12 = .ok (.ldc2_w 293, 3) := by decide +kernel
theorem dX11_digest_15 : decode cX11_digest 15 = .ok (.lload_n 1, 1) := by decide +kernel
theorem dX11_digest_16 : decode cX11_digest 16 = .ok (.lmul, 1) := by decide +kernel
theorem dX11_digest_17 : decode cX11_digest 17 = .ok (.aload_n 0, 1) := by decide +kernel
theorem dX11_digest_18 : decode cX11_digest 18 = .ok (.iload_n 3, 1) := by decide +kernel
theorem dX11_digest_19 : decode cX11_digest 19 = .ok (.invokevirtual 290, 3) := by decide +kernel
theorem dX11_digest_22 : decode cX11_digest 22 = .ok (.i2l, 1) := by decide +kernel
theorem dX11_digest_23 : decode cX11_digest 23 = .ok (.ladd, 1) := by decide +kernel
theorem dX11_digest_24 : decode cX11_digest 24 = .ok (.lstore_n 1, 1) := by decide +kernel
theorem dX11_digest_25 : decode cX11_digest 25 = .ok (.iinc 3 1, 3) := by decide +kernel
theorem dX11_digest_28 : decode cX11_digest 28 = .ok (.goto (-22), 3) := by decide +kernel
theorem dX11_digest_31 : decode cX11_digest 31 = .ok (.iconst 0, 1) := by decide +kernel
theorem dX11_digest_32 : decode cX11_digest 32 = .ok (.istore_n 3, 1) := by decide +kernel
theorem dX11_digest_33 : decode cX11_digest 33 = .ok (.iload_n 3, 1) := by decide +kernel
theorem dX11_digest_34 : decode cX11_digest 34 = .ok (.bipush 25, 2) := by decide +kernel
theorem dX11_digest_36 : decode cX11_digest 36 = .ok (.if_icmp .ge 36, 3) := by decide +kernel
theorem dX11_digest_39 : decode cX11_digest 39 = .ok (.ldc2_w 293, 3) := by decide +kernel
theorem dX11_digest_42 : decode cX11_digest 42 = .ok (.ldc2_w 293, 3) := by decide +kernel
theorem dX11_digest_45 : decode cX11_digest 45 = .ok (.lload_n 1, 1) := by decide +kernel
theorem dX11_digest_46 : decode cX11_digest 46 = .ok (.lmul, 1) := by decide +kernel
theorem dX11_digest_47 : decode cX11_digest 47 = .ok (.aload_n 0, 1) := by decide +kernel
theorem dX11_digest_48 : decode cX11_digest 48 = .ok (.iload_n 3, 1) := by decide +kernel
theorem dX11_digest_49 : decode cX11_digest 49 = .ok (.invokevirtual 97, 3) := by decide +kernel
theorem dX11_digest_52 : decode cX11_digest 52 = .ok (.i2l, 1) := by decide +kernel
theorem dX11_digest_53 : decode cX11_digest 53 = .ok (.ladd, 1) := by decide +kernel
theorem dX11_digest_54 : decode cX11_digest 54 = .ok (.lmul, 1) := by decide +kernel
theorem dX11_digest_55 : decode cX11_digest 55 = .ok (.aload_n 0, 1) := by decide +kernel
theorem dX11_digest_56 : decode cX11_digest 56 = .ok (.getfield 7, 3) := by decide +kernel
theorem dX11_digest_59 : decode cX11_digest 59 = .ok (.iconst 4, 1) := by decide +kernel
theorem dX11_digest_60 : decode cX11_digest 60 = .ok (.iload_n 3, 1) := by decide +kernel
theorem dX11_digest_61 : decode cX11_digest 61 = .ok (.iadd, 1) := by decide +kernel
theorem dX11_digest_62 : decode cX11_digest 62 = .ok (.iaload, 1) := by decide +kernel
theorem dX11_digest_63 : decode cX11_digest 63 = .ok (.i2l, 1) := by decide +kernel
theorem dX11_digest_64 : decode cX11_digest 64 = .ok (.ladd, 1) := by decide +kernel
theorem dX11_digest_65 : decode cX11_digest 65 = .ok (.lstore_n 1, 1) := by decide +kernel
theorem dX11_digest_66 : decode cX11_digest 66 = .ok (.iinc 3 1, 3) := by decide +kernel
theorem dX11_digest_69 : decode cX11_digest 69 = .ok (.goto (-36), 3) := by decide +kernel
theorem dX11_digest_72 : decode cX11_digest 72 = .ok (.iconst 0, 1) := by decide +kernel
theorem dX11_digest_73 : decode cX11_digest 73 = .ok (.istore_n 3, 1) := by decide +kernel
theorem dX11_digest_74 : decode cX11_digest 74 = .ok (.iload_n 3, 1) := by decide +kernel
theorem dX11_digest_75 : decode cX11_digest 75 = .ok (.bipush 7, 2) := by decide +kernel
theorem dX11_digest_77 : decode cX11_digest 77 = .ok (.if_icmp .ge 41, 3) := by decide +kernel
theorem dX11_digest_80 : decode cX11_digest 80 = .ok (.ldc2_w 293, 3) := by decide +kernel
theorem dX11_digest_83 : decode cX11_digest 83 = .ok (.ldc2_w 293, 3) := by decide +kernel
theorem dX11_digest_86 : decode cX11_digest 86 = .ok (.lload_n 1, 1) := by decide +kernel
theorem dX11_digest_87 : decode cX11_digest 87 = .ok (.lmul, 1) := by decide +kernel
theorem dX11_digest_88 : decode cX11_digest 88 = .ok (.aload_n 0, 1) := by decide +kernel
theorem dX11_digest_89 : decode cX11_digest 89 = .ok (.getfield 7, 3) := by decide +kernel
theorem dX11_digest_92 : decode cX11_digest 92 = .ok (.bipush 55, 2) := by decide +kernel
theorem dX11_digest_94 : decode cX11_digest 94 = .ok (.iload_n 3, 1) := by decide +kernel
theorem dX11_digest_95 : decode cX11_digest 95 = .ok (.iadd, 1) := by decide +kernel
theorem dX11_digest_96 : decode cX11_digest 96 = .ok (.iaload, 1) := by decide +kernel
theorem dX11_digest_97 : decode cX11_digest 97 = .ok (.i2l, 1) := by decide +kernel
theorem dX11_digest_98 : decode cX11_digest 98 = .ok (.ladd, 1) := by decide +kernel
theorem dX11_digest_99 : decode cX11_digest 99 = .ok (.lmul, 1) := by decide +kernel
theorem dX11_digest_100 : decode cX11_digest 100 = .ok (.aload_n 0, 1) := by decide +kernel
theorem dX11_digest_101 : decode cX11_digest 101 = .ok (.getfield 7, 3) := by decide +kernel
theorem dX11_digest_104 : decode cX11_digest 104 = .ok (.bipush 62, 2) := by decide +kernel
theorem dX11_digest_106 : decode cX11_digest 106 = .ok (.iload_n 3, 1) := by decide +kernel
theorem dX11_digest_107 : decode cX11_digest 107 = .ok (.iadd, 1) := by decide +kernel
theorem dX11_digest_108 : decode cX11_digest 108 = .ok (.iaload, 1) := by decide +kernel
theorem dX11_digest_109 : decode cX11_digest 109 = .ok (.i2l, 1) := by decide +kernel
theorem dX11_digest_110 : decode cX11_digest 110 = .ok (.ladd, 1) := by decide +kernel
theorem dX11_digest_111 : decode cX11_digest 111 = .ok (.lstore_n 1, 1) := by decide +kernel
theorem dX11_digest_112 : decode cX11_digest 112 = .ok (.iinc 3 1, 3) := by decide +kernel
theorem dX11_digest_115 : decode cX11_digest 115 = .ok (.goto (-41), 3) := by decide +kernel
theorem dX11_digest_118 : decode cX11_digest 118 = .ok (.aload_n 0, 1) := by decide +kernel
theorem dX11_digest_119 : decode cX11_digest 119 = .ok (.lload_n 1, 1) := by decide +kernel
theorem dX11_digest_120 : decode cX11_digest 120 = .ok (.bipush 69, 2) := by decide +kernel
theorem dX11_digest_122 : decode cX11_digest 122 = .ok (.iconst 4, 1) := by decide +kernel
theorem dX11_digest_123 : decode cX11_digest 123 = .ok (.invokevirtual 297, 3) := by decide +kernel
theorem dX11_digest_126 : decode cX11_digest 126 = .ok (.lstore_n 1, 1) := by decide +kernel
theorem dX11_digest_127 : decode cX11_digest 127 = .ok (.iconst 0, 1) := by decide +kernel
theorem dX11_digest_128 : decode cX11_digest 128 = .ok (.istore_n 3, 1) := by decide +kernel
theorem dX11_digest_129 : decode cX11_digest 129 = .ok (.iload_n 3, 1) := by decide +kernel
theorem dX11_digest_130 : decode cX11_digest 130 = .ok (.aload_n 0, 1) := by decide +kernel
theorem dX11_digest_131 : decode cX11_digest 131 = .ok (.invokevirtual 46, 3) := by decide +kernel
theorem dX11_digest_134 : decode cX11_digest 134 = .ok (.if_icmp .ge 56, 3) := by decide +kernel
theorem dX11_digest_137 : decode cX11_digest 137 = .ok (.ldc2_w 293, 3) := by decide +kernel
theorem dX11_digest_140 : decode cX11_digest 140 = .ok (.ldc2_w 293, 3) := by decide +kernel
theorem dX11_digest_143 : decode cX11_digest 143 = .ok (.ldc2_w 293, 3) := by decide +kernel
theorem dX11_digest_146 : decode cX11_digest 146 = .ok (.lload_n 1, 1) := by decide +kernel
theorem dX11_digest_147 : decode cX11_digest 147 = .ok (.lmul, 1) := by decide +kernel
theorem dX11_digest_148 : decode cX11_digest 148 = .ok (.aload_n 0, 1) := by decide +kernel
theorem dX11_digest_149 : decode cX11_digest 149 = .ok (.getfield 7, 3) := by decide +kernel
theorem dX11_digest_152 : decode cX11_digest 152 = .ok (.bipush 73, 2) := by decide +kernel
theorem dX11_digest_154 : decode cX11_digest 154 = .ok (.iload_n 3, 1) := by decide +kernel
theorem dX11_digest_155 : decode cX11_digest 155 = .ok (.iadd, 1) := by decide +kernel
theorem dX11_digest_156 : decode cX11_digest 156 = .ok (.iaload, 1) := by decide +kernel
theorem dX11_digest_157 : decode cX11_digest 157 = .ok (.i2l, 1) := by decide +kernel
theorem dX11_digest_158 : decode cX11_digest 158 = .ok (.ladd, 1) := by decide +kernel
theorem dX11_digest_159 : decode cX11_digest 159 = .ok (.lmul, 1) := by decide +kernel
theorem dX11_digest_160 : decode cX11_digest 160 = .ok (.aload_n 0, 1) := by decide +kernel
theorem dX11_digest_161 : decode cX11_digest 161 = .ok (.getfield 7, 3) := by decide +kernel
theorem dX11_digest_164 : decode cX11_digest 164 = .ok (.bipush 80, 2) := by decide +kernel
theorem dX11_digest_166 : decode cX11_digest 166 = .ok (.iload_n 3, 1) := by decide +kernel
theorem dX11_digest_167 : decode cX11_digest 167 = .ok (.iadd, 1) := by decide +kernel
theorem dX11_digest_168 : decode cX11_digest 168 = .ok (.iaload, 1) := by decide +kernel
theorem dX11_digest_169 : decode cX11_digest 169 = .ok (.i2l, 1) := by decide +kernel
theorem dX11_digest_170 : decode cX11_digest 170 = .ok (.ladd, 1) := by decide +kernel
theorem dX11_digest_171 : decode cX11_digest 171 = .ok (.lmul, 1) := by decide +kernel
theorem dX11_digest_172 : decode cX11_digest 172 = .ok (.aload_n 0, 1) := by decide +kernel
theorem dX11_digest_173 : decode cX11_digest 173 = .ok (.getfield 7, 3) := by decide +kernel
theorem dX11_digest_176 : decode cX11_digest 176 = .ok (.bipush 87, 2) := by decide +kernel
theorem dX11_digest_178 : decode cX11_digest 178 = .ok (.iload_n 3, 1) := by decide +kernel
theorem dX11_digest_179 : decode cX11_digest 179 = .ok (.iadd, 1) := by decide +kernel
theorem dX11_digest_180 : decode cX11_digest 180 = .ok (.iaload, 1) := by decide +kernel
theorem dX11_digest_181 : decode cX11_digest 181 = .ok (.i2l, 1) := by decide +kernel
theorem dX11_digest_182 : decode cX11_digest 182 = .ok (.ladd, 1) := by decide +kernel
theorem dX11_digest_183 : decode cX11_digest 183 = .ok (.lstore_n 1, 1) := by decide +kernel
theorem dX11_digest_184 : decode cX11_digest 184 = .ok (.iinc 3 1, 3) := by decide +kernel
theorem dX11_digest_187 : decode cX11_digest 187 = .ok (.goto (-58), 3) := by decide +kernel
theorem dX11_digest_190 : decode cX11_digest 190 = .ok (.aload_n 0, 1) := by decide +kernel
theorem dX11_digest_191 : decode cX11_digest 191 = .ok (.lload_n 1, 1) := by decide +kernel
theorem dX11_digest_192 : decode cX11_digest 192 = .ok (.bipush 94, 2) := by decide +kernel
theorem dX11_digest_194 : decode cX11_digest 194 = .ok (.iconst 5, 1) := by decide +kernel
theorem dX11_digest_195 : decode cX11_digest 195 = .ok (.aload_n 0, 1) := by decide +kernel
theorem dX11_digest_196 : decode cX11_digest 196 = .ok (.getfield 7, 3) := by decide +kernel
theorem dX11_digest_199 : decode cX11_digest 199 = .ok (.iconst 1, 1) := by decide +kernel
theorem dX11_digest_200 : decode cX11_digest 200 = .ok (.iaload, 1) := by decide +kernel
theorem dX11_digest_201 : decode cX11_digest 201 = .ok (.imul, 1) := by decide +kernel
theorem dX11_digest_202 : decode cX11_digest 202 = .ok (.invokevirtual 297, 3) := by decide +kernel
theorem dX11_digest_205 : decode cX11_digest 205 = .ok (.lstore_n 1, 1) := by decide +kernel
theorem dX11_digest_206 : decode cX11_digest 206 = .ok (.aload_n 0, 1) := by decide +kernel
theorem dX11_digest_207 : decode cX11_digest 207 = .ok (.lload_n 1, 1) := by decide +kernel
theorem dX11_digest_208 : decode cX11_digest 208 = .ok (.bipush 124, 2) := by decide +kernel
theorem dX11_digest_210 : decode cX11_digest 210 = .ok (.iconst 5, 1) := by decide +kernel
theorem dX11_digest_211 : decode cX11_digest 211 = .ok (.aload_n 0, 1) := by decide +kernel
theorem dX11_digest_212 : decode cX11_digest 212 = .ok (.getfield 7, 3) := by decide +kernel
theorem dX11_digest_215 : decode cX11_digest 215 = .ok (.iconst 2, 1) := by decide +kernel
theorem dX11_digest_216 : decode cX11_digest 216 = .ok (.iaload, 1) := by decide +kernel
theorem dX11_digest_217 : decode cX11_digest 217 = .ok (.imul, 1) := by decide +kernel
theorem dX11_digest_218 : decode cX11_digest 218 = .ok (.invokevirtual 297, 3) := by decide +kernel
theorem dX11_digest_221 : decode cX11_digest 221 = .ok (.lstore_n 1, 1) := by decide +kernel
theorem dX11_digest_222 : decode cX11_digest 222 = .ok (.ldc2_w 293, 3) := by decide +kernel
theorem dX11_digest_225 : decode cX11_digest 225 = .ok (.ldc2_w 293, 3) := by decide +kernel
theorem dX11_digest_228 : decode cX11_digest 228 = .ok (.lload_n 1, 1) := by decide +kernel
theorem dX11_digest_229 : decode cX11_digest 229 = .ok (.lmul, 1) := by decide +kernel
theorem dX11_digest_230 : decode cX11_digest 230 = .ok (.aload_n 0, 1) := by decide +kernel
theorem dX11_digest_231 : decode cX11_digest 231 = .ok (.getfield 205, 3) := by decide +kernel
theorem dX11_digest_234 : decode cX11_digest 234 = .ok (.ladd, 1) := by decide +kernel
theorem dX11_digest_235 : decode cX11_digest 235 = .ok (.lmul, 1) := by decide +kernel
theorem dX11_digest_236 : decode cX11_digest 236 = .ok (.aload_n 0, 1) := by decide +kernel
theorem dX11_digest_237 : decode cX11_digest 237 = .ok (.getfield 23, 3) := by decide +kernel
theorem dX11_digest_240 : decode cX11_digest 240 = .ok (.ladd, 1) := by decide +kernel
theorem dX11_digest_241 : decode cX11_digest 241 = .ok (.lreturn, 1) := by decide +kernel
