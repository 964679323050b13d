theorem dX0_after_0 : decode cX0_after 0 = .ok (.bipush 99, 2) := by decide +kernel
theorem dX0_after_2 : decode cX0_after 2 = .ok (.iload_n 1, 1) := by decide +kernel
theorem dX0_after_3 : decode cX0_after 3 = .ok (.iload_n 0, 1) := by decide +kernel
theorem dX0_after_4 : decode cX0_after 4 = .ok (.iload_n 1, 1) := by decide +kernel
theorem dX0_after_5 : decode cX0_after 5 = .ok (.iload_n 2, 1) := by decide +kernel
theorem dX0_after_6 : decode cX0_after 6 = .ok (.invokestatic 9, 3) := by decide +kernel
theorem dX0_after_9 : decode cX0_after 9 = .ok (.iadd, 1) := by decide +kernel
theorem dX0_after_10 : decode cX0_after 10 = .ok (.invokestatic 15, 3) := by decide +kernel
theorem dX0_after_13 : decode cX0_after 13 = .ok (.istore 4, 2) := by decide +kernel
theorem dX0_after_15 : decode cX0_after 15 = .ok (.iconst 0, 1) := by decide +kernel
theorem dX0_after_16 : decode cX0_after 16 = .ok (.iload 4, 2) := by decide +kernel
theorem dX0_after_18 : decode cX0_after 18 = .ok (.iload_n 0, 1) := by decide +kernel
theorem dX0_after_19 : decode cX0_after 19 = .ok (.iload_n 3, 1) := by decide +kernel
theorem dX0_after_20 : decode cX0_after 20 = .ok (.invokestatic 21, 3) := by decide +kernel
theorem dX0_after_23 : decode cX0_after 23 = .ok (.isub, 1) := by decide +kernel
theorem dX0_after_24 : decode cX0_after 24 = .ok (.invokestatic 24, 3) := by decide +kernel
theorem dX0_after_27 : decode cX0_after 27 = .ok (.ireturn, 1) := by decide +kernel
theorem dX0_grows_0 : decode cX0_grows 0 = .ok (.iload_n 0, 1) := by decide +kernel
theorem dX0_grows_1 : decode cX0_grows 1 = .ok (.tableswitch 76 1 5 #[35, 40, 48, 61, 40], 35) := by decide +kernel
theorem dX0_grows_36 : decode cX0_grows 36 = .ok (.iload_n 2, 1) := by decide +kernel
theorem dX0_grows_37 : decode cX0_grows 37 = .ok (.invokestatic 27, 3) := by decide +kernel
theorem dX0_grows_40 : decode cX0_grows 40 = .ok (.ireturn, 1) := by decide +kernel
theorem dX0_grows_41 : decode cX0_grows 41 = .ok (.iconst 0, 1) := by decide +kernel
theorem dX0_grows_42 : decode cX0_grows 42 = .ok (.iload_n 2, 1) := by decide +kernel
theorem dX0_grows_43 : decode cX0_grows 43 = .ok (.iconst 2, 1) := by decide +kernel
theorem dX0_grows_44 : decode cX0_grows 44 = .ok (.isub, 1) := by decide +kernel
theorem dX0_grows_45 : decode cX0_grows 45 = .ok (.invokestatic 24, 3) := by decide +kernel
theorem dX0_grows_48 : decode cX0_grows 48 = .ok (.ireturn, 1) := by decide +kernel
theorem dX0_grows_49 : decode cX0_grows 49 = .ok (.iload_n 2, 1) := by decide +kernel
theorem dX0_grows_50 : decode cX0_grows 50 = .ok (.iconst 1, 1) := by decide +kernel
theorem dX0_grows_51 : decode cX0_grows 51 = .ok (.if_icmp .lt 9, 3) := by decide +kernel
theorem dX0_grows_54 : decode cX0_grows 54 = .ok (.iload_n 2, 1) := by decide +kernel
theorem dX0_grows_55 : decode cX0_grows 55 = .ok (.iconst 1, 1) := by decide +kernel
theorem dX0_grows_56 : decode cX0_grows 56 = .ok (.iadd, 1) := by decide +kernel
theorem dX0_grows_57 : decode cX0_grows 57 = .ok (.goto 4, 3) := by decide +kernel
theorem dX0_grows_60 : decode cX0_grows 60 = .ok (.iload_n 2, 1) := by decide +kernel
theorem dX0_grows_61 : decode cX0_grows 61 = .ok (.ireturn, 1) := by decide +kernel
theorem dX0_grows_62 : decode cX0_grows 62 = .ok (.iload_n 1, 1) := by decide +kernel
theorem dX0_grows_63 : decode cX0_grows 63 = .ok (.bipush 10, 2) := by decide +kernel
theorem dX0_grows_65 : decode cX0_grows 65 = .ok (.if_icmp .ge 7, 3) := by decide +kernel
theorem dX0_grows_68 : decode cX0_grows 68 = .ok (.iconst 0, 1) := by decide +kernel
theorem dX0_grows_69 : decode cX0_grows 69 = .ok (.goto 7, 3) := by decide +kernel
theorem dX0_grows_72 : decode cX0_grows 72 = .ok (.iload_n 2, 1) := by decide +kernel
theorem dX0_grows_73 : decode cX0_grows 73 = .ok (.invokestatic 27, 3) := by decide +kernel
theorem dX0_grows_76 : decode cX0_grows 76 = .ok (.ireturn, 1) := by decide +kernel
theorem dX0_grows_77 : decode cX0_grows 77 = .ok (.iload_n 2, 1) := by decide +kernel
theorem dX0_grows_78 : decode cX0_grows 78 = .ok (.ireturn, 1) := by decide +kernel
theorem dX0_streamGrows_0 : decode cX0_streamGrows 0 = .ok (.iload_n 0, 1) := by decide +kernel
theorem dX0_streamGrows_1 : decode cX0_streamGrows 1 = .ok (.iconst 2, 1) := by decide +kernel
theorem dX0_streamGrows_2 : decode cX0_streamGrows 2 = .ok (.idiv, 1) := by decide +kernel
theorem dX0_streamGrows_3 : decode cX0_streamGrows 3 = .ok (.ireturn, 1) := by decide +kernel
theorem dX0_melts_0 : decode cX0_melts 0 = .ok (.iload_n 0, 1) := by decide +kernel
theorem dX0_melts_1 : decode cX0_melts 1 = .ok (.tableswitch 43 1 5 #[35, 39, 43, 35, 39], 35) := by decide +kernel
theorem dX0_melts_36 : decode cX0_melts 36 = .ok (.iload_n 1, 1) := by decide +kernel
theorem dX0_melts_37 : decode cX0_melts 37 = .ok (.iconst 1, 1) := by decide +kernel
theorem dX0_melts_38 : decode cX0_melts 38 = .ok (.iadd, 1) := by decide +kernel
theorem dX0_melts_39 : decode cX0_melts 39 = .ok (.ireturn, 1) := by decide +kernel
theorem dX0_melts_40 : decode cX0_melts 40 = .ok (.iload_n 1, 1) := by decide +kernel
theorem dX0_melts_41 : decode cX0_melts 41 = .ok (.iconst 2, 1) := by decide +kernel
theorem dX0_melts_42 : decode cX0_melts 42 = .ok (.idiv, 1) := by decide +kernel
theorem dX0_melts_43 : decode cX0_melts 43 = .ok (.ireturn, 1) := by decide +kernel
theorem dX0_melts_44 : decode cX0_melts 44 = .ok (.iload_n 1, 1) := by decide +kernel
theorem dX0_melts_45 : decode cX0_melts 45 = .ok (.ireturn, 1) := by decide +kernel
theorem dX0_bears_0 : decode cX0_bears 0 = .ok (.iconst 2, 1) := by decide +kernel
theorem dX0_bears_1 : decode cX0_bears 1 = .ok (.iload_n 1, 1) := by decide +kernel
theorem dX0_bears_2 : decode cX0_bears 2 = .ok (.imul, 1) := by decide +kernel
theorem dX0_bears_3 : decode cX0_bears 3 = .ok (.istore_n 2, 1) := by decide +kernel
theorem dX0_bears_4 : decode cX0_bears 4 = .ok (.iload_n 0, 1) := by decide +kernel
theorem dX0_bears_5 : decode cX0_bears 5 = .ok (.lookupswitch 41 #[(4, 27), (5, 35)], 27) := by decide +kernel
theorem dX0_bears_32 : decode cX0_bears 32 = .ok (.iconst 0, 1) := by decide +kernel
theorem dX0_bears_33 : decode cX0_bears 33 = .ok (.iload_n 2, 1) := by decide +kernel
theorem dX0_bears_34 : decode cX0_bears 34 = .ok (.iconst 5, 1) := by decide +kernel
theorem dX0_bears_35 : decode cX0_bears 35 = .ok (.isub, 1) := by decide +kernel
theorem dX0_bears_36 : decode cX0_bears 36 = .ok (.invokestatic 24, 3) := by decide +kernel
theorem dX0_bears_39 : decode cX0_bears 39 = .ok (.ireturn, 1) := by decide +kernel
theorem dX0_bears_40 : decode cX0_bears 40 = .ok (.iload_n 2, 1) := by decide +kernel
theorem dX0_bears_41 : decode cX0_bears 41 = .ok (.iconst 1, 1) := by decide +kernel
theorem dX0_bears_42 : decode cX0_bears 42 = .ok (.iadd, 1) := by decide +kernel
theorem dX0_bears_43 : decode cX0_bears 43 = .ok (.iconst 2, 1) := by decide +kernel
theorem dX0_bears_44 : decode cX0_bears 44 = .ok (.idiv, 1) := by decide +kernel
theorem dX0_bears_45 : decode cX0_bears 45 = .ok (.ireturn, 1) := by decide +kernel
theorem dX0_bears_46 : decode cX0_bears 46 = .ok (.iload_n 2, 1) := by decide +kernel
theorem dX0_bears_47 : decode cX0_bears 47 = .ok (.ireturn, 1) := by decide +kernel
theorem dX1_init_0 : decode cX1_init 0 = .ok (.aload_n 0, 1) := by decide +kernel
theorem dX1_init_1 : decode cX1_init 1 = .ok (.invokespecial 3, 3) := by decide +kernel
theorem dX1_init_4 : decode cX1_init 4 = .ok (.aload_n 0, 1) := by decide +kernel
theorem dX1_init_5 : decode cX1_init 5 = .ok (.new 9, 3) := by decide +kernel
theorem dX1_init_8 : decode cX1_init 8 = .ok (.dup, 1) := by decide +kernel
theorem dX1_init_9 : decode cX1_init 9 = .ok (.invokespecial 11, 3) := by decide +kernel
theorem dX1_init_12 : decode cX1_init 12 = .ok (.putfield 12, 3) := by decide +kernel
theorem dX1_init_15 : decode cX1_init 15 = .ok (.aload_n 0, 1) := by decide +kernel
theorem dX1_init_16 : decode cX1_init 16 = .ok (.new 18, 3) := by decide +kernel
theorem dX1_init_19 : decode cX1_init 19 = .ok (.dup, 1) := by decide +kernel
theorem dX1_init_20 : decode cX1_init 20 = .ok (.invokespecial 20, 3) := by decide +kernel
theorem dX1_init_23 : decode cX1_init 23 = .ok (.putfield 21, 3) := by decide +kernel
theorem dX1_init_26 : decode cX1_init 26 = .ok (.aload_n 0, 1) := by decide +kernel
theorem dX1_init_27 : decode cX1_init 27 = .ok (.new 25, 3) := by decide +kernel
theorem dX1_init_30 : decode cX1_init 30 = .ok (.dup, 1) := by decide +kernel
theorem dX1_init_31 : decode cX1_init 31 = .ok (.invokespecial 27, 3) := by decide +kernel
theorem dX1_init_34 : decode cX1_init 34 = .ok (.putfield 28, 3) := by decide +kernel
theorem dX1_init_37 : decode cX1_init 37 = .ok (.aload_n 0, 1) := by decide +kernel
theorem dX1_init_38 : decode cX1_init 38 = .ok (.new 32, 3) := by decide +kernel
theorem dX1_init_41 : decode cX1_init 41 = .ok (.dup, 1) := by decide +kernel
theorem dX1_init_42 : decode cX1_init 42 = .ok (.invokespecial 34, 3) := by decide +kernel
theorem dX1_init_45 : decode cX1_init 45 = .ok (.putfield 35, 3) := by decide +kernel
theorem dX1_init_48 : decode cX1_init 48 = .ok (.aload_n 0, 1) := by decide +kernel
theorem dX1_init_49 : decode cX1_init 49 = .ok (.new 32, 3) := by decide +kernel
theorem dX1_init_52 : decode cX1_init 52 = .ok (.dup, 1) := by decide +kernel
theorem dX1_init_53 : decode cX1_init 53 = .ok (.invokespecial 34, 3) := by decide +kernel
theorem dX1_init_56 : decode cX1_init 56 = .ok (.putfield 39, 3) := by decide +kernel
theorem dX1_init_59 : decode cX1_init 59 = .ok (.aload_n 0, 1) := by decide +kernel
theorem dX1_init_60 : decode cX1_init 60 = .ok (.new 42, 3) := by decide +kernel
theorem dX1_init_63 : decode cX1_init 63 = .ok (.dup, 1) := by decide +kernel
theorem dX1_init_64 : decode cX1_init 64 = .ok (.invokespecial 44, 3) := by decide +kernel
theorem dX1_init_67 : decode cX1_init 67 = .ok (.putfield 45, 3) := by decide +kernel
theorem dX1_init_70 : decode cX1_init 70 = .ok (.aload_n 0, 1) := by decide +kernel
theorem dX1_init_71 : decode cX1_init 71 = .ok (.iconst 4, 1) := by decide +kernel
theorem dX1_init_72 : decode cX1_init 72 = .ok (.newarray .int, 2) := by decide +kernel
theorem dX1_init_74 : decode cX1_init 74 = .ok (.putfield 49, 3) := by decide +kernel
theorem dX1_init_77 : decode cX1_init 77 = .ok (.aload_n 0, 1) := by decide +kernel
theorem dX1_init_78 : decode cX1_init 78 = .ok (.iconst 0, 1) := by decide +kernel
theorem dX1_init_79 : decode cX1_init 79 = .ok (.putfield 53, 3) := by decide +kernel
theorem dX1_init_82 : decode cX1_init 82 = .ok (.return_, 1) := by decide +kernel
theorem dX1_copy_0 : decode cX1_copy 0 = .ok (.aload_n 0, 1) := by decide +kernel
theorem dX1_copy_1 : decode cX1_copy 1 = .ok (.getfield 12, 3) := by decide +kernel
theorem dX1_copy_4 : decode cX1_copy 4 = .ok (.aload_n 1, 1) := by decide +kernel
theorem dX1_copy_5 : decode cX1_copy 5 = .ok (.getfield 12, 3) := by decide +kernel
theorem dX1_copy_8 : decode cX1_copy 8 = .ok (.invokevirtual 57, 3) := by decide +kernel
theorem dX1_copy_11 : decode cX1_copy 11 = .ok (.aload_n 0, 1) := by decide +kernel
theorem dX1_copy_12 : decode cX1_copy 12 = .ok (.getfield 21, 3) := by decide +kernel
theorem dX1_copy_15 : decode cX1_copy 15 = .ok (.aload_n 1, 1) := by decide +kernel
theorem dX1_copy_16 : decode cX1_copy 16 = .ok (.getfield 21, 3) := by decide +kernel
theorem dX1_copy_19 : decode cX1_copy 19 = .ok (.invokevirtual 61, 3) := by decide +kernel
theorem dX1_copy_22 : decode cX1_copy 22 = .ok (.aload_n 0, 1) := by decide +kernel
theorem dX1_copy_23 : decode cX1_copy 23 = .ok (.getfield 28, 3) := by decide +kernel
theorem dX1_copy_26 : decode cX1_copy 26 = .ok (.aload_n 1, 1) := by decide +kernel
theorem dX1_copy_27 : decode cX1_copy 27 = .ok (.getfield 28, 3) := by decide +kernel
theorem dX1_copy_30 : decode cX1_copy 30 = .ok (.invokevirtual 64, 3) := by decide +kernel
theorem dX1_copy_33 : decode cX1_copy 33 = .ok (.aload_n 0, 1) := by decide +kernel
theorem dX1_copy_34 : decode cX1_copy 34 = .ok (.getfield 35, 3) := by decide +kernel
theorem dX1_copy_37 : decode cX1_copy 37 = .ok (.aload_n 1, 1) := by decide +kernel
theorem dX1_copy_38 : decode cX1_copy 38 = .ok (.getfield 35, 3) := by decide +kernel
theorem dX1_copy_41 : decode cX1_copy 41 = .ok (.invokevirtual 67, 3) := by decide +kernel
theorem dX1_copy_44 : decode cX1_copy 44 = .ok (.aload_n 0, 1) := by decide +kernel
theorem dX1_copy_45 : decode cX1_copy 45 = .ok (.getfield 39, 3) := by decide +kernel
theorem dX1_copy_48 : decode cX1_copy 48 = .ok (.aload_n 1, 1) := by decide +kernel
theorem dX1_copy_49 : decode cX1_copy 49 = .ok (.getfield 39, 3) := by decide +kernel
theorem dX1_copy_52 : decode cX1_copy 52 = .ok (.invokevirtual 67, 3) := by decide +kernel
theorem dX1_copy_55 : decode cX1_copy 55 = .ok (.aload_n 0, 1) := by decide +kernel
theorem dX1_copy_56 : decode cX1_copy 56 = .ok (.getfield 45, 3) := by decide +kernel
theorem dX1_copy_59 : decode cX1_copy 59 = .ok (.aload_n 1, 1) := by decide +kernel
theorem dX1_copy_60 : decode cX1_copy 60 = .ok (.getfield 45, 3) := by decide +kernel
theorem dX1_copy_63 : decode cX1_copy 63 = .ok (.invokevirtual 70, 3) := by decide +kernel
theorem dX1_copy_66 : decode cX1_copy 66 = .ok (.aload_n 1, 1) := by decide +kernel
theorem dX1_copy_67 : decode cX1_copy 67 = .ok (.getfield 49, 3) := by decide +kernel
theorem dX1_copy_70 : decode cX1_copy 70 = .ok (.iconst 0, 1) := by decide +kernel
theorem dX1_copy_71 : decode cX1_copy 71 = .ok (.aload_n 0, 1) := by decide +kernel
theorem dX1_copy_72 : decode cX1_copy 72 = .ok (.getfield 49, 3) := by decide +kernel
theorem dX1_copy_75 : decode cX1_copy 75 = .ok (.iconst 0, 1) := by decide +kernel
theorem dX1_copy_76 : decode cX1_copy 76 = .ok (.iconst 4, 1) := by decide +kernel
theorem dX1_copy_77 : decode cX1_copy 77 = .ok (.invokestatic 73, 3) := by decide +kernel
theorem dX1_copy_80 : decode cX1_copy 80 = .ok (.aload_n 0, 1) := by decide +kernel
theorem dX1_copy_81 : decode cX1_copy 81 = .ok (.aload_n 1, 1) := by decide +kernel
theorem dX1_copy_82 : decode cX1_copy 82 = .ok (.getfield 53, 3) := by decide +kernel
theorem dX1_copy_85 : decode cX1_copy 85 = .ok (.putfield 53, 3) := by decide +kernel
theorem dX1_copy_88 : decode cX1_copy 88 = .ok (.return_, 1) := by decide +kernel
theorem dX1_restart_0 : decode cX1_restart 0 = .ok (.aload_n 0, 1) := by decide +kernel
theorem dX1_restart_1 : decode cX1_restart 1 = .ok (.getfield 12, 3) := by decide +kernel
theorem dX1_restart_4 : decode cX1_restart 4 = .ok (.iload_n 1, 1) := by decide +kernel
theorem dX1_restart_5 : decode cX1_restart 5 = .ok (.invokevirtual 79, 3) := by decide +kernel
theorem dX1_restart_8 : decode cX1_restart 8 = .ok (.aload_n 0, 1) := by decide +kernel
theorem dX1_restart_9 : decode cX1_restart 9 = .ok (.getfield 21, 3) := by decide +kernel
theorem dX1_restart_12 : decode cX1_restart 12 = .ok (.invokevirtual 83, 3) := by decide +kernel
theorem dX1_restart_15 : decode cX1_restart 15 = .ok (.aload_n 0, 1) := by decide +kernel
theorem dX1_restart_16 : decode cX1_restart 16 = .ok (.getfield 28, 3) := by decide +kernel
theorem dX1_restart_19 : decode cX1_restart 19 = .ok (.iconst 0, 1) := by decide +kernel
theorem dX1_restart_20 : decode cX1_restart 20 = .ok (.putfield 85, 3) := by decide +kernel
theorem dX1_restart_23 : decode cX1_restart 23 = .ok (.aload_n 0, 1) := by decide +kernel
theorem dX1_restart_24 : decode cX1_restart 24 = .ok (.getfield 35, 3) := by decide +kernel
theorem dX1_restart_27 : decode cX1_restart 27 = .ok (.invokevirtual 88, 3) := by decide +kernel
theorem dX1_restart_30 : decode cX1_restart 30 = .ok (.pop, 1) := by decide +kernel
theorem dX1_restart_31 : decode cX1_restart 31 = .ok (.aload_n 0, 1) := by decide +kernel
theorem dX1_restart_32 : decode cX1_restart 32 = .ok (.getfield 39, 3) := by decide +kernel
theorem dX1_restart_35 : decode cX1_restart 35 = .ok (.invokevirtual 88, 3) := by decide +kernel
theorem dX1_restart_38 : decode cX1_restart 38 = .ok (.pop, 1) := by decide +kernel
theorem dX1_restart_39 : decode cX1_restart 39 = .ok (.aload_n 0, 1) := by decide +kernel
theorem dX1_restart_40 : decode cX1_restart 40 = .ok (.getfield 45, 3) := by decide +kernel
theorem dX1_restart_43 : decode cX1_restart 43 = .ok (.invokevirtual 92, 3) := by decide +kernel
theorem dX1_restart_46 : decode cX1_restart 46 = .ok (.aload_n 0, 1) := by decide +kernel
theorem dX1_restart_47 : decode cX1_restart 47 = .ok (.getfield 49, 3) := by decide +kernel
theorem dX1_restart_50 : decode cX1_restart 50 = .ok (.iconst 0, 1) := by decide +kernel
theorem dX1_restart_51 : decode cX1_restart 51 = .ok (.invokestatic 94, 3) := by decide +kernel
theorem dX1_restart_54 : decode cX1_restart 54 = .ok (.aload_n 0, 1) := by decide +kernel
theorem dX1_restart_55 : decode cX1_restart 55 = .ok (.iconst 0, 1) := by decide +kernel
theorem dX1_restart_56 : decode cX1_restart 56 = .ok (.putfield 53, 3) := by decide +kernel
theorem dX1_restart_59 : decode cX1_restart 59 = .ok (.return_, 1) := by decide +kernel
theorem dX1_frost_0 : decode cX1_frost 0 = .ok (.aload_n 0, 1) := by decide +kernel
theorem dX1_frost_1 : decode cX1_frost 1 = .ok (.getfield 21, 3) := by decide +kernel
theorem dX1_frost_4 : decode cX1_frost 4 = .ok (.aload_n 0, 1) := by decide +kernel
theorem dX1_frost_5 : decode cX1_frost 5 = .ok (.getfield 53, 3) := by decide +kernel
theorem dX1_frost_8 : decode cX1_frost 8 = .ok (.invokevirtual 100, 3) := by decide +kernel
theorem dX1_frost_11 : decode cX1_frost 11 = .ok (.ireturn, 1) := by decide +kernel
theorem dX1_keepPast_0 : decode cX1_keepPast 0 = .ok (.aload_n 0, 1) := by decide +kernel
theorem dX1_keepPast_1 : decode cX1_keepPast 1 = .ok (.getfield 45, 3) := by decide +kernel
theorem dX1_keepPast_4 : decode cX1_keepPast 4 = .ok (.aload_n 0, 1) := by decide +kernel
theorem dX1_keepPast_5 : decode cX1_keepPast 5 = .ok (.getfield 12, 3) := by decide +kernel
theorem dX1_keepPast_8 : decode cX1_keepPast 8 = .ok (.aload_n 0, 1) := by decide +kernel
theorem dX1_keepPast_9 : decode cX1_keepPast 9 = .ok (.getfield 53, 3) := by decide +kernel
theorem dX1_keepPast_12 : decode cX1_keepPast 12 = .ok (.invokevirtual 104, 3) := by decide +kernel
theorem dX1_keepPast_15 : decode cX1_keepPast 15 = .ok (.return_, 1) := by decide +kernel
theorem dX1_passDays_0 : decode cX1_passDays 0 = .ok (.iconst 0, 1) := by decide +kernel
theorem dX1_passDays_1 : decode cX1_passDays 1 = .ok (.istore_n 2, 1) := by decide +kernel
theorem dX1_passDays_2 : decode cX1_passDays 2 = .ok (.iload_n 2, 1) := by decide +kernel
theorem dX1_passDays_3 : decode cX1_passDays 3 = .ok (.iload_n 1, 1) := by decide +kernel
theorem dX1_passDays_4 : decode cX1_passDays 4 = .ok (.if_icmp .ge 58, 3) := by decide +kernel
theorem dX1_passDays_7 : decode cX1_passDays 7 = .ok (.aload_n 0, 1) := by decide +kernel
theorem dX1_passDays_8 : decode cX1_passDays 8 = .ok (.getfield 53, 3) := by decide +kernel
theorem dX1_passDays_11 : decode cX1_passDays 11 = .ok (.sipush 999, 3) := by decide +kernel
theorem dX1_passDays_14 : decode cX1_passDays 14 = .ok (.if_icmp .ge 48, 3) := by decide +kernel
theorem dX1_passDays_17 : decode cX1_passDays 17 = .ok (.aload_n 0, 1) := by decide +kernel
theorem dX1_passDays_18 : decode cX1_passDays 18 = .ok (.getfield 12, 3) := by decide +kernel
theorem dX1_passDays_21 : decode cX1_passDays 21 = .ok (.aload_n 0, 1) := by decide +kernel
theorem dX1_passDays_22 : decode cX1_passDays 22 = .ok (.getfield 21, 3) := by decide +kernel
theorem dX1_passDays_25 : decode cX1_passDays 25 = .ok (.aload_n 0, 1) := by decide +kernel
theorem dX1_passDays_26 : decode cX1_passDays 26 = .ok (.getfield 53, 3) := by decide +kernel
theorem dX1_passDays_29 : decode cX1_passDays 29 = .ok (.invokevirtual 100, 3) := by decide +kernel
theorem dX1_passDays_32 : decode cX1_passDays 32 = .ok (.aload_n 0, 1) := by decide +kernel
theorem dX1_passDays_33 : decode cX1_passDays 33 = .ok (.getfield 21, 3) := by decide +kernel
theorem dX1_passDays_36 : decode cX1_passDays 36 = .ok (.aload_n 0, 1) := by decide +kernel
theorem dX1_passDays_37 : decode cX1_passDays 37 = .ok (.getfield 53, 3) := by decide +kernel
theorem dX1_passDays_40 : decode cX1_passDays 40 = .ok (.invokevirtual 108, 3) := by decide +kernel
theorem dX1_passDays_43 : decode cX1_passDays 43 = .ok (.invokevirtual 111, 3) := by decide +kernel
theorem dX1_passDays_46 : decode cX1_passDays 46 = .ok (.aload_n 0, 1) := by decide +kernel
theorem dX1_passDays_47 : decode cX1_passDays 47 = .ok (.dup, 1) := by decide +kernel
theorem dX1_passDays_48 : decode cX1_passDays 48 = .ok (.getfield 53, 3) := by decide +kernel
theorem dX1_passDays_51 : decode cX1_passDays 51 = .ok (.iconst 1, 1) := by decide +kernel
theorem dX1_passDays_52 : decode cX1_passDays 52 = .ok (.iadd, 1) := by decide +kernel
theorem dX1_passDays_53 : decode cX1_passDays 53 = .ok (.putfield 53, 3) := by decide +kernel
theorem dX1_passDays_56 : decode cX1_passDays 56 = .ok (.iinc 2 1, 3) := by decide +kernel
theorem dX1_passDays_59 : decode cX1_passDays 59 = .ok (.goto (-57), 3) := by decide +kernel
theorem dX1_passDays_62 : decode cX1_passDays 62 = .ok (.return_, 1) := by decide +kernel
theorem dX1_iceBehind_0 : decode cX1_iceBehind 0 = .ok (.aload_n 0, 1) := by decide +kernel
theorem dX1_iceBehind_1 : decode cX1_iceBehind 1 = .ok (.getfield 12, 3) := by decide +kernel
theorem dX1_iceBehind_4 : decode cX1_iceBehind 4 = .ok (.iload_n 1, 1) := by decide +kernel
theorem dX1_iceBehind_5 : decode cX1_iceBehind 5 = .ok (.invokevirtual 115, 3) := by decide +kernel
theorem dX1_iceBehind_8 : decode cX1_iceBehind 8 = .ok (.istore_n 3, 1) := by decide +kernel
theorem dX1_iceBehind_9 : decode cX1_iceBehind 9 = .ok (.aload_n 0, 1) := by decide +kernel
theorem dX1_iceBehind_10 : decode cX1_iceBehind 10 = .ok (.getfield 12, 3) := by decide +kernel
theorem dX1_iceBehind_13 : decode cX1_iceBehind 13 = .ok (.iload_n 1, 1) := by decide +kernel
theorem dX1_iceBehind_14 : decode cX1_iceBehind 14 = .ok (.invokevirtual 118, 3) := by decide +kernel
theorem dX1_iceBehind_17 : decode cX1_iceBehind 17 = .ok (.istore 4, 2) := by decide +kernel
theorem dX1_iceBehind_19 : decode cX1_iceBehind 19 = .ok (.iconst 0, 1) := by decide +kernel
theorem dX1_iceBehind_20 : decode cX1_iceBehind 20 = .ok (.istore 5, 2) := by decide +kernel
theorem dX1_iceBehind_22 : decode cX1_iceBehind 22 = .ok (.iload 5, 2) := by decide +kernel
theorem dX1_iceBehind_24 : decode cX1_iceBehind 24 = .ok (.iload_n 2, 1) := by decide +kernel
theorem dX1_iceBehind_25 : decode cX1_iceBehind 25 = .ok (.if_icmp .ge 28, 3) := by decide +kernel
theorem dX1_iceBehind_28 : decode cX1_iceBehind 28 = .ok (.aload_n 0, 1) := by decide +kernel
theorem dX1_iceBehind_29 : decode cX1_iceBehind 29 = .ok (.getfield 21, 3) := by decide +kernel
theorem dX1_iceBehind_32 : decode cX1_iceBehind 32 = .ok (.iload_n 3, 1) := by decide +kernel
theorem dX1_iceBehind_33 : decode cX1_iceBehind 33 = .ok (.iload 4, 2) := by decide +kernel
theorem dX1_iceBehind_35 : decode cX1_iceBehind 35 = .ok (.aload_n 0, 1) := by decide +kernel
theorem dX1_iceBehind_36 : decode cX1_iceBehind 36 = .ok (.getfield 53, 3) := by decide +kernel
theorem dX1_iceBehind_39 : decode cX1_iceBehind 39 = .ok (.iload 5, 2) := by decide +kernel
theorem dX1_iceBehind_41 : decode cX1_iceBehind 41 = .ok (.iadd, 1) := by decide +kernel
theorem dX1_iceBehind_42 : decode cX1_iceBehind 42 = .ok (.invokevirtual 121, 3) := by decide +kernel
theorem dX1_iceBehind_45 : decode cX1_iceBehind 45 = .ok (.istore 4, 2) := by decide +kernel
theorem dX1_iceBehind_47 : decode cX1_iceBehind 47 = .ok (.iinc 5 1, 3) := by decide +kernel
theorem dX1_iceBehind_50 : decode cX1_iceBehind 50 = .ok (.goto (-28), 3) := by decide +kernel
theorem dX1_iceBehind_53 : decode cX1_iceBehind 53 = .ok (.iload 4, 2) := by decide +kernel
theorem dX1_iceBehind_55 : decode cX1_iceBehind 55 = .ok (.ireturn, 1) := by decide +kernel
theorem dX2_init_0 : decode cX2_init 0 = .ok (.aload_n 0, 1) := by decide +kernel
theorem dX2_init_1 : decode cX2_init 1 = .ok (.invokespecial 3, 3) := by decide +kernel
theorem dX2_init_4 : decode cX2_init 4 = .ok (.aload_n 0, 1) := by decide +kernel
theorem dX2_init_5 : decode cX2_init 5 = .ok (.sipush 200, 3) := by decide +kernel
theorem dX2_init_8 : decode cX2_init 8 = .ok (.newarray .int, 2) := by decide +kernel
theorem dX2_init_10 : decode cX2_init 10 = .ok (.putfield 9, 3) := by decide +kernel
theorem dX2_init_13 : decode cX2_init 13 = .ok (.aload_n 0, 1) := by decide +kernel
theorem dX2_init_14 : decode cX2_init 14 = .ok (.bipush 8, 2) := by decide +kernel
theorem dX2_init_16 : decode cX2_init 16 = .ok (.newarray .int, 2) := by decide +kernel
theorem dX2_init_18 : decode cX2_init 18 = .ok (.putfield 15, 3) := by decide +kernel
theorem dX2_init_21 : decode cX2_init 21 = .ok (.aload_n 0, 1) := by decide +kernel
theorem dX2_init_22 : decode cX2_init 22 = .ok (.iconst 0, 1) := by decide +kernel
theorem dX2_init_23 : decode cX2_init 23 = .ok (.putfield 18, 3) := by decide +kernel
theorem dX2_init_26 : decode cX2_init 26 = .ok (.return_, 1) := by decide +kernel
theorem dX2_copy_0 : decode cX2_copy 0 = .ok (.aload_n 1, 1) := by decide +kernel
theorem dX2_copy_1 : decode cX2_copy 1 = .ok (.getfield 9, 3) := by decide +kernel
theorem dX2_copy_4 : decode cX2_copy 4 = .ok (.iconst 0, 1) := by decide +kernel
theorem dX2_copy_5 : decode cX2_copy 5 = .ok (.aload_n 0, 1) := by decide +kernel
theorem dX2_copy_6 : decode cX2_copy 6 = .ok (.getfield 9, 3) := by decide +kernel
theorem dX2_copy_9 : decode cX2_copy 9 = .ok (.iconst 0, 1) := by decide +kernel
theorem dX2_copy_10 : decode cX2_copy 10 = .ok (.aload_n 0, 1) := by decide +kernel
theorem dX2_copy_11 : decode cX2_copy 11 = .ok (.getfield 9, 3) := by decide +kernel
theorem dX2_copy_14 : decode cX2_copy 14 = .ok (.arraylength, 1) := by decide +kernel
theorem dX2_copy_15 : decode cX2_copy 15 = .ok (.invokestatic 22, 3) := by decide +kernel
theorem dX2_copy_18 : decode cX2_copy 18 = .ok (.aload_n 1, 1) := by decide +kernel
theorem dX2_copy_19 : decode cX2_copy 19 = .ok (.getfield 15, 3) := by decide +kernel
theorem dX2_copy_22 : decode cX2_copy 22 = .ok (.iconst 0, 1) := by decide +kernel
theorem dX2_copy_23 : decode cX2_copy 23 = .ok (.aload_n 0, 1) := by decide +kernel
theorem dX2_copy_24 : decode cX2_copy 24 = .ok (.getfield 15, 3) := by decide +kernel
theorem dX2_copy_27 : decode cX2_copy 27 = .ok (.iconst 0, 1) := by decide +kernel
theorem dX2_copy_28 : decode cX2_copy 28 = .ok (.aload_n 0, 1) := by decide +kernel
theorem dX2_copy_29 : decode cX2_copy 29 = .ok (.getfield 15, 3) := by decide +kernel
theorem dX2_copy_32 : decode cX2_copy 32 = .ok (.arraylength, 1) := by decide +kernel
theorem dX2_copy_33 : decode cX2_copy 33 = .ok (.invokestatic 22, 3) := by decide +kernel
theorem dX2_copy_36 : decode cX2_copy 36 = .ok (.aload_n 0, 1) := by decide +kernel
theorem dX2_copy_37 : decode cX2_copy 37 = .ok (.aload_n 1, 1) := by decide +kernel
theorem dX2_copy_38 : decode cX2_copy 38 = .ok (.getfield 18, 3) := by decide +kernel
theorem dX2_copy_41 : decode cX2_copy 41 = .ok (.putfield 18, 3) := by decide +kernel
theorem dX2_copy_44 : decode cX2_copy 44 = .ok (.return_, 1) := by decide +kernel
theorem dX2_empty_0 : decode cX2_empty 0 = .ok (.aload_n 0, 1) := by decide +kernel
theorem dX2_empty_1 : decode cX2_empty 1 = .ok (.iconst 0, 1) := by decide +kernel
theorem dX2_empty_2 : decode cX2_empty 2 = .ok (.putfield 18, 3) := by decide +kernel
theorem dX2_empty_5 : decode cX2_empty 5 = .ok (.return_, 1) := by decide +kernel
theorem dX2_keep_0 : decode cX2_keep 0 = .ok (.aload_n 0, 1) := by decide +kernel
theorem dX2_keep_1 : decode cX2_keep 1 = .ok (.getfield 18, 3) := by decide +kernel
theorem dX2_keep_4 : decode cX2_keep 4 = .ok (.bipush 8, 2) := by decide +kernel
theorem dX2_keep_6 : decode cX2_keep 6 = .ok (.if_icmp .lt 7, 3) := by decide +kernel
theorem dX2_keep_9 : decode cX2_keep 9 = .ok (.aload_n 0, 1) := by decide +kernel
theorem dX2_keep_10 : decode cX2_keep 10 = .ok (.invokevirtual 28, 3) := by decide +kernel
theorem dX2_keep_13 : decode cX2_keep 13 = .ok (.aload_n 0, 1) := by decide +kernel
theorem dX2_keep_14 : decode cX2_keep 14 = .ok (.getfield 18, 3) := by decide +kernel
theorem dX2_keep_17 : decode cX2_keep 17 = .ok (.iconst 0, 1) := by decide +kernel
theorem dX2_keep_18 : decode cX2_keep 18 = .ok (.bipush 7, 2) := by decide +kernel
theorem dX2_keep_20 : decode cX2_keep 20 = .ok (.invokestatic 31, 3) := by decide +kernel
theorem dX2_keep_23 : decode cX2_keep 23 = .ok (.ifCond .eq 44, 3) := by decide +kernel
theorem dX2_keep_26 : decode cX2_keep 26 = .ok (.aload_n 1, 1) := by decide +kernel
theorem dX2_keep_27 : decode cX2_keep 27 = .ok (.getfield 35, 3) := by decide +kernel
theorem dX2_keep_30 : decode cX2_keep 30 = .ok (.iconst 0, 1) := by decide +kernel
theorem dX2_keep_31 : decode cX2_keep 31 = .ok (.aload_n 0, 1) := by decide +kernel
theorem dX2_keep_32 : decode cX2_keep 32 = .ok (.getfield 9, 3) := by decide +kernel
theorem dX2_keep_35 : decode cX2_keep 35 = .ok (.aload_n 0, 1) := by decide +kernel
theorem dX2_keep_36 : decode cX2_keep 36 = .ok (.getfield 18, 3) := by decide +kernel
theorem dX2_keep_39 : decode cX2_keep 39 = .ok (.bipush 25, 2) := by decide +kernel
theorem dX2_keep_41 : decode cX2_keep 41 = .ok (.imul, 1) := by decide +kernel
theorem dX2_keep_42 : decode cX2_keep 42 = .ok (.bipush 25, 2) := by decide +kernel
theorem dX2_keep_44 : decode cX2_keep 44 = .ok (.invokestatic 22, 3) := by decide +kernel
theorem dX2_keep_47 : decode cX2_keep 47 = .ok (.aload_n 0, 1) := by decide +kernel
theorem dX2_keep_48 : decode cX2_keep 48 = .ok (.getfield 15, 3) := by decide +kernel
theorem dX2_keep_51 : decode cX2_keep 51 = .ok (.aload_n 0, 1) := by decide +kernel
theorem dX2_keep_52 : decode cX2_keep 52 = .ok (.getfield 18, 3) := by decide +kernel
theorem dX2_keep_55 : decode cX2_keep 55 = .ok (.iload_n 2, 1) := by decide +kernel
theorem dX2_keep_56 : decode cX2_keep 56 = .ok (.iastore, 1) := by decide +kernel
theorem dX2_keep_57 : decode cX2_keep 57 = .ok (.aload_n 0, 1) := by decide +kernel
theorem dX2_keep_58 : decode cX2_keep 58 = .ok (.dup, 1) := by decide +kernel
theorem dX2_keep_59 : decode cX2_keep 59 = .ok (.getfield 18, 3) := by decide +kernel
theorem dX2_keep_62 : decode cX2_keep 62 = .ok (.iconst 1, 1) := by decide +kernel
theorem dX2_keep_63 : decode cX2_keep 63 = .ok (.iadd, 1) := by decide +kernel
theorem dX2_keep_64 : decode cX2_keep 64 = .ok (.putfield 18, 3) := by decide +kernel
theorem dX2_keep_67 : decode cX2_keep 67 = .ok (.return_, 1) := by decide +kernel
theorem dX2_dropOldest_0 : decode cX2_dropOldest 0 = .ok (.aload_n 0, 1) := by decide +kernel
theorem dX2_dropOldest_1 : decode cX2_dropOldest 1 = .ok (.getfield 9, 3) := by decide +kernel
theorem dX2_dropOldest_4 : decode cX2_dropOldest 4 = .ok (.bipush 25, 2) := by decide +kernel
theorem dX2_dropOldest_6 : decode cX2_dropOldest 6 = .ok (.aload_n 0, 1) := by decide +kernel
theorem dX2_dropOldest_7 : decode cX2_dropOldest 7 = .ok (.getfield 9, 3) := by decide +kernel
theorem dX2_dropOldest_10 : decode cX2_dropOldest 10 = .ok (.iconst 0, 1) := by decide +kernel
theorem dX2_dropOldest_11 : decode cX2_dropOldest 11 = .ok (.sipush 175, 3) := by decide +kernel
theorem dX2_dropOldest_14 : decode cX2_dropOldest 14 = .ok (.invokestatic 22, 3) := by decide +kernel
theorem dX2_dropOldest_17 : decode cX2_dropOldest 17 = .ok (.aload_n 0, 1) := by decide +kernel
theorem dX2_dropOldest_18 : decode cX2_dropOldest 18 = .ok (.getfield 15, 3) := by decide +kernel
theorem dX2_dropOldest_21 : decode cX2_dropOldest 21 = .ok (.iconst 1, 1) := by decide +kernel
theorem dX2_dropOldest_22 : decode cX2_dropOldest 22 = .ok (.aload_n 0, 1) := by decide +kernel
theorem dX2_dropOldest_23 : decode cX2_dropOldest 23 = .ok (.getfield 15, 3) := by decide +kernel
theorem dX2_dropOldest_26 : decode cX2_dropOldest 26 = .ok (.iconst 0, 1) := by decide +kernel
theorem dX2_dropOldest_27 : decode cX2_dropOldest 27 = .ok (.bipush 7, 2) := by decide +kernel
theorem dX2_dropOldest_29 : decode cX2_dropOldest 29 = .ok (.invokestatic 22, 3) := by decide +kernel
theorem dX2_dropOldest_32 : decode cX2_dropOldest 32 = .ok (.aload_n 0, 1) := by decide +kernel
theorem dX2_dropOldest_33 : decode cX2_dropOldest 33 = .ok (.bipush 7, 2) := by decide +kernel
theorem dX2_dropOldest_35 : decode cX2_dropOldest 35 = .ok (.putfield 18, 3) := by decide +kernel
theorem dX2_dropOldest_38 : decode cX2_dropOldest 38 = .ok (.return_, 1) := by decide +kernel
theorem dX2_goBack_0 : decode cX2_goBack 0 = .ok (.aload_n 0, 1) := by decide +kernel
theorem dX2_goBack_1 : decode cX2_goBack 1 = .ok (.getfield 18, 3) := by decide +kernel
theorem dX2_goBack_4 : decode cX2_goBack 4 = .ok (.iconst 1, 1) := by decide +kernel
theorem dX2_goBack_5 : decode cX2_goBack 5 = .ok (.bipush 8, 2) := by decide +kernel
theorem dX2_goBack_7 : decode cX2_goBack 7 = .ok (.invokestatic 31, 3) := by decide +kernel
theorem dX2_goBack_10 : decode cX2_goBack 10 = .ok (.ifCond .ne 5, 3) := by decide +kernel
theorem dX2_goBack_13 : decode cX2_goBack 13 = .ok (.iconst 0, 1) := by decide +kernel
theorem dX2_goBack_14 : decode cX2_goBack 14 = .ok (.ireturn, 1) := by decide +kernel
theorem dX2_goBack_15 : decode cX2_goBack 15 = .ok (.aload_n 0, 1) := by decide +kernel
theorem dX2_goBack_16 : decode cX2_goBack 16 = .ok (.dup, 1) := by decide +kernel
theorem dX2_goBack_17 : decode cX2_goBack 17 = .ok (.getfield 18, 3) := by decide +kernel
theorem dX2_goBack_20 : decode cX2_goBack 20 = .ok (.iconst 1, 1) := by decide +kernel
theorem dX2_goBack_21 : decode cX2_goBack 21 = .ok (.isub, 1) := by decide +kernel
theorem dX2_goBack_22 : decode cX2_goBack 22 = .ok (.putfield 18, 3) := by decide +kernel
theorem dX2_goBack_25 : decode cX2_goBack 25 = .ok (.aload_n 0, 1) := by decide +kernel
theorem dX2_goBack_26 : decode cX2_goBack 26 = .ok (.getfield 9, 3) := by decide +kernel
theorem dX2_goBack_29 : decode cX2_goBack 29 = .ok (.aload_n 0, 1) := by decide +kernel
theorem dX2_goBack_30 : decode cX2_goBack 30 = .ok (.getfield 18, 3) := by decide +kernel
theorem dX2_goBack_33 : decode cX2_goBack 33 = .ok (.bipush 25, 2) := by decide +kernel
theorem dX2_goBack_35 : decode cX2_goBack 35 = .ok (.imul, 1) := by decide +kernel
theorem dX2_goBack_36 : decode cX2_goBack 36 = .ok (.aload_n 1, 1) := by decide +kernel
theorem dX2_goBack_37 : decode cX2_goBack 37 = .ok (.getfield 35, 3) := by decide +kernel
theorem dX2_goBack_40 : decode cX2_goBack 40 = .ok (.iconst 0, 1) := by decide +kernel
theorem dX2_goBack_41 : decode cX2_goBack 41 = .ok (.bipush 25, 2) := by decide +kernel
theorem dX2_goBack_43 : decode cX2_goBack 43 = .ok (.invokestatic 22, 3) := by decide +kernel
theorem dX2_goBack_46 : decode cX2_goBack 46 = .ok (.aload_n 0, 1) := by decide +kernel
theorem dX2_goBack_47 : decode cX2_goBack 47 = .ok (.getfield 15, 3) := by decide +kernel
theorem dX2_goBack_50 : decode cX2_goBack 50 = .ok (.aload_n 0, 1) := by decide +kernel
theorem dX2_goBack_51 : decode cX2_goBack 51 = .ok (.getfield 18, 3) := by decide +kernel
theorem dX2_goBack_54 : decode cX2_goBack 54 = .ok (.iaload, 1) := by decide +kernel
theorem dX2_goBack_55 : decode cX2_goBack 55 = .ok (.ireturn, 1) := by decide +kernel
theorem dX3_init_0 : decode cX3_init 0 = .ok (.aload_n 0, 1) := by decide +kernel
theorem dX3_init_1 : decode cX3_init 1 = .ok (.invokespecial 3, 3) := by decide +kernel
theorem dX3_init_4 : decode cX3_init 4 = .ok (.aload_n 0, 1) := by decide +kernel
theorem dX3_init_5 : decode cX3_init 5 = .ok (.bipush 30, 2) := by decide +kernel
theorem dX3_init_7 : decode cX3_init 7 = .ok (.newarray .int, 2) := by decide +kernel
theorem dX3_init_9 : decode cX3_init 9 = .ok (.putfield 9, 3) := by decide +kernel
theorem dX3_init_12 : decode cX3_init 12 = .ok (.aload_n 0, 1) := by decide +kernel
theorem dX3_init_13 : decode cX3_init 13 = .ok (.iconst 0, 1) := by decide +kernel
theorem dX3_init_14 : decode cX3_init 14 = .ok (.putfield 15, 3) := by decide +kernel
theorem dX3_init_17 : decode cX3_init 17 = .ok (.return_, 1) := by decide +kernel
theorem dX3_copy_0 : decode cX3_copy 0 = .ok (.aload_n 1, 1) := by decide +kernel
theorem dX3_copy_1 : decode cX3_copy 1 = .ok (.getfield 9, 3) := by decide +kernel
theorem dX3_copy_4 : decode cX3_copy 4 = .ok (.iconst 0, 1) := by decide +kernel
theorem dX3_copy_5 : decode cX3_copy 5 = .ok (.aload_n 0, 1) := by decide +kernel
theorem dX3_copy_6 : decode cX3_copy 6 = .ok (.getfield 9, 3) := by decide +kernel
theorem dX3_copy_9 : decode cX3_copy 9 = .ok (.iconst 0, 1) := by decide +kernel
theorem dX3_copy_10 : decode cX3_copy 10 = .ok (.aload_n 0, 1) := by decide +kernel
theorem dX3_copy_11 : decode cX3_copy 11 = .ok (.getfield 9, 3) := by decide +kernel
theorem dX3_copy_14 : decode cX3_copy 14 = .ok (.arraylength, 1) := by decide +kernel
theorem dX3_copy_15 : decode cX3_copy 15 = .ok (.invokestatic 19, 3) := by decide +kernel
theorem dX3_copy_18 : decode cX3_copy 18 = .ok (.aload_n 0, 1) := by decide +kernel
theorem dX3_copy_19 : decode cX3_copy 19 = .ok (.aload_n 1, 1) := by decide +kernel
theorem dX3_copy_20 : decode cX3_copy 20 = .ok (.getfield 15, 3) := by decide +kernel
theorem dX3_copy_23 : decode cX3_copy 23 = .ok (.putfield 15, 3) := by decide +kernel
theorem dX3_copy_26 : decode cX3_copy 26 = .ok (.return_, 1) := by decide +kernel
theorem dX3_add_0 : decode cX3_add 0 = .ok (.aload_n 0, 1) := by decide +kernel
theorem dX3_add_1 : decode cX3_add 1 = .ok (.getfield 15, 3) := by decide +kernel
theorem dX3_add_4 : decode cX3_add 4 = .ok (.iconst 0, 1) := by decide +kernel
theorem dX3_add_5 : decode cX3_add 5 = .ok (.iconst 5, 1) := by decide +kernel
theorem dX3_add_6 : decode cX3_add 6 = .ok (.invokestatic 25, 3) := by decide +kernel
theorem dX3_add_9 : decode cX3_add 9 = .ok (.ifCond .eq 71, 3) := by decide +kernel
theorem dX3_add_12 : decode cX3_add 12 = .ok (.aload_n 0, 1) := by decide +kernel
theorem dX3_add_13 : decode cX3_add 13 = .ok (.getfield 15, 3) := by decide +kernel
theorem dX3_add_16 : decode cX3_add 16 = .ok (.iconst 5, 1) := by decide +kernel
theorem dX3_add_17 : decode cX3_add 17 = .ok (.imul, 1) := by decide +kernel
theorem dX3_add_18 : decode cX3_add 18 = .ok (.istore 6, 2) := by decide +kernel
theorem dX3_add_20 : decode cX3_add 20 = .ok (.aload_n 0, 1) := by decide +kernel
theorem dX3_add_21 : decode cX3_add 21 = .ok (.getfield 9, 3) := by decide +kernel
theorem dX3_add_24 : decode cX3_add 24 = .ok (.iload 6, 2) := by decide +kernel
theorem dX3_add_26 : decode cX3_add 26 = .ok (.iload_n 1, 1) := by decide +kernel
theorem dX3_add_27 : decode cX3_add 27 = .ok (.iastore, 1) := by decide +kernel
theorem dX3_add_28 : decode cX3_add 28 = .ok (.aload_n 0, 1) := by decide +kernel
theorem dX3_add_29 : decode cX3_add 29 = .ok (.getfield 9, 3) := by decide +kernel
theorem dX3_add_32 : decode cX3_add 32 = .ok (.iload 6, 2) := by decide +kernel
theorem dX3_add_34 : decode cX3_add 34 = .ok (.iconst 1, 1) := by decide +kernel
theorem dX3_add_35 : decode cX3_add 35 = .ok (.iadd, 1) := by decide +kernel
theorem dX3_add_36 : decode cX3_add 36 = .ok (.iload_n 2, 1) := by decide +kernel
theorem dX3_add_37 : decode cX3_add 37 = .ok (.iastore, 1) := by decide +kernel
theorem dX3_add_38 : decode cX3_add 38 = .ok (.aload_n 0, 1) := by decide +kernel
theorem dX3_add_39 : decode cX3_add 39 = .ok (.getfield 9, 3) := by decide +kernel
theorem dX3_add_42 : decode cX3_add 42 = .ok (.iload 6, 2) := by decide +kernel
theorem dX3_add_44 : decode cX3_add 44 = .ok (.iconst 2, 1) := by decide +kernel
theorem dX3_add_45 : decode cX3_add 45 = .ok (.iadd, 1) := by decide +kernel
theorem dX3_add_46 : decode cX3_add 46 = .ok (.iload_n 3, 1) := by decide +kernel
theorem dX3_add_47 : decode cX3_add 47 = .ok (.iastore, 1) := by decide +kernel
theorem dX3_add_48 : decode cX3_add 48 = .ok (.aload_n 0, 1) := by decide +kernel
theorem dX3_add_49 : decode cX3_add 49 = .ok (.getfield 9, 3) := by decide +kernel
theorem dX3_add_52 : decode cX3_add 52 = .ok (.iload 6, 2) := by decide +kernel
theorem dX3_add_54 : decode cX3_add 54 = .ok (.iconst 3, 1) := by decide +kernel
theorem dX3_add_55 : decode cX3_add 55 = .ok (.iadd, 1) := by decide +kernel
theorem dX3_add_56 : decode cX3_add 56 = .ok (.iload 4, 2) := by decide +kernel
theorem dX3_add_58 : decode cX3_add 58 = .ok (.iastore, 1) := by decide +kernel
theorem dX3_add_59 : decode cX3_add 59 = .ok (.aload_n 0, 1) := by decide +kernel
theorem dX3_add_60 : decode cX3_add 60 = .ok (.getfield 9, 3) := by decide +kernel
theorem dX3_add_63 : decode cX3_add 63 = .ok (.iload 6, 2) := by decide +kernel
theorem dX3_add_65 : decode cX3_add 65 = .ok (.iconst 4, 1) := by decide +kernel
theorem dX3_add_66 : decode cX3_add 66 = .ok (.iadd, 1) := by decide +kernel
theorem dX3_add_67 : decode cX3_add 67 = .ok (.iload 5, 2) := by decide +kernel
theorem dX3_add_69 : decode cX3_add 69 = .ok (.iastore, 1) := by decide +kernel
theorem dX3_add_70 : decode cX3_add 70 = .ok (.aload_n 0, 1) := by decide +kernel
theorem dX3_add_71 : decode cX3_add 71 = .ok (.dup, 1) := by decide +kernel
theorem dX3_add_72 : decode cX3_add 72 = .ok (.getfield 15, 3) := by decide +kernel
theorem dX3_add_75 : decode cX3_add 75 = .ok (.iconst 1, 1) := by decide +kernel
theorem dX3_add_76 : decode cX3_add 76 = .ok (.iadd, 1) := by decide +kernel
theorem dX3_add_77 : decode cX3_add 77 = .ok (.putfield 15, 3) := by decide +kernel
theorem dX3_add_80 : decode cX3_add 80 = .ok (.aload_n 0, 1) := by decide +kernel
theorem dX3_add_81 : decode cX3_add 81 = .ok (.getfield 15, 3) := by decide +kernel
theorem dX3_add_84 : decode cX3_add 84 = .ok (.ireturn, 1) := by decide +kernel
theorem dX3_at_0 : decode cX3_at 0 = .ok (.iload_n 1, 1) := by decide +kernel
theorem dX3_at_1 : decode cX3_at 1 = .ok (.iconst 5, 1) := by decide +kernel
theorem dX3_at_2 : decode cX3_at 2 = .ok (.imul, 1) := by decide +kernel
theorem dX3_at_3 : decode cX3_at 3 = .ok (.iload_n 2, 1) := by decide +kernel
theorem dX3_at_4 : decode cX3_at 4 = .ok (.iadd, 1) := by decide +kernel
theorem dX3_at_5 : decode cX3_at 5 = .ok (.istore_n 3, 1) := by decide +kernel
theorem dX3_at_6 : decode cX3_at 6 = .ok (.iload_n 3, 1) := by decide +kernel
theorem dX3_at_7 : decode cX3_at 7 = .ok (.ifCond .lt 21, 3) := by decide +kernel
theorem dX3_at_10 : decode cX3_at 10 = .ok (.iload_n 3, 1) := by decide +kernel
theorem dX3_at_11 : decode cX3_at 11 = .ok (.aload_n 0, 1) := by decide +kernel
theorem dX3_at_12 : decode cX3_at 12 = .ok (.getfield 9, 3) := by decide +kernel
theorem dX3_at_15 : decode cX3_at 15 = .ok (.arraylength, 1) := by decide +kernel
theorem dX3_at_16 : decode cX3_at 16 = .ok (.if_icmp .ge 12, 3) := by decide +kernel
theorem dX3_at_19 : decode cX3_at 19 = .ok (.aload_n 0, 1) := by decide +kernel
theorem dX3_at_20 : decode cX3_at 20 = .ok (.getfield 9, 3) := by decide +kernel
theorem dX3_at_23 : decode cX3_at 23 = .ok (.iload_n 3, 1) := by decide +kernel
theorem dX3_at_24 : decode cX3_at 24 = .ok (.iaload, 1) := by decide +kernel
theorem dX3_at_25 : decode cX3_at 25 = .ok (.goto 4, 3) := by decide +kernel
theorem dX3_at_28 : decode cX3_at 28 = .ok (.iconst 0, 1) := by decide +kernel
theorem dX3_at_29 : decode cX3_at 29 = .ok (.ireturn, 1) := by decide +kernel
theorem dX3_empty_0 : decode cX3_empty 0 = .ok (.aload_n 0, 1) := by decide +kernel
theorem dX3_empty_1 : decode cX3_empty 1 = .ok (.getfield 15, 3) := by decide +kernel
theorem dX3_empty_4 : decode cX3_empty 4 = .ok (.istore_n 1, 1) := by decide +kernel
theorem dX3_empty_5 : decode cX3_empty 5 = .ok (.aload_n 0, 1) := by decide +kernel
theorem dX3_empty_6 : decode cX3_empty 6 = .ok (.iconst 0, 1) := by decide +kernel
theorem dX3_empty_7 : decode cX3_empty 7 = .ok (.putfield 15, 3) := by decide +kernel
theorem dX3_empty_10 : decode cX3_empty 10 = .ok (.iload_n 1, 1) := by decide +kernel
theorem dX3_empty_11 : decode cX3_empty 11 = .ok (.ireturn, 1) := by decide +kernel
theorem dX3_fold_0 : decode cX3_fold 0 = .ok (.lload_n 1, 1) := by decide +kernel
theorem dX3_fold_1 : decode cX3_fold 1 = .ok (.lstore_n 3, 1) := by decide +kernel
theorem dX3_fold_2 : decode cX3_fold 2 = .ok (.iconst 0, 1) := by decide +kernel
theorem dX3_fold_3 : decode cX3_fold 3 = .ok (.istore 5, 2) := by decide +kernel
theorem dX3_fold_5 : decode cX3_fold 5 = .ok (.iload 5, 2) := by decide +kernel
theorem dX3_fold_7 : decode cX3_fold 7 = .ok (.aload_n 0, 1) := by decide +kernel
theorem dX3_fold_8 : decode cX3_fold 8 = .ok (.getfield 15, 3) := by decide +kernel
theorem dX3_fold_11 : decode cX3_fold 11 = .ok (.iconst 5, 1) := by decide +kernel
theorem dX3_fold_12 : decode cX3_fold 12 = .ok (.imul, 1) := by decide +kernel
theorem dX3_fold_13 : decode cX3_fold 13 = .ok (.if_icmp .ge 34, 3) := by decide +kernel
theorem dX3_fold_16 : decode cX3_fold 16 = .ok (.iload 5, 2) := by decide +kernel
theorem dX3_fold_18 : decode cX3_fold 18 = .ok (.aload_n 0, 1) := by decide +kernel
theorem dX3_fold_19 : decode cX3_fold 19 = .ok (.getfield 9, 3) := by decide +kernel
theorem dX3_fold_22 : decode cX3_fold 22 = .ok (.arraylength, 1) := by decide +kernel
theorem dX3_fold_23 : decode cX3_fold 23 = .ok (.if_icmp .ge 24, 3) := by decide +kernel
theorem dX3_fold_26 : decode cX3_fold 26 = .ok (.ldc2_w 29, 3) := by decide +kernel
theorem dX3_fold_29 : decode cX3_fold 29 = .ok (.lload_n 3, 1) := by decide +kernel
theorem dX3_fold_30 : decode cX3_fold 30 = .ok (.lmul, 1) := by decide +kernel
theorem dX3_fold_31 : decode cX3_fold 31 = .ok (.aload_n 0, 1) := by decide +kernel
theorem dX3_fold_32 : decode cX3_fold 32 = .ok (.getfield 9, 3) := by decide +kernel
theorem dX3_fold_35 : decode cX3_fold 35 = .ok (.iload 5, 2) := by decide +kernel
theorem dX3_fold_37 : decode cX3_fold 37 = .ok (.iaload, 1) := by decide +kernel
theorem dX3_fold_38 : decode cX3_fold 38 = .ok (.i2l, 1) := by decide +kernel
theorem dX3_fold_39 : decode cX3_fold 39 = .ok (.ladd, 1) := by decide +kernel
theorem dX3_fold_40 : decode cX3_fold 40 = .ok (.lstore_n 3, 1) := by decide +kernel
theorem dX3_fold_41 : decode cX3_fold 41 = .ok (.iinc 5 1, 3) := by decide +kernel
theorem dX3_fold_44 : decode cX3_fold 44 = .ok (.goto (-39), 3) := by decide +kernel
theorem dX3_fold_47 : decode cX3_fold 47 = .ok (.lload_n 3, 1) := by decide +kernel
theorem dX3_fold_48 : decode cX3_fold 48 = .ok (.lreturn, 1) := by decide +kernel
theorem dX4_init_0 : decode cX4_init 0 = .ok (.aload_n 0, 1) := by decide +kernel
theorem dX4_init_1 : decode cX4_init 1 = .ok (.invokespecial 3, 3) := by decide +kernel
theorem dX4_init_4 : decode cX4_init 4 = .ok (.aload_n 0, 1) := by decide +kernel
theorem dX4_init_5 : decode cX4_init 5 = .ok (.bipush 25, 2) := by decide +kernel
theorem dX4_init_7 : decode cX4_init 7 = .ok (.newarray .int, 2) := by decide +kernel
theorem dX4_init_9 : decode cX4_init 9 = .ok (.putfield 9, 3) := by decide +kernel
theorem dX4_init_12 : decode cX4_init 12 = .ok (.aload_n 0, 1) := by decide +kernel
theorem dX4_init_13 : decode cX4_init 13 = .ok (.bipush 25, 2) := by decide +kernel
theorem dX4_init_15 : decode cX4_init 15 = .ok (.newarray .int, 2) := by decide +kernel
theorem dX4_init_17 : decode cX4_init 17 = .ok (.putfield 15, 3) := by decide +kernel
theorem dX4_init_20 : decode cX4_init 20 = .ok (.return_, 1) := by decide +kernel
theorem dX4_copy_0 : decode cX4_copy 0 = .ok (.aload_n 1, 1) := by decide +kernel
theorem dX4_copy_1 : decode cX4_copy 1 = .ok (.getfield 9, 3) := by decide +kernel
theorem dX4_copy_4 : decode cX4_copy 4 = .ok (.iconst 0, 1) := by decide +kernel
theorem dX4_copy_5 : decode cX4_copy 5 = .ok (.aload_n 0, 1) := by decide +kernel
theorem dX4_copy_6 : decode cX4_copy 6 = .ok (.getfield 9, 3) := by decide +kernel
theorem dX4_copy_9 : decode cX4_copy 9 = .ok (.iconst 0, 1) := by decide +kernel
theorem dX4_copy_10 : decode cX4_copy 10 = .ok (.bipush 25, 2) := by decide +kernel
theorem dX4_copy_12 : decode cX4_copy 12 = .ok (.invokestatic 18, 3) := by decide +kernel
theorem dX4_copy_15 : decode cX4_copy 15 = .ok (.aload_n 1, 1) := by decide +kernel
theorem dX4_copy_16 : decode cX4_copy 16 = .ok (.getfield 15, 3) := by decide +kernel
theorem dX4_copy_19 : decode cX4_copy 19 = .ok (.iconst 0, 1) := by decide +kernel
theorem dX4_copy_20 : decode cX4_copy 20 = .ok (.aload_n 0, 1) := by decide +kernel
theorem dX4_copy_21 : decode cX4_copy 21 = .ok (.getfield 15, 3) := by decide +kernel
theorem dX4_copy_24 : decode cX4_copy 24 = .ok (.iconst 0, 1) := by decide +kernel
theorem dX4_copy_25 : decode cX4_copy 25 = .ok (.bipush 25, 2) := by decide +kernel
theorem dX4_copy_27 : decode cX4_copy 27 = .ok (.invokestatic 18, 3) := by decide +kernel
theorem dX4_copy_30 : decode cX4_copy 30 = .ok (.return_, 1) := by decide +kernel
theorem dX4_restart_0 : decode cX4_restart 0 = .ok (.aload_n 0, 1) := by decide +kernel
theorem dX4_restart_1 : decode cX4_restart 1 = .ok (.getfield 9, 3) := by decide +kernel
theorem dX4_restart_4 : decode cX4_restart 4 = .ok (.iconst 0, 1) := by decide +kernel
theorem dX4_restart_5 : decode cX4_restart 5 = .ok (.invokestatic 24, 3) := by decide +kernel
theorem dX4_restart_8 : decode cX4_restart 8 = .ok (.aload_n 0, 1) := by decide +kernel
theorem dX4_restart_9 : decode cX4_restart 9 = .ok (.getfield 15, 3) := by decide +kernel
theorem dX4_restart_12 : decode cX4_restart 12 = .ok (.iload_n 1, 1) := by decide +kernel
theorem dX4_restart_13 : decode cX4_restart 13 = .ok (.invokestatic 24, 3) := by decide +kernel
theorem dX4_restart_16 : decode cX4_restart 16 = .ok (.return_, 1) := by decide +kernel
theorem dX4_kindOf_0 : decode cX4_kindOf 0 = .ok (.iload_n 1, 1) := by decide +kernel
theorem dX4_kindOf_1 : decode cX4_kindOf 1 = .ok (.invokestatic 30, 3) := by decide +kernel
theorem dX4_kindOf_4 : decode cX4_kindOf 4 = .ok (.ifCond .eq 12, 3) := by decide +kernel
theorem dX4_kindOf_7 : decode cX4_kindOf 7 = .ok (.aload_n 0, 1) := by decide +kernel
theorem dX4_kindOf_8 : decode cX4_kindOf 8 = .ok (.getfield 9, 3) := by decide +kernel
theorem dX4_kindOf_11 : decode cX4_kindOf 11 = .ok (.iload_n 1, 1) := by decide +kernel
theorem dX4_kindOf_12 : decode cX4_kindOf 12 = .ok (.iaload, 1) := by decide +kernel
theorem dX4_kindOf_13 : decode cX4_kindOf 13 = .ok (.goto 4, 3) := by decide +kernel
theorem dX4_kindOf_16 : decode cX4_kindOf 16 = .ok (.iconst 0, 1) := by decide +kernel
theorem dX4_kindOf_17 : decode cX4_kindOf 17 = .ok (.ireturn, 1) := by decide +kernel
theorem dX4_iceOf_0 : decode cX4_iceOf 0 = .ok (.iload_n 1, 1) := by decide +kernel
theorem dX4_iceOf_1 : decode cX4_iceOf 1 = .ok (.invokestatic 30, 3) := by decide +kernel
theorem dX4_iceOf_4 : decode cX4_iceOf 4 = .ok (.ifCond .eq 12, 3) := by decide +kernel
theorem dX4_iceOf_7 : decode cX4_iceOf 7 = .ok (.aload_n 0, 1) := by decide +kernel
theorem dX4_iceOf_8 : decode cX4_iceOf 8 = .ok (.getfield 15, 3) := by decide +kernel
theorem dX4_iceOf_11 : decode cX4_iceOf 11 = .ok (.iload_n 1, 1) := by decide +kernel
theorem dX4_iceOf_12 : decode cX4_iceOf 12 = .ok (.iaload, 1) := by decide +kernel
theorem dX4_iceOf_13 : decode cX4_iceOf 13 = .ok (.goto 4, 3) := by decide +kernel
theorem dX4_iceOf_16 : decode cX4_iceOf 16 = .ok (.iconst 0, 1) := by decide +kernel
theorem dX4_iceOf_17 : decode cX4_iceOf 17 = .ok (.ireturn, 1) := by decide +kernel
theorem dX4_bears_0 : decode cX4_bears 0 = .ok (.iload_n 1, 1) := by decide +kernel
theorem dX4_bears_1 : decode cX4_bears 1 = .ok (.invokestatic 30, 3) := by decide +kernel
theorem dX4_bears_4 : decode cX4_bears 4 = .ok (.ifCond .eq 21, 3) := by decide +kernel
theorem dX4_bears_7 : decode cX4_bears 7 = .ok (.aload_n 0, 1) := by decide +kernel
theorem dX4_bears_8 : decode cX4_bears 8 = .ok (.getfield 9, 3) := by decide +kernel
theorem dX4_bears_11 : decode cX4_bears 11 = .ok (.iload_n 1, 1) := by decide +kernel
theorem dX4_bears_12 : decode cX4_bears 12 = .ok (.iaload, 1) := by decide +kernel
theorem dX4_bears_13 : decode cX4_bears 13 = .ok (.aload_n 0, 1) := by decide +kernel
theorem dX4_bears_14 : decode cX4_bears 14 = .ok (.getfield 15, 3) := by decide +kernel
theorem dX4_bears_17 : decode cX4_bears 17 = .ok (.iload_n 1, 1) := by decide +kernel
theorem dX4_bears_18 : decode cX4_bears 18 = .ok (.iaload, 1) := by decide +kernel
theorem dX4_bears_19 : decode cX4_bears 19 = .ok (.invokestatic 34, 3) := by decide +kernel
theorem dX4_bears_22 : decode cX4_bears 22 = .ok (.goto 4, 3) := by decide +kernel
theorem dX4_bears_25 : decode cX4_bears 25 = .ok (.iconst 0, 1) := by decide +kernel
theorem dX4_bears_26 : decode cX4_bears 26 = .ok (.ireturn, 1) := by decide +kernel
theorem dX4_setKind_0 : decode cX4_setKind 0 = .ok (.iload_n 1, 1) := by decide +kernel
theorem dX4_setKind_1 : decode cX4_setKind 1 = .ok (.invokestatic 30, 3) := by decide +kernel
theorem dX4_setKind_4 : decode cX4_setKind 4 = .ok (.ifCond .eq 10, 3) := by decide +kernel
theorem dX4_setKind_7 : decode cX4_setKind 7 = .ok (.aload_n 0, 1) := by decide +kernel
theorem dX4_setKind_8 : decode cX4_setKind 8 = .ok (.getfield 9, 3) := by decide +kernel
theorem dX4_setKind_11 : decode cX4_setKind 11 = .ok (.iload_n 1, 1) := by decide +kernel
theorem dX4_setKind_12 : decode cX4_setKind 12 = .ok (.iload_n 2, 1) := by decide +kernel
theorem dX4_setKind_13 : decode cX4_setKind 13 = .ok (.iastore, 1) := by decide +kernel
theorem dX4_setKind_14 : decode cX4_setKind 14 = .ok (.return_, 1) := by decide +kernel
theorem dX4_setIce_0 : decode cX4_setIce 0 = .ok (.iload_n 1, 1) := by decide +kernel
theorem dX4_setIce_1 : decode cX4_setIce 1 = .ok (.invokestatic 30, 3) := by decide +kernel
theorem dX4_setIce_4 : decode cX4_setIce 4 = .ok (.ifCond .eq 10, 3) := by decide +kernel
theorem dX4_setIce_7 : decode cX4_setIce 7 = .ok (.aload_n 0, 1) := by decide +kernel
theorem dX4_setIce_8 : decode cX4_setIce 8 = .ok (.getfield 15, 3) := by decide +kernel
theorem dX4_setIce_11 : decode cX4_setIce 11 = .ok (.iload_n 1, 1) := by decide +kernel
theorem dX4_setIce_12 : decode cX4_setIce 12 = .ok (.iload_n 2, 1) := by decide +kernel
theorem dX4_setIce_13 : decode cX4_setIce 13 = .ok (.iastore, 1) := by decide +kernel
theorem dX4_setIce_14 : decode cX4_setIce 14 = .ok (.return_, 1) := by decide +kernel
theorem dX4_passDay_0 : decode cX4_passDay 0 = .ok (.iconst 0, 1) := by decide +kernel
theorem dX4_passDay_1 : decode cX4_passDay 1 = .ok (.istore_n 3, 1) := by decide +kernel
theorem dX4_passDay_2 : decode cX4_passDay 2 = .ok (.iload_n 3, 1) := by decide +kernel
theorem dX4_passDay_3 : decode cX4_passDay 3 = .ok (.bipush 25, 2) := by decide +kernel
theorem dX4_passDay_5 : decode cX4_passDay 5 = .ok (.if_icmp .ge 32, 3) := by decide +kernel
theorem dX4_passDay_8 : decode cX4_passDay 8 = .ok (.aload_n 0, 1) := by decide +kernel
theorem dX4_passDay_9 : decode cX4_passDay 9 = .ok (.getfield 15, 3) := by decide +kernel
theorem dX4_passDay_12 : decode cX4_passDay 12 = .ok (.iload_n 3, 1) := by decide +kernel
theorem dX4_passDay_13 : decode cX4_passDay 13 = .ok (.aload_n 0, 1) := by decide +kernel
theorem dX4_passDay_14 : decode cX4_passDay 14 = .ok (.getfield 9, 3) := by decide +kernel
theorem dX4_passDay_17 : decode cX4_passDay 17 = .ok (.iload_n 3, 1) := by decide +kernel
theorem dX4_passDay_18 : decode cX4_passDay 18 = .ok (.iaload, 1) := by decide +kernel
theorem dX4_passDay_19 : decode cX4_passDay 19 = .ok (.aload_n 0, 1) := by decide +kernel
theorem dX4_passDay_20 : decode cX4_passDay 20 = .ok (.getfield 15, 3) := by decide +kernel
theorem dX4_passDay_23 : decode cX4_passDay 23 = .ok (.iload_n 3, 1) := by decide +kernel
theorem dX4_passDay_24 : decode cX4_passDay 24 = .ok (.iaload, 1) := by decide +kernel
theorem dX4_passDay_25 : decode cX4_passDay 25 = .ok (.iload_n 1, 1) := by decide +kernel
theorem dX4_passDay_26 : decode cX4_passDay 26 = .ok (.iload_n 2, 1) := by decide +kernel
theorem dX4_passDay_27 : decode cX4_passDay 27 = .ok (.invokestatic 40, 3) := by decide +kernel
theorem dX4_passDay_30 : decode cX4_passDay 30 = .ok (.iastore, 1) := by decide +kernel
theorem dX4_passDay_31 : decode cX4_passDay 31 = .ok (.iinc 3 1, 3) := by decide +kernel
theorem dX4_passDay_34 : decode cX4_passDay 34 = .ok (.goto (-32), 3) := by decide +kernel
theorem dX4_passDay_37 : decode cX4_passDay 37 = .ok (.return_, 1) := by decide +kernel
theorem dX4_together_0 : decode cX4_together 0 = .ok (.iconst 0, 1) := by decide +kernel
theorem dX4_together_1 : decode cX4_together 1 = .ok (.istore_n 1, 1) := by decide +kernel
theorem dX4_together_2 : decode cX4_together 2 = .ok (.iconst 0, 1) := by decide +kernel
theorem dX4_together_3 : decode cX4_together 3 = .ok (.istore_n 2, 1) := by decide +kernel
theorem dX4_together_4 : decode cX4_together 4 = .ok (.iload_n 2, 1) := by decide +kernel
theorem dX4_together_5 : decode cX4_together 5 = .ok (.bipush 25, 2) := by decide +kernel
theorem dX4_together_7 : decode cX4_together 7 = .ok (.if_icmp .ge 18, 3) := by decide +kernel
theorem dX4_together_10 : decode cX4_together 10 = .ok (.iload_n 1, 1) := by decide +kernel
theorem dX4_together_11 : decode cX4_together 11 = .ok (.aload_n 0, 1) := by decide +kernel
theorem dX4_together_12 : decode cX4_together 12 = .ok (.getfield 15, 3) := by decide +kernel
theorem dX4_together_15 : decode cX4_together 15 = .ok (.iload_n 2, 1) := by decide +kernel
theorem dX4_together_16 : decode cX4_together 16 = .ok (.iaload, 1) := by decide +kernel
theorem dX4_together_17 : decode cX4_together 17 = .ok (.iadd, 1) := by decide +kernel
theorem dX4_together_18 : decode cX4_together 18 = .ok (.istore_n 1, 1) := by decide +kernel
theorem dX4_together_19 : decode cX4_together 19 = .ok (.iinc 2 1, 3) := by decide +kernel
theorem dX4_together_22 : decode cX4_together 22 = .ok (.goto (-18), 3) := by decide +kernel
theorem dX4_together_25 : decode cX4_together 25 = .ok (.iload_n 1, 1) := by decide +kernel
theorem dX4_together_26 : decode cX4_together 26 = .ok (.ireturn, 1) := by decide +kernel
theorem dX4_bearsTogether_0 : decode cX4_bearsTogether 0 = .ok (.iconst 0, 1) := by decide +kernel
theorem dX4_bearsTogether_1 : decode cX4_bearsTogether 1 = .ok (.istore_n 1, 1) := by decide +kernel
theorem dX4_bearsTogether_2 : decode cX4_bearsTogether 2 = .ok (.iconst 0, 1) := by decide +kernel
theorem dX4_bearsTogether_3 : decode cX4_bearsTogether 3 = .ok (.istore_n 2, 1) := by decide +kernel
theorem dX4_bearsTogether_4 : decode cX4_bearsTogether 4 = .ok (.iload_n 2, 1) := by decide +kernel
theorem dX4_bearsTogether_5 : decode cX4_bearsTogether 5 = .ok (.bipush 25, 2) := by decide +kernel
theorem dX4_bearsTogether_7 : decode cX4_bearsTogether 7 = .ok (.if_icmp .ge 17, 3) := by decide +kernel
theorem dX4_bearsTogether_10 : decode cX4_bearsTogether 10 = .ok (.iload_n 1, 1) := by decide +kernel
theorem dX4_bearsTogether_11 : decode cX4_bearsTogether 11 = .ok (.aload_n 0, 1) := by decide +kernel
theorem dX4_bearsTogether_12 : decode cX4_bearsTogether 12 = .ok (.iload_n 2, 1) := by decide +kernel
theorem dX4_bearsTogether_13 : decode cX4_bearsTogether 13 = .ok (.invokevirtual 44, 3) := by decide +kernel
theorem dX4_bearsTogether_16 : decode cX4_bearsTogether 16 = .ok (.iadd, 1) := by decide +kernel
theorem dX4_bearsTogether_17 : decode cX4_bearsTogether 17 = .ok (.istore_n 1, 1) := by decide +kernel
theorem dX4_bearsTogether_18 : decode cX4_bearsTogether 18 = .ok (.iinc 2 1, 3) := by decide +kernel
theorem dX4_bearsTogether_21 : decode cX4_bearsTogether 21 = .ok (.goto (-17), 3) := by decide +kernel
theorem dX4_bearsTogether_24 : decode cX4_bearsTogether 24 = .ok (.iload_n 1, 1) := by decide +kernel
theorem dX4_bearsTogether_25 : decode cX4_bearsTogether 25 = .ok (.ireturn, 1) := by decide +kernel
theorem dX4_bearing_0 : decode cX4_bearing 0 = .ok (.iconst 0, 1) := by decide +kernel
theorem dX4_bearing_1 : decode cX4_bearing 1 = .ok (.istore_n 2, 1) := by decide +kernel
theorem dX4_bearing_2 : decode cX4_bearing 2 = .ok (.iconst 0, 1) := by decide +kernel
theorem dX4_bearing_3 : decode cX4_bearing 3 = .ok (.istore_n 3, 1) := by decide +kernel
theorem dX4_bearing_4 : decode cX4_bearing 4 = .ok (.iload_n 3, 1) := by decide +kernel
theorem dX4_bearing_5 : decode cX4_bearing 5 = .ok (.bipush 25, 2) := by decide +kernel
theorem dX4_bearing_7 : decode cX4_bearing 7 = .ok (.if_icmp .ge 24, 3) := by decide +kernel
theorem dX4_bearing_10 : decode cX4_bearing 10 = .ok (.aload_n 0, 1) := by decide +kernel
theorem dX4_bearing_11 : decode cX4_bearing 11 = .ok (.iload_n 3, 1) := by decide +kernel
theorem dX4_bearing_12 : decode cX4_bearing 12 = .ok (.invokevirtual 44, 3) := by decide +kernel
theorem dX4_bearing_15 : decode cX4_bearing 15 = .ok (.iload_n 1, 1) := by decide +kernel
theorem dX4_bearing_16 : decode cX4_bearing 16 = .ok (.if_icmp .lt 9, 3) := by decide +kernel
theorem dX4_bearing_19 : decode cX4_bearing 19 = .ok (.iload_n 2, 1) := by decide +kernel
theorem dX4_bearing_20 : decode cX4_bearing 20 = .ok (.iconst 1, 1) := by decide +kernel
theorem dX4_bearing_21 : decode cX4_bearing 21 = .ok (.iload_n 3, 1) := by decide +kernel
theorem dX4_bearing_22 : decode cX4_bearing 22 = .ok (.ishl, 1) := by decide +kernel
theorem dX4_bearing_23 : decode cX4_bearing 23 = .ok (.ior, 1) := by decide +kernel
theorem dX4_bearing_24 : decode cX4_bearing 24 = .ok (.istore_n 2, 1) := by decide +kernel
theorem dX4_bearing_25 : decode cX4_bearing 25 = .ok (.iinc 3 1, 3) := by decide +kernel
theorem dX4_bearing_28 : decode cX4_bearing 28 = .ok (.goto (-24), 3) := by decide +kernel
theorem dX4_bearing_31 : decode cX4_bearing 31 = .ok (.iload_n 2, 1) := by decide +kernel
theorem dX4_bearing_32 : decode cX4_bearing 32 = .ok (.ireturn, 1) := by decide +kernel
theorem dX4_leastBeside_0 : decode cX4_leastBeside 0 = .ok (.sipush 198, 3) := by decide +kernel
theorem dX4_leastBeside_3 : decode cX4_leastBeside 3 = .ok (.istore_n 2, 1) := by decide +kernel
theorem dX4_leastBeside_4 : decode cX4_leastBeside 4 = .ok (.iload_n 1, 1) := by decide +kernel
theorem dX4_leastBeside_5 : decode cX4_leastBeside 5 = .ok (.iconst 5, 1) := by decide +kernel
theorem dX4_leastBeside_6 : decode cX4_leastBeside 6 = .ok (.irem, 1) := by decide +kernel
theorem dX4_leastBeside_7 : decode cX4_leastBeside 7 = .ok (.ifCond .le 15, 3) := by decide +kernel
theorem dX4_leastBeside_10 : decode cX4_leastBeside 10 = .ok (.iload_n 2, 1) := by decide +kernel
theorem dX4_leastBeside_11 : decode cX4_leastBeside 11 = .ok (.aload_n 0, 1) := by decide +kernel
theorem dX4_leastBeside_12 : decode cX4_leastBeside 12 = .ok (.iload_n 1, 1) := by decide +kernel
theorem dX4_leastBeside_13 : decode cX4_leastBeside 13 = .ok (.iconst 1, 1) := by decide +kernel
theorem dX4_leastBeside_14 : decode cX4_leastBeside 14 = .ok (.isub, 1) := by decide +kernel
theorem dX4_leastBeside_15 : decode cX4_leastBeside 15 = .ok (.invokevirtual 44, 3) := by decide +kernel
theorem dX4_leastBeside_18 : decode cX4_leastBeside 18 = .ok (.invokestatic 47, 3) := by decide +kernel
theorem dX4_leastBeside_21 : decode cX4_leastBeside 21 = .ok (.istore_n 2, 1) := by decide +kernel
theorem dX4_leastBeside_22 : decode cX4_leastBeside 22 = .ok (.iload_n 1, 1) := by decide +kernel
theorem dX4_leastBeside_23 : decode cX4_leastBeside 23 = .ok (.iconst 5, 1) := by decide +kernel
theorem dX4_leastBeside_24 : decode cX4_leastBeside 24 = .ok (.irem, 1) := by decide +kernel
theorem dX4_leastBeside_25 : decode cX4_leastBeside 25 = .ok (.iconst 4, 1) := by decide +kernel
theorem dX4_leastBeside_26 : decode cX4_leastBeside 26 = .ok (.if_icmp .ge 15, 3) := by decide +kernel
theorem dX4_leastBeside_29 : decode cX4_leastBeside 29 = .ok (.iload_n 2, 1) := by decide +kernel
theorem dX4_leastBeside_30 : decode cX4_leastBeside 30 = .ok (.aload_n 0, 1) := by decide +kernel
theorem dX4_leastBeside_31 : decode cX4_leastBeside 31 = .ok (.iload_n 1, 1) := by decide +kernel
theorem dX4_leastBeside_32 : decode cX4_leastBeside 32 = .ok (.iconst 1, 1) := by decide +kernel
theorem dX4_leastBeside_33 : decode cX4_leastBeside 33 = .ok (.iadd, 1) := by decide +kernel
theorem dX4_leastBeside_34 : decode cX4_leastBeside 34 = .ok (.invokevirtual 44, 3) := by decide +kernel
theorem dX4_leastBeside_37 : decode cX4_leastBeside 37 = .ok (.invokestatic 47, 3) := by decide +kernel
theorem dX4_leastBeside_40 : decode cX4_leastBeside 40 = .ok (.istore_n 2, 1) := by decide +kernel
theorem dX4_leastBeside_41 : decode cX4_leastBeside 41 = .ok (.iload_n 1, 1) := by decide +kernel
theorem dX4_leastBeside_42 : decode cX4_leastBeside 42 = .ok (.iconst 5, 1) := by decide +kernel
theorem dX4_leastBeside_43 : decode cX4_leastBeside 43 = .ok (.if_icmp .lt 15, 3) := by decide +kernel
theorem dX4_leastBeside_46 : decode cX4_leastBeside 46 = .ok (.iload_n 2, 1) := by decide +kernel
theorem dX4_leastBeside_47 : decode cX4_leastBeside 47 = .ok (.aload_n 0, 1) := by decide +kernel
theorem dX4_leastBeside_48 : decode cX4_leastBeside 48 = .ok (.iload_n 1, 1) := by decide +kernel
theorem dX4_leastBeside_49 : decode cX4_leastBeside 49 = .ok (.iconst 5, 1) := by decide +kernel
theorem dX4_leastBeside_50 : decode cX4_leastBeside 50 = .ok (.isub, 1) := by decide +kernel
theorem dX4_leastBeside_51 : decode cX4_leastBeside 51 = .ok (.invokevirtual 44, 3) := by decide +kernel
theorem dX4_leastBeside_54 : decode cX4_leastBeside 54 = .ok (.invokestatic 47, 3) := by decide +kernel
theorem dX4_leastBeside_57 : decode cX4_leastBeside 57 = .ok (.istore_n 2, 1) := by decide +kernel
theorem dX4_leastBeside_58 : decode cX4_leastBeside 58 = .ok (.iload_n 1, 1) := by decide +kernel
theorem dX4_leastBeside_59 : decode cX4_leastBeside 59 = .ok (.iconst 5, 1) := by decide +kernel
theorem dX4_leastBeside_60 : decode cX4_leastBeside 60 = .ok (.iadd, 1) := by decide +kernel
theorem dX4_leastBeside_61 : decode cX4_leastBeside 61 = .ok (.bipush 25, 2) := by decide +kernel
theorem dX4_leastBeside_63 : decode cX4_leastBeside 63 = .ok (.if_icmp .ge 15, 3) := by decide +kernel
theorem dX4_leastBeside_66 : decode cX4_leastBeside 66 = .ok (.iload_n 2, 1) := by decide +kernel
theorem dX4_leastBeside_67 : decode cX4_leastBeside 67 = .ok (.aload_n 0, 1) := by decide +kernel
theorem dX4_leastBeside_68 : decode cX4_leastBeside 68 = .ok (.iload_n 1, 1) := by decide +kernel
theorem dX4_leastBeside_69 : decode cX4_leastBeside 69 = .ok (.iconst 5, 1) := by decide +kernel
theorem dX4_leastBeside_70 : decode cX4_leastBeside 70 = .ok (.iadd, 1) := by decide +kernel
theorem dX4_leastBeside_71 : decode cX4_leastBeside 71 = .ok (.invokevirtual 44, 3) := by decide +kernel
theorem dX4_leastBeside_74 : decode cX4_leastBeside 74 = .ok (.invokestatic 47, 3) := by decide +kernel
theorem dX4_leastBeside_77 : decode cX4_leastBeside 77 = .ok (.istore_n 2, 1) := by decide +kernel
theorem dX4_leastBeside_78 : decode cX4_leastBeside 78 = .ok (.iload_n 2, 1) := by decide +kernel
theorem dX4_leastBeside_79 : decode cX4_leastBeside 79 = .ok (.ireturn, 1) := by decide +kernel
theorem dX4_iceOfWard_0 : decode cX4_iceOfWard 0 = .ok (.iload_n 1, 1) := by decide +kernel
theorem dX4_iceOfWard_1 : decode cX4_iceOfWard 1 = .ok (.iconst 2, 1) := by decide +kernel
theorem dX4_iceOfWard_2 : decode cX4_iceOfWard 2 = .ok (.idiv, 1) := by decide +kernel
theorem dX4_iceOfWard_3 : decode cX4_iceOfWard 3 = .ok (.iconst 3, 1) := by decide +kernel
theorem dX4_iceOfWard_4 : decode cX4_iceOfWard 4 = .ok (.imul, 1) := by decide +kernel
theorem dX4_iceOfWard_5 : decode cX4_iceOfWard 5 = .ok (.iconst 5, 1) := by decide +kernel
theorem dX4_iceOfWard_6 : decode cX4_iceOfWard 6 = .ok (.imul, 1) := by decide +kernel
theorem dX4_iceOfWard_7 : decode cX4_iceOfWard 7 = .ok (.iload_n 1, 1) := by decide +kernel
theorem dX4_iceOfWard_8 : decode cX4_iceOfWard 8 = .ok (.iconst 2, 1) := by decide +kernel
theorem dX4_iceOfWard_9 : decode cX4_iceOfWard 9 = .ok (.irem, 1) := by decide +kernel
theorem dX4_iceOfWard_10 : decode cX4_iceOfWard 10 = .ok (.iconst 3, 1) := by decide +kernel
theorem dX4_iceOfWard_11 : decode cX4_iceOfWard 11 = .ok (.imul, 1) := by decide +kernel
theorem dX4_iceOfWard_12 : decode cX4_iceOfWard 12 = .ok (.iadd, 1) := by decide +kernel
theorem dX4_iceOfWard_13 : decode cX4_iceOfWard 13 = .ok (.istore_n 2, 1) := by decide +kernel
theorem dX4_iceOfWard_14 : decode cX4_iceOfWard 14 = .ok (.aload_n 0, 1) := by decide +kernel
theorem dX4_iceOfWard_15 : decode cX4_iceOfWard 15 = .ok (.iload_n 2, 1) := by decide +kernel
theorem dX4_iceOfWard_16 : decode cX4_iceOfWard 16 = .ok (.invokevirtual 52, 3) := by decide +kernel
theorem dX4_iceOfWard_19 : decode cX4_iceOfWard 19 = .ok (.aload_n 0, 1) := by decide +kernel
theorem dX4_iceOfWard_20 : decode cX4_iceOfWard 20 = .ok (.iload_n 2, 1) := by decide +kernel
theorem dX4_iceOfWard_21 : decode cX4_iceOfWard 21 = .ok (.iconst 1, 1) := by decide +kernel
theorem dX4_iceOfWard_22 : decode cX4_iceOfWard 22 = .ok (.iadd, 1) := by decide +kernel
theorem dX4_iceOfWard_23 : decode cX4_iceOfWard 23 = .ok (.invokevirtual 52, 3) := by decide +kernel
theorem dX4_iceOfWard_26 : decode cX4_iceOfWard 26 = .ok (.iadd, 1) := by decide +kernel
theorem dX4_iceOfWard_27 : decode cX4_iceOfWard 27 = .ok (.aload_n 0, 1) := by decide +kernel
theorem dX4_iceOfWard_28 : decode cX4_iceOfWard 28 = .ok (.iload_n 2, 1) := by decide +kernel
theorem dX4_iceOfWard_29 : decode cX4_iceOfWard 29 = .ok (.iconst 5, 1) := by decide +kernel
theorem dX4_iceOfWard_30 : decode cX4_iceOfWard 30 = .ok (.iadd, 1) := by decide +kernel
theorem dX4_iceOfWard_31 : decode cX4_iceOfWard 31 = .ok (.invokevirtual 52, 3) := by decide +kernel
theorem dX4_iceOfWard_34 : decode cX4_iceOfWard 34 = .ok (.iadd, 1) := by decide +kernel
theorem dX4_iceOfWard_35 : decode cX4_iceOfWard 35 = .ok (.aload_n 0, 1) := by decide +kernel
theorem dX4_iceOfWard_36 : decode cX4_iceOfWard 36 = .ok (.iload_n 2, 1) := by decide +kernel
theorem dX4_iceOfWard_37 : decode cX4_iceOfWard 37 = .ok (.iconst 5, 1) := by decide +kernel
theorem dX4_iceOfWard_38 : decode cX4_iceOfWard 38 = .ok (.iadd, 1) := by decide +kernel
theorem dX4_iceOfWard_39 : decode cX4_iceOfWard 39 = .ok (.iconst 1, 1) := by decide +kernel
theorem dX4_iceOfWard_40 : decode cX4_iceOfWard 40 = .ok (.iadd, 1) := by decide +kernel
theorem dX4_iceOfWard_41 : decode cX4_iceOfWard 41 = .ok (.invokevirtual 52, 3) := by decide +kernel
theorem dX4_iceOfWard_44 : decode cX4_iceOfWard 44 = .ok (.iadd, 1) := by decide +kernel
theorem dX4_iceOfWard_45 : decode cX4_iceOfWard 45 = .ok (.ireturn, 1) := by decide +kernel
theorem dX5_init_0 : decode cX5_init 0 = .ok (.aload_n 0, 1) := by decide +kernel
theorem dX5_init_1 : decode cX5_init 1 = .ok (.invokespecial 3, 3) := by decide +kernel
theorem dX5_init_4 : decode cX5_init 4 = .ok (.aload_n 0, 1) := by decide +kernel
theorem dX5_init_5 : decode cX5_init 5 = .ok (.sipush 150, 3) := by decide +kernel
theorem dX5_init_8 : decode cX5_init 8 = .ok (.newarray .int, 2) := by decide +kernel
theorem dX5_init_10 : decode cX5_init 10 = .ok (.putfield 9, 3) := by decide +kernel
theorem dX5_init_13 : decode cX5_init 13 = .ok (.aload_n 0, 1) := by decide +kernel
theorem dX5_init_14 : decode cX5_init 14 = .ok (.iconst 0, 1) := by decide +kernel
theorem dX5_init_15 : decode cX5_init 15 = .ok (.putfield 15, 3) := by decide +kernel
theorem dX5_init_18 : decode cX5_init 18 = .ok (.aload_n 0, 1) := by decide +kernel
theorem dX5_init_19 : decode cX5_init 19 = .ok (.sipush 151, 3) := by decide +kernel
theorem dX5_init_22 : decode cX5_init 22 = .ok (.newarray .int, 2) := by decide +kernel
theorem dX5_init_24 : decode cX5_init 24 = .ok (.putfield 19, 3) := by decide +kernel
theorem dX5_init_27 : decode cX5_init 27 = .ok (.aload_n 0, 1) := by decide +kernel
theorem dX5_init_28 : decode cX5_init 28 = .ok (.sipush 151, 3) := by decide +kernel
theorem dX5_init_31 : decode cX5_init 31 = .ok (.newarray .int, 2) := by decide +kernel
theorem dX5_init_33 : decode cX5_init 33 = .ok (.putfield 22, 3) := by decide +kernel
theorem dX5_init_36 : decode cX5_init 36 = .ok (.aload_n 0, 1) := by decide +kernel
theorem dX5_init_37 : decode cX5_init 37 = .ok (.iconst 0, 1) := by decide +kernel
theorem dX5_init_38 : decode cX5_init 38 = .ok (.putfield 25, 3) := by decide +kernel
theorem dX5_init_41 : decode cX5_init 41 = .ok (.aload_n 0, 1) := by decide +kernel
theorem dX5_init_42 : decode cX5_init 42 = .ok (.iconst (-1), 1) := by decide +kernel
theorem dX5_init_43 : decode cX5_init 43 = .ok (.putfield 28, 3) := by decide +kernel
theorem dX5_init_46 : decode cX5_init 46 = .ok (.return_, 1) := by decide +kernel
theorem dX5_add_0 : decode cX5_add 0 = .ok (.aload_n 0, 1) := by decide +kernel
theorem dX5_add_1 : decode cX5_add 1 = .ok (.getfield 15, 3) := by decide +kernel
theorem dX5_add_4 : decode cX5_add 4 = .ok (.iconst 0, 1) := by decide +kernel
theorem dX5_add_5 : decode cX5_add 5 = .ok (.sipush 149, 3) := by decide +kernel
theorem dX5_add_8 : decode cX5_add 8 = .ok (.invokestatic 31, 3) := by decide +kernel
theorem dX5_add_11 : decode cX5_add 11 = .ok (.ifCond .eq 23, 3) := by decide +kernel
theorem dX5_add_14 : decode cX5_add 14 = .ok (.aload_n 0, 1) := by decide +kernel
theorem dX5_add_15 : decode cX5_add 15 = .ok (.getfield 9, 3) := by decide +kernel
theorem dX5_add_18 : decode cX5_add 18 = .ok (.aload_n 0, 1) := by decide +kernel
theorem dX5_add_19 : decode cX5_add 19 = .ok (.getfield 15, 3) := by decide +kernel
theorem dX5_add_22 : decode cX5_add 22 = .ok (.iload_n 1, 1) := by decide +kernel
theorem dX5_add_23 : decode cX5_add 23 = .ok (.iastore, 1) := by decide +kernel
theorem dX5_add_24 : decode cX5_add 24 = .ok (.aload_n 0, 1) := by decide +kernel
theorem dX5_add_25 : decode cX5_add 25 = .ok (.dup, 1) := by decide +kernel
theorem dX5_add_26 : decode cX5_add 26 = .ok (.getfield 15, 3) := by decide +kernel
theorem dX5_add_29 : decode cX5_add 29 = .ok (.iconst 1, 1) := by decide +kernel
theorem dX5_add_30 : decode cX5_add 30 = .ok (.iadd, 1) := by decide +kernel
theorem dX5_add_31 : decode cX5_add 31 = .ok (.putfield 15, 3) := by decide +kernel
theorem dX5_add_34 : decode cX5_add 34 = .ok (.return_, 1) := by decide +kernel
theorem dX5_tell_0 : decode cX5_tell 0 = .ok (.aload_n 0, 1) := by decide +kernel
theorem dX5_tell_1 : decode cX5_tell 1 = .ok (.invokevirtual 35, 3) := by decide +kernel
theorem dX5_tell_4 : decode cX5_tell 4 = .ok (.aload_n 0, 1) := by decide +kernel
theorem dX5_tell_5 : decode cX5_tell 5 = .ok (.iconst 0, 1) := by decide +kernel
theorem dX5_tell_6 : decode cX5_tell 6 = .ok (.putfield 25, 3) := by decide +kernel
theorem dX5_tell_9 : decode cX5_tell 9 = .ok (.aload_n 0, 1) := by decide +kernel
theorem dX5_tell_10 : decode cX5_tell 10 = .ok (.aload_n 0, 1) := by decide +kernel
theorem dX5_tell_11 : decode cX5_tell 11 = .ok (.getfield 19, 3) := by decide +kernel
theorem dX5_tell_14 : decode cX5_tell 14 = .ok (.iconst 0, 1) := by decide +kernel
theorem dX5_tell_15 : decode cX5_tell 15 = .ok (.iaload, 1) := by decide +kernel
theorem dX5_tell_16 : decode cX5_tell 16 = .ok (.putfield 28, 3) := by decide +kernel
theorem dX5_tell_19 : decode cX5_tell 19 = .ok (.aload_n 0, 1) := by decide +kernel
theorem dX5_tell_20 : decode cX5_tell 20 = .ok (.getfield 28, 3) := by decide +kernel
theorem dX5_tell_23 : decode cX5_tell 23 = .ok (.bipush (-4), 2) := by decide +kernel
theorem dX5_tell_25 : decode cX5_tell 25 = .ok (.if_icmp .ne 13, 3) := by decide +kernel
theorem dX5_tell_28 : decode cX5_tell 28 = .ok (.aload_n 0, 1) := by decide +kernel
theorem dX5_tell_29 : decode cX5_tell 29 = .ok (.iconst 0, 1) := by decide +kernel
theorem dX5_tell_30 : decode cX5_tell 30 = .ok (.bipush 99, 2) := by decide +kernel
theorem dX5_tell_32 : decode cX5_tell 32 = .ok (.invokevirtual 38, 3) := by decide +kernel
theorem dX5_tell_35 : decode cX5_tell 35 = .ok (.ifCond .ne 8, 3) := by decide +kernel
theorem dX5_tell_38 : decode cX5_tell 38 = .ok (.aload_n 0, 1) := by decide +kernel
theorem dX5_tell_39 : decode cX5_tell 39 = .ok (.invokevirtual 42, 3) := by decide +kernel
theorem dX5_tell_42 : decode cX5_tell 42 = .ok (.ireturn, 1) := by decide +kernel
theorem dX5_tell_43 : decode cX5_tell 43 = .ok (.aload_n 1, 1) := by decide +kernel
theorem dX5_tell_44 : decode cX5_tell 44 = .ok (.aload_n 0, 1) := by decide +kernel
theorem dX5_tell_45 : decode cX5_tell 45 = .ok (.getfield 28, 3) := by decide +kernel
theorem dX5_tell_48 : decode cX5_tell 48 = .ok (.invokevirtual 46, 3) := by decide +kernel
theorem dX5_tell_51 : decode cX5_tell 51 = .ok (.aload_n 0, 1) := by decide +kernel
theorem dX5_tell_52 : decode cX5_tell 52 = .ok (.invokevirtual 52, 3) := by decide +kernel
theorem dX5_tell_55 : decode cX5_tell 55 = .ok (.ifCond .ne 8, 3) := by decide +kernel
theorem dX5_tell_58 : decode cX5_tell 58 = .ok (.aload_n 0, 1) := by decide +kernel
theorem dX5_tell_59 : decode cX5_tell 59 = .ok (.invokevirtual 42, 3) := by decide +kernel
theorem dX5_tell_62 : decode cX5_tell 62 = .ok (.ireturn, 1) := by decide +kernel
theorem dX5_tell_63 : decode cX5_tell 63 = .ok (.iconst 1, 1) := by decide +kernel
theorem dX5_tell_64 : decode cX5_tell 64 = .ok (.istore_n 2, 1) := by decide +kernel
theorem dX5_tell_65 : decode cX5_tell 65 = .ok (.iload_n 2, 1) := by decide +kernel
theorem dX5_tell_66 : decode cX5_tell 66 = .ok (.sipush 150, 3) := by decide +kernel
theorem dX5_tell_69 : decode cX5_tell 69 = .ok (.if_icmp .gt 36, 3) := by decide +kernel
theorem dX5_tell_72 : decode cX5_tell 72 = .ok (.aload_n 0, 1) := by decide +kernel
theorem dX5_tell_73 : decode cX5_tell 73 = .ok (.invokevirtual 56, 3) := by decide +kernel
theorem dX5_tell_76 : decode cX5_tell 76 = .ok (.aload_n 0, 1) := by decide +kernel
theorem dX5_tell_77 : decode cX5_tell 77 = .ok (.getfield 28, 3) := by decide +kernel
theorem dX5_tell_80 : decode cX5_tell 80 = .ok (.iconst (-1), 1) := by decide +kernel
theorem dX5_tell_81 : decode cX5_tell 81 = .ok (.if_icmp .ne 5, 3) := by decide +kernel
theorem dX5_tell_84 : decode cX5_tell 84 = .ok (.iload_n 2, 1) := by decide +kernel
theorem dX5_tell_85 : decode cX5_tell 85 = .ok (.ireturn, 1) := by decide +kernel
theorem dX5_tell_86 : decode cX5_tell 86 = .ok (.aload_n 0, 1) := by decide +kernel
theorem dX5_tell_87 : decode cX5_tell 87 = .ok (.aload_n 1, 1) := by decide +kernel
theorem dX5_tell_88 : decode cX5_tell 88 = .ok (.invokevirtual 59, 3) := by decide +kernel
theorem dX5_tell_91 : decode cX5_tell 91 = .ok (.ifCond .ne 8, 3) := by decide +kernel
theorem dX5_tell_94 : decode cX5_tell 94 = .ok (.aload_n 0, 1) := by decide +kernel
theorem dX5_tell_95 : decode cX5_tell 95 = .ok (.invokevirtual 42, 3) := by decide +kernel
theorem dX5_tell_98 : decode cX5_tell 98 = .ok (.ireturn, 1) := by decide +kernel
theorem dX5_tell_99 : decode cX5_tell 99 = .ok (.iinc 2 1, 3) := by decide +kernel
theorem dX5_tell_102 : decode cX5_tell 102 = .ok (.goto (-37), 3) := by decide +kernel
theorem dX5_tell_105 : decode cX5_tell 105 = .ok (.aload_n 0, 1) := by decide +kernel
theorem dX5_tell_106 : decode cX5_tell 106 = .ok (.invokevirtual 42, 3) := by decide +kernel
theorem dX5_tell_109 : decode cX5_tell 109 = .ok (.ireturn, 1) := by decide +kernel
theorem dX5_fault_0 : decode cX5_fault 0 = .ok (.bipush (-10), 2) := by decide +kernel
theorem dX5_fault_2 : decode cX5_fault 2 = .ok (.aload_n 0, 1) := by decide +kernel
theorem dX5_fault_3 : decode cX5_fault 3 = .ok (.getfield 25, 3) := by decide +kernel
theorem dX5_fault_6 : decode cX5_fault 6 = .ok (.iconst 0, 1) := by decide +kernel
theorem dX5_fault_7 : decode cX5_fault 7 = .ok (.sipush 150, 3) := by decide +kernel
theorem dX5_fault_10 : decode cX5_fault 10 = .ok (.invokestatic 31, 3) := by decide +kernel
theorem dX5_fault_13 : decode cX5_fault 13 = .ok (.ifCond .eq 15, 3) := by decide +kernel
theorem dX5_fault_16 : decode cX5_fault 16 = .ok (.aload_n 0, 1) := by decide +kernel
theorem dX5_fault_17 : decode cX5_fault 17 = .ok (.getfield 22, 3) := by decide +kernel
theorem dX5_fault_20 : decode cX5_fault 20 = .ok (.aload_n 0, 1) := by decide +kernel
theorem dX5_fault_21 : decode cX5_fault 21 = .ok (.getfield 25, 3) := by decide +kernel
theorem dX5_fault_24 : decode cX5_fault 24 = .ok (.iaload, 1) := by decide +kernel
theorem dX5_fault_25 : decode cX5_fault 25 = .ok (.goto 7, 3) := by decide +kernel
theorem dX5_fault_28 : decode cX5_fault 28 = .ok (.aload_n 0, 1) := by decide +kernel
theorem dX5_fault_29 : decode cX5_fault 29 = .ok (.getfield 15, 3) := by decide +kernel
theorem dX5_fault_32 : decode cX5_fault 32 = .ok (.isub, 1) := by decide +kernel
theorem dX5_fault_33 : decode cX5_fault 33 = .ok (.ireturn, 1) := by decide +kernel
theorem dX5_itemComes_0 : decode cX5_itemComes 0 = .ok (.aload_n 0, 1) := by decide +kernel
theorem dX5_itemComes_1 : decode cX5_itemComes 1 = .ok (.getfield 28, 3) := by decide +kernel
theorem dX5_itemComes_4 : decode cX5_itemComes 4 = .ok (.tableswitch 75 (-7) (-5) #[46, 37, 28], 28) := by decide +kernel
theorem dX5_itemComes_32 : decode cX5_itemComes 32 = .ok (.aload_n 0, 1) := by decide +kernel
theorem dX5_itemComes_33 : decode cX5_itemComes 33 = .ok (.aload_n 1, 1) := by decide +kernel
theorem dX5_itemComes_34 : decode cX5_itemComes 34 = .ok (.getfield 63, 3) := by decide +kernel
theorem dX5_itemComes_37 : decode cX5_itemComes 37 = .ok (.invokevirtual 67, 3) := by decide +kernel
theorem dX5_itemComes_40 : decode cX5_itemComes 40 = .ok (.ireturn, 1) := by decide +kernel
theorem dX5_itemComes_41 : decode cX5_itemComes 41 = .ok (.aload_n 0, 1) := by decide +kernel
theorem dX5_itemComes_42 : decode cX5_itemComes 42 = .ok (.aload_n 1, 1) := by decide +kernel
theorem dX5_itemComes_43 : decode cX5_itemComes 43 = .ok (.getfield 71, 3) := by decide +kernel
theorem dX5_itemComes_46 : decode cX5_itemComes 46 = .ok (.invokevirtual 75, 3) := by decide +kernel
theorem dX5_itemComes_49 : decode cX5_itemComes 49 = .ok (.ireturn, 1) := by decide +kernel
theorem dX5_itemComes_50 : decode cX5_itemComes 50 = .ok (.aload_n 1, 1) := by decide +kernel
theorem dX5_itemComes_51 : decode cX5_itemComes 51 = .ok (.getfield 79, 3) := by decide +kernel
theorem dX5_itemComes_54 : decode cX5_itemComes 54 = .ok (.getfield 83, 3) := by decide +kernel
theorem dX5_itemComes_57 : decode cX5_itemComes 57 = .ok (.bipush 7, 2) := by decide +kernel
theorem dX5_itemComes_59 : decode cX5_itemComes 59 = .ok (.if_icmp .ge 18, 3) := by decide +kernel
theorem dX5_itemComes_62 : decode cX5_itemComes 62 = .ok (.aload_n 0, 1) := by decide +kernel
theorem dX5_itemComes_63 : decode cX5_itemComes 63 = .ok (.aload_n 1, 1) := by decide +kernel
theorem dX5_itemComes_64 : decode cX5_itemComes 64 = .ok (.getfield 79, 3) := by decide +kernel
theorem dX5_itemComes_67 : decode cX5_itemComes 67 = .ok (.invokevirtual 88, 3) := by decide +kernel
theorem dX5_itemComes_70 : decode cX5_itemComes 70 = .ok (.ifCond .eq 7, 3) := by decide +kernel
theorem dX5_itemComes_73 : decode cX5_itemComes 73 = .ok (.iconst 1, 1) := by decide +kernel
theorem dX5_itemComes_74 : decode cX5_itemComes 74 = .ok (.goto 4, 3) := by decide +kernel
theorem dX5_itemComes_77 : decode cX5_itemComes 77 = .ok (.iconst 0, 1) := by decide +kernel
theorem dX5_itemComes_78 : decode cX5_itemComes 78 = .ok (.ireturn, 1) := by decide +kernel
theorem dX5_itemComes_79 : decode cX5_itemComes 79 = .ok (.iconst 0, 1) := by decide +kernel
theorem dX5_itemComes_80 : decode cX5_itemComes 80 = .ok (.ireturn, 1) := by decide +kernel
theorem dX5_cellsCome_0 : decode cX5_cellsCome 0 = .ok (.aload_n 0, 1) := by decide +kernel
theorem dX5_cellsCome_1 : decode cX5_cellsCome 1 = .ok (.iconst 0, 1) := by decide +kernel
theorem dX5_cellsCome_2 : decode cX5_cellsCome 2 = .ok (.iconst 5, 1) := by decide +kernel
theorem dX5_cellsCome_3 : decode cX5_cellsCome 3 = .ok (.invokevirtual 38, 3) := by decide +kernel
theorem dX5_cellsCome_6 : decode cX5_cellsCome 6 = .ok (.ifCond .ne 5, 3) := by decide +kernel
theorem dX5_cellsCome_9 : decode cX5_cellsCome 9 = .ok (.iconst 0, 1) := by decide +kernel
theorem dX5_cellsCome_10 : decode cX5_cellsCome 10 = .ok (.ireturn, 1) := by decide +kernel
theorem dX5_cellsCome_11 : decode cX5_cellsCome 11 = .ok (.aload_n 0, 1) := by decide +kernel
theorem dX5_cellsCome_12 : decode cX5_cellsCome 12 = .ok (.getfield 28, 3) := by decide +kernel
theorem dX5_cellsCome_15 : decode cX5_cellsCome 15 = .ok (.istore_n 2, 1) := by decide +kernel
theorem dX5_cellsCome_16 : decode cX5_cellsCome 16 = .ok (.iconst 0, 1) := by decide +kernel
theorem dX5_cellsCome_17 : decode cX5_cellsCome 17 = .ok (.istore_n 3, 1) := by decide +kernel
theorem dX5_cellsCome_18 : decode cX5_cellsCome 18 = .ok (.iload_n 3, 1) := by decide +kernel
theorem dX5_cellsCome_19 : decode cX5_cellsCome 19 = .ok (.sipush 150, 3) := by decide +kernel
theorem dX5_cellsCome_22 : decode cX5_cellsCome 22 = .ok (.if_icmp .ge 56, 3) := by decide +kernel
theorem dX5_cellsCome_25 : decode cX5_cellsCome 25 = .ok (.aload_n 0, 1) := by decide +kernel
theorem dX5_cellsCome_26 : decode cX5_cellsCome 26 = .ok (.invokevirtual 56, 3) := by decide +kernel
theorem dX5_cellsCome_29 : decode cX5_cellsCome 29 = .ok (.aload_n 0, 1) := by decide +kernel
theorem dX5_cellsCome_30 : decode cX5_cellsCome 30 = .ok (.getfield 28, 3) := by decide +kernel
theorem dX5_cellsCome_33 : decode cX5_cellsCome 33 = .ok (.bipush (-2), 2) := by decide +kernel
theorem dX5_cellsCome_35 : decode cX5_cellsCome 35 = .ok (.if_icmp .ne 13, 3) := by decide +kernel
theorem dX5_cellsCome_38 : decode cX5_cellsCome 38 = .ok (.iload_n 3, 1) := by decide +kernel
theorem dX5_cellsCome_39 : decode cX5_cellsCome 39 = .ok (.ifCond .le 7, 3) := by decide +kernel
theorem dX5_cellsCome_42 : decode cX5_cellsCome 42 = .ok (.iconst 1, 1) := by decide +kernel
theorem dX5_cellsCome_43 : decode cX5_cellsCome 43 = .ok (.goto 4, 3) := by decide +kernel
theorem dX5_cellsCome_46 : decode cX5_cellsCome 46 = .ok (.iconst 0, 1) := by decide +kernel
theorem dX5_cellsCome_47 : decode cX5_cellsCome 47 = .ok (.ireturn, 1) := by decide +kernel
theorem dX5_cellsCome_48 : decode cX5_cellsCome 48 = .ok (.aload_n 0, 1) := by decide +kernel
theorem dX5_cellsCome_49 : decode cX5_cellsCome 49 = .ok (.getfield 28, 3) := by decide +kernel
theorem dX5_cellsCome_52 : decode cX5_cellsCome 52 = .ok (.iconst 0, 1) := by decide +kernel
theorem dX5_cellsCome_53 : decode cX5_cellsCome 53 = .ok (.bipush 24, 2) := by decide +kernel
theorem dX5_cellsCome_55 : decode cX5_cellsCome 55 = .ok (.invokestatic 31, 3) := by decide +kernel
theorem dX5_cellsCome_58 : decode cX5_cellsCome 58 = .ok (.ifCond .ne 5, 3) := by decide +kernel
theorem dX5_cellsCome_61 : decode cX5_cellsCome 61 = .ok (.iconst 0, 1) := by decide +kernel
theorem dX5_cellsCome_62 : decode cX5_cellsCome 62 = .ok (.ireturn, 1) := by decide +kernel
theorem dX5_cellsCome_63 : decode cX5_cellsCome 63 = .ok (.aload_n 1, 1) := by decide +kernel
theorem dX5_cellsCome_64 : decode cX5_cellsCome 64 = .ok (.aload_n 0, 1) := by decide +kernel
theorem dX5_cellsCome_65 : decode cX5_cellsCome 65 = .ok (.getfield 28, 3) := by decide +kernel
theorem dX5_cellsCome_68 : decode cX5_cellsCome 68 = .ok (.iload_n 2, 1) := by decide +kernel
theorem dX5_cellsCome_69 : decode cX5_cellsCome 69 = .ok (.invokevirtual 92, 3) := by decide +kernel
theorem dX5_cellsCome_72 : decode cX5_cellsCome 72 = .ok (.iinc 3 1, 3) := by decide +kernel
theorem dX5_cellsCome_75 : decode cX5_cellsCome 75 = .ok (.goto (-57), 3) := by decide +kernel
theorem dX5_cellsCome_78 : decode cX5_cellsCome 78 = .ok (.iconst 0, 1) := by decide +kernel
theorem dX5_cellsCome_79 : decode cX5_cellsCome 79 = .ok (.ireturn, 1) := by decide +kernel
theorem dX5_pairsCome_0 : decode cX5_pairsCome 0 = .ok (.iconst 0, 1) := by decide +kernel
theorem dX5_pairsCome_1 : decode cX5_pairsCome 1 = .ok (.istore_n 2, 1) := by decide +kernel
theorem dX5_pairsCome_2 : decode cX5_pairsCome 2 = .ok (.iload_n 2, 1) := by decide +kernel
theorem dX5_pairsCome_3 : decode cX5_pairsCome 3 = .ok (.bipush 7, 2) := by decide +kernel
theorem dX5_pairsCome_5 : decode cX5_pairsCome 5 = .ok (.if_icmp .ge 69, 3) := by decide +kernel
theorem dX5_pairsCome_8 : decode cX5_pairsCome 8 = .ok (.aload_n 0, 1) := by decide +kernel
theorem dX5_pairsCome_9 : decode cX5_pairsCome 9 = .ok (.invokevirtual 56, 3) := by decide +kernel
theorem dX5_pairsCome_12 : decode cX5_pairsCome 12 = .ok (.aload_n 0, 1) := by decide +kernel
theorem dX5_pairsCome_13 : decode cX5_pairsCome 13 = .ok (.getfield 28, 3) := by decide +kernel
theorem dX5_pairsCome_16 : decode cX5_pairsCome 16 = .ok (.bipush (-2), 2) := by decide +kernel
theorem dX5_pairsCome_18 : decode cX5_pairsCome 18 = .ok (.if_icmp .ne 13, 3) := by decide +kernel
theorem dX5_pairsCome_21 : decode cX5_pairsCome 21 = .ok (.iload_n 2, 1) := by decide +kernel
theorem dX5_pairsCome_22 : decode cX5_pairsCome 22 = .ok (.ifCond .le 7, 3) := by decide +kernel
theorem dX5_pairsCome_25 : decode cX5_pairsCome 25 = .ok (.iconst 1, 1) := by decide +kernel
theorem dX5_pairsCome_26 : decode cX5_pairsCome 26 = .ok (.goto 4, 3) := by decide +kernel
theorem dX5_pairsCome_29 : decode cX5_pairsCome 29 = .ok (.iconst 0, 1) := by decide +kernel
theorem dX5_pairsCome_30 : decode cX5_pairsCome 30 = .ok (.ireturn, 1) := by decide +kernel
theorem dX5_pairsCome_31 : decode cX5_pairsCome 31 = .ok (.aload_n 0, 1) := by decide +kernel
theorem dX5_pairsCome_32 : decode cX5_pairsCome 32 = .ok (.getfield 28, 3) := by decide +kernel
theorem dX5_pairsCome_35 : decode cX5_pairsCome 35 = .ok (.istore_n 3, 1) := by decide +kernel
theorem dX5_pairsCome_36 : decode cX5_pairsCome 36 = .ok (.iload_n 3, 1) := by decide +kernel
theorem dX5_pairsCome_37 : decode cX5_pairsCome 37 = .ok (.iconst 0, 1) := by decide +kernel
theorem dX5_pairsCome_38 : decode cX5_pairsCome 38 = .ok (.bipush 9, 2) := by decide +kernel
theorem dX5_pairsCome_40 : decode cX5_pairsCome 40 = .ok (.invokestatic 31, 3) := by decide +kernel
theorem dX5_pairsCome_43 : decode cX5_pairsCome 43 = .ok (.ifCond .eq 13, 3) := by decide +kernel
theorem dX5_pairsCome_46 : decode cX5_pairsCome 46 = .ok (.aload_n 0, 1) := by decide +kernel
theorem dX5_pairsCome_47 : decode cX5_pairsCome 47 = .ok (.iconst 0, 1) := by decide +kernel
theorem dX5_pairsCome_48 : decode cX5_pairsCome 48 = .ok (.bipush 9, 2) := by decide +kernel
theorem dX5_pairsCome_50 : decode cX5_pairsCome 50 = .ok (.invokevirtual 38, 3) := by decide +kernel
theorem dX5_pairsCome_53 : decode cX5_pairsCome 53 = .ok (.ifCond .ne 5, 3) := by decide +kernel
theorem dX5_pairsCome_56 : decode cX5_pairsCome 56 = .ok (.iconst 0, 1) := by decide +kernel
theorem dX5_pairsCome_57 : decode cX5_pairsCome 57 = .ok (.ireturn, 1) := by decide +kernel
theorem dX5_pairsCome_58 : decode cX5_pairsCome 58 = .ok (.aload_n 1, 1) := by decide +kernel
theorem dX5_pairsCome_59 : decode cX5_pairsCome 59 = .ok (.iload_n 2, 1) := by decide +kernel
theorem dX5_pairsCome_60 : decode cX5_pairsCome 60 = .ok (.iload_n 3, 1) := by decide +kernel
theorem dX5_pairsCome_61 : decode cX5_pairsCome 61 = .ok (.aload_n 0, 1) := by decide +kernel
theorem dX5_pairsCome_62 : decode cX5_pairsCome 62 = .ok (.getfield 28, 3) := by decide +kernel
theorem dX5_pairsCome_65 : decode cX5_pairsCome 65 = .ok (.invokevirtual 98, 3) := by decide +kernel
theorem dX5_pairsCome_68 : decode cX5_pairsCome 68 = .ok (.iinc 2 1, 3) := by decide +kernel
theorem dX5_pairsCome_71 : decode cX5_pairsCome 71 = .ok (.goto (-69), 3) := by decide +kernel
theorem dX5_pairsCome_74 : decode cX5_pairsCome 74 = .ok (.aload_n 0, 1) := by decide +kernel
theorem dX5_pairsCome_75 : decode cX5_pairsCome 75 = .ok (.invokevirtual 52, 3) := by decide +kernel
theorem dX5_pairsCome_78 : decode cX5_pairsCome 78 = .ok (.ireturn, 1) := by decide +kernel
theorem dX5_voterComes_0 : decode cX5_voterComes 0 = .ok (.aload_n 0, 1) := by decide +kernel
theorem dX5_voterComes_1 : decode cX5_voterComes 1 = .ok (.iconst 0, 1) := by decide +kernel
theorem dX5_voterComes_2 : decode cX5_voterComes 2 = .ok (.iconst 5, 1) := by decide +kernel
theorem dX5_voterComes_3 : decode cX5_voterComes 3 = .ok (.invokevirtual 38, 3) := by decide +kernel
theorem dX5_voterComes_6 : decode cX5_voterComes 6 = .ok (.ifCond .ne 5, 3) := by decide +kernel
theorem dX5_voterComes_9 : decode cX5_voterComes 9 = .ok (.iconst 0, 1) := by decide +kernel
theorem dX5_voterComes_10 : decode cX5_voterComes 10 = .ok (.ireturn, 1) := by decide +kernel
theorem dX5_voterComes_11 : decode cX5_voterComes 11 = .ok (.aload_n 0, 1) := by decide +kernel
theorem dX5_voterComes_12 : decode cX5_voterComes 12 = .ok (.getfield 28, 3) := by decide +kernel
theorem dX5_voterComes_15 : decode cX5_voterComes 15 = .ok (.istore_n 2, 1) := by decide +kernel
theorem dX5_voterComes_16 : decode cX5_voterComes 16 = .ok (.aload_n 0, 1) := by decide +kernel
theorem dX5_voterComes_17 : decode cX5_voterComes 17 = .ok (.iconst 1, 1) := by decide +kernel
theorem dX5_voterComes_18 : decode cX5_voterComes 18 = .ok (.bipush 99, 2) := by decide +kernel
theorem dX5_voterComes_20 : decode cX5_voterComes 20 = .ok (.invokevirtual 38, 3) := by decide +kernel
theorem dX5_voterComes_23 : decode cX5_voterComes 23 = .ok (.ifCond .ne 5, 3) := by decide +kernel
theorem dX5_voterComes_26 : decode cX5_voterComes 26 = .ok (.iconst 0, 1) := by decide +kernel
theorem dX5_voterComes_27 : decode cX5_voterComes 27 = .ok (.ireturn, 1) := by decide +kernel
theorem dX5_voterComes_28 : decode cX5_voterComes 28 = .ok (.aload_n 0, 1) := by decide +kernel
theorem dX5_voterComes_29 : decode cX5_voterComes 29 = .ok (.getfield 28, 3) := by decide +kernel
theorem dX5_voterComes_32 : decode cX5_voterComes 32 = .ok (.istore_n 3, 1) := by decide +kernel
theorem dX5_voterComes_33 : decode cX5_voterComes 33 = .ok (.aload_n 0, 1) := by decide +kernel
theorem dX5_voterComes_34 : decode cX5_voterComes 34 = .ok (.iconst 0, 1) := by decide +kernel
theorem dX5_voterComes_35 : decode cX5_voterComes 35 = .ok (.bipush 24, 2) := by decide +kernel
theorem dX5_voterComes_37 : decode cX5_voterComes 37 = .ok (.invokevirtual 38, 3) := by decide +kernel
theorem dX5_voterComes_40 : decode cX5_voterComes 40 = .ok (.ifCond .ne 5, 3) := by decide +kernel
theorem dX5_voterComes_43 : decode cX5_voterComes 43 = .ok (.iconst 0, 1) := by decide +kernel
theorem dX5_voterComes_44 : decode cX5_voterComes 44 = .ok (.ireturn, 1) := by decide +kernel
theorem dX5_voterComes_45 : decode cX5_voterComes 45 = .ok (.aload_n 1, 1) := by decide +kernel
theorem dX5_voterComes_46 : decode cX5_voterComes 46 = .ok (.iload_n 2, 1) := by decide +kernel
theorem dX5_voterComes_47 : decode cX5_voterComes 47 = .ok (.iload_n 3, 1) := by decide +kernel
theorem dX5_voterComes_48 : decode cX5_voterComes 48 = .ok (.aload_n 0, 1) := by decide +kernel
theorem dX5_voterComes_49 : decode cX5_voterComes 49 = .ok (.getfield 28, 3) := by decide +kernel
theorem dX5_voterComes_52 : decode cX5_voterComes 52 = .ok (.invokevirtual 104, 3) := by decide +kernel
theorem dX5_voterComes_55 : decode cX5_voterComes 55 = .ok (.aload_n 0, 1) := by decide +kernel
theorem dX5_voterComes_56 : decode cX5_voterComes 56 = .ok (.invokevirtual 52, 3) := by decide +kernel
theorem dX5_voterComes_59 : decode cX5_voterComes 59 = .ok (.ireturn, 1) := by decide +kernel
theorem dX5_numberComes_0 : decode cX5_numberComes 0 = .ok (.aload_n 0, 1) := by decide +kernel
theorem dX5_numberComes_1 : decode cX5_numberComes 1 = .ok (.invokevirtual 56, 3) := by decide +kernel
theorem dX5_numberComes_4 : decode cX5_numberComes 4 = .ok (.aload_n 0, 1) := by decide +kernel
theorem dX5_numberComes_5 : decode cX5_numberComes 5 = .ok (.getfield 28, 3) := by decide +kernel
theorem dX5_numberComes_8 : decode cX5_numberComes 8 = .ok (.iload_n 1, 1) := by decide +kernel
theorem dX5_numberComes_9 : decode cX5_numberComes 9 = .ok (.iload_n 2, 1) := by decide +kernel
theorem dX5_numberComes_10 : decode cX5_numberComes 10 = .ok (.invokestatic 31, 3) := by decide +kernel
theorem dX5_numberComes_13 : decode cX5_numberComes 13 = .ok (.ireturn, 1) := by decide +kernel
theorem dX5_stopComes_0 : decode cX5_stopComes 0 = .ok (.aload_n 0, 1) := by decide +kernel
theorem dX5_stopComes_1 : decode cX5_stopComes 1 = .ok (.invokevirtual 56, 3) := by decide +kernel
theorem dX5_stopComes_4 : decode cX5_stopComes 4 = .ok (.aload_n 0, 1) := by decide +kernel
theorem dX5_stopComes_5 : decode cX5_stopComes 5 = .ok (.getfield 28, 3) := by decide +kernel
theorem dX5_stopComes_8 : decode cX5_stopComes 8 = .ok (.bipush (-2), 2) := by decide +kernel
theorem dX5_stopComes_10 : decode cX5_stopComes 10 = .ok (.if_icmp .ne 7, 3) := by decide +kernel
theorem dX5_stopComes_13 : decode cX5_stopComes 13 = .ok (.iconst 1, 1) := by decide +kernel
theorem dX5_stopComes_14 : decode cX5_stopComes 14 = .ok (.goto 4, 3) := by decide +kernel
theorem dX5_stopComes_17 : decode cX5_stopComes 17 = .ok (.iconst 0, 1) := by decide +kernel
theorem dX5_stopComes_18 : decode cX5_stopComes 18 = .ok (.ireturn, 1) := by decide +kernel
theorem dX5_advance_0 : decode cX5_advance 0 = .ok (.aload_n 0, 1) := by decide +kernel
theorem dX5_advance_1 : decode cX5_advance 1 = .ok (.getfield 28, 3) := by decide +kernel
theorem dX5_advance_4 : decode cX5_advance 4 = .ok (.iconst (-1), 1) := by decide +kernel
theorem dX5_advance_5 : decode cX5_advance 5 = .ok (.if_icmp .eq 44, 3) := by decide +kernel
theorem dX5_advance_8 : decode cX5_advance 8 = .ok (.aload_n 0, 1) := by decide +kernel
theorem dX5_advance_9 : decode cX5_advance 9 = .ok (.dup, 1) := by decide +kernel
theorem dX5_advance_10 : decode cX5_advance 10 = .ok (.getfield 25, 3) := by decide +kernel
theorem dX5_advance_13 : decode cX5_advance 13 = .ok (.iconst 1, 1) := by decide +kernel
theorem dX5_advance_14 : decode cX5_advance 14 = .ok (.iadd, 1) := by decide +kernel
theorem dX5_advance_15 : decode cX5_advance 15 = .ok (.putfield 25, 3) := by decide +kernel
theorem dX5_advance_18 : decode cX5_advance 18 = .ok (.aload_n 0, 1) := by decide +kernel
theorem dX5_advance_19 : decode cX5_advance 19 = .ok (.aload_n 0, 1) := by decide +kernel
theorem dX5_advance_20 : decode cX5_advance 20 = .ok (.getfield 25, 3) := by decide +kernel
theorem dX5_advance_23 : decode cX5_advance 23 = .ok (.iconst 0, 1) := by decide +kernel
theorem dX5_advance_24 : decode cX5_advance 24 = .ok (.sipush 150, 3) := by decide +kernel
theorem dX5_advance_27 : decode cX5_advance 27 = .ok (.invokestatic 31, 3) := by decide +kernel
theorem dX5_advance_30 : decode cX5_advance 30 = .ok (.ifCond .eq 15, 3) := by decide +kernel
theorem dX5_advance_33 : decode cX5_advance 33 = .ok (.aload_n 0, 1) := by decide +kernel
theorem dX5_advance_34 : decode cX5_advance 34 = .ok (.getfield 19, 3) := by decide +kernel
theorem dX5_advance_37 : decode cX5_advance 37 = .ok (.aload_n 0, 1) := by decide +kernel
theorem dX5_advance_38 : decode cX5_advance 38 = .ok (.getfield 25, 3) := by decide +kernel
theorem dX5_advance_41 : decode cX5_advance 41 = .ok (.iaload, 1) := by decide +kernel
theorem dX5_advance_42 : decode cX5_advance 42 = .ok (.goto 4, 3) := by decide +kernel
theorem dX5_advance_45 : decode cX5_advance 45 = .ok (.iconst (-1), 1) := by decide +kernel
theorem dX5_advance_46 : decode cX5_advance 46 = .ok (.putfield 28, 3) := by decide +kernel
theorem dX5_advance_49 : decode cX5_advance 49 = .ok (.return_, 1) := by decide +kernel
theorem dX5_findTokens_0 : decode cX5_findTokens 0 = .ok (.iconst 0, 1) := by decide +kernel
theorem dX5_findTokens_1 : decode cX5_findTokens 1 = .ok (.istore_n 1, 1) := by decide +kernel
theorem dX5_findTokens_2 : decode cX5_findTokens 2 = .ok (.iconst 0, 1) := by decide +kernel
theorem dX5_findTokens_3 : decode cX5_findTokens 3 = .ok (.istore_n 2, 1) := by decide +kernel
theorem dX5_findTokens_4 : decode cX5_findTokens 4 = .ok (.iload_n 2, 1) := by decide +kernel
theorem dX5_findTokens_5 : decode cX5_findTokens 5 = .ok (.sipush 150, 3) := by decide +kernel
theorem dX5_findTokens_8 : decode cX5_findTokens 8 = .ok (.if_icmp .gt 57, 3) := by decide +kernel
theorem dX5_findTokens_11 : decode cX5_findTokens 11 = .ok (.aload_n 0, 1) := by decide +kernel
theorem dX5_findTokens_12 : decode cX5_findTokens 12 = .ok (.iload_n 1, 1) := by decide +kernel
theorem dX5_findTokens_13 : decode cX5_findTokens 13 = .ok (.bipush 32, 2) := by decide +kernel
theorem dX5_findTokens_15 : decode cX5_findTokens 15 = .ok (.bipush 32, 2) := by decide +kernel
theorem dX5_findTokens_17 : decode cX5_findTokens 17 = .ok (.invokevirtual 107, 3) := by decide +kernel
theorem dX5_findTokens_20 : decode cX5_findTokens 20 = .ok (.istore_n 1, 1) := by decide +kernel
theorem dX5_findTokens_21 : decode cX5_findTokens 21 = .ok (.aload_n 0, 1) := by decide +kernel
theorem dX5_findTokens_22 : decode cX5_findTokens 22 = .ok (.iload_n 1, 1) := by decide +kernel
theorem dX5_findTokens_23 : decode cX5_findTokens 23 = .ok (.invokevirtual 111, 3) := by decide +kernel
theorem dX5_findTokens_26 : decode cX5_findTokens 26 = .ok (.istore_n 3, 1) := by decide +kernel
theorem dX5_findTokens_27 : decode cX5_findTokens 27 = .ok (.aload_n 0, 1) := by decide +kernel
theorem dX5_findTokens_28 : decode cX5_findTokens 28 = .ok (.getfield 22, 3) := by decide +kernel
theorem dX5_findTokens_31 : decode cX5_findTokens 31 = .ok (.iload_n 2, 1) := by decide +kernel
theorem dX5_findTokens_32 : decode cX5_findTokens 32 = .ok (.iload_n 1, 1) := by decide +kernel
theorem dX5_findTokens_33 : decode cX5_findTokens 33 = .ok (.iastore, 1) := by decide +kernel
theorem dX5_findTokens_34 : decode cX5_findTokens 34 = .ok (.aload_n 0, 1) := by decide +kernel
theorem dX5_findTokens_35 : decode cX5_findTokens 35 = .ok (.getfield 19, 3) := by decide +kernel
theorem dX5_findTokens_38 : decode cX5_findTokens 38 = .ok (.iload_n 2, 1) := by decide +kernel
theorem dX5_findTokens_39 : decode cX5_findTokens 39 = .ok (.aload_n 0, 1) := by decide +kernel
theorem dX5_findTokens_40 : decode cX5_findTokens 40 = .ok (.iload_n 1, 1) := by decide +kernel
theorem dX5_findTokens_41 : decode cX5_findTokens 41 = .ok (.iload_n 3, 1) := by decide +kernel
theorem dX5_findTokens_42 : decode cX5_findTokens 42 = .ok (.invokevirtual 115, 3) := by decide +kernel
theorem dX5_findTokens_45 : decode cX5_findTokens 45 = .ok (.iastore, 1) := by decide +kernel
theorem dX5_findTokens_46 : decode cX5_findTokens 46 = .ok (.aload_n 0, 1) := by decide +kernel
theorem dX5_findTokens_47 : decode cX5_findTokens 47 = .ok (.getfield 19, 3) := by decide +kernel
theorem dX5_findTokens_50 : decode cX5_findTokens 50 = .ok (.iload_n 2, 1) := by decide +kernel
theorem dX5_findTokens_51 : decode cX5_findTokens 51 = .ok (.iaload, 1) := by decide +kernel
theorem dX5_findTokens_52 : decode cX5_findTokens 52 = .ok (.iconst (-1), 1) := by decide +kernel
theorem dX5_findTokens_53 : decode cX5_findTokens 53 = .ok (.if_icmp .ne 4, 3) := by decide +kernel
theorem dX5_findTokens_56 : decode cX5_findTokens 56 = .ok (.return_, 1) := by decide +kernel
theorem dX5_findTokens_57 : decode cX5_findTokens 57 = .ok (.iload_n 3, 1) := by decide +kernel
theorem dX5_findTokens_58 : decode cX5_findTokens 58 = .ok (.istore_n 1, 1) := by decide +kernel
theorem dX5_findTokens_59 : decode cX5_findTokens 59 = .ok (.iinc 2 1, 3) := by decide +kernel
theorem dX5_findTokens_62 : decode cX5_findTokens 62 = .ok (.goto (-58), 3) := by decide +kernel
theorem dX5_findTokens_65 : decode cX5_findTokens 65 = .ok (.return_, 1) := by decide +kernel
theorem dX5_endOfToken_0 : decode cX5_endOfToken 0 = .ok (.aload_n 0, 1) := by decide +kernel
theorem dX5_endOfToken_1 : decode cX5_endOfToken 1 = .ok (.iload_n 1, 1) := by decide +kernel
theorem dX5_endOfToken_2 : decode cX5_endOfToken 2 = .ok (.invokevirtual 119, 3) := by decide +kernel
theorem dX5_endOfToken_5 : decode cX5_endOfToken 5 = .ok (.istore_n 2, 1) := by decide +kernel
theorem dX5_endOfToken_6 : decode cX5_endOfToken 6 = .ok (.iload_n 2, 1) := by decide +kernel
theorem dX5_endOfToken_7 : decode cX5_endOfToken 7 = .ok (.bipush 97, 2) := by decide +kernel
theorem dX5_endOfToken_9 : decode cX5_endOfToken 9 = .ok (.bipush 122, 2) := by decide +kernel
theorem dX5_endOfToken_11 : decode cX5_endOfToken 11 = .ok (.invokestatic 31, 3) := by decide +kernel
theorem dX5_endOfToken_14 : decode cX5_endOfToken 14 = .ok (.ifCond .eq 13, 3) := by decide +kernel
theorem dX5_endOfToken_17 : decode cX5_endOfToken 17 = .ok (.aload_n 0, 1) := by decide +kernel
theorem dX5_endOfToken_18 : decode cX5_endOfToken 18 = .ok (.iload_n 1, 1) := by decide +kernel
theorem dX5_endOfToken_19 : decode cX5_endOfToken 19 = .ok (.bipush 97, 2) := by decide +kernel
theorem dX5_endOfToken_21 : decode cX5_endOfToken 21 = .ok (.bipush 122, 2) := by decide +kernel
theorem dX5_endOfToken_23 : decode cX5_endOfToken 23 = .ok (.invokevirtual 107, 3) := by decide +kernel
theorem dX5_endOfToken_26 : decode cX5_endOfToken 26 = .ok (.ireturn, 1) := by decide +kernel
theorem dX5_endOfToken_27 : decode cX5_endOfToken 27 = .ok (.iload_n 2, 1) := by decide +kernel
theorem dX5_endOfToken_28 : decode cX5_endOfToken 28 = .ok (.bipush 48, 2) := by decide +kernel
theorem dX5_endOfToken_30 : decode cX5_endOfToken 30 = .ok (.bipush 57, 2) := by decide +kernel
theorem dX5_endOfToken_32 : decode cX5_endOfToken 32 = .ok (.invokestatic 31, 3) := by decide +kernel
theorem dX5_endOfToken_35 : decode cX5_endOfToken 35 = .ok (.ifCond .eq 13, 3) := by decide +kernel
theorem dX5_endOfToken_38 : decode cX5_endOfToken 38 = .ok (.aload_n 0, 1) := by decide +kernel
theorem dX5_endOfToken_39 : decode cX5_endOfToken 39 = .ok (.iload_n 1, 1) := by decide +kernel
theorem dX5_endOfToken_40 : decode cX5_endOfToken 40 = .ok (.bipush 48, 2) := by decide +kernel
theorem dX5_endOfToken_42 : decode cX5_endOfToken 42 = .ok (.bipush 57, 2) := by decide +kernel
theorem dX5_endOfToken_44 : decode cX5_endOfToken 44 = .ok (.invokevirtual 107, 3) := by decide +kernel
theorem dX5_endOfToken_47 : decode cX5_endOfToken 47 = .ok (.ireturn, 1) := by decide +kernel
theorem dX5_endOfToken_48 : decode cX5_endOfToken 48 = .ok (.iload_n 1, 1) := by decide +kernel
theorem dX5_endOfToken_49 : decode cX5_endOfToken 49 = .ok (.iconst 1, 1) := by decide +kernel
theorem dX5_endOfToken_50 : decode cX5_endOfToken 50 = .ok (.iadd, 1) := by decide +kernel
theorem dX5_endOfToken_51 : decode cX5_endOfToken 51 = .ok (.aload_n 0, 1) := by decide +kernel
theorem dX5_endOfToken_52 : decode cX5_endOfToken 52 = .ok (.getfield 15, 3) := by decide +kernel
theorem dX5_endOfToken_55 : decode cX5_endOfToken 55 = .ok (.invokestatic 122, 3) := by decide +kernel
theorem dX5_endOfToken_58 : decode cX5_endOfToken 58 = .ok (.ireturn, 1) := by decide +kernel
theorem dX5_endOfRun_0 : decode cX5_endOfRun 0 = .ok (.iload_n 1, 1) := by decide +kernel
theorem dX5_endOfRun_1 : decode cX5_endOfRun 1 = .ok (.istore 4, 2) := by decide +kernel
theorem dX5_endOfRun_3 : decode cX5_endOfRun 3 = .ok (.iload 4, 2) := by decide +kernel
theorem dX5_endOfRun_5 : decode cX5_endOfRun 5 = .ok (.aload_n 0, 1) := by decide +kernel
theorem dX5_endOfRun_6 : decode cX5_endOfRun 6 = .ok (.getfield 15, 3) := by decide +kernel
theorem dX5_endOfRun_9 : decode cX5_endOfRun 9 = .ok (.if_icmp .ge 23, 3) := by decide +kernel
theorem dX5_endOfRun_12 : decode cX5_endOfRun 12 = .ok (.aload_n 0, 1) := by decide +kernel
theorem dX5_endOfRun_13 : decode cX5_endOfRun 13 = .ok (.iload 4, 2) := by decide +kernel
theorem dX5_endOfRun_15 : decode cX5_endOfRun 15 = .ok (.invokevirtual 119, 3) := by decide +kernel
theorem dX5_endOfRun_18 : decode cX5_endOfRun 18 = .ok (.iload_n 2, 1) := by decide +kernel
theorem dX5_endOfRun_19 : decode cX5_endOfRun 19 = .ok (.iload_n 3, 1) := by decide +kernel
theorem dX5_endOfRun_20 : decode cX5_endOfRun 20 = .ok (.invokestatic 31, 3) := by decide +kernel
theorem dX5_endOfRun_23 : decode cX5_endOfRun 23 = .ok (.ifCond .eq 9, 3) := by decide +kernel
theorem dX5_endOfRun_26 : decode cX5_endOfRun 26 = .ok (.iinc 4 1, 3) := by decide +kernel
theorem dX5_endOfRun_29 : decode cX5_endOfRun 29 = .ok (.goto (-26), 3) := by decide +kernel
theorem dX5_endOfRun_32 : decode cX5_endOfRun 32 = .ok (.iload 4, 2) := by decide +kernel
theorem dX5_endOfRun_34 : decode cX5_endOfRun 34 = .ok (.ireturn, 1) := by decide +kernel
theorem dX5_byteAt_0 : decode cX5_byteAt 0 = .ok (.iload_n 1, 1) := by decide +kernel
theorem dX5_byteAt_1 : decode cX5_byteAt 1 = .ok (.ifCond .lt 27, 3) := by decide +kernel
theorem dX5_byteAt_4 : decode cX5_byteAt 4 = .ok (.iload_n 1, 1) := by decide +kernel
theorem dX5_byteAt_5 : decode cX5_byteAt 5 = .ok (.aload_n 0, 1) := by decide +kernel
theorem dX5_byteAt_6 : decode cX5_byteAt 6 = .ok (.getfield 15, 3) := by decide +kernel
theorem dX5_byteAt_9 : decode cX5_byteAt 9 = .ok (.if_icmp .ge 19, 3) := by decide +kernel
theorem dX5_byteAt_12 : decode cX5_byteAt 12 = .ok (.iload_n 1, 1) := by decide +kernel
theorem dX5_byteAt_13 : decode cX5_byteAt 13 = .ok (.sipush 150, 3) := by decide +kernel
theorem dX5_byteAt_16 : decode cX5_byteAt 16 = .ok (.if_icmp .ge 12, 3) := by decide +kernel
theorem dX5_byteAt_19 : decode cX5_byteAt 19 = .ok (.aload_n 0, 1) := by decide +kernel
theorem dX5_byteAt_20 : decode cX5_byteAt 20 = .ok (.getfield 9, 3) := by decide +kernel
theorem dX5_byteAt_23 : decode cX5_byteAt 23 = .ok (.iload_n 1, 1) := by decide +kernel
theorem dX5_byteAt_24 : decode cX5_byteAt 24 = .ok (.iaload, 1) := by decide +kernel
theorem dX5_byteAt_25 : decode cX5_byteAt 25 = .ok (.goto 4, 3) := by decide +kernel
theorem dX5_byteAt_28 : decode cX5_byteAt 28 = .ok (.iconst (-1), 1) := by decide +kernel
theorem dX5_byteAt_29 : decode cX5_byteAt 29 = .ok (.ireturn, 1) := by decide +kernel
theorem dX5_tokenIn_0 : decode cX5_tokenIn 0 = .ok (.aload_n 0, 1) := by decide +kernel
theorem dX5_tokenIn_1 : decode cX5_tokenIn 1 = .ok (.iload_n 1, 1) := by decide +kernel
theorem dX5_tokenIn_2 : decode cX5_tokenIn 2 = .ok (.invokevirtual 119, 3) := by decide +kernel
theorem dX5_tokenIn_5 : decode cX5_tokenIn 5 = .ok (.istore_n 3, 1) := by decide +kernel
theorem dX5_tokenIn_6 : decode cX5_tokenIn 6 = .ok (.iload_n 1, 1) := by decide +kernel
theorem dX5_tokenIn_7 : decode cX5_tokenIn 7 = .ok (.aload_n 0, 1) := by decide +kernel
theorem dX5_tokenIn_8 : decode cX5_tokenIn 8 = .ok (.getfield 15, 3) := by decide +kernel
theorem dX5_tokenIn_11 : decode cX5_tokenIn 11 = .ok (.if_icmp .lt 5, 3) := by decide +kernel
theorem dX5_tokenIn_14 : decode cX5_tokenIn 14 = .ok (.iconst (-1), 1) := by decide +kernel
theorem dX5_tokenIn_15 : decode cX5_tokenIn 15 = .ok (.ireturn, 1) := by decide +kernel
theorem dX5_tokenIn_16 : decode cX5_tokenIn 16 = .ok (.iload_n 3, 1) := by decide +kernel
theorem dX5_tokenIn_17 : decode cX5_tokenIn 17 = .ok (.bipush 97, 2) := by decide +kernel
theorem dX5_tokenIn_19 : decode cX5_tokenIn 19 = .ok (.bipush 122, 2) := by decide +kernel
theorem dX5_tokenIn_21 : decode cX5_tokenIn 21 = .ok (.invokestatic 31, 3) := by decide +kernel
theorem dX5_tokenIn_24 : decode cX5_tokenIn 24 = .ok (.ifCond .eq 10, 3) := by decide +kernel
theorem dX5_tokenIn_27 : decode cX5_tokenIn 27 = .ok (.aload_n 0, 1) := by decide +kernel
theorem dX5_tokenIn_28 : decode cX5_tokenIn 28 = .ok (.iload_n 1, 1) := by decide +kernel
theorem dX5_tokenIn_29 : decode cX5_tokenIn 29 = .ok (.iload_n 2, 1) := by decide +kernel
theorem dX5_tokenIn_30 : decode cX5_tokenIn 30 = .ok (.invokevirtual 127, 3) := by decide +kernel
theorem dX5_tokenIn_33 : decode cX5_tokenIn 33 = .ok (.ireturn, 1) := by decide +kernel
theorem dX5_tokenIn_34 : decode cX5_tokenIn 34 = .ok (.iload_n 3, 1) := by decide +kernel
theorem dX5_tokenIn_35 : decode cX5_tokenIn 35 = .ok (.bipush 48, 2) := by decide +kernel
theorem dX5_tokenIn_37 : decode cX5_tokenIn 37 = .ok (.bipush 57, 2) := by decide +kernel
theorem dX5_tokenIn_39 : decode cX5_tokenIn 39 = .ok (.invokestatic 31, 3) := by decide +kernel
theorem dX5_tokenIn_42 : decode cX5_tokenIn 42 = .ok (.ifCond .eq 10, 3) := by decide +kernel
theorem dX5_tokenIn_45 : decode cX5_tokenIn 45 = .ok (.aload_n 0, 1) := by decide +kernel
theorem dX5_tokenIn_46 : decode cX5_tokenIn 46 = .ok (.iload_n 1, 1) := by decide +kernel
theorem dX5_tokenIn_47 : decode cX5_tokenIn 47 = .ok (.iload_n 2, 1) := by decide +kernel
theorem dX5_tokenIn_48 : decode cX5_tokenIn 48 = .ok (.invokevirtual 130, 3) := by decide +kernel
theorem dX5_tokenIn_51 : decode cX5_tokenIn 51 = .ok (.ireturn, 1) := by decide +kernel
theorem dX5_tokenIn_52 : decode cX5_tokenIn 52 = .ok (.iload_n 3, 1) := by decide +kernel
theorem dX5_tokenIn_53 : decode cX5_tokenIn 53 = .ok (.bipush 59, 2) := by decide +kernel
theorem dX5_tokenIn_55 : decode cX5_tokenIn 55 = .ok (.if_icmp .ne 8, 3) := by decide +kernel
theorem dX5_tokenIn_58 : decode cX5_tokenIn 58 = .ok (.bipush (-2), 2) := by decide +kernel
theorem dX5_tokenIn_60 : decode cX5_tokenIn 60 = .ok (.goto 5, 3) := by decide +kernel
theorem dX5_tokenIn_63 : decode cX5_tokenIn 63 = .ok (.bipush (-3), 2) := by decide +kernel
theorem dX5_tokenIn_65 : decode cX5_tokenIn 65 = .ok (.ireturn, 1) := by decide +kernel
theorem dX5_numberIn_0 : decode cX5_numberIn 0 = .ok (.aload_n 0, 1) := by decide +kernel
theorem dX5_numberIn_1 : decode cX5_numberIn 1 = .ok (.iload_n 2, 1) := by decide +kernel
theorem dX5_numberIn_2 : decode cX5_numberIn 2 = .ok (.iconst 1, 1) := by decide +kernel
theorem dX5_numberIn_3 : decode cX5_numberIn 3 = .ok (.isub, 1) := by decide +kernel
theorem dX5_numberIn_4 : decode cX5_numberIn 4 = .ok (.invokevirtual 119, 3) := by decide +kernel
theorem dX5_numberIn_7 : decode cX5_numberIn 7 = .ok (.bipush 48, 2) := by decide +kernel
theorem dX5_numberIn_9 : decode cX5_numberIn 9 = .ok (.isub, 1) := by decide +kernel
theorem dX5_numberIn_10 : decode cX5_numberIn 10 = .ok (.istore_n 3, 1) := by decide +kernel
theorem dX5_numberIn_11 : decode cX5_numberIn 11 = .ok (.iload_n 2, 1) := by decide +kernel
theorem dX5_numberIn_12 : decode cX5_numberIn 12 = .ok (.iload_n 1, 1) := by decide +kernel
theorem dX5_numberIn_13 : decode cX5_numberIn 13 = .ok (.isub, 1) := by decide +kernel
theorem dX5_numberIn_14 : decode cX5_numberIn 14 = .ok (.lookupswitch 42 #[(1, 26), (2, 28)], 26) := by decide +kernel
theorem dX5_numberIn_40 : decode cX5_numberIn 40 = .ok (.iload_n 3, 1) := by decide +kernel
theorem dX5_numberIn_41 : decode cX5_numberIn 41 = .ok (.ireturn, 1) := by decide +kernel
theorem dX5_numberIn_42 : decode cX5_numberIn 42 = .ok (.bipush 10, 2) := by decide +kernel
theorem dX5_numberIn_44 : decode cX5_numberIn 44 = .ok (.aload_n 0, 1) := by decide +kernel
theorem dX5_numberIn_45 : decode cX5_numberIn 45 = .ok (.iload_n 1, 1) := by decide +kernel
theorem dX5_numberIn_46 : decode cX5_numberIn 46 = .ok (.invokevirtual 119, 3) := by decide +kernel
theorem dX5_numberIn_49 : decode cX5_numberIn 49 = .ok (.bipush 48, 2) := by decide +kernel
theorem dX5_numberIn_51 : decode cX5_numberIn 51 = .ok (.isub, 1) := by decide +kernel
theorem dX5_numberIn_52 : decode cX5_numberIn 52 = .ok (.imul, 1) := by decide +kernel
theorem dX5_numberIn_53 : decode cX5_numberIn 53 = .ok (.iload_n 3, 1) := by decide +kernel
theorem dX5_numberIn_54 : decode cX5_numberIn 54 = .ok (.iadd, 1) := by decide +kernel
theorem dX5_numberIn_55 : decode cX5_numberIn 55 = .ok (.ireturn, 1) := by decide +kernel
theorem dX5_numberIn_56 : decode cX5_numberIn 56 = .ok (.bipush (-3), 2) := by decide +kernel
theorem dX5_numberIn_58 : decode cX5_numberIn 58 = .ok (.ireturn, 1) := by decide +kernel
theorem dX5_wordIn_0 : decode cX5_wordIn 0 = .ok (.aload_n 0, 1) := by decide +kernel
theorem dX5_wordIn_1 : decode cX5_wordIn 1 = .ok (.ldc 133, 2) := by decide +kernel
theorem dX5_wordIn_3 : decode cX5_wordIn 3 = .ok (.iload_n 1, 1) := by decide +kernel
theorem dX5_wordIn_4 : decode cX5_wordIn 4 = .ok (.iload_n 2, 1) := by decide +kernel
theorem dX5_wordIn_5 : decode cX5_wordIn 5 = .ok (.invokevirtual 135, 3) := by decide +kernel
theorem dX5_wordIn_8 : decode cX5_wordIn 8 = .ok (.ifCond .eq 6, 3) := by decide +kernel
theorem dX5_wordIn_11 : decode cX5_wordIn 11 = .ok (.bipush (-4), 2) := by decide +kernel
theorem dX5_wordIn_13 : decode cX5_wordIn 13 = .ok (.ireturn, 1) := by decide +kernel
theorem dX5_wordIn_14 : decode cX5_wordIn 14 = .ok (.aload_n 0, 1) := by decide +kernel
theorem dX5_wordIn_15 : decode cX5_wordIn 15 = .ok (.ldc 139, 2) := by decide +kernel
theorem dX5_wordIn_17 : decode cX5_wordIn 17 = .ok (.iload_n 1, 1) := by decide +kernel
theorem dX5_wordIn_18 : decode cX5_wordIn 18 = .ok (.iload_n 2, 1) := by decide +kernel
theorem dX5_wordIn_19 : decode cX5_wordIn 19 = .ok (.invokevirtual 135, 3) := by decide +kernel
theorem dX5_wordIn_22 : decode cX5_wordIn 22 = .ok (.ifCond .eq 6, 3) := by decide +kernel
theorem dX5_wordIn_25 : decode cX5_wordIn 25 = .ok (.bipush (-5), 2) := by decide +kernel
theorem dX5_wordIn_27 : decode cX5_wordIn 27 = .ok (.ireturn, 1) := by decide +kernel
theorem dX5_wordIn_28 : decode cX5_wordIn 28 = .ok (.aload_n 0, 1) := by decide +kernel
theorem dX5_wordIn_29 : decode cX5_wordIn 29 = .ok (.ldc 141, 2) := by decide +kernel
theorem dX5_wordIn_31 : decode cX5_wordIn 31 = .ok (.iload_n 1, 1) := by decide +kernel
theorem dX5_wordIn_32 : decode cX5_wordIn 32 = .ok (.iload_n 2, 1) := by decide +kernel
theorem dX5_wordIn_33 : decode cX5_wordIn 33 = .ok (.invokevirtual 135, 3) := by decide +kernel
theorem dX5_wordIn_36 : decode cX5_wordIn 36 = .ok (.ifCond .eq 6, 3) := by decide +kernel
theorem dX5_wordIn_39 : decode cX5_wordIn 39 = .ok (.bipush (-6), 2) := by decide +kernel
theorem dX5_wordIn_41 : decode cX5_wordIn 41 = .ok (.ireturn, 1) := by decide +kernel
theorem dX5_wordIn_42 : decode cX5_wordIn 42 = .ok (.aload_n 0, 1) := by decide +kernel
theorem dX5_wordIn_43 : decode cX5_wordIn 43 = .ok (.ldc 142, 2) := by decide +kernel
theorem dX5_wordIn_45 : decode cX5_wordIn 45 = .ok (.iload_n 1, 1) := by decide +kernel
theorem dX5_wordIn_46 : decode cX5_wordIn 46 = .ok (.iload_n 2, 1) := by decide +kernel
theorem dX5_wordIn_47 : decode cX5_wordIn 47 = .ok (.invokevirtual 135, 3) := by decide +kernel
theorem dX5_wordIn_50 : decode cX5_wordIn 50 = .ok (.ifCond .eq 8, 3) := by decide +kernel
theorem dX5_wordIn_53 : decode cX5_wordIn 53 = .ok (.bipush (-7), 2) := by decide +kernel
theorem dX5_wordIn_55 : decode cX5_wordIn 55 = .ok (.goto 5, 3) := by decide +kernel
theorem dX5_wordIn_58 : decode cX5_wordIn 58 = .ok (.bipush (-3), 2) := by decide +kernel
theorem dX5_wordIn_60 : decode cX5_wordIn 60 = .ok (.ireturn, 1) := by decide +kernel
theorem dX5_isWord_0 : decode cX5_isWord 0 = .ok (.iload_n 3, 1) := by decide +kernel
theorem dX5_isWord_1 : decode cX5_isWord 1 = .ok (.iload_n 2, 1) := by decide +kernel
theorem dX5_isWord_2 : decode cX5_isWord 2 = .ok (.isub, 1) := by decide +kernel
theorem dX5_isWord_3 : decode cX5_isWord 3 = .ok (.aload_n 1, 1) := by decide +kernel
theorem dX5_isWord_4 : decode cX5_isWord 4 = .ok (.invokevirtual 144, 3) := by decide +kernel
theorem dX5_isWord_7 : decode cX5_isWord 7 = .ok (.if_icmp .eq 5, 3) := by decide +kernel
theorem dX5_isWord_10 : decode cX5_isWord 10 = .ok (.iconst 0, 1) := by decide +kernel
theorem dX5_isWord_11 : decode cX5_isWord 11 = .ok (.ireturn, 1) := by decide +kernel
theorem dX5_isWord_12 : decode cX5_isWord 12 = .ok (.iconst 0, 1) := by decide +kernel
theorem dX5_isWord_13 : decode cX5_isWord 13 = .ok (.istore 4, 2) := by decide +kernel
theorem dX5_isWord_15 : decode cX5_isWord 15 = .ok (.iload 4, 2) := by decide +kernel
theorem dX5_isWord_17 : decode cX5_isWord 17 = .ok (.aload_n 1, 1) := by decide +kernel
theorem dX5_isWord_18 : decode cX5_isWord 18 = .ok (.invokevirtual 144, 3) := by decide +kernel
theorem dX5_isWord_21 : decode cX5_isWord 21 = .ok (.if_icmp .ge 28, 3) := by decide +kernel
theorem dX5_isWord_24 : decode cX5_isWord 24 = .ok (.aload_n 0, 1) := by decide +kernel
theorem dX5_isWord_25 : decode cX5_isWord 25 = .ok (.iload_n 2, 1) := by decide +kernel
theorem dX5_isWord_26 : decode cX5_isWord 26 = .ok (.iload 4, 2) := by decide +kernel
theorem dX5_isWord_28 : decode cX5_isWord 28 = .ok (.iadd, 1) := by decide +kernel
theorem dX5_isWord_29 : decode cX5_isWord 29 = .ok (.invokevirtual 119, 3) := by decide +kernel
theorem dX5_isWord_32 : decode cX5_isWord 32 = .ok (.aload_n 1, 1) := by decide +kernel
theorem dX5_isWord_33 : decode cX5_isWord 33 = .ok (.iload 4, 2) := by decide +kernel
theorem dX5_isWord_35 : decode cX5_isWord 35 = .ok (.invokevirtual 148, 3) := by decide +kernel
theorem dX5_isWord_38 : decode cX5_isWord 38 = .ok (.if_icmp .eq 5, 3) := by decide +kernel
theorem dX5_isWord_41 : decode cX5_isWord 41 = .ok (.iconst 0, 1) := by decide +kernel
theorem dX5_isWord_42 : decode cX5_isWord 42 = .ok (.ireturn, 1) := by decide +kernel
theorem dX5_isWord_43 : decode cX5_isWord 43 = .ok (.iinc 4 1, 3) := by decide +kernel
theorem dX5_isWord_46 : decode cX5_isWord 46 = .ok (.goto (-31), 3) := by decide +kernel
theorem dX5_isWord_49 : decode cX5_isWord 49 = .ok (.iconst 1, 1) := by decide +kernel
theorem dX5_isWord_50 : decode cX5_isWord 50 = .ok (.ireturn, 1) := by decide +kernel
theorem dX6_yes_0 : decode cX6_yes 0 = .ok (.iload_n 2, 1) := by decide +kernel
theorem dX6_yes_1 : decode cX6_yes 1 = .ok (.iload_n 1, 1) := by decide +kernel
theorem dX6_yes_2 : decode cX6_yes 2 = .ok (.if_icmp .lt 7, 3) := by decide +kernel
theorem dX6_yes_5 : decode cX6_yes 5 = .ok (.iconst 1, 1) := by decide +kernel
theorem dX6_yes_6 : decode cX6_yes 6 = .ok (.goto 4, 3) := by decide +kernel
theorem dX6_yes_9 : decode cX6_yes 9 = .ok (.iconst 0, 1) := by decide +kernel
theorem dX6_yes_10 : decode cX6_yes 10 = .ok (.istore 5, 2) := by decide +kernel
theorem dX6_yes_12 : decode cX6_yes 12 = .ok (.iload 5, 2) := by decide +kernel
theorem dX6_yes_14 : decode cX6_yes 14 = .ok (.ifCond .eq 13, 3) := by decide +kernel
theorem dX6_yes_17 : decode cX6_yes 17 = .ok (.iload_n 2, 1) := by decide +kernel
theorem dX6_yes_18 : decode cX6_yes 18 = .ok (.bipush 40, 2) := by decide +kernel
theorem dX6_yes_20 : decode cX6_yes 20 = .ok (.if_icmp .lt 7, 3) := by decide +kernel
theorem dX6_yes_23 : decode cX6_yes 23 = .ok (.iconst 1, 1) := by decide +kernel
theorem dX6_yes_24 : decode cX6_yes 24 = .ok (.goto 4, 3) := by decide +kernel
theorem dX6_yes_27 : decode cX6_yes 27 = .ok (.iconst 0, 1) := by decide +kernel
theorem dX6_yes_28 : decode cX6_yes 28 = .ok (.istore 6, 2) := by decide +kernel
theorem dX6_yes_30 : decode cX6_yes 30 = .ok (.iload 5, 2) := by decide +kernel
theorem dX6_yes_32 : decode cX6_yes 32 = .ok (.ifCond .ne 10, 3) := by decide +kernel
theorem dX6_yes_35 : decode cX6_yes 35 = .ok (.iload 4, 2) := by decide +kernel
theorem dX6_yes_37 : decode cX6_yes 37 = .ok (.bipush 6, 2) := by decide +kernel
theorem dX6_yes_39 : decode cX6_yes 39 = .ok (.if_icmp .lt 7, 3) := by decide +kernel
theorem dX6_yes_42 : decode cX6_yes 42 = .ok (.iconst 1, 1) := by decide +kernel
theorem dX6_yes_43 : decode cX6_yes 43 = .ok (.goto 4, 3) := by decide +kernel
theorem dX6_yes_46 : decode cX6_yes 46 = .ok (.iconst 0, 1) := by decide +kernel
theorem dX6_yes_47 : decode cX6_yes 47 = .ok (.istore 7, 2) := by decide +kernel
theorem dX6_yes_49 : decode cX6_yes 49 = .ok (.iload_n 0, 1) := by decide +kernel
theorem dX6_yes_50 : decode cX6_yes 50 = .ok (.tableswitch 75 1 5 #[34, 37, 39, 42, 59], 34) := by decide +kernel
theorem dX6_yes_84 : decode cX6_yes 84 = .ok (.iload 6, 2) := by decide +kernel
theorem dX6_yes_86 : decode cX6_yes 86 = .ok (.ireturn, 1) := by decide +kernel
theorem dX6_yes_87 : decode cX6_yes 87 = .ok (.iconst 0, 1) := by decide +kernel
theorem dX6_yes_88 : decode cX6_yes 88 = .ok (.ireturn, 1) := by decide +kernel
theorem dX6_yes_89 : decode cX6_yes 89 = .ok (.iload 7, 2) := by decide +kernel
theorem dX6_yes_91 : decode cX6_yes 91 = .ok (.ireturn, 1) := by decide +kernel
theorem dX6_yes_92 : decode cX6_yes 92 = .ok (.iload 4, 2) := by decide +kernel
theorem dX6_yes_94 : decode cX6_yes 94 = .ok (.iconst 1, 1) := by decide +kernel
theorem dX6_yes_95 : decode cX6_yes 95 = .ok (.if_icmp .ge 8, 3) := by decide +kernel
theorem dX6_yes_98 : decode cX6_yes 98 = .ok (.iload 7, 2) := by decide +kernel
theorem dX6_yes_100 : decode cX6_yes 100 = .ok (.ifCond .eq 7, 3) := by decide +kernel
theorem dX6_yes_103 : decode cX6_yes 103 = .ok (.iconst 1, 1) := by decide +kernel
theorem dX6_yes_104 : decode cX6_yes 104 = .ok (.goto 4, 3) := by decide +kernel
theorem dX6_yes_107 : decode cX6_yes 107 = .ok (.iconst 0, 1) := by decide +kernel
theorem dX6_yes_108 : decode cX6_yes 108 = .ok (.ireturn, 1) := by decide +kernel
theorem dX6_yes_109 : decode cX6_yes 109 = .ok (.iload 6, 2) := by decide +kernel
theorem dX6_yes_111 : decode cX6_yes 111 = .ok (.ifCond .eq 12, 3) := by decide +kernel
theorem dX6_yes_114 : decode cX6_yes 114 = .ok (.iload_n 3, 1) := by decide +kernel
theorem dX6_yes_115 : decode cX6_yes 115 = .ok (.iload_n 1, 1) := by decide +kernel
theorem dX6_yes_116 : decode cX6_yes 116 = .ok (.if_icmp .lt 7, 3) := by decide +kernel
theorem dX6_yes_119 : decode cX6_yes 119 = .ok (.iconst 1, 1) := by decide +kernel
theorem dX6_yes_120 : decode cX6_yes 120 = .ok (.goto 4, 3) := by decide +kernel
theorem dX6_yes_123 : decode cX6_yes 123 = .ok (.iconst 0, 1) := by decide +kernel
theorem dX6_yes_124 : decode cX6_yes 124 = .ok (.ireturn, 1) := by decide +kernel
theorem dX6_yes_125 : decode cX6_yes 125 = .ok (.iload 5, 2) := by decide +kernel
theorem dX6_yes_127 : decode cX6_yes 127 = .ok (.ireturn, 1) := by decide +kernel
theorem dX7_init_0 : decode cX7_init 0 = .ok (.aload_n 0, 1) := by decide +kernel
theorem dX7_init_1 : decode cX7_init 1 = .ok (.invokespecial 3, 3) := by decide +kernel
theorem dX7_init_4 : decode cX7_init 4 = .ok (.aload_n 0, 1) := by decide +kernel
theorem dX7_init_5 : decode cX7_init 5 = .ok (.bipush 7, 2) := by decide +kernel
theorem dX7_init_7 : decode cX7_init 7 = .ok (.newarray .int, 2) := by decide +kernel
theorem dX7_init_9 : decode cX7_init 9 = .ok (.putfield 9, 3) := by decide +kernel
theorem dX7_init_12 : decode cX7_init 12 = .ok (.aload_n 0, 1) := by decide +kernel
theorem dX7_init_13 : decode cX7_init 13 = .ok (.bipush 7, 2) := by decide +kernel
theorem dX7_init_15 : decode cX7_init 15 = .ok (.newarray .int, 2) := by decide +kernel
theorem dX7_init_17 : decode cX7_init 17 = .ok (.putfield 15, 3) := by decide +kernel
theorem dX7_init_20 : decode cX7_init 20 = .ok (.aload_n 0, 1) := by decide +kernel
theorem dX7_init_21 : decode cX7_init 21 = .ok (.bipush 7, 2) := by decide +kernel
theorem dX7_init_23 : decode cX7_init 23 = .ok (.newarray .int, 2) := by decide +kernel
theorem dX7_init_25 : decode cX7_init 25 = .ok (.putfield 18, 3) := by decide +kernel
theorem dX7_init_28 : decode cX7_init 28 = .ok (.aload_n 0, 1) := by decide +kernel
theorem dX7_init_29 : decode cX7_init 29 = .ok (.iconst 0, 1) := by decide +kernel
theorem dX7_init_30 : decode cX7_init 30 = .ok (.putfield 21, 3) := by decide +kernel
theorem dX7_init_33 : decode cX7_init 33 = .ok (.return_, 1) := by decide +kernel
theorem dX7_copy_0 : decode cX7_copy 0 = .ok (.aload_n 1, 1) := by decide +kernel
theorem dX7_copy_1 : decode cX7_copy 1 = .ok (.getfield 9, 3) := by decide +kernel
theorem dX7_copy_4 : decode cX7_copy 4 = .ok (.iconst 0, 1) := by decide +kernel
theorem dX7_copy_5 : decode cX7_copy 5 = .ok (.aload_n 0, 1) := by decide +kernel
theorem dX7_copy_6 : decode cX7_copy 6 = .ok (.getfield 9, 3) := by decide +kernel
theorem dX7_copy_9 : decode cX7_copy 9 = .ok (.iconst 0, 1) := by decide +kernel
theorem dX7_copy_10 : decode cX7_copy 10 = .ok (.bipush 7, 2) := by decide +kernel
theorem dX7_copy_12 : decode cX7_copy 12 = .ok (.invokestatic 25, 3) := by decide +kernel
theorem dX7_copy_15 : decode cX7_copy 15 = .ok (.aload_n 1, 1) := by decide +kernel
theorem dX7_copy_16 : decode cX7_copy 16 = .ok (.getfield 15, 3) := by decide +kernel
theorem dX7_copy_19 : decode cX7_copy 19 = .ok (.iconst 0, 1) := by decide +kernel
theorem dX7_copy_20 : decode cX7_copy 20 = .ok (.aload_n 0, 1) := by decide +kernel
theorem dX7_copy_21 : decode cX7_copy 21 = .ok (.getfield 15, 3) := by decide +kernel
theorem dX7_copy_24 : decode cX7_copy 24 = .ok (.iconst 0, 1) := by decide +kernel
theorem dX7_copy_25 : decode cX7_copy 25 = .ok (.bipush 7, 2) := by decide +kernel
theorem dX7_copy_27 : decode cX7_copy 27 = .ok (.invokestatic 25, 3) := by decide +kernel
theorem dX7_copy_30 : decode cX7_copy 30 = .ok (.aload_n 1, 1) := by decide +kernel
theorem dX7_copy_31 : decode cX7_copy 31 = .ok (.getfield 18, 3) := by decide +kernel
theorem dX7_copy_34 : decode cX7_copy 34 = .ok (.iconst 0, 1) := by decide +kernel
theorem dX7_copy_35 : decode cX7_copy 35 = .ok (.aload_n 0, 1) := by decide +kernel
theorem dX7_copy_36 : decode cX7_copy 36 = .ok (.getfield 18, 3) := by decide +kernel
theorem dX7_copy_39 : decode cX7_copy 39 = .ok (.iconst 0, 1) := by decide +kernel
theorem dX7_copy_40 : decode cX7_copy 40 = .ok (.bipush 7, 2) := by decide +kernel
theorem dX7_copy_42 : decode cX7_copy 42 = .ok (.invokestatic 25, 3) := by decide +kernel
theorem dX7_copy_45 : decode cX7_copy 45 = .ok (.aload_n 0, 1) := by decide +kernel
theorem dX7_copy_46 : decode cX7_copy 46 = .ok (.aload_n 1, 1) := by decide +kernel
theorem dX7_copy_47 : decode cX7_copy 47 = .ok (.getfield 21, 3) := by decide +kernel
theorem dX7_copy_50 : decode cX7_copy 50 = .ok (.putfield 21, 3) := by decide +kernel
theorem dX7_copy_53 : decode cX7_copy 53 = .ok (.return_, 1) := by decide +kernel
theorem dX7_add_0 : decode cX7_add 0 = .ok (.aload_n 0, 1) := by decide +kernel
theorem dX7_add_1 : decode cX7_add 1 = .ok (.getfield 21, 3) := by decide +kernel
theorem dX7_add_4 : decode cX7_add 4 = .ok (.iconst 0, 1) := by decide +kernel
theorem dX7_add_5 : decode cX7_add 5 = .ok (.bipush 6, 2) := by decide +kernel
theorem dX7_add_7 : decode cX7_add 7 = .ok (.invokestatic 31, 3) := by decide +kernel
theorem dX7_add_10 : decode cX7_add 10 = .ok (.ifCond .eq 43, 3) := by decide +kernel
theorem dX7_add_13 : decode cX7_add 13 = .ok (.aload_n 0, 1) := by decide +kernel
theorem dX7_add_14 : decode cX7_add 14 = .ok (.getfield 9, 3) := by decide +kernel
theorem dX7_add_17 : decode cX7_add 17 = .ok (.aload_n 0, 1) := by decide +kernel
theorem dX7_add_18 : decode cX7_add 18 = .ok (.getfield 21, 3) := by decide +kernel
theorem dX7_add_21 : decode cX7_add 21 = .ok (.iload_n 1, 1) := by decide +kernel
theorem dX7_add_22 : decode cX7_add 22 = .ok (.iastore, 1) := by decide +kernel
theorem dX7_add_23 : decode cX7_add 23 = .ok (.aload_n 0, 1) := by decide +kernel
theorem dX7_add_24 : decode cX7_add 24 = .ok (.getfield 15, 3) := by decide +kernel
theorem dX7_add_27 : decode cX7_add 27 = .ok (.aload_n 0, 1) := by decide +kernel
theorem dX7_add_28 : decode cX7_add 28 = .ok (.getfield 21, 3) := by decide +kernel
theorem dX7_add_31 : decode cX7_add 31 = .ok (.iload_n 2, 1) := by decide +kernel
theorem dX7_add_32 : decode cX7_add 32 = .ok (.iastore, 1) := by decide +kernel
theorem dX7_add_33 : decode cX7_add 33 = .ok (.aload_n 0, 1) := by decide +kernel
theorem dX7_add_34 : decode cX7_add 34 = .ok (.getfield 18, 3) := by decide +kernel
theorem dX7_add_37 : decode cX7_add 37 = .ok (.aload_n 0, 1) := by decide +kernel
theorem dX7_add_38 : decode cX7_add 38 = .ok (.getfield 21, 3) := by decide +kernel
theorem dX7_add_41 : decode cX7_add 41 = .ok (.iload_n 3, 1) := by decide +kernel
theorem dX7_add_42 : decode cX7_add 42 = .ok (.iastore, 1) := by decide +kernel
theorem dX7_add_43 : decode cX7_add 43 = .ok (.aload_n 0, 1) := by decide +kernel
theorem dX7_add_44 : decode cX7_add 44 = .ok (.dup, 1) := by decide +kernel
theorem dX7_add_45 : decode cX7_add 45 = .ok (.getfield 21, 3) := by decide +kernel
theorem dX7_add_48 : decode cX7_add 48 = .ok (.iconst 1, 1) := by decide +kernel
theorem dX7_add_49 : decode cX7_add 49 = .ok (.iadd, 1) := by decide +kernel
theorem dX7_add_50 : decode cX7_add 50 = .ok (.putfield 21, 3) := by decide +kernel
theorem dX7_add_53 : decode cX7_add 53 = .ok (.return_, 1) := by decide +kernel
theorem dX7_kindOf_0 : decode cX7_kindOf 0 = .ok (.iload_n 1, 1) := by decide +kernel
theorem dX7_kindOf_1 : decode cX7_kindOf 1 = .ok (.iconst 0, 1) := by decide +kernel
theorem dX7_kindOf_2 : decode cX7_kindOf 2 = .ok (.bipush 6, 2) := by decide +kernel
theorem dX7_kindOf_4 : decode cX7_kindOf 4 = .ok (.invokestatic 31, 3) := by decide +kernel
theorem dX7_kindOf_7 : decode cX7_kindOf 7 = .ok (.ifCond .eq 12, 3) := by decide +kernel
theorem dX7_kindOf_10 : decode cX7_kindOf 10 = .ok (.aload_n 0, 1) := by decide +kernel
theorem dX7_kindOf_11 : decode cX7_kindOf 11 = .ok (.getfield 9, 3) := by decide +kernel
theorem dX7_kindOf_14 : decode cX7_kindOf 14 = .ok (.iload_n 1, 1) := by decide +kernel
theorem dX7_kindOf_15 : decode cX7_kindOf 15 = .ok (.iaload, 1) := by decide +kernel
theorem dX7_kindOf_16 : decode cX7_kindOf 16 = .ok (.goto 4, 3) := by decide +kernel
theorem dX7_kindOf_19 : decode cX7_kindOf 19 = .ok (.iconst 0, 1) := by decide +kernel
theorem dX7_kindOf_20 : decode cX7_kindOf 20 = .ok (.ireturn, 1) := by decide +kernel
theorem dX7_weightOf_0 : decode cX7_weightOf 0 = .ok (.iload_n 1, 1) := by decide +kernel
theorem dX7_weightOf_1 : decode cX7_weightOf 1 = .ok (.iconst 0, 1) := by decide +kernel
theorem dX7_weightOf_2 : decode cX7_weightOf 2 = .ok (.bipush 6, 2) := by decide +kernel
theorem dX7_weightOf_4 : decode cX7_weightOf 4 = .ok (.invokestatic 31, 3) := by decide +kernel
theorem dX7_weightOf_7 : decode cX7_weightOf 7 = .ok (.ifCond .eq 12, 3) := by decide +kernel
theorem dX7_weightOf_10 : decode cX7_weightOf 10 = .ok (.aload_n 0, 1) := by decide +kernel
theorem dX7_weightOf_11 : decode cX7_weightOf 11 = .ok (.getfield 15, 3) := by decide +kernel
theorem dX7_weightOf_14 : decode cX7_weightOf 14 = .ok (.iload_n 1, 1) := by decide +kernel
theorem dX7_weightOf_15 : decode cX7_weightOf 15 = .ok (.iaload, 1) := by decide +kernel
theorem dX7_weightOf_16 : decode cX7_weightOf 16 = .ok (.goto 4, 3) := by decide +kernel
theorem dX7_weightOf_19 : decode cX7_weightOf 19 = .ok (.iconst 0, 1) := by decide +kernel
theorem dX7_weightOf_20 : decode cX7_weightOf 20 = .ok (.ireturn, 1) := by decide +kernel
theorem dX7_cellOf_0 : decode cX7_cellOf 0 = .ok (.iload_n 1, 1) := by decide +kernel
theorem dX7_cellOf_1 : decode cX7_cellOf 1 = .ok (.iconst 0, 1) := by decide +kernel
theorem dX7_cellOf_2 : decode cX7_cellOf 2 = .ok (.bipush 6, 2) := by decide +kernel
theorem dX7_cellOf_4 : decode cX7_cellOf 4 = .ok (.invokestatic 31, 3) := by decide +kernel
theorem dX7_cellOf_7 : decode cX7_cellOf 7 = .ok (.ifCond .eq 12, 3) := by decide +kernel
theorem dX7_cellOf_10 : decode cX7_cellOf 10 = .ok (.aload_n 0, 1) := by decide +kernel
theorem dX7_cellOf_11 : decode cX7_cellOf 11 = .ok (.getfield 18, 3) := by decide +kernel
theorem dX7_cellOf_14 : decode cX7_cellOf 14 = .ok (.iload_n 1, 1) := by decide +kernel
theorem dX7_cellOf_15 : decode cX7_cellOf 15 = .ok (.iaload, 1) := by decide +kernel
theorem dX7_cellOf_16 : decode cX7_cellOf 16 = .ok (.goto 4, 3) := by decide +kernel
theorem dX7_cellOf_19 : decode cX7_cellOf 19 = .ok (.iconst 0, 1) := by decide +kernel
theorem dX7_cellOf_20 : decode cX7_cellOf 20 = .ok (.ireturn, 1) := by decide +kernel
theorem dX7_sets_0 : decode cX7_sets 0 = .ok (.iconst 1, 1) := by decide +kernel
theorem dX7_sets_1 : decode cX7_sets 1 = .ok (.aload_n 0, 1) := by decide +kernel
theorem dX7_sets_2 : decode cX7_sets 2 = .ok (.getfield 21, 3) := by decide +kernel
theorem dX7_sets_5 : decode cX7_sets 5 = .ok (.ishl, 1) := by decide +kernel
theorem dX7_sets_6 : decode cX7_sets 6 = .ok (.ireturn, 1) := by decide +kernel
theorem dX7_yes_0 : decode cX7_yes 0 = .ok (.iconst 0, 1) := by decide +kernel
theorem dX7_yes_1 : decode cX7_yes 1 = .ok (.istore_n 3, 1) := by decide +kernel
theorem dX7_yes_2 : decode cX7_yes 2 = .ok (.iconst 0, 1) := by decide +kernel
theorem dX7_yes_3 : decode cX7_yes 3 = .ok (.istore 4, 2) := by decide +kernel
theorem dX7_yes_5 : decode cX7_yes 5 = .ok (.iload 4, 2) := by decide +kernel
theorem dX7_yes_7 : decode cX7_yes 7 = .ok (.aload_n 0, 1) := by decide +kernel
theorem dX7_yes_8 : decode cX7_yes 8 = .ok (.getfield 21, 3) := by decide +kernel
theorem dX7_yes_11 : decode cX7_yes 11 = .ok (.if_icmp .ge 70, 3) := by decide +kernel
theorem dX7_yes_14 : decode cX7_yes 14 = .ok (.iload 4, 2) := by decide +kernel
theorem dX7_yes_16 : decode cX7_yes 16 = .ok (.bipush 7, 2) := by decide +kernel
theorem dX7_yes_18 : decode cX7_yes 18 = .ok (.if_icmp .ge 63, 3) := by decide +kernel
theorem dX7_yes_21 : decode cX7_yes 21 = .ok (.aload_n 1, 1) := by decide +kernel
theorem dX7_yes_22 : decode cX7_yes 22 = .ok (.aload_n 0, 1) := by decide +kernel
theorem dX7_yes_23 : decode cX7_yes 23 = .ok (.getfield 18, 3) := by decide +kernel
theorem dX7_yes_26 : decode cX7_yes 26 = .ok (.iload 4, 2) := by decide +kernel
theorem dX7_yes_28 : decode cX7_yes 28 = .ok (.iaload, 1) := by decide +kernel
theorem dX7_yes_29 : decode cX7_yes 29 = .ok (.invokevirtual 35, 3) := by decide +kernel
theorem dX7_yes_32 : decode cX7_yes 32 = .ok (.istore 5, 2) := by decide +kernel
theorem dX7_yes_34 : decode cX7_yes 34 = .ok (.aload_n 0, 1) := by decide +kernel
theorem dX7_yes_35 : decode cX7_yes 35 = .ok (.getfield 9, 3) := by decide +kernel
theorem dX7_yes_38 : decode cX7_yes 38 = .ok (.iload 4, 2) := by decide +kernel
theorem dX7_yes_40 : decode cX7_yes 40 = .ok (.iaload, 1) := by decide +kernel
theorem dX7_yes_41 : decode cX7_yes 41 = .ok (.aload_n 0, 1) := by decide +kernel
theorem dX7_yes_42 : decode cX7_yes 42 = .ok (.getfield 15, 3) := by decide +kernel
theorem dX7_yes_45 : decode cX7_yes 45 = .ok (.iload 4, 2) := by decide +kernel
theorem dX7_yes_47 : decode cX7_yes 47 = .ok (.iaload, 1) := by decide +kernel
theorem dX7_yes_48 : decode cX7_yes 48 = .ok (.aload_n 1, 1) := by decide +kernel
theorem dX7_yes_49 : decode cX7_yes 49 = .ok (.aload_n 0, 1) := by decide +kernel
theorem dX7_yes_50 : decode cX7_yes 50 = .ok (.getfield 18, 3) := by decide +kernel
theorem dX7_yes_53 : decode cX7_yes 53 = .ok (.iload 4, 2) := by decide +kernel
theorem dX7_yes_55 : decode cX7_yes 55 = .ok (.iaload, 1) := by decide +kernel
theorem dX7_yes_56 : decode cX7_yes 56 = .ok (.invokevirtual 41, 3) := by decide +kernel
theorem dX7_yes_59 : decode cX7_yes 59 = .ok (.iload 5, 2) := by decide +kernel
theorem dX7_yes_61 : decode cX7_yes 61 = .ok (.iload_n 2, 1) := by decide +kernel
theorem dX7_yes_62 : decode cX7_yes 62 = .ok (.invokestatic 44, 3) := by decide +kernel
theorem dX7_yes_65 : decode cX7_yes 65 = .ok (.ifCond .eq 10, 3) := by decide +kernel
theorem dX7_yes_68 : decode cX7_yes 68 = .ok (.iload_n 3, 1) := by decide +kernel
theorem dX7_yes_69 : decode cX7_yes 69 = .ok (.iconst 1, 1) := by decide +kernel
theorem dX7_yes_70 : decode cX7_yes 70 = .ok (.iload 4, 2) := by decide +kernel
theorem dX7_yes_72 : decode cX7_yes 72 = .ok (.ishl, 1) := by decide +kernel
theorem dX7_yes_73 : decode cX7_yes 73 = .ok (.ior, 1) := by decide +kernel
theorem dX7_yes_74 : decode cX7_yes 74 = .ok (.istore_n 3, 1) := by decide +kernel
theorem dX7_yes_75 : decode cX7_yes 75 = .ok (.iinc 4 1, 3) := by decide +kernel
theorem dX7_yes_78 : decode cX7_yes 78 = .ok (.goto (-73), 3) := by decide +kernel
theorem dX7_yes_81 : decode cX7_yes 81 = .ok (.iload_n 3, 1) := by decide +kernel
theorem dX7_yes_82 : decode cX7_yes 82 = .ok (.ireturn, 1) := by decide +kernel
theorem dX7_carried_0 : decode cX7_carried 0 = .ok (.iconst 2, 1) := by decide +kernel
theorem dX7_carried_1 : decode cX7_carried 1 = .ok (.iload_n 1, 1) := by decide +kernel
theorem dX7_carried_2 : decode cX7_carried 2 = .ok (.invokestatic 50, 3) := by decide +kernel
theorem dX7_carried_5 : decode cX7_carried 5 = .ok (.imul, 1) := by decide +kernel
theorem dX7_carried_6 : decode cX7_carried 6 = .ok (.istore_n 2, 1) := by decide +kernel
theorem dX7_carried_7 : decode cX7_carried 7 = .ok (.iload_n 2, 1) := by decide +kernel
theorem dX7_carried_8 : decode cX7_carried 8 = .ok (.aload_n 0, 1) := by decide +kernel
theorem dX7_carried_9 : decode cX7_carried 9 = .ok (.getfield 21, 3) := by decide +kernel
theorem dX7_carried_12 : decode cX7_carried 12 = .ok (.if_icmp .gt 29, 3) := by decide +kernel
theorem dX7_carried_15 : decode cX7_carried 15 = .ok (.iload_n 2, 1) := by decide +kernel
theorem dX7_carried_16 : decode cX7_carried 16 = .ok (.aload_n 0, 1) := by decide +kernel
theorem dX7_carried_17 : decode cX7_carried 17 = .ok (.getfield 21, 3) := by decide +kernel
theorem dX7_carried_20 : decode cX7_carried 20 = .ok (.if_icmp .ne 25, 3) := by decide +kernel
theorem dX7_carried_23 : decode cX7_carried 23 = .ok (.aload_n 0, 1) := by decide +kernel
theorem dX7_carried_24 : decode cX7_carried 24 = .ok (.getfield 21, 3) := by decide +kernel
theorem dX7_carried_27 : decode cX7_carried 27 = .ok (.ifCond .le 18, 3) := by decide +kernel
theorem dX7_carried_30 : decode cX7_carried 30 = .ok (.iload_n 1, 1) := by decide +kernel
theorem dX7_carried_31 : decode cX7_carried 31 = .ok (.aload_n 0, 1) := by decide +kernel
theorem dX7_carried_32 : decode cX7_carried 32 = .ok (.invokevirtual 55, 3) := by decide +kernel
theorem dX7_carried_35 : decode cX7_carried 35 = .ok (.invokestatic 59, 3) := by decide +kernel
theorem dX7_carried_38 : decode cX7_carried 38 = .ok (.ifCond .eq 7, 3) := by decide +kernel
theorem dX7_carried_41 : decode cX7_carried 41 = .ok (.iconst 1, 1) := by decide +kernel
theorem dX7_carried_42 : decode cX7_carried 42 = .ok (.goto 4, 3) := by decide +kernel
theorem dX7_carried_45 : decode cX7_carried 45 = .ok (.iconst 0, 1) := by decide +kernel
theorem dX7_carried_46 : decode cX7_carried 46 = .ok (.ireturn, 1) := by decide +kernel
theorem dX7_heaviest_0 : decode cX7_heaviest 0 = .ok (.iconst 0, 1) := by decide +kernel
theorem dX7_heaviest_1 : decode cX7_heaviest 1 = .ok (.istore_n 1, 1) := by decide +kernel
theorem dX7_heaviest_2 : decode cX7_heaviest 2 = .ok (.iconst 1, 1) := by decide +kernel
theorem dX7_heaviest_3 : decode cX7_heaviest 3 = .ok (.istore_n 2, 1) := by decide +kernel
theorem dX7_heaviest_4 : decode cX7_heaviest 4 = .ok (.iload_n 2, 1) := by decide +kernel
theorem dX7_heaviest_5 : decode cX7_heaviest 5 = .ok (.aload_n 0, 1) := by decide +kernel
theorem dX7_heaviest_6 : decode cX7_heaviest 6 = .ok (.getfield 21, 3) := by decide +kernel
theorem dX7_heaviest_9 : decode cX7_heaviest 9 = .ok (.if_icmp .ge 24, 3) := by decide +kernel
theorem dX7_heaviest_12 : decode cX7_heaviest 12 = .ok (.aload_n 0, 1) := by decide +kernel
theorem dX7_heaviest_13 : decode cX7_heaviest 13 = .ok (.iload_n 2, 1) := by decide +kernel
theorem dX7_heaviest_14 : decode cX7_heaviest 14 = .ok (.invokevirtual 63, 3) := by decide +kernel
theorem dX7_heaviest_17 : decode cX7_heaviest 17 = .ok (.aload_n 0, 1) := by decide +kernel
theorem dX7_heaviest_18 : decode cX7_heaviest 18 = .ok (.iload_n 1, 1) := by decide +kernel
theorem dX7_heaviest_19 : decode cX7_heaviest 19 = .ok (.invokevirtual 63, 3) := by decide +kernel
theorem dX7_heaviest_22 : decode cX7_heaviest 22 = .ok (.if_icmp .le 5, 3) := by decide +kernel
theorem dX7_heaviest_25 : decode cX7_heaviest 25 = .ok (.iload_n 2, 1) := by decide +kernel
theorem dX7_heaviest_26 : decode cX7_heaviest 26 = .ok (.istore_n 1, 1) := by decide +kernel
theorem dX7_heaviest_27 : decode cX7_heaviest 27 = .ok (.iinc 2 1, 3) := by decide +kernel
theorem dX7_heaviest_30 : decode cX7_heaviest 30 = .ok (.goto (-26), 3) := by decide +kernel
theorem dX7_heaviest_33 : decode cX7_heaviest 33 = .ok (.iload_n 1, 1) := by decide +kernel
theorem dX7_heaviest_34 : decode cX7_heaviest 34 = .ok (.ireturn, 1) := by decide +kernel
theorem dX7_heavy_0 : decode cX7_heavy 0 = .ok (.iconst 0, 1) := by decide +kernel
theorem dX7_heavy_1 : decode cX7_heavy 1 = .ok (.istore_n 2, 1) := by decide +kernel
theorem dX7_heavy_2 : decode cX7_heavy 2 = .ok (.iconst 0, 1) := by decide +kernel
theorem dX7_heavy_3 : decode cX7_heavy 3 = .ok (.istore_n 3, 1) := by decide +kernel
theorem dX7_heavy_4 : decode cX7_heavy 4 = .ok (.iload_n 3, 1) := by decide +kernel
theorem dX7_heavy_5 : decode cX7_heavy 5 = .ok (.aload_n 0, 1) := by decide +kernel
theorem dX7_heavy_6 : decode cX7_heavy 6 = .ok (.getfield 21, 3) := by decide +kernel
theorem dX7_heavy_9 : decode cX7_heavy 9 = .ok (.if_icmp .ge 40, 3) := by decide +kernel
theorem dX7_heavy_12 : decode cX7_heavy 12 = .ok (.iload_n 3, 1) := by decide +kernel
theorem dX7_heavy_13 : decode cX7_heavy 13 = .ok (.bipush 7, 2) := by decide +kernel
theorem dX7_heavy_15 : decode cX7_heavy 15 = .ok (.if_icmp .ge 34, 3) := by decide +kernel
theorem dX7_heavy_18 : decode cX7_heavy 18 = .ok (.aload_n 1, 1) := by decide +kernel
theorem dX7_heavy_19 : decode cX7_heavy 19 = .ok (.aload_n 0, 1) := by decide +kernel
theorem dX7_heavy_20 : decode cX7_heavy 20 = .ok (.getfield 18, 3) := by decide +kernel
theorem dX7_heavy_23 : decode cX7_heavy 23 = .ok (.iload_n 3, 1) := by decide +kernel
theorem dX7_heavy_24 : decode cX7_heavy 24 = .ok (.iaload, 1) := by decide +kernel
theorem dX7_heavy_25 : decode cX7_heavy 25 = .ok (.invokevirtual 41, 3) := by decide +kernel
theorem dX7_heavy_28 : decode cX7_heavy 28 = .ok (.aload_n 0, 1) := by decide +kernel
theorem dX7_heavy_29 : decode cX7_heavy 29 = .ok (.getfield 15, 3) := by decide +kernel
theorem dX7_heavy_32 : decode cX7_heavy 32 = .ok (.iload_n 3, 1) := by decide +kernel
theorem dX7_heavy_33 : decode cX7_heavy 33 = .ok (.iaload, 1) := by decide +kernel
theorem dX7_heavy_34 : decode cX7_heavy 34 = .ok (.if_icmp .ge 9, 3) := by decide +kernel
theorem dX7_heavy_37 : decode cX7_heavy 37 = .ok (.iload_n 2, 1) := by decide +kernel
theorem dX7_heavy_38 : decode cX7_heavy 38 = .ok (.iconst 1, 1) := by decide +kernel
theorem dX7_heavy_39 : decode cX7_heavy 39 = .ok (.iload_n 3, 1) := by decide +kernel
theorem dX7_heavy_40 : decode cX7_heavy 40 = .ok (.ishl, 1) := by decide +kernel
theorem dX7_heavy_41 : decode cX7_heavy 41 = .ok (.ior, 1) := by decide +kernel
theorem dX7_heavy_42 : decode cX7_heavy 42 = .ok (.istore_n 2, 1) := by decide +kernel
theorem dX7_heavy_43 : decode cX7_heavy 43 = .ok (.iinc 3 1, 3) := by decide +kernel
theorem dX7_heavy_46 : decode cX7_heavy 46 = .ok (.goto (-42), 3) := by decide +kernel
theorem dX7_heavy_49 : decode cX7_heavy 49 = .ok (.iload_n 2, 1) := by decide +kernel
theorem dX7_heavy_50 : decode cX7_heavy 50 = .ok (.ireturn, 1) := by decide +kernel
theorem dX7_wet_0 : decode cX7_wet 0 = .ok (.aload_n 0, 1) := by decide +kernel
theorem dX7_wet_1 : decode cX7_wet 1 = .ok (.aload_n 1, 1) := by decide +kernel
theorem dX7_wet_2 : decode cX7_wet 2 = .ok (.iload_n 2, 1) := by decide +kernel
theorem dX7_wet_3 : decode cX7_wet 3 = .ok (.invokevirtual 66, 3) := by decide +kernel
theorem dX7_wet_6 : decode cX7_wet 6 = .ok (.istore_n 3, 1) := by decide +kernel
theorem dX7_wet_7 : decode cX7_wet 7 = .ok (.aload_n 0, 1) := by decide +kernel
theorem dX7_wet_8 : decode cX7_wet 8 = .ok (.iload_n 3, 1) := by decide +kernel
theorem dX7_wet_9 : decode cX7_wet 9 = .ok (.invokevirtual 69, 3) := by decide +kernel
theorem dX7_wet_12 : decode cX7_wet 12 = .ok (.ifCond .eq 13, 3) := by decide +kernel
theorem dX7_wet_15 : decode cX7_wet 15 = .ok (.iload_n 3, 1) := by decide +kernel
theorem dX7_wet_16 : decode cX7_wet 16 = .ok (.aload_n 0, 1) := by decide +kernel
theorem dX7_wet_17 : decode cX7_wet 17 = .ok (.aload_n 1, 1) := by decide +kernel
theorem dX7_wet_18 : decode cX7_wet 18 = .ok (.invokevirtual 73, 3) := by decide +kernel
theorem dX7_wet_21 : decode cX7_wet 21 = .ok (.iand, 1) := by decide +kernel
theorem dX7_wet_22 : decode cX7_wet 22 = .ok (.goto 4, 3) := by decide +kernel
theorem dX7_wet_25 : decode cX7_wet 25 = .ok (.iconst 0, 1) := by decide +kernel
theorem dX7_wet_26 : decode cX7_wet 26 = .ok (.ireturn, 1) := by decide +kernel
theorem dX7_gain_0 : decode cX7_gain 0 = .ok (.aload_n 0, 1) := by decide +kernel
theorem dX7_gain_1 : decode cX7_gain 1 = .ok (.iload_n 2, 1) := by decide +kernel
theorem dX7_gain_2 : decode cX7_gain 2 = .ok (.invokevirtual 69, 3) := by decide +kernel
theorem dX7_gain_5 : decode cX7_gain 5 = .ok (.ifCond .ne 5, 3) := by decide +kernel
theorem dX7_gain_8 : decode cX7_gain 8 = .ok (.iconst 0, 1) := by decide +kernel
theorem dX7_gain_9 : decode cX7_gain 9 = .ok (.ireturn, 1) := by decide +kernel
theorem dX7_gain_10 : decode cX7_gain 10 = .ok (.iload_n 3, 1) := by decide +kernel
theorem dX7_gain_11 : decode cX7_gain 11 = .ok (.iload_n 1, 1) := by decide +kernel
theorem dX7_gain_12 : decode cX7_gain 12 = .ok (.invokestatic 59, 3) := by decide +kernel
theorem dX7_gain_15 : decode cX7_gain 15 = .ok (.ifCond .ne 5, 3) := by decide +kernel
theorem dX7_gain_18 : decode cX7_gain 18 = .ok (.iconst 2, 1) := by decide +kernel
theorem dX7_gain_19 : decode cX7_gain 19 = .ok (.ireturn, 1) := by decide +kernel
theorem dX7_gain_20 : decode cX7_gain 20 = .ok (.iload_n 2, 1) := by decide +kernel
theorem dX7_gain_21 : decode cX7_gain 21 = .ok (.iload_n 1, 1) := by decide +kernel
theorem dX7_gain_22 : decode cX7_gain 22 = .ok (.invokestatic 59, 3) := by decide +kernel
theorem dX7_gain_25 : decode cX7_gain 25 = .ok (.ifCond .eq 8, 3) := by decide +kernel
theorem dX7_gain_28 : decode cX7_gain 28 = .ok (.bipush (-3), 2) := by decide +kernel
theorem dX7_gain_30 : decode cX7_gain 30 = .ok (.goto 4, 3) := by decide +kernel
theorem dX7_gain_33 : decode cX7_gain 33 = .ok (.iconst (-1), 1) := by decide +kernel
theorem dX7_gain_34 : decode cX7_gain 34 = .ok (.ireturn, 1) := by decide +kernel
theorem dX7_fold_0 : decode cX7_fold 0 = .ok (.lload_n 1, 1) := by decide +kernel
theorem dX7_fold_1 : decode cX7_fold 1 = .ok (.lstore_n 3, 1) := by decide +kernel
theorem dX7_fold_2 : decode cX7_fold 2 = .ok (.iconst 0, 1) := by decide +kernel
theorem dX7_fold_3 : decode cX7_fold 3 = .ok (.istore 5, 2) := by decide +kernel
theorem dX7_fold_5 : decode cX7_fold 5 = .ok (.iload 5, 2) := by decide +kernel
theorem dX7_fold_7 : decode cX7_fold 7 = .ok (.aload_n 0, 1) := by decide +kernel
theorem dX7_fold_8 : decode cX7_fold 8 = .ok (.getfield 21, 3) := by decide +kernel
theorem dX7_fold_11 : decode cX7_fold 11 = .ok (.if_icmp .ge 57, 3) := by decide +kernel
theorem dX7_fold_14 : decode cX7_fold 14 = .ok (.iload 5, 2) := by decide +kernel
theorem dX7_fold_16 : decode cX7_fold 16 = .ok (.bipush 7, 2) := by decide +kernel
theorem dX7_fold_18 : decode cX7_fold 18 = .ok (.if_icmp .ge 50, 3) := by decide +kernel
theorem dX7_fold_21 : decode cX7_fold 21 = .ok (.ldc2_w 77, 3) := by decide +kernel
theorem dX7_fold_24 : decode cX7_fold 24 = .ok (.ldc2_w 77, 3) := by decide +kernel
theorem dX7_fold_27 : decode cX7_fold 27 = .ok (.ldc2_w 77, 3) := by decide +kernel
theorem dX7_fold_30 : decode cX7_fold 30 = .ok (.lload_n 3, 1) := by decide +kernel
theorem dX7_fold_31 : decode cX7_fold 31 = .ok (.lmul, 1) := by decide +kernel
theorem dX7_fold_32 : decode cX7_fold 32 = .ok (.aload_n 0, 1) := by decide +kernel
theorem dX7_fold_33 : decode cX7_fold 33 = .ok (.getfield 9, 3) := by decide +kernel
theorem dX7_fold_36 : decode cX7_fold 36 = .ok (.iload 5, 2) := by decide +kernel
theorem dX7_fold_38 : decode cX7_fold 38 = .ok (.iaload, 1) := by decide +kernel
theorem dX7_fold_39 : decode cX7_fold 39 = .ok (.i2l, 1) := by decide +kernel
theorem dX7_fold_40 : decode cX7_fold 40 = .ok (.ladd, 1) := by decide +kernel
theorem dX7_fold_41 : decode cX7_fold 41 = .ok (.lmul, 1) := by decide +kernel
theorem dX7_fold_42 : decode cX7_fold 42 = .ok (.aload_n 0, 1) := by decide +kernel
theorem dX7_fold_43 : decode cX7_fold 43 = .ok (.getfield 15, 3) := by decide +kernel
theorem dX7_fold_46 : decode cX7_fold 46 = .ok (.iload 5, 2) := by decide +kernel
theorem dX7_fold_48 : decode cX7_fold 48 = .ok (.iaload, 1) := by decide +kernel
theorem dX7_fold_49 : decode cX7_fold 49 = .ok (.i2l, 1) := by decide +kernel
theorem dX7_fold_50 : decode cX7_fold 50 = .ok (.ladd, 1) := by decide +kernel
theorem dX7_fold_51 : decode cX7_fold 51 = .ok (.lmul, 1) := by decide +kernel
theorem dX7_fold_52 : decode cX7_fold 52 = .ok (.aload_n 0, 1) := by decide +kernel
theorem dX7_fold_53 : decode cX7_fold 53 = .ok (.getfield 18, 3) := by decide +kernel
theorem dX7_fold_56 : decode cX7_fold 56 = .ok (.iload 5, 2) := by decide +kernel
theorem dX7_fold_58 : decode cX7_fold 58 = .ok (.iaload, 1) := by decide +kernel
theorem dX7_fold_59 : decode cX7_fold 59 = .ok (.i2l, 1) := by decide +kernel
theorem dX7_fold_60 : decode cX7_fold 60 = .ok (.ladd, 1) := by decide +kernel
theorem dX7_fold_61 : decode cX7_fold 61 = .ok (.lstore_n 3, 1) := by decide +kernel
theorem dX7_fold_62 : decode cX7_fold 62 = .ok (.iinc 5 1, 3) := by decide +kernel
theorem dX7_fold_65 : decode cX7_fold 65 = .ok (.goto (-60), 3) := by decide +kernel
theorem dX7_fold_68 : decode cX7_fold 68 = .ok (.lload_n 3, 1) := by decide +kernel
theorem dX7_fold_69 : decode cX7_fold 69 = .ok (.lreturn, 1) := by decide +kernel
theorem dX8_init_0 : decode cX8_init 0 = .ok (.aload_n 0, 1) := by decide +kernel
theorem dX8_init_1 : decode cX8_init 1 = .ok (.invokespecial 5, 3) := by decide +kernel
theorem dX8_init_4 : decode cX8_init 4 = .ok (.aload_n 0, 1) := by decide +kernel
theorem dX8_init_5 : decode cX8_init 5 = .ok (.bipush 25, 2) := by decide +kernel
theorem dX8_init_7 : decode cX8_init 7 = .ok (.newarray .int, 2) := by decide +kernel
theorem dX8_init_9 : decode cX8_init 9 = .ok (.putfield 11, 3) := by decide +kernel
theorem dX8_init_12 : decode cX8_init 12 = .ok (.aload_n 0, 1) := by decide +kernel
theorem dX8_init_13 : decode cX8_init 13 = .ok (.bipush 25, 2) := by decide +kernel
theorem dX8_init_15 : decode cX8_init 15 = .ok (.newarray .int, 2) := by decide +kernel
theorem dX8_init_17 : decode cX8_init 17 = .ok (.putfield 15, 3) := by decide +kernel
theorem dX8_init_20 : decode cX8_init 20 = .ok (.return_, 1) := by decide +kernel
theorem dX8_beside_0 : decode cX8_beside 0 = .ok (.iload_n 0, 1) := by decide +kernel
theorem dX8_beside_1 : decode cX8_beside 1 = .ok (.iconst 5, 1) := by decide +kernel
theorem dX8_beside_2 : decode cX8_beside 2 = .ok (.ishl, 1) := by decide +kernel
theorem dX8_beside_3 : decode cX8_beside 3 = .ok (.iload_n 0, 1) := by decide +kernel
theorem dX8_beside_4 : decode cX8_beside 4 = .ok (.iconst 5, 1) := by decide +kernel
theorem dX8_beside_5 : decode cX8_beside 5 = .ok (.iushr, 1) := by decide +kernel
theorem dX8_beside_6 : decode cX8_beside 6 = .ok (.ior, 1) := by decide +kernel
theorem dX8_beside_7 : decode cX8_beside 7 = .ok (.istore_n 1, 1) := by decide +kernel
theorem dX8_beside_8 : decode cX8_beside 8 = .ok (.iload_n 0, 1) := by decide +kernel
theorem dX8_beside_9 : decode cX8_beside 9 = .ok (.ldc 18, 2) := by decide +kernel
theorem dX8_beside_11 : decode cX8_beside 11 = .ok (.iand, 1) := by decide +kernel
theorem dX8_beside_12 : decode cX8_beside 12 = .ok (.iconst 1, 1) := by decide +kernel
theorem dX8_beside_13 : decode cX8_beside 13 = .ok (.ishl, 1) := by decide +kernel
theorem dX8_beside_14 : decode cX8_beside 14 = .ok (.iload_n 0, 1) := by decide +kernel
theorem dX8_beside_15 : decode cX8_beside 15 = .ok (.ldc 19, 2) := by decide +kernel
theorem dX8_beside_17 : decode cX8_beside 17 = .ok (.iand, 1) := by decide +kernel
theorem dX8_beside_18 : decode cX8_beside 18 = .ok (.iconst 1, 1) := by decide +kernel
theorem dX8_beside_19 : decode cX8_beside 19 = .ok (.iushr, 1) := by decide +kernel
theorem dX8_beside_20 : decode cX8_beside 20 = .ok (.ior, 1) := by decide +kernel
theorem dX8_beside_21 : decode cX8_beside 21 = .ok (.istore_n 2, 1) := by decide +kernel
theorem dX8_beside_22 : decode cX8_beside 22 = .ok (.ldc 20, 2) := by decide +kernel
theorem dX8_beside_24 : decode cX8_beside 24 = .ok (.iload_n 1, 1) := by decide +kernel
theorem dX8_beside_25 : decode cX8_beside 25 = .ok (.iload_n 2, 1) := by decide +kernel
theorem dX8_beside_26 : decode cX8_beside 26 = .ok (.ior, 1) := by decide +kernel
theorem dX8_beside_27 : decode cX8_beside 27 = .ok (.iand, 1) := by decide +kernel
theorem dX8_beside_28 : decode cX8_beside 28 = .ok (.ireturn, 1) := by decide +kernel
theorem dX8_joined_0 : decode cX8_joined 0 = .ok (.iload_n 0, 1) := by decide +kernel
theorem dX8_joined_1 : decode cX8_joined 1 = .ok (.iconst 1, 1) := by decide +kernel
theorem dX8_joined_2 : decode cX8_joined 2 = .ok (.iload_n 2, 1) := by decide +kernel
theorem dX8_joined_3 : decode cX8_joined 3 = .ok (.ishl, 1) := by decide +kernel
theorem dX8_joined_4 : decode cX8_joined 4 = .ok (.iand, 1) := by decide +kernel
theorem dX8_joined_5 : decode cX8_joined 5 = .ok (.istore_n 3, 1) := by decide +kernel
theorem dX8_joined_6 : decode cX8_joined 6 = .ok (.iload_n 0, 1) := by decide +kernel
theorem dX8_joined_7 : decode cX8_joined 7 = .ok (.iconst 1, 1) := by decide +kernel
theorem dX8_joined_8 : decode cX8_joined 8 = .ok (.iload_n 1, 1) := by decide +kernel
theorem dX8_joined_9 : decode cX8_joined 9 = .ok (.ishl, 1) := by decide +kernel
theorem dX8_joined_10 : decode cX8_joined 10 = .ok (.iand, 1) := by decide +kernel
theorem dX8_joined_11 : decode cX8_joined 11 = .ok (.istore 4, 2) := by decide +kernel
theorem dX8_joined_13 : decode cX8_joined 13 = .ok (.iconst 0, 1) := by decide +kernel
theorem dX8_joined_14 : decode cX8_joined 14 = .ok (.istore 5, 2) := by decide +kernel
theorem dX8_joined_16 : decode cX8_joined 16 = .ok (.iconst 0, 1) := by decide +kernel
theorem dX8_joined_17 : decode cX8_joined 17 = .ok (.istore 6, 2) := by decide +kernel
theorem dX8_joined_19 : decode cX8_joined 19 = .ok (.iload 6, 2) := by decide +kernel
theorem dX8_joined_21 : decode cX8_joined 21 = .ok (.bipush 25, 2) := by decide +kernel
theorem dX8_joined_23 : decode cX8_joined 23 = .ok (.if_icmp .ge 39, 3) := by decide +kernel
theorem dX8_joined_26 : decode cX8_joined 26 = .ok (.iload 4, 2) := by decide +kernel
theorem dX8_joined_28 : decode cX8_joined 28 = .ok (.iload_n 3, 1) := by decide +kernel
theorem dX8_joined_29 : decode cX8_joined 29 = .ok (.iand, 1) := by decide +kernel
theorem dX8_joined_30 : decode cX8_joined 30 = .ok (.ifCond .ne 32, 3) := by decide +kernel
theorem dX8_joined_33 : decode cX8_joined 33 = .ok (.iload 4, 2) := by decide +kernel
theorem dX8_joined_35 : decode cX8_joined 35 = .ok (.iload 5, 2) := by decide +kernel
theorem dX8_joined_37 : decode cX8_joined 37 = .ok (.if_icmp .eq 25, 3) := by decide +kernel
theorem dX8_joined_40 : decode cX8_joined 40 = .ok (.iload 4, 2) := by decide +kernel
theorem dX8_joined_42 : decode cX8_joined 42 = .ok (.istore 5, 2) := by decide +kernel
theorem dX8_joined_44 : decode cX8_joined 44 = .ok (.iload 4, 2) := by decide +kernel
theorem dX8_joined_46 : decode cX8_joined 46 = .ok (.iload 4, 2) := by decide +kernel
theorem dX8_joined_48 : decode cX8_joined 48 = .ok (.invokestatic 21, 3) := by decide +kernel
theorem dX8_joined_51 : decode cX8_joined 51 = .ok (.iload_n 0, 1) := by decide +kernel
theorem dX8_joined_52 : decode cX8_joined 52 = .ok (.iand, 1) := by decide +kernel
theorem dX8_joined_53 : decode cX8_joined 53 = .ok (.ior, 1) := by decide +kernel
theorem dX8_joined_54 : decode cX8_joined 54 = .ok (.istore 4, 2) := by decide +kernel
theorem dX8_joined_56 : decode cX8_joined 56 = .ok (.iinc 6 1, 3) := by decide +kernel
theorem dX8_joined_59 : decode cX8_joined 59 = .ok (.goto (-40), 3) := by decide +kernel
theorem dX8_joined_62 : decode cX8_joined 62 = .ok (.iload 4, 2) := by decide +kernel
theorem dX8_joined_64 : decode cX8_joined 64 = .ok (.iload_n 3, 1) := by decide +kernel
theorem dX8_joined_65 : decode cX8_joined 65 = .ok (.iand, 1) := by decide +kernel
theorem dX8_joined_66 : decode cX8_joined 66 = .ok (.ifCond .eq 7, 3) := by decide +kernel
theorem dX8_joined_69 : decode cX8_joined 69 = .ok (.iconst 1, 1) := by decide +kernel
theorem dX8_joined_70 : decode cX8_joined 70 = .ok (.goto 4, 3) := by decide +kernel
theorem dX8_joined_73 : decode cX8_joined 73 = .ok (.iconst 0, 1) := by decide +kernel
theorem dX8_joined_74 : decode cX8_joined 74 = .ok (.ireturn, 1) := by decide +kernel
theorem dX8_find_0 : decode cX8_find 0 = .ok (.aload_n 0, 1) := by decide +kernel
theorem dX8_find_1 : decode cX8_find 1 = .ok (.iload_n 1, 1) := by decide +kernel
theorem dX8_find_2 : decode cX8_find 2 = .ok (.iload_n 2, 1) := by decide +kernel
theorem dX8_find_3 : decode cX8_find 3 = .ok (.iload_n 3, 1) := by decide +kernel
theorem dX8_find_4 : decode cX8_find 4 = .ok (.invokevirtual 25, 3) := by decide +kernel
theorem dX8_find_7 : decode cX8_find 7 = .ok (.istore 4, 2) := by decide +kernel
theorem dX8_find_9 : decode cX8_find 9 = .ok (.iload 4, 2) := by decide +kernel
theorem dX8_find_11 : decode cX8_find 11 = .ok (.ifCond .ge 5, 3) := by decide +kernel
theorem dX8_find_14 : decode cX8_find 14 = .ok (.iconst 0, 1) := by decide +kernel
theorem dX8_find_15 : decode cX8_find 15 = .ok (.ireturn, 1) := by decide +kernel
theorem dX8_find_16 : decode cX8_find 16 = .ok (.iload_n 2, 1) := by decide +kernel
theorem dX8_find_17 : decode cX8_find 17 = .ok (.istore 5, 2) := by decide +kernel
theorem dX8_find_19 : decode cX8_find 19 = .ok (.iconst 0, 1) := by decide +kernel
theorem dX8_find_20 : decode cX8_find 20 = .ok (.istore 6, 2) := by decide +kernel
theorem dX8_find_22 : decode cX8_find 22 = .ok (.iload 6, 2) := by decide +kernel
theorem dX8_find_24 : decode cX8_find 24 = .ok (.iload 4, 2) := by decide +kernel
theorem dX8_find_26 : decode cX8_find 26 = .ok (.if_icmp .gt 57, 3) := by decide +kernel
theorem dX8_find_29 : decode cX8_find 29 = .ok (.iload 6, 2) := by decide +kernel
theorem dX8_find_31 : decode cX8_find 31 = .ok (.bipush 25, 2) := by decide +kernel
theorem dX8_find_33 : decode cX8_find 33 = .ok (.if_icmp .ge 50, 3) := by decide +kernel
theorem dX8_find_36 : decode cX8_find 36 = .ok (.aload_n 0, 1) := by decide +kernel
theorem dX8_find_37 : decode cX8_find 37 = .ok (.getfield 15, 3) := by decide +kernel
theorem dX8_find_40 : decode cX8_find 40 = .ok (.iload 6, 2) := by decide +kernel
theorem dX8_find_42 : decode cX8_find 42 = .ok (.iload 5, 2) := by decide +kernel
theorem dX8_find_44 : decode cX8_find 44 = .ok (.iastore, 1) := by decide +kernel
theorem dX8_find_45 : decode cX8_find 45 = .ok (.iload 6, 2) := by decide +kernel
theorem dX8_find_47 : decode cX8_find 47 = .ok (.iload 4, 2) := by decide +kernel
theorem dX8_find_49 : decode cX8_find 49 = .ok (.if_icmp .ge 28, 3) := by decide +kernel
theorem dX8_find_52 : decode cX8_find 52 = .ok (.iconst 1, 1) := by decide +kernel
theorem dX8_find_53 : decode cX8_find 53 = .ok (.iload 5, 2) := by decide +kernel
theorem dX8_find_55 : decode cX8_find 55 = .ok (.ishl, 1) := by decide +kernel
theorem dX8_find_56 : decode cX8_find 56 = .ok (.invokestatic 21, 3) := by decide +kernel
theorem dX8_find_59 : decode cX8_find 59 = .ok (.aload_n 0, 1) := by decide +kernel
theorem dX8_find_60 : decode cX8_find 60 = .ok (.getfield 11, 3) := by decide +kernel
theorem dX8_find_63 : decode cX8_find 63 = .ok (.iload 4, 2) := by decide +kernel
theorem dX8_find_65 : decode cX8_find 65 = .ok (.iload 6, 2) := by decide +kernel
theorem dX8_find_67 : decode cX8_find 67 = .ok (.isub, 1) := by decide +kernel
theorem dX8_find_68 : decode cX8_find 68 = .ok (.iconst 1, 1) := by decide +kernel
theorem dX8_find_69 : decode cX8_find 69 = .ok (.isub, 1) := by decide +kernel
theorem dX8_find_70 : decode cX8_find 70 = .ok (.iaload, 1) := by decide +kernel
theorem dX8_find_71 : decode cX8_find 71 = .ok (.iand, 1) := by decide +kernel
theorem dX8_find_72 : decode cX8_find 72 = .ok (.invokestatic 29, 3) := by decide +kernel
theorem dX8_find_75 : decode cX8_find 75 = .ok (.istore 5, 2) := by decide +kernel
theorem dX8_find_77 : decode cX8_find 77 = .ok (.iinc 6 1, 3) := by decide +kernel
theorem dX8_find_80 : decode cX8_find 80 = .ok (.goto (-58), 3) := by decide +kernel
theorem dX8_find_83 : decode cX8_find 83 = .ok (.iload 4, 2) := by decide +kernel
theorem dX8_find_85 : decode cX8_find 85 = .ok (.iconst 1, 1) := by decide +kernel
theorem dX8_find_86 : decode cX8_find 86 = .ok (.iadd, 1) := by decide +kernel
theorem dX8_find_87 : decode cX8_find 87 = .ok (.ireturn, 1) := by decide +kernel
theorem dX8_measure_0 : decode cX8_measure 0 = .ok (.aload_n 0, 1) := by decide +kernel
theorem dX8_measure_1 : decode cX8_measure 1 = .ok (.getfield 11, 3) := by decide +kernel
theorem dX8_measure_4 : decode cX8_measure 4 = .ok (.iconst 0, 1) := by decide +kernel
theorem dX8_measure_5 : decode cX8_measure 5 = .ok (.iload_n 1, 1) := by decide +kernel
theorem dX8_measure_6 : decode cX8_measure 6 = .ok (.iconst 1, 1) := by decide +kernel
theorem dX8_measure_7 : decode cX8_measure 7 = .ok (.iload_n 3, 1) := by decide +kernel
theorem dX8_measure_8 : decode cX8_measure 8 = .ok (.ishl, 1) := by decide +kernel
theorem dX8_measure_9 : decode cX8_measure 9 = .ok (.iand, 1) := by decide +kernel
theorem dX8_measure_10 : decode cX8_measure 10 = .ok (.iastore, 1) := by decide +kernel
theorem dX8_measure_11 : decode cX8_measure 11 = .ok (.iconst 0, 1) := by decide +kernel
theorem dX8_measure_12 : decode cX8_measure 12 = .ok (.istore 4, 2) := by decide +kernel
theorem dX8_measure_14 : decode cX8_measure 14 = .ok (.iload 4, 2) := by decide +kernel
theorem dX8_measure_16 : decode cX8_measure 16 = .ok (.bipush 25, 2) := by decide +kernel
theorem dX8_measure_18 : decode cX8_measure 18 = .ok (.if_icmp .ge 56, 3) := by decide +kernel
theorem dX8_measure_21 : decode cX8_measure 21 = .ok (.aload_n 0, 1) := by decide +kernel
theorem dX8_measure_22 : decode cX8_measure 22 = .ok (.getfield 11, 3) := by decide +kernel
theorem dX8_measure_25 : decode cX8_measure 25 = .ok (.iload 4, 2) := by decide +kernel
theorem dX8_measure_27 : decode cX8_measure 27 = .ok (.iaload, 1) := by decide +kernel
theorem dX8_measure_28 : decode cX8_measure 28 = .ok (.iload_n 2, 1) := by decide +kernel
theorem dX8_measure_29 : decode cX8_measure 29 = .ok (.invokestatic 32, 3) := by decide +kernel
theorem dX8_measure_32 : decode cX8_measure 32 = .ok (.ifCond .eq 6, 3) := by decide +kernel
theorem dX8_measure_35 : decode cX8_measure 35 = .ok (.iload 4, 2) := by decide +kernel
theorem dX8_measure_37 : decode cX8_measure 37 = .ok (.ireturn, 1) := by decide +kernel
theorem dX8_measure_38 : decode cX8_measure 38 = .ok (.iload 4, 2) := by decide +kernel
theorem dX8_measure_40 : decode cX8_measure 40 = .ok (.iconst 1, 1) := by decide +kernel
theorem dX8_measure_41 : decode cX8_measure 41 = .ok (.iadd, 1) := by decide +kernel
theorem dX8_measure_42 : decode cX8_measure 42 = .ok (.bipush 25, 2) := by decide +kernel
theorem dX8_measure_44 : decode cX8_measure 44 = .ok (.if_icmp .ge 24, 3) := by decide +kernel
theorem dX8_measure_47 : decode cX8_measure 47 = .ok (.aload_n 0, 1) := by decide +kernel
theorem dX8_measure_48 : decode cX8_measure 48 = .ok (.getfield 11, 3) := by decide +kernel
theorem dX8_measure_51 : decode cX8_measure 51 = .ok (.iload 4, 2) := by decide +kernel
theorem dX8_measure_53 : decode cX8_measure 53 = .ok (.iconst 1, 1) := by decide +kernel
theorem dX8_measure_54 : decode cX8_measure 54 = .ok (.iadd, 1) := by decide +kernel
theorem dX8_measure_55 : decode cX8_measure 55 = .ok (.aload_n 0, 1) := by decide +kernel
theorem dX8_measure_56 : decode cX8_measure 56 = .ok (.getfield 11, 3) := by decide +kernel
theorem dX8_measure_59 : decode cX8_measure 59 = .ok (.iload 4, 2) := by decide +kernel
theorem dX8_measure_61 : decode cX8_measure 61 = .ok (.iaload, 1) := by decide +kernel
theorem dX8_measure_62 : decode cX8_measure 62 = .ok (.invokestatic 21, 3) := by decide +kernel
theorem dX8_measure_65 : decode cX8_measure 65 = .ok (.iload_n 1, 1) := by decide +kernel
theorem dX8_measure_66 : decode cX8_measure 66 = .ok (.iand, 1) := by decide +kernel
theorem dX8_measure_67 : decode cX8_measure 67 = .ok (.iastore, 1) := by decide +kernel
theorem dX8_measure_68 : decode cX8_measure 68 = .ok (.iinc 4 1, 3) := by decide +kernel
theorem dX8_measure_71 : decode cX8_measure 71 = .ok (.goto (-57), 3) := by decide +kernel
theorem dX8_measure_74 : decode cX8_measure 74 = .ok (.iconst (-1), 1) := by decide +kernel
theorem dX8_measure_75 : decode cX8_measure 75 = .ok (.ireturn, 1) := by decide +kernel
theorem dX8_first_0 : decode cX8_first 0 = .ok (.iconst 0, 1) := by decide +kernel
theorem dX8_first_1 : decode cX8_first 1 = .ok (.istore_n 1, 1) := by decide +kernel
theorem dX8_first_2 : decode cX8_first 2 = .ok (.iload_n 1, 1) := by decide +kernel
theorem dX8_first_3 : decode cX8_first 3 = .ok (.bipush 25, 2) := by decide +kernel
theorem dX8_first_5 : decode cX8_first 5 = .ok (.if_icmp .ge 19, 3) := by decide +kernel
theorem dX8_first_8 : decode cX8_first 8 = .ok (.iload_n 0, 1) := by decide +kernel
theorem dX8_first_9 : decode cX8_first 9 = .ok (.iload_n 1, 1) := by decide +kernel
theorem dX8_first_10 : decode cX8_first 10 = .ok (.invokestatic 32, 3) := by decide +kernel
theorem dX8_first_13 : decode cX8_first 13 = .ok (.ifCond .eq 5, 3) := by decide +kernel
theorem dX8_first_16 : decode cX8_first 16 = .ok (.iload_n 1, 1) := by decide +kernel
theorem dX8_first_17 : decode cX8_first 17 = .ok (.ireturn, 1) := by decide +kernel
theorem dX8_first_18 : decode cX8_first 18 = .ok (.iinc 1 1, 3) := by decide +kernel
theorem dX8_first_21 : decode cX8_first 21 = .ok (.goto (-19), 3) := by decide +kernel
theorem dX8_first_24 : decode cX8_first 24 = .ok (.iconst 0, 1) := by decide +kernel
theorem dX8_first_25 : decode cX8_first 25 = .ok (.ireturn, 1) := by decide +kernel
theorem dX8_step_0 : decode cX8_step 0 = .ok (.iload_n 1, 1) := by decide +kernel
theorem dX8_step_1 : decode cX8_step 1 = .ok (.invokestatic 36, 3) := by decide +kernel
theorem dX8_step_4 : decode cX8_step 4 = .ok (.ifCond .eq 12, 3) := by decide +kernel
theorem dX8_step_7 : decode cX8_step 7 = .ok (.aload_n 0, 1) := by decide +kernel
theorem dX8_step_8 : decode cX8_step 8 = .ok (.getfield 15, 3) := by decide +kernel
theorem dX8_step_11 : decode cX8_step 11 = .ok (.iload_n 1, 1) := by decide +kernel
theorem dX8_step_12 : decode cX8_step 12 = .ok (.iaload, 1) := by decide +kernel
theorem dX8_step_13 : decode cX8_step 13 = .ok (.goto 4, 3) := by decide +kernel
theorem dX8_step_16 : decode cX8_step 16 = .ok (.iconst 0, 1) := by decide +kernel
theorem dX8_step_17 : decode cX8_step 17 = .ok (.ireturn, 1) := by decide +kernel
theorem dX8_cut_0 : decode cX8_cut 0 = .ok (.iload_n 0, 1) := by decide +kernel
theorem dX8_cut_1 : decode cX8_cut 1 = .ok (.iload_n 1, 1) := by decide +kernel
theorem dX8_cut_2 : decode cX8_cut 2 = .ok (.iload_n 2, 1) := by decide +kernel
theorem dX8_cut_3 : decode cX8_cut 3 = .ok (.invokestatic 40, 3) := by decide +kernel
theorem dX8_cut_6 : decode cX8_cut 6 = .ok (.ifCond .ne 5, 3) := by decide +kernel
theorem dX8_cut_9 : decode cX8_cut 9 = .ok (.iconst 0, 1) := by decide +kernel
theorem dX8_cut_10 : decode cX8_cut 10 = .ok (.ireturn, 1) := by decide +kernel
theorem dX8_cut_11 : decode cX8_cut 11 = .ok (.iload_n 0, 1) := by decide +kernel
theorem dX8_cut_12 : decode cX8_cut 12 = .ok (.iconst 1, 1) := by decide +kernel
theorem dX8_cut_13 : decode cX8_cut 13 = .ok (.iload_n 1, 1) := by decide +kernel
theorem dX8_cut_14 : decode cX8_cut 14 = .ok (.ishl, 1) := by decide +kernel
theorem dX8_cut_15 : decode cX8_cut 15 = .ok (.iconst (-1), 1) := by decide +kernel
theorem dX8_cut_16 : decode cX8_cut 16 = .ok (.ixor, 1) := by decide +kernel
theorem dX8_cut_17 : decode cX8_cut 17 = .ok (.iand, 1) := by decide +kernel
theorem dX8_cut_18 : decode cX8_cut 18 = .ok (.iconst 1, 1) := by decide +kernel
theorem dX8_cut_19 : decode cX8_cut 19 = .ok (.iload_n 2, 1) := by decide +kernel
theorem dX8_cut_20 : decode cX8_cut 20 = .ok (.ishl, 1) := by decide +kernel
theorem dX8_cut_21 : decode cX8_cut 21 = .ok (.iconst (-1), 1) := by decide +kernel
theorem dX8_cut_22 : decode cX8_cut 22 = .ok (.ixor, 1) := by decide +kernel
theorem dX8_cut_23 : decode cX8_cut 23 = .ok (.iand, 1) := by decide +kernel
theorem dX8_cut_24 : decode cX8_cut 24 = .ok (.istore_n 3, 1) := by decide +kernel
theorem dX8_cut_25 : decode cX8_cut 25 = .ok (.iconst 0, 1) := by decide +kernel
theorem dX8_cut_26 : decode cX8_cut 26 = .ok (.istore 4, 2) := by decide +kernel
theorem dX8_cut_28 : decode cX8_cut 28 = .ok (.iload 4, 2) := by decide +kernel
theorem dX8_cut_30 : decode cX8_cut 30 = .ok (.bipush 25, 2) := by decide +kernel
theorem dX8_cut_32 : decode cX8_cut 32 = .ok (.if_icmp .ge 41, 3) := by decide +kernel
theorem dX8_cut_35 : decode cX8_cut 35 = .ok (.iload_n 3, 1) := by decide +kernel
theorem dX8_cut_36 : decode cX8_cut 36 = .ok (.iload 4, 2) := by decide +kernel
theorem dX8_cut_38 : decode cX8_cut 38 = .ok (.invokestatic 32, 3) := by decide +kernel
theorem dX8_cut_41 : decode cX8_cut 41 = .ok (.ifCond .eq 26, 3) := by decide +kernel
theorem dX8_cut_44 : decode cX8_cut 44 = .ok (.iload_n 0, 1) := by decide +kernel
theorem dX8_cut_45 : decode cX8_cut 45 = .ok (.iconst 1, 1) := by decide +kernel
theorem dX8_cut_46 : decode cX8_cut 46 = .ok (.iload 4, 2) := by decide +kernel
theorem dX8_cut_48 : decode cX8_cut 48 = .ok (.ishl, 1) := by decide +kernel
theorem dX8_cut_49 : decode cX8_cut 49 = .ok (.iconst (-1), 1) := by decide +kernel
theorem dX8_cut_50 : decode cX8_cut 50 = .ok (.ixor, 1) := by decide +kernel
theorem dX8_cut_51 : decode cX8_cut 51 = .ok (.iand, 1) := by decide +kernel
theorem dX8_cut_52 : decode cX8_cut 52 = .ok (.iload_n 1, 1) := by decide +kernel
theorem dX8_cut_53 : decode cX8_cut 53 = .ok (.iload_n 2, 1) := by decide +kernel
theorem dX8_cut_54 : decode cX8_cut 54 = .ok (.invokestatic 40, 3) := by decide +kernel
theorem dX8_cut_57 : decode cX8_cut 57 = .ok (.ifCond .ne 10, 3) := by decide +kernel
theorem dX8_cut_60 : decode cX8_cut 60 = .ok (.sipush 992, 3) := by decide +kernel
theorem dX8_cut_63 : decode cX8_cut 63 = .ok (.iload 4, 2) := by decide +kernel
theorem dX8_cut_65 : decode cX8_cut 65 = .ok (.iadd, 1) := by decide +kernel
theorem dX8_cut_66 : decode cX8_cut 66 = .ok (.ireturn, 1) := by decide +kernel
theorem dX8_cut_67 : decode cX8_cut 67 = .ok (.iinc 4 1, 3) := by decide +kernel
theorem dX8_cut_70 : decode cX8_cut 70 = .ok (.goto (-42), 3) := by decide +kernel
theorem dX8_cut_73 : decode cX8_cut 73 = .ok (.iconst 0, 1) := by decide +kernel
theorem dX8_cut_74 : decode cX8_cut 74 = .ok (.istore 4, 2) := by decide +kernel
theorem dX8_cut_76 : decode cX8_cut 76 = .ok (.iload 4, 2) := by decide +kernel
theorem dX8_cut_78 : decode cX8_cut 78 = .ok (.bipush 25, 2) := by decide +kernel
theorem dX8_cut_80 : decode cX8_cut 80 = .ok (.if_icmp .ge 90, 3) := by decide +kernel
theorem dX8_cut_83 : decode cX8_cut 83 = .ok (.iload 4, 2) := by decide +kernel
theorem dX8_cut_85 : decode cX8_cut 85 = .ok (.iconst 1, 1) := by decide +kernel
theorem dX8_cut_86 : decode cX8_cut 86 = .ok (.iadd, 1) := by decide +kernel
theorem dX8_cut_87 : decode cX8_cut 87 = .ok (.istore 5, 2) := by decide +kernel
theorem dX8_cut_89 : decode cX8_cut 89 = .ok (.iload 5, 2) := by decide +kernel
theorem dX8_cut_91 : decode cX8_cut 91 = .ok (.bipush 25, 2) := by decide +kernel
theorem dX8_cut_93 : decode cX8_cut 93 = .ok (.if_icmp .ge 71, 3) := by decide +kernel
theorem dX8_cut_96 : decode cX8_cut 96 = .ok (.iload_n 3, 1) := by decide +kernel
theorem dX8_cut_97 : decode cX8_cut 97 = .ok (.iload 4, 2) := by decide +kernel
theorem dX8_cut_99 : decode cX8_cut 99 = .ok (.invokestatic 32, 3) := by decide +kernel
theorem dX8_cut_102 : decode cX8_cut 102 = .ok (.ifCond .eq 16, 3) := by decide +kernel
theorem dX8_cut_105 : decode cX8_cut 105 = .ok (.iload_n 3, 1) := by decide +kernel
theorem dX8_cut_106 : decode cX8_cut 106 = .ok (.iload 5, 2) := by decide +kernel
theorem dX8_cut_108 : decode cX8_cut 108 = .ok (.invokestatic 32, 3) := by decide +kernel
theorem dX8_cut_111 : decode cX8_cut 111 = .ok (.ifCond .eq 7, 3) := by decide +kernel
theorem dX8_cut_114 : decode cX8_cut 114 = .ok (.iconst 1, 1) := by decide +kernel
theorem dX8_cut_115 : decode cX8_cut 115 = .ok (.goto 4, 3) := by decide +kernel
theorem dX8_cut_118 : decode cX8_cut 118 = .ok (.iconst 0, 1) := by decide +kernel
theorem dX8_cut_119 : decode cX8_cut 119 = .ok (.istore 6, 2) := by decide +kernel
theorem dX8_cut_121 : decode cX8_cut 121 = .ok (.iload 6, 2) := by decide +kernel
theorem dX8_cut_123 : decode cX8_cut 123 = .ok (.ifCond .eq 35, 3) := by decide +kernel
theorem dX8_cut_126 : decode cX8_cut 126 = .ok (.iload_n 0, 1) := by decide +kernel
theorem dX8_cut_127 : decode cX8_cut 127 = .ok (.iconst 1, 1) := by decide +kernel
theorem dX8_cut_128 : decode cX8_cut 128 = .ok (.iload 4, 2) := by decide +kernel
theorem dX8_cut_130 : decode cX8_cut 130 = .ok (.ishl, 1) := by decide +kernel
theorem dX8_cut_131 : decode cX8_cut 131 = .ok (.iconst (-1), 1) := by decide +kernel
theorem dX8_cut_132 : decode cX8_cut 132 = .ok (.ixor, 1) := by decide +kernel
theorem dX8_cut_133 : decode cX8_cut 133 = .ok (.iand, 1) := by decide +kernel
theorem dX8_cut_134 : decode cX8_cut 134 = .ok (.iconst 1, 1) := by decide +kernel
theorem dX8_cut_135 : decode cX8_cut 135 = .ok (.iload 5, 2) := by decide +kernel
theorem dX8_cut_137 : decode cX8_cut 137 = .ok (.ishl, 1) := by decide +kernel
theorem dX8_cut_138 : decode cX8_cut 138 = .ok (.iconst (-1), 1) := by decide +kernel
theorem dX8_cut_139 : decode cX8_cut 139 = .ok (.ixor, 1) := by decide +kernel
theorem dX8_cut_140 : decode cX8_cut 140 = .ok (.iand, 1) := by decide +kernel
theorem dX8_cut_141 : decode cX8_cut 141 = .ok (.iload_n 1, 1) := by decide +kernel
theorem dX8_cut_142 : decode cX8_cut 142 = .ok (.iload_n 2, 1) := by decide +kernel
theorem dX8_cut_143 : decode cX8_cut 143 = .ok (.invokestatic 40, 3) := by decide +kernel
theorem dX8_cut_146 : decode cX8_cut 146 = .ok (.ifCond .ne 12, 3) := by decide +kernel
theorem dX8_cut_149 : decode cX8_cut 149 = .ok (.bipush 32, 2) := by decide +kernel
theorem dX8_cut_151 : decode cX8_cut 151 = .ok (.iload 4, 2) := by decide +kernel
theorem dX8_cut_153 : decode cX8_cut 153 = .ok (.imul, 1) := by decide +kernel
theorem dX8_cut_154 : decode cX8_cut 154 = .ok (.iload 5, 2) := by decide +kernel
theorem dX8_cut_156 : decode cX8_cut 156 = .ok (.iadd, 1) := by decide +kernel
theorem dX8_cut_157 : decode cX8_cut 157 = .ok (.ireturn, 1) := by decide +kernel
theorem dX8_cut_158 : decode cX8_cut 158 = .ok (.iinc 5 1, 3) := by decide +kernel
theorem dX8_cut_161 : decode cX8_cut 161 = .ok (.goto (-72), 3) := by decide +kernel
theorem dX8_cut_164 : decode cX8_cut 164 = .ok (.iinc 4 1, 3) := by decide +kernel
theorem dX8_cut_167 : decode cX8_cut 167 = .ok (.goto (-91), 3) := by decide +kernel
theorem dX8_cut_170 : decode cX8_cut 170 = .ok (.iconst (-1), 1) := by decide +kernel
theorem dX8_cut_171 : decode cX8_cut 171 = .ok (.ireturn, 1) := by decide +kernel
theorem dX9_init_0 : decode cX9_init 0 = .ok (.aload_n 0, 1) := by decide +kernel
theorem dX9_init_1 : decode cX9_init 1 = .ok (.invokespecial 3, 3) := by decide +kernel
theorem dX9_init_4 : decode cX9_init 4 = .ok (.aload_n 0, 1) := by decide +kernel
theorem dX9_init_5 : decode cX9_init 5 = .ok (.bipush 7, 2) := by decide +kernel
theorem dX9_init_7 : decode cX9_init 7 = .ok (.newarray .int, 2) := by decide +kernel
theorem dX9_init_9 : decode cX9_init 9 = .ok (.putfield 9, 3) := by decide +kernel
theorem dX9_init_12 : decode cX9_init 12 = .ok (.aload_n 0, 1) := by decide +kernel
theorem dX9_init_13 : decode cX9_init 13 = .ok (.bipush 7, 2) := by decide +kernel
theorem dX9_init_15 : decode cX9_init 15 = .ok (.newarray .int, 2) := by decide +kernel
theorem dX9_init_17 : decode cX9_init 17 = .ok (.putfield 15, 3) := by decide +kernel
theorem dX9_init_20 : decode cX9_init 20 = .ok (.return_, 1) := by decide +kernel
theorem dX9_copy_0 : decode cX9_copy 0 = .ok (.aload_n 1, 1) := by decide +kernel
theorem dX9_copy_1 : decode cX9_copy 1 = .ok (.getfield 9, 3) := by decide +kernel
theorem dX9_copy_4 : decode cX9_copy 4 = .ok (.iconst 0, 1) := by decide +kernel
theorem dX9_copy_5 : decode cX9_copy 5 = .ok (.aload_n 0, 1) := by decide +kernel
theorem dX9_copy_6 : decode cX9_copy 6 = .ok (.getfield 9, 3) := by decide +kernel
theorem dX9_copy_9 : decode cX9_copy 9 = .ok (.iconst 0, 1) := by decide +kernel
theorem dX9_copy_10 : decode cX9_copy 10 = .ok (.bipush 7, 2) := by decide +kernel
theorem dX9_copy_12 : decode cX9_copy 12 = .ok (.invokestatic 18, 3) := by decide +kernel
theorem dX9_copy_15 : decode cX9_copy 15 = .ok (.aload_n 1, 1) := by decide +kernel
theorem dX9_copy_16 : decode cX9_copy 16 = .ok (.getfield 15, 3) := by decide +kernel
theorem dX9_copy_19 : decode cX9_copy 19 = .ok (.iconst 0, 1) := by decide +kernel
theorem dX9_copy_20 : decode cX9_copy 20 = .ok (.aload_n 0, 1) := by decide +kernel
theorem dX9_copy_21 : decode cX9_copy 21 = .ok (.getfield 15, 3) := by decide +kernel
theorem dX9_copy_24 : decode cX9_copy 24 = .ok (.iconst 0, 1) := by decide +kernel
theorem dX9_copy_25 : decode cX9_copy 25 = .ok (.bipush 7, 2) := by decide +kernel
theorem dX9_copy_27 : decode cX9_copy 27 = .ok (.invokestatic 18, 3) := by decide +kernel
theorem dX9_copy_30 : decode cX9_copy 30 = .ok (.return_, 1) := by decide +kernel
theorem dX9_restart_0 : decode cX9_restart 0 = .ok (.aload_n 0, 1) := by decide +kernel
theorem dX9_restart_1 : decode cX9_restart 1 = .ok (.getfield 9, 3) := by decide +kernel
theorem dX9_restart_4 : decode cX9_restart 4 = .ok (.iconst 0, 1) := by decide +kernel
theorem dX9_restart_5 : decode cX9_restart 5 = .ok (.invokestatic 24, 3) := by decide +kernel
theorem dX9_restart_8 : decode cX9_restart 8 = .ok (.aload_n 0, 1) := by decide +kernel
theorem dX9_restart_9 : decode cX9_restart 9 = .ok (.getfield 15, 3) := by decide +kernel
theorem dX9_restart_12 : decode cX9_restart 12 = .ok (.iconst 0, 1) := by decide +kernel
theorem dX9_restart_13 : decode cX9_restart 13 = .ok (.invokestatic 24, 3) := by decide +kernel
theorem dX9_restart_16 : decode cX9_restart 16 = .ok (.return_, 1) := by decide +kernel
theorem dX9_set_0 : decode cX9_set 0 = .ok (.aload_n 0, 1) := by decide +kernel
theorem dX9_set_1 : decode cX9_set 1 = .ok (.getfield 9, 3) := by decide +kernel
theorem dX9_set_4 : decode cX9_set 4 = .ok (.iload_n 1, 1) := by decide +kernel
theorem dX9_set_5 : decode cX9_set 5 = .ok (.bipush 7, 2) := by decide +kernel
theorem dX9_set_7 : decode cX9_set 7 = .ok (.invokestatic 30, 3) := by decide +kernel
theorem dX9_set_10 : decode cX9_set 10 = .ok (.iload_n 2, 1) := by decide +kernel
theorem dX9_set_11 : decode cX9_set 11 = .ok (.iastore, 1) := by decide +kernel
theorem dX9_set_12 : decode cX9_set 12 = .ok (.aload_n 0, 1) := by decide +kernel
theorem dX9_set_13 : decode cX9_set 13 = .ok (.getfield 15, 3) := by decide +kernel
theorem dX9_set_16 : decode cX9_set 16 = .ok (.iload_n 1, 1) := by decide +kernel
theorem dX9_set_17 : decode cX9_set 17 = .ok (.bipush 7, 2) := by decide +kernel
theorem dX9_set_19 : decode cX9_set 19 = .ok (.invokestatic 30, 3) := by decide +kernel
theorem dX9_set_22 : decode cX9_set 22 = .ok (.iload_n 3, 1) := by decide +kernel
theorem dX9_set_23 : decode cX9_set 23 = .ok (.iastore, 1) := by decide +kernel
theorem dX9_set_24 : decode cX9_set 24 = .ok (.return_, 1) := by decide +kernel
theorem dX9_frostOn_0 : decode cX9_frostOn 0 = .ok (.aload_n 0, 1) := by decide +kernel
theorem dX9_frostOn_1 : decode cX9_frostOn 1 = .ok (.getfield 9, 3) := by decide +kernel
theorem dX9_frostOn_4 : decode cX9_frostOn 4 = .ok (.iload_n 1, 1) := by decide +kernel
theorem dX9_frostOn_5 : decode cX9_frostOn 5 = .ok (.bipush 7, 2) := by decide +kernel
theorem dX9_frostOn_7 : decode cX9_frostOn 7 = .ok (.invokestatic 30, 3) := by decide +kernel
theorem dX9_frostOn_10 : decode cX9_frostOn 10 = .ok (.iaload, 1) := by decide +kernel
theorem dX9_frostOn_11 : decode cX9_frostOn 11 = .ok (.ireturn, 1) := by decide +kernel
theorem dX9_sunOn_0 : decode cX9_sunOn 0 = .ok (.aload_n 0, 1) := by decide +kernel
theorem dX9_sunOn_1 : decode cX9_sunOn 1 = .ok (.getfield 15, 3) := by decide +kernel
theorem dX9_sunOn_4 : decode cX9_sunOn 4 = .ok (.iload_n 1, 1) := by decide +kernel
theorem dX9_sunOn_5 : decode cX9_sunOn 5 = .ok (.bipush 7, 2) := by decide +kernel
theorem dX9_sunOn_7 : decode cX9_sunOn 7 = .ok (.invokestatic 30, 3) := by decide +kernel
theorem dX9_sunOn_10 : decode cX9_sunOn 10 = .ok (.iaload, 1) := by decide +kernel
theorem dX9_sunOn_11 : decode cX9_sunOn 11 = .ok (.ireturn, 1) := by decide +kernel
theorem dX9_iceAfter_0 : decode cX9_iceAfter 0 = .ok (.iload_n 1, 1) := by decide +kernel
theorem dX9_iceAfter_1 : decode cX9_iceAfter 1 = .ok (.iload_n 2, 1) := by decide +kernel
theorem dX9_iceAfter_2 : decode cX9_iceAfter 2 = .ok (.aload_n 0, 1) := by decide +kernel
theorem dX9_iceAfter_3 : decode cX9_iceAfter 3 = .ok (.iload_n 3, 1) := by decide +kernel
theorem dX9_iceAfter_4 : decode cX9_iceAfter 4 = .ok (.invokevirtual 36, 3) := by decide +kernel
theorem dX9_iceAfter_7 : decode cX9_iceAfter 7 = .ok (.aload_n 0, 1) := by decide +kernel
theorem dX9_iceAfter_8 : decode cX9_iceAfter 8 = .ok (.iload_n 3, 1) := by decide +kernel
theorem dX9_iceAfter_9 : decode cX9_iceAfter 9 = .ok (.invokevirtual 40, 3) := by decide +kernel
theorem dX9_iceAfter_12 : decode cX9_iceAfter 12 = .ok (.invokestatic 43, 3) := by decide +kernel
theorem dX9_iceAfter_15 : decode cX9_iceAfter 15 = .ok (.ireturn, 1) := by decide +kernel
theorem dX10_init_0 : decode cX10_init 0 = .ok (.aload_n 0, 1) := by decide +kernel
theorem dX10_init_1 : decode cX10_init 1 = .ok (.invokespecial 1, 3) := by decide +kernel
theorem dX10_init_4 : decode cX10_init 4 = .ok (.aload_n 0, 1) := by decide +kernel
theorem dX10_init_5 : decode cX10_init 5 = .ok (.new 7, 3) := by decide +kernel
theorem dX10_init_8 : decode cX10_init 8 = .ok (.dup, 1) := by decide +kernel
theorem dX10_init_9 : decode cX10_init 9 = .ok (.invokespecial 9, 3) := by decide +kernel
theorem dX10_init_12 : decode cX10_init 12 = .ok (.putfield 10, 3) := by decide +kernel
theorem dX10_init_15 : decode cX10_init 15 = .ok (.aload_n 0, 1) := by decide +kernel
theorem dX10_init_16 : decode cX10_init 16 = .ok (.new 7, 3) := by decide +kernel
theorem dX10_init_19 : decode cX10_init 19 = .ok (.dup, 1) := by decide +kernel
theorem dX10_init_20 : decode cX10_init 20 = .ok (.invokespecial 9, 3) := by decide +kernel
theorem dX10_init_23 : decode cX10_init 23 = .ok (.putfield 16, 3) := by decide +kernel
theorem dX10_init_26 : decode cX10_init 26 = .ok (.aload_n 0, 1) := by decide +kernel
theorem dX10_init_27 : decode cX10_init 27 = .ok (.iconst 2, 1) := by decide +kernel
theorem dX10_init_28 : decode cX10_init 28 = .ok (.anewarray 7, 3) := by decide +kernel
theorem dX10_init_31 : decode cX10_init 31 = .ok (.putfield 19, 3) := by decide +kernel
theorem dX10_init_34 : decode cX10_init 34 = .ok (.aload_n 0, 1) := by decide +kernel
theorem dX10_init_35 : decode cX10_init 35 = .ok (.new 23, 3) := by decide +kernel
theorem dX10_init_38 : decode cX10_init 38 = .ok (.dup, 1) := by decide +kernel
theorem dX10_init_39 : decode cX10_init 39 = .ok (.invokespecial 25, 3) := by decide +kernel
theorem dX10_init_42 : decode cX10_init 42 = .ok (.putfield 26, 3) := by decide +kernel
theorem dX10_init_45 : decode cX10_init 45 = .ok (.aload_n 0, 1) := by decide +kernel
theorem dX10_init_46 : decode cX10_init 46 = .ok (.new 30, 3) := by decide +kernel
theorem dX10_init_49 : decode cX10_init 49 = .ok (.dup, 1) := by decide +kernel
theorem dX10_init_50 : decode cX10_init 50 = .ok (.invokespecial 32, 3) := by decide +kernel
theorem dX10_init_53 : decode cX10_init 53 = .ok (.putfield 33, 3) := by decide +kernel
theorem dX10_init_56 : decode cX10_init 56 = .ok (.aload_n 0, 1) := by decide +kernel
theorem dX10_init_57 : decode cX10_init 57 = .ok (.new 37, 3) := by decide +kernel
theorem dX10_init_60 : decode cX10_init 60 = .ok (.dup, 1) := by decide +kernel
theorem dX10_init_61 : decode cX10_init 61 = .ok (.invokespecial 39, 3) := by decide +kernel
theorem dX10_init_64 : decode cX10_init 64 = .ok (.putfield 40, 3) := by decide +kernel
theorem dX10_init_67 : decode cX10_init 67 = .ok (.aload_n 0, 1) := by decide +kernel
theorem dX10_init_68 : decode cX10_init 68 = .ok (.iconst 3, 1) := by decide +kernel
theorem dX10_init_69 : decode cX10_init 69 = .ok (.newarray .int, 2) := by decide +kernel
theorem dX10_init_71 : decode cX10_init 71 = .ok (.putfield 44, 3) := by decide +kernel
theorem dX10_init_74 : decode cX10_init 74 = .ok (.aload_n 0, 1) := by decide +kernel
theorem dX10_init_75 : decode cX10_init 75 = .ok (.bipush 6, 2) := by decide +kernel
theorem dX10_init_77 : decode cX10_init 77 = .ok (.newarray .int, 2) := by decide +kernel
theorem dX10_init_79 : decode cX10_init 79 = .ok (.putfield 48, 3) := by decide +kernel
theorem dX10_init_82 : decode cX10_init 82 = .ok (.aload_n 0, 1) := by decide +kernel
theorem dX10_init_83 : decode cX10_init 83 = .ok (.bipush 100, 2) := by decide +kernel
theorem dX10_init_85 : decode cX10_init 85 = .ok (.newarray .long, 2) := by decide +kernel
theorem dX10_init_87 : decode cX10_init 87 = .ok (.putfield 51, 3) := by decide +kernel
theorem dX10_init_90 : decode cX10_init 90 = .ok (.aload_n 0, 1) := by decide +kernel
theorem dX10_init_91 : decode cX10_init 91 = .ok (.bipush 100, 2) := by decide +kernel
theorem dX10_init_93 : decode cX10_init 93 = .ok (.newarray .long, 2) := by decide +kernel
theorem dX10_init_95 : decode cX10_init 95 = .ok (.putfield 55, 3) := by decide +kernel
theorem dX10_init_98 : decode cX10_init 98 = .ok (.aload_n 0, 1) := by decide +kernel
theorem dX10_init_99 : decode cX10_init 99 = .ok (.lconst 0, 1) := by decide +kernel
theorem dX10_init_100 : decode cX10_init 100 = .ok (.putfield 58, 3) := by decide +kernel
theorem dX10_init_103 : decode cX10_init 103 = .ok (.aload_n 0, 1) := by decide +kernel
theorem dX10_init_104 : decode cX10_init 104 = .ok (.lconst 1, 1) := by decide +kernel
theorem dX10_init_105 : decode cX10_init 105 = .ok (.putfield 62, 3) := by decide +kernel
theorem dX10_init_108 : decode cX10_init 108 = .ok (.return_, 1) := by decide +kernel
theorem dX10_lake_0 : decode cX10_lake 0 = .ok (.iload_n 1, 1) := by decide +kernel
theorem dX10_lake_1 : decode cX10_lake 1 = .ok (.iconst 0, 1) := by decide +kernel
theorem dX10_lake_2 : decode cX10_lake 2 = .ok (.bipush 99, 2) := by decide +kernel
theorem dX10_lake_4 : decode cX10_lake 4 = .ok (.invokestatic 65, 3) := by decide +kernel
theorem dX10_lake_7 : decode cX10_lake 7 = .ok (.ifCond .ne 8, 3) := by decide +kernel
theorem dX10_lake_10 : decode cX10_lake 10 = .ok (.aload_n 0, 1) := by decide +kernel
theorem dX10_lake_11 : decode cX10_lake 11 = .ok (.invokevirtual 69, 3) := by decide +kernel
theorem dX10_lake_14 : decode cX10_lake 14 = .ok (.ireturn, 1) := by decide +kernel
theorem dX10_lake_15 : decode cX10_lake 15 = .ok (.aload_n 0, 1) := by decide +kernel
theorem dX10_lake_16 : decode cX10_lake 16 = .ok (.getfield 10, 3) := by decide +kernel
theorem dX10_lake_19 : decode cX10_lake 19 = .ok (.getfield 73, 3) := by decide +kernel
theorem dX10_lake_22 : decode cX10_lake 22 = .ok (.getfield 77, 3) := by decide +kernel
theorem dX10_lake_25 : decode cX10_lake 25 = .ok (.istore_n 2, 1) := by decide +kernel
theorem dX10_lake_26 : decode cX10_lake 26 = .ok (.aload_n 0, 1) := by decide +kernel
theorem dX10_lake_27 : decode cX10_lake 27 = .ok (.getfield 10, 3) := by decide +kernel
theorem dX10_lake_30 : decode cX10_lake 30 = .ok (.iload_n 1, 1) := by decide +kernel
theorem dX10_lake_31 : decode cX10_lake 31 = .ok (.invokevirtual 83, 3) := by decide +kernel
theorem dX10_lake_34 : decode cX10_lake 34 = .ok (.iload_n 2, 1) := by decide +kernel
theorem dX10_lake_35 : decode cX10_lake 35 = .ok (.ireturn, 1) := by decide +kernel
theorem dX10_cell_0 : decode cX10_cell 0 = .ok (.iload_n 1, 1) := by decide +kernel
theorem dX10_cell_1 : decode cX10_cell 1 = .ok (.invokestatic 87, 3) := by decide +kernel
theorem dX10_cell_4 : decode cX10_cell 4 = .ok (.ifCond .eq 12, 3) := by decide +kernel
theorem dX10_cell_7 : decode cX10_cell 7 = .ok (.iload_n 2, 1) := by decide +kernel
theorem dX10_cell_8 : decode cX10_cell 8 = .ok (.iconst 0, 1) := by decide +kernel
theorem dX10_cell_9 : decode cX10_cell 9 = .ok (.iconst 5, 1) := by decide +kernel
theorem dX10_cell_10 : decode cX10_cell 10 = .ok (.invokestatic 65, 3) := by decide +kernel
theorem dX10_cell_13 : decode cX10_cell 13 = .ok (.ifCond .ne 8, 3) := by decide +kernel
theorem dX10_cell_16 : decode cX10_cell 16 = .ok (.aload_n 0, 1) := by decide +kernel
theorem dX10_cell_17 : decode cX10_cell 17 = .ok (.invokevirtual 69, 3) := by decide +kernel
theorem dX10_cell_20 : decode cX10_cell 20 = .ok (.ireturn, 1) := by decide +kernel
theorem dX10_cell_21 : decode cX10_cell 21 = .ok (.aload_n 0, 1) := by decide +kernel
theorem dX10_cell_22 : decode cX10_cell 22 = .ok (.getfield 10, 3) := by decide +kernel
theorem dX10_cell_25 : decode cX10_cell 25 = .ok (.getfield 91, 3) := by decide +kernel
theorem dX10_cell_28 : decode cX10_cell 28 = .ok (.iload_n 1, 1) := by decide +kernel
theorem dX10_cell_29 : decode cX10_cell 29 = .ok (.invokevirtual 94, 3) := by decide +kernel
theorem dX10_cell_32 : decode cX10_cell 32 = .ok (.istore_n 3, 1) := by decide +kernel
theorem dX10_cell_33 : decode cX10_cell 33 = .ok (.aload_n 0, 1) := by decide +kernel
theorem dX10_cell_34 : decode cX10_cell 34 = .ok (.getfield 10, 3) := by decide +kernel
theorem dX10_cell_37 : decode cX10_cell 37 = .ok (.getfield 91, 3) := by decide +kernel
theorem dX10_cell_40 : decode cX10_cell 40 = .ok (.iload_n 1, 1) := by decide +kernel
theorem dX10_cell_41 : decode cX10_cell 41 = .ok (.iload_n 2, 1) := by decide +kernel
theorem dX10_cell_42 : decode cX10_cell 42 = .ok (.invokevirtual 98, 3) := by decide +kernel
theorem dX10_cell_45 : decode cX10_cell 45 = .ok (.aload_n 0, 1) := by decide +kernel
theorem dX10_cell_46 : decode cX10_cell 46 = .ok (.getfield 10, 3) := by decide +kernel
theorem dX10_cell_49 : decode cX10_cell 49 = .ok (.getfield 102, 3) := by decide +kernel
theorem dX10_cell_52 : decode cX10_cell 52 = .ok (.invokevirtual 106, 3) := by decide +kernel
theorem dX10_cell_55 : decode cX10_cell 55 = .ok (.iload_n 3, 1) := by decide +kernel
theorem dX10_cell_56 : decode cX10_cell 56 = .ok (.ireturn, 1) := by decide +kernel
theorem dX10_weather_0 : decode cX10_weather 0 = .ok (.iload_n 1, 1) := by decide +kernel
theorem dX10_weather_1 : decode cX10_weather 1 = .ok (.iconst 0, 1) := by decide +kernel
theorem dX10_weather_2 : decode cX10_weather 2 = .ok (.bipush 6, 2) := by decide +kernel
theorem dX10_weather_4 : decode cX10_weather 4 = .ok (.invokestatic 65, 3) := by decide +kernel
theorem dX10_weather_7 : decode cX10_weather 7 = .ok (.ifCond .eq 17, 3) := by decide +kernel
theorem dX10_weather_10 : decode cX10_weather 10 = .ok (.iload_n 2, 1) := by decide +kernel
theorem dX10_weather_11 : decode cX10_weather 11 = .ok (.invokestatic 111, 3) := by decide +kernel
theorem dX10_weather_14 : decode cX10_weather 14 = .ok (.ifCond .eq 10, 3) := by decide +kernel
theorem dX10_weather_17 : decode cX10_weather 17 = .ok (.iload_n 3, 1) := by decide +kernel
theorem dX10_weather_18 : decode cX10_weather 18 = .ok (.invokestatic 111, 3) := by decide +kernel
theorem dX10_weather_21 : decode cX10_weather 21 = .ok (.ifCond .ne 8, 3) := by decide +kernel
theorem dX10_weather_24 : decode cX10_weather 24 = .ok (.aload_n 0, 1) := by decide +kernel
theorem dX10_weather_25 : decode cX10_weather 25 = .ok (.invokevirtual 69, 3) := by decide +kernel
theorem dX10_weather_28 : decode cX10_weather 28 = .ok (.ireturn, 1) := by decide +kernel
theorem dX10_weather_29 : decode cX10_weather 29 = .ok (.bipush 10, 2) := by decide +kernel
theorem dX10_weather_31 : decode cX10_weather 31 = .ok (.aload_n 0, 1) := by decide +kernel
theorem dX10_weather_32 : decode cX10_weather 32 = .ok (.getfield 10, 3) := by decide +kernel
theorem dX10_weather_35 : decode cX10_weather 35 = .ok (.getfield 114, 3) := by decide +kernel
theorem dX10_weather_38 : decode cX10_weather 38 = .ok (.iload_n 1, 1) := by decide +kernel
theorem dX10_weather_39 : decode cX10_weather 39 = .ok (.invokevirtual 118, 3) := by decide +kernel
theorem dX10_weather_42 : decode cX10_weather 42 = .ok (.imul, 1) := by decide +kernel
theorem dX10_weather_43 : decode cX10_weather 43 = .ok (.aload_n 0, 1) := by decide +kernel
theorem dX10_weather_44 : decode cX10_weather 44 = .ok (.getfield 10, 3) := by decide +kernel
theorem dX10_weather_47 : decode cX10_weather 47 = .ok (.getfield 114, 3) := by decide +kernel
theorem dX10_weather_50 : decode cX10_weather 50 = .ok (.iload_n 1, 1) := by decide +kernel
theorem dX10_weather_51 : decode cX10_weather 51 = .ok (.invokevirtual 123, 3) := by decide +kernel
theorem dX10_weather_54 : decode cX10_weather 54 = .ok (.iadd, 1) := by decide +kernel
theorem dX10_weather_55 : decode cX10_weather 55 = .ok (.istore 4, 2) := by decide +kernel
theorem dX10_weather_57 : decode cX10_weather 57 = .ok (.aload_n 0, 1) := by decide +kernel
theorem dX10_weather_58 : decode cX10_weather 58 = .ok (.getfield 10, 3) := by decide +kernel
theorem dX10_weather_61 : decode cX10_weather 61 = .ok (.getfield 114, 3) := by decide +kernel
theorem dX10_weather_64 : decode cX10_weather 64 = .ok (.iload_n 1, 1) := by decide +kernel
theorem dX10_weather_65 : decode cX10_weather 65 = .ok (.iload_n 2, 1) := by decide +kernel
theorem dX10_weather_66 : decode cX10_weather 66 = .ok (.iload_n 3, 1) := by decide +kernel
theorem dX10_weather_67 : decode cX10_weather 67 = .ok (.invokevirtual 126, 3) := by decide +kernel
theorem dX10_weather_70 : decode cX10_weather 70 = .ok (.aload_n 0, 1) := by decide +kernel
theorem dX10_weather_71 : decode cX10_weather 71 = .ok (.getfield 10, 3) := by decide +kernel
theorem dX10_weather_74 : decode cX10_weather 74 = .ok (.getfield 102, 3) := by decide +kernel
theorem dX10_weather_77 : decode cX10_weather 77 = .ok (.invokevirtual 106, 3) := by decide +kernel
theorem dX10_weather_80 : decode cX10_weather 80 = .ok (.iload 4, 2) := by decide +kernel
theorem dX10_weather_82 : decode cX10_weather 82 = .ok (.ireturn, 1) := by decide +kernel
theorem dX10_ward_0 : decode cX10_ward 0 = .ok (.iload_n 1, 1) := by decide +kernel
theorem dX10_ward_1 : decode cX10_ward 1 = .ok (.iconst 0, 1) := by decide +kernel
theorem dX10_ward_2 : decode cX10_ward 2 = .ok (.iconst 3, 1) := by decide +kernel
theorem dX10_ward_3 : decode cX10_ward 3 = .ok (.invokestatic 65, 3) := by decide +kernel
theorem dX10_ward_6 : decode cX10_ward 6 = .ok (.ifCond .eq 13, 3) := by decide +kernel
theorem dX10_ward_9 : decode cX10_ward 9 = .ok (.iload_n 2, 1) := by decide +kernel
theorem dX10_ward_10 : decode cX10_ward 10 = .ok (.iconst 0, 1) := by decide +kernel
theorem dX10_ward_11 : decode cX10_ward 11 = .ok (.bipush 99, 2) := by decide +kernel
theorem dX10_ward_13 : decode cX10_ward 13 = .ok (.invokestatic 65, 3) := by decide +kernel
theorem dX10_ward_16 : decode cX10_ward 16 = .ok (.ifCond .ne 8, 3) := by decide +kernel
theorem dX10_ward_19 : decode cX10_ward 19 = .ok (.aload_n 0, 1) := by decide +kernel
theorem dX10_ward_20 : decode cX10_ward 20 = .ok (.invokevirtual 69, 3) := by decide +kernel
theorem dX10_ward_23 : decode cX10_ward 23 = .ok (.ireturn, 1) := by decide +kernel
theorem dX10_ward_24 : decode cX10_ward 24 = .ok (.aload_n 0, 1) := by decide +kernel
theorem dX10_ward_25 : decode cX10_ward 25 = .ok (.getfield 10, 3) := by decide +kernel
theorem dX10_ward_28 : decode cX10_ward 28 = .ok (.getfield 130, 3) := by decide +kernel
theorem dX10_ward_31 : decode cX10_ward 31 = .ok (.iload_n 1, 1) := by decide +kernel
theorem dX10_ward_32 : decode cX10_ward 32 = .ok (.iaload, 1) := by decide +kernel
theorem dX10_ward_33 : decode cX10_ward 33 = .ok (.istore_n 3, 1) := by decide +kernel
theorem dX10_ward_34 : decode cX10_ward 34 = .ok (.aload_n 0, 1) := by decide +kernel
theorem dX10_ward_35 : decode cX10_ward 35 = .ok (.getfield 10, 3) := by decide +kernel
theorem dX10_ward_38 : decode cX10_ward 38 = .ok (.getfield 130, 3) := by decide +kernel
theorem dX10_ward_41 : decode cX10_ward 41 = .ok (.iload_n 1, 1) := by decide +kernel
theorem dX10_ward_42 : decode cX10_ward 42 = .ok (.iload_n 2, 1) := by decide +kernel
theorem dX10_ward_43 : decode cX10_ward 43 = .ok (.iastore, 1) := by decide +kernel
theorem dX10_ward_44 : decode cX10_ward 44 = .ok (.aload_n 0, 1) := by decide +kernel
theorem dX10_ward_45 : decode cX10_ward 45 = .ok (.getfield 10, 3) := by decide +kernel
theorem dX10_ward_48 : decode cX10_ward 48 = .ok (.getfield 102, 3) := by decide +kernel
theorem dX10_ward_51 : decode cX10_ward 51 = .ok (.invokevirtual 106, 3) := by decide +kernel
theorem dX10_ward_54 : decode cX10_ward 54 = .ok (.iload_n 3, 1) := by decide +kernel
theorem dX10_ward_55 : decode cX10_ward 55 = .ok (.ireturn, 1) := by decide +kernel
theorem dX10_voter_0 : decode cX10_voter 0 = .ok (.iload_n 1, 1) := by decide +kernel
theorem dX10_voter_1 : decode cX10_voter 1 = .ok (.iconst 0, 1) := by decide +kernel
theorem dX10_voter_2 : decode cX10_voter 2 = .ok (.iconst 5, 1) := by decide +kernel
theorem dX10_voter_3 : decode cX10_voter 3 = .ok (.invokestatic 65, 3) := by decide +kernel
theorem dX10_voter_6 : decode cX10_voter 6 = .ok (.ifCond .eq 20, 3) := by decide +kernel
theorem dX10_voter_9 : decode cX10_voter 9 = .ok (.iload_n 2, 1) := by decide +kernel
theorem dX10_voter_10 : decode cX10_voter 10 = .ok (.iconst 1, 1) := by decide +kernel
theorem dX10_voter_11 : decode cX10_voter 11 = .ok (.bipush 99, 2) := by decide +kernel
theorem dX10_voter_13 : decode cX10_voter 13 = .ok (.invokestatic 65, 3) := by decide +kernel
theorem dX10_voter_16 : decode cX10_voter 16 = .ok (.ifCond .eq 10, 3) := by decide +kernel
theorem dX10_voter_19 : decode cX10_voter 19 = .ok (.iload_n 3, 1) := by decide +kernel
theorem dX10_voter_20 : decode cX10_voter 20 = .ok (.invokestatic 87, 3) := by decide +kernel
theorem dX10_voter_23 : decode cX10_voter 23 = .ok (.ifCond .ne 8, 3) := by decide +kernel
theorem dX10_voter_26 : decode cX10_voter 26 = .ok (.aload_n 0, 1) := by decide +kernel
theorem dX10_voter_27 : decode cX10_voter 27 = .ok (.invokevirtual 69, 3) := by decide +kernel
theorem dX10_voter_30 : decode cX10_voter 30 = .ok (.ireturn, 1) := by decide +kernel
theorem dX10_voter_31 : decode cX10_voter 31 = .ok (.aload_n 0, 1) := by decide +kernel
theorem dX10_voter_32 : decode cX10_voter 32 = .ok (.getfield 10, 3) := by decide +kernel
theorem dX10_voter_35 : decode cX10_voter 35 = .ok (.getfield 73, 3) := by decide +kernel
theorem dX10_voter_38 : decode cX10_voter 38 = .ok (.getfield 77, 3) := by decide +kernel
theorem dX10_voter_41 : decode cX10_voter 41 = .ok (.bipush 7, 2) := by decide +kernel
theorem dX10_voter_43 : decode cX10_voter 43 = .ok (.if_icmp .lt 8, 3) := by decide +kernel
theorem dX10_voter_46 : decode cX10_voter 46 = .ok (.aload_n 0, 1) := by decide +kernel
theorem dX10_voter_47 : decode cX10_voter 47 = .ok (.invokevirtual 133, 3) := by decide +kernel
theorem dX10_voter_50 : decode cX10_voter 50 = .ok (.ireturn, 1) := by decide +kernel
theorem dX10_voter_51 : decode cX10_voter 51 = .ok (.aload_n 0, 1) := by decide +kernel
theorem dX10_voter_52 : decode cX10_voter 52 = .ok (.getfield 10, 3) := by decide +kernel
theorem dX10_voter_55 : decode cX10_voter 55 = .ok (.getfield 73, 3) := by decide +kernel
theorem dX10_voter_58 : decode cX10_voter 58 = .ok (.iload_n 1, 1) := by decide +kernel
theorem dX10_voter_59 : decode cX10_voter 59 = .ok (.iload_n 2, 1) := by decide +kernel
theorem dX10_voter_60 : decode cX10_voter 60 = .ok (.iload_n 3, 1) := by decide +kernel
theorem dX10_voter_61 : decode cX10_voter 61 = .ok (.invokevirtual 136, 3) := by decide +kernel
theorem dX10_voter_64 : decode cX10_voter 64 = .ok (.aload_n 0, 1) := by decide +kernel
theorem dX10_voter_65 : decode cX10_voter 65 = .ok (.getfield 10, 3) := by decide +kernel
theorem dX10_voter_68 : decode cX10_voter 68 = .ok (.getfield 102, 3) := by decide +kernel
theorem dX10_voter_71 : decode cX10_voter 71 = .ok (.invokevirtual 106, 3) := by decide +kernel
theorem dX10_voter_74 : decode cX10_voter 74 = .ok (.aload_n 0, 1) := by decide +kernel
theorem dX10_voter_75 : decode cX10_voter 75 = .ok (.getfield 10, 3) := by decide +kernel
theorem dX10_voter_78 : decode cX10_voter 78 = .ok (.getfield 73, 3) := by decide +kernel
theorem dX10_voter_81 : decode cX10_voter 81 = .ok (.getfield 77, 3) := by decide +kernel
theorem dX10_voter_84 : decode cX10_voter 84 = .ok (.iconst 1, 1) := by decide +kernel
theorem dX10_voter_85 : decode cX10_voter 85 = .ok (.isub, 1) := by decide +kernel
theorem dX10_voter_86 : decode cX10_voter 86 = .ok (.ireturn, 1) := by decide +kernel
theorem dX10_type_0 : decode cX10_type 0 = .ok (.iload_n 1, 1) := by decide +kernel
theorem dX10_type_1 : decode cX10_type 1 = .ok (.iconst 0, 1) := by decide +kernel
theorem dX10_type_2 : decode cX10_type 2 = .ok (.bipush 127, 2) := by decide +kernel
theorem dX10_type_4 : decode cX10_type 4 = .ok (.invokestatic 65, 3) := by decide +kernel
theorem dX10_type_7 : decode cX10_type 7 = .ok (.ifCond .ne 8, 3) := by decide +kernel
theorem dX10_type_10 : decode cX10_type 10 = .ok (.aload_n 0, 1) := by decide +kernel
theorem dX10_type_11 : decode cX10_type 11 = .ok (.invokevirtual 69, 3) := by decide +kernel
theorem dX10_type_14 : decode cX10_type 14 = .ok (.ireturn, 1) := by decide +kernel
theorem dX10_type_15 : decode cX10_type 15 = .ok (.aload_n 0, 1) := by decide +kernel
theorem dX10_type_16 : decode cX10_type 16 = .ok (.getfield 40, 3) := by decide +kernel
theorem dX10_type_19 : decode cX10_type 19 = .ok (.getfield 139, 3) := by decide +kernel
theorem dX10_type_22 : decode cX10_type 22 = .ok (.sipush 150, 3) := by decide +kernel
theorem dX10_type_25 : decode cX10_type 25 = .ok (.if_icmp .lt 8, 3) := by decide +kernel
theorem dX10_type_28 : decode cX10_type 28 = .ok (.aload_n 0, 1) := by decide +kernel
theorem dX10_type_29 : decode cX10_type 29 = .ok (.invokevirtual 133, 3) := by decide +kernel
theorem dX10_type_32 : decode cX10_type 32 = .ok (.ireturn, 1) := by decide +kernel
theorem dX10_type_33 : decode cX10_type 33 = .ok (.aload_n 0, 1) := by decide +kernel
theorem dX10_type_34 : decode cX10_type 34 = .ok (.getfield 40, 3) := by decide +kernel
theorem dX10_type_37 : decode cX10_type 37 = .ok (.iload_n 1, 1) := by decide +kernel
theorem dX10_type_38 : decode cX10_type 38 = .ok (.invokevirtual 142, 3) := by decide +kernel
theorem dX10_type_41 : decode cX10_type 41 = .ok (.aload_n 0, 1) := by decide +kernel
theorem dX10_type_42 : decode cX10_type 42 = .ok (.getfield 40, 3) := by decide +kernel
theorem dX10_type_45 : decode cX10_type 45 = .ok (.getfield 139, 3) := by decide +kernel
theorem dX10_type_48 : decode cX10_type 48 = .ok (.ireturn, 1) := by decide +kernel
theorem dX10_clear_0 : decode cX10_clear 0 = .ok (.aload_n 0, 1) := by decide +kernel
theorem dX10_clear_1 : decode cX10_clear 1 = .ok (.getfield 40, 3) := by decide +kernel
theorem dX10_clear_4 : decode cX10_clear 4 = .ok (.getfield 139, 3) := by decide +kernel
theorem dX10_clear_7 : decode cX10_clear 7 = .ok (.istore_n 1, 1) := by decide +kernel
theorem dX10_clear_8 : decode cX10_clear 8 = .ok (.aload_n 0, 1) := by decide +kernel
theorem dX10_clear_9 : decode cX10_clear 9 = .ok (.getfield 40, 3) := by decide +kernel
theorem dX10_clear_12 : decode cX10_clear 12 = .ok (.iconst 0, 1) := by decide +kernel
theorem dX10_clear_13 : decode cX10_clear 13 = .ok (.putfield 139, 3) := by decide +kernel
theorem dX10_clear_16 : decode cX10_clear 16 = .ok (.iload_n 1, 1) := by decide +kernel
theorem dX10_clear_17 : decode cX10_clear 17 = .ok (.ireturn, 1) := by decide +kernel
theorem dX10_read_0 : decode cX10_read 0 = .ok (.aload_n 0, 1) := by decide +kernel
theorem dX10_read_1 : decode cX10_read 1 = .ok (.getfield 40, 3) := by decide +kernel
theorem dX10_read_4 : decode cX10_read 4 = .ok (.aload_n 0, 1) := by decide +kernel
theorem dX10_read_5 : decode cX10_read 5 = .ok (.getfield 16, 3) := by decide +kernel
theorem dX10_read_8 : decode cX10_read 8 = .ok (.invokevirtual 144, 3) := by decide +kernel
theorem dX10_read_11 : decode cX10_read 11 = .ok (.istore_n 1, 1) := by decide +kernel
theorem dX10_read_12 : decode cX10_read 12 = .ok (.iload_n 1, 1) := by decide +kernel
theorem dX10_read_13 : decode cX10_read 13 = .ok (.ifCond .le 14, 3) := by decide +kernel
theorem dX10_read_16 : decode cX10_read 16 = .ok (.aload_n 0, 1) := by decide +kernel
theorem dX10_read_17 : decode cX10_read 17 = .ok (.getfield 10, 3) := by decide +kernel
theorem dX10_read_20 : decode cX10_read 20 = .ok (.aload_n 0, 1) := by decide +kernel
theorem dX10_read_21 : decode cX10_read 21 = .ok (.getfield 16, 3) := by decide +kernel
theorem dX10_read_24 : decode cX10_read 24 = .ok (.invokevirtual 148, 3) := by decide +kernel
theorem dX10_read_27 : decode cX10_read 27 = .ok (.iload_n 1, 1) := by decide +kernel
theorem dX10_read_28 : decode cX10_read 28 = .ok (.ireturn, 1) := by decide +kernel
theorem dX10_day_0 : decode cX10_day 0 = .ok (.iload_n 1, 1) := by decide +kernel
theorem dX10_day_1 : decode cX10_day 1 = .ok (.iconst 1, 1) := by decide +kernel
theorem dX10_day_2 : decode cX10_day 2 = .ok (.bipush 60, 2) := by decide +kernel
theorem dX10_day_4 : decode cX10_day 4 = .ok (.invokestatic 65, 3) := by decide +kernel
theorem dX10_day_7 : decode cX10_day 7 = .ok (.ifCond .ne 8, 3) := by decide +kernel
theorem dX10_day_10 : decode cX10_day 10 = .ok (.aload_n 0, 1) := by decide +kernel
theorem dX10_day_11 : decode cX10_day 11 = .ok (.invokevirtual 69, 3) := by decide +kernel
theorem dX10_day_14 : decode cX10_day 14 = .ok (.ireturn, 1) := by decide +kernel
theorem dX10_day_15 : decode cX10_day 15 = .ok (.aload_n 0, 1) := by decide +kernel
theorem dX10_day_16 : decode cX10_day 16 = .ok (.getfield 10, 3) := by decide +kernel
theorem dX10_day_19 : decode cX10_day 19 = .ok (.invokevirtual 152, 3) := by decide +kernel
theorem dX10_day_22 : decode cX10_day 22 = .ok (.aload_n 0, 1) := by decide +kernel
theorem dX10_day_23 : decode cX10_day 23 = .ok (.getfield 10, 3) := by decide +kernel
theorem dX10_day_26 : decode cX10_day 26 = .ok (.iload_n 1, 1) := by decide +kernel
theorem dX10_day_27 : decode cX10_day 27 = .ok (.invokevirtual 155, 3) := by decide +kernel
theorem dX10_day_30 : decode cX10_day 30 = .ok (.aload_n 0, 1) := by decide +kernel
theorem dX10_day_31 : decode cX10_day 31 = .ok (.getfield 10, 3) := by decide +kernel
theorem dX10_day_34 : decode cX10_day 34 = .ok (.getfield 91, 3) := by decide +kernel
theorem dX10_day_37 : decode cX10_day 37 = .ok (.invokevirtual 158, 3) := by decide +kernel
theorem dX10_day_40 : decode cX10_day 40 = .ok (.ireturn, 1) := by decide +kernel
theorem dX10_tread_0 : decode cX10_tread 0 = .ok (.iload_n 1, 1) := by decide +kernel
theorem dX10_tread_1 : decode cX10_tread 1 = .ok (.invokestatic 87, 3) := by decide +kernel
theorem dX10_tread_4 : decode cX10_tread 4 = .ok (.ifCond .eq 13, 3) := by decide +kernel
theorem dX10_tread_7 : decode cX10_tread 7 = .ok (.iload_n 2, 1) := by decide +kernel
theorem dX10_tread_8 : decode cX10_tread 8 = .ok (.iconst 1, 1) := by decide +kernel
theorem dX10_tread_9 : decode cX10_tread 9 = .ok (.bipush 99, 2) := by decide +kernel
theorem dX10_tread_11 : decode cX10_tread 11 = .ok (.invokestatic 65, 3) := by decide +kernel
theorem dX10_tread_14 : decode cX10_tread 14 = .ok (.ifCond .ne 8, 3) := by decide +kernel
theorem dX10_tread_17 : decode cX10_tread 17 = .ok (.aload_n 0, 1) := by decide +kernel
theorem dX10_tread_18 : decode cX10_tread 18 = .ok (.invokevirtual 69, 3) := by decide +kernel
theorem dX10_tread_21 : decode cX10_tread 21 = .ok (.ireturn, 1) := by decide +kernel
theorem dX10_tread_22 : decode cX10_tread 22 = .ok (.aload_n 0, 1) := by decide +kernel
theorem dX10_tread_23 : decode cX10_tread 23 = .ok (.getfield 10, 3) := by decide +kernel
theorem dX10_tread_26 : decode cX10_tread 26 = .ok (.getfield 91, 3) := by decide +kernel
theorem dX10_tread_29 : decode cX10_tread 29 = .ok (.iload_n 1, 1) := by decide +kernel
theorem dX10_tread_30 : decode cX10_tread 30 = .ok (.invokevirtual 161, 3) := by decide +kernel
theorem dX10_tread_33 : decode cX10_tread 33 = .ok (.iload_n 2, 1) := by decide +kernel
theorem dX10_tread_34 : decode cX10_tread 34 = .ok (.if_icmp .lt 7, 3) := by decide +kernel
theorem dX10_tread_37 : decode cX10_tread 37 = .ok (.iconst 1, 1) := by decide +kernel
theorem dX10_tread_38 : decode cX10_tread 38 = .ok (.goto 4, 3) := by decide +kernel
theorem dX10_tread_41 : decode cX10_tread 41 = .ok (.iconst 0, 1) := by decide +kernel
theorem dX10_tread_42 : decode cX10_tread 42 = .ok (.istore_n 3, 1) := by decide +kernel
theorem dX10_tread_43 : decode cX10_tread 43 = .ok (.aload_n 0, 1) := by decide +kernel
theorem dX10_tread_44 : decode cX10_tread 44 = .ok (.getfield 10, 3) := by decide +kernel
theorem dX10_tread_47 : decode cX10_tread 47 = .ok (.invokevirtual 152, 3) := by decide +kernel
theorem dX10_tread_50 : decode cX10_tread 50 = .ok (.aload_n 0, 1) := by decide +kernel
theorem dX10_tread_51 : decode cX10_tread 51 = .ok (.getfield 10, 3) := by decide +kernel
theorem dX10_tread_54 : decode cX10_tread 54 = .ok (.getfield 91, 3) := by decide +kernel
theorem dX10_tread_57 : decode cX10_tread 57 = .ok (.iload_n 1, 1) := by decide +kernel
theorem dX10_tread_58 : decode cX10_tread 58 = .ok (.iload_n 3, 1) := by decide +kernel
theorem dX10_tread_59 : decode cX10_tread 59 = .ok (.ifCond .eq 23, 3) := by decide +kernel
theorem dX10_tread_62 : decode cX10_tread 62 = .ok (.iconst 0, 1) := by decide +kernel
theorem dX10_tread_63 : decode cX10_tread 63 = .ok (.aload_n 0, 1) := by decide +kernel
theorem dX10_tread_64 : decode cX10_tread 64 = .ok (.getfield 10, 3) := by decide +kernel
theorem dX10_tread_67 : decode cX10_tread 67 = .ok (.getfield 91, 3) := by decide +kernel
theorem dX10_tread_70 : decode cX10_tread 70 = .ok (.iload_n 1, 1) := by decide +kernel
theorem dX10_tread_71 : decode cX10_tread 71 = .ok (.invokevirtual 164, 3) := by decide +kernel
theorem dX10_tread_74 : decode cX10_tread 74 = .ok (.iconst 1, 1) := by decide +kernel
theorem dX10_tread_75 : decode cX10_tread 75 = .ok (.isub, 1) := by decide +kernel
theorem dX10_tread_76 : decode cX10_tread 76 = .ok (.invokestatic 167, 3) := by decide +kernel
theorem dX10_tread_79 : decode cX10_tread 79 = .ok (.goto 4, 3) := by decide +kernel
theorem dX10_tread_82 : decode cX10_tread 82 = .ok (.iconst 0, 1) := by decide +kernel
theorem dX10_tread_83 : decode cX10_tread 83 = .ok (.invokevirtual 173, 3) := by decide +kernel
theorem dX10_tread_86 : decode cX10_tread 86 = .ok (.iload_n 3, 1) := by decide +kernel
theorem dX10_tread_87 : decode cX10_tread 87 = .ok (.ifCond .eq 7, 3) := by decide +kernel
theorem dX10_tread_90 : decode cX10_tread 90 = .ok (.iconst 1, 1) := by decide +kernel
theorem dX10_tread_91 : decode cX10_tread 91 = .ok (.goto 4, 3) := by decide +kernel
theorem dX10_tread_94 : decode cX10_tread 94 = .ok (.iconst 0, 1) := by decide +kernel
theorem dX10_tread_95 : decode cX10_tread 95 = .ok (.ireturn, 1) := by decide +kernel
theorem dX10_stone_0 : decode cX10_stone 0 = .ok (.iload_n 1, 1) := by decide +kernel
theorem dX10_stone_1 : decode cX10_stone 1 = .ok (.invokestatic 87, 3) := by decide +kernel
theorem dX10_stone_4 : decode cX10_stone 4 = .ok (.ifCond .ne 8, 3) := by decide +kernel
theorem dX10_stone_7 : decode cX10_stone 7 = .ok (.aload_n 0, 1) := by decide +kernel
theorem dX10_stone_8 : decode cX10_stone 8 = .ok (.invokevirtual 69, 3) := by decide +kernel
theorem dX10_stone_11 : decode cX10_stone 11 = .ok (.ireturn, 1) := by decide +kernel
theorem dX10_stone_12 : decode cX10_stone 12 = .ok (.aload_n 0, 1) := by decide +kernel
theorem dX10_stone_13 : decode cX10_stone 13 = .ok (.getfield 10, 3) := by decide +kernel
theorem dX10_stone_16 : decode cX10_stone 16 = .ok (.invokevirtual 152, 3) := by decide +kernel
theorem dX10_stone_19 : decode cX10_stone 19 = .ok (.aload_n 0, 1) := by decide +kernel
theorem dX10_stone_20 : decode cX10_stone 20 = .ok (.getfield 10, 3) := by decide +kernel
theorem dX10_stone_23 : decode cX10_stone 23 = .ok (.getfield 91, 3) := by decide +kernel
theorem dX10_stone_26 : decode cX10_stone 26 = .ok (.iload_n 1, 1) := by decide +kernel
theorem dX10_stone_27 : decode cX10_stone 27 = .ok (.aload_n 0, 1) := by decide +kernel
theorem dX10_stone_28 : decode cX10_stone 28 = .ok (.getfield 10, 3) := by decide +kernel
theorem dX10_stone_31 : decode cX10_stone 31 = .ok (.getfield 91, 3) := by decide +kernel
theorem dX10_stone_34 : decode cX10_stone 34 = .ok (.iload_n 1, 1) := by decide +kernel
theorem dX10_stone_35 : decode cX10_stone 35 = .ok (.invokevirtual 164, 3) := by decide +kernel
theorem dX10_stone_38 : decode cX10_stone 38 = .ok (.iconst 2, 1) := by decide +kernel
theorem dX10_stone_39 : decode cX10_stone 39 = .ok (.idiv, 1) := by decide +kernel
theorem dX10_stone_40 : decode cX10_stone 40 = .ok (.invokevirtual 173, 3) := by decide +kernel
theorem dX10_stone_43 : decode cX10_stone 43 = .ok (.aload_n 0, 1) := by decide +kernel
theorem dX10_stone_44 : decode cX10_stone 44 = .ok (.getfield 10, 3) := by decide +kernel
theorem dX10_stone_47 : decode cX10_stone 47 = .ok (.getfield 91, 3) := by decide +kernel
theorem dX10_stone_50 : decode cX10_stone 50 = .ok (.iload_n 1, 1) := by decide +kernel
theorem dX10_stone_51 : decode cX10_stone 51 = .ok (.invokevirtual 164, 3) := by decide +kernel
theorem dX10_stone_54 : decode cX10_stone 54 = .ok (.ireturn, 1) := by decide +kernel
theorem dX10_undo_0 : decode cX10_undo 0 = .ok (.aload_n 0, 1) := by decide +kernel
theorem dX10_undo_1 : decode cX10_undo 1 = .ok (.getfield 10, 3) := by decide +kernel
theorem dX10_undo_4 : decode cX10_undo 4 = .ok (.getfield 102, 3) := by decide +kernel
theorem dX10_undo_7 : decode cX10_undo 7 = .ok (.getfield 176, 3) := by decide +kernel
theorem dX10_undo_10 : decode cX10_undo 10 = .ok (.ifCond .gt 8, 3) := by decide +kernel
theorem dX10_undo_13 : decode cX10_undo 13 = .ok (.aload_n 0, 1) := by decide +kernel
theorem dX10_undo_14 : decode cX10_undo 14 = .ok (.invokevirtual 177, 3) := by decide +kernel
theorem dX10_undo_17 : decode cX10_undo 17 = .ok (.ireturn, 1) := by decide +kernel
theorem dX10_undo_18 : decode cX10_undo 18 = .ok (.aload_n 0, 1) := by decide +kernel
theorem dX10_undo_19 : decode cX10_undo 19 = .ok (.getfield 10, 3) := by decide +kernel
theorem dX10_undo_22 : decode cX10_undo 22 = .ok (.aload_n 0, 1) := by decide +kernel
theorem dX10_undo_23 : decode cX10_undo 23 = .ok (.getfield 10, 3) := by decide +kernel
theorem dX10_undo_26 : decode cX10_undo 26 = .ok (.getfield 102, 3) := by decide +kernel
theorem dX10_undo_29 : decode cX10_undo 29 = .ok (.aload_n 0, 1) := by decide +kernel
theorem dX10_undo_30 : decode cX10_undo 30 = .ok (.getfield 10, 3) := by decide +kernel
theorem dX10_undo_33 : decode cX10_undo 33 = .ok (.getfield 91, 3) := by decide +kernel
theorem dX10_undo_36 : decode cX10_undo 36 = .ok (.invokevirtual 180, 3) := by decide +kernel
theorem dX10_undo_39 : decode cX10_undo 39 = .ok (.putfield 184, 3) := by decide +kernel
theorem dX10_undo_42 : decode cX10_undo 42 = .ok (.aload_n 0, 1) := by decide +kernel
theorem dX10_undo_43 : decode cX10_undo 43 = .ok (.getfield 10, 3) := by decide +kernel
theorem dX10_undo_46 : decode cX10_undo 46 = .ok (.getfield 184, 3) := by decide +kernel
theorem dX10_undo_49 : decode cX10_undo 49 = .ok (.ireturn, 1) := by decide +kernel
theorem dX10_of_0 : decode cX10_of 0 = .ok (.iload_n 1, 1) := by decide +kernel
theorem dX10_of_1 : decode cX10_of 1 = .ok (.invokestatic 87, 3) := by decide +kernel
theorem dX10_of_4 : decode cX10_of 4 = .ok (.ifCond .eq 12, 3) := by decide +kernel
theorem dX10_of_7 : decode cX10_of 7 = .ok (.iload_n 2, 1) := by decide +kernel
theorem dX10_of_8 : decode cX10_of 8 = .ok (.iconst 0, 1) := by decide +kernel
theorem dX10_of_9 : decode cX10_of 9 = .ok (.iconst 2, 1) := by decide +kernel
theorem dX10_of_10 : decode cX10_of 10 = .ok (.invokestatic 65, 3) := by decide +kernel
theorem dX10_of_13 : decode cX10_of 13 = .ok (.ifCond .ne 8, 3) := by decide +kernel
theorem dX10_of_16 : decode cX10_of 16 = .ok (.aload_n 0, 1) := by decide +kernel
theorem dX10_of_17 : decode cX10_of 17 = .ok (.invokevirtual 69, 3) := by decide +kernel
theorem dX10_of_20 : decode cX10_of 20 = .ok (.ireturn, 1) := by decide +kernel
theorem dX10_of_21 : decode cX10_of 21 = .ok (.iload_n 2, 1) := by decide +kernel
theorem dX10_of_22 : decode cX10_of 22 = .ok (.lookupswitch 50 #[(0, 26), (1, 38)], 26) := by decide +kernel
theorem dX10_of_48 : decode cX10_of 48 = .ok (.aload_n 0, 1) := by decide +kernel
theorem dX10_of_49 : decode cX10_of 49 = .ok (.getfield 10, 3) := by decide +kernel
theorem dX10_of_52 : decode cX10_of 52 = .ok (.getfield 91, 3) := by decide +kernel
theorem dX10_of_55 : decode cX10_of 55 = .ok (.iload_n 1, 1) := by decide +kernel
theorem dX10_of_56 : decode cX10_of 56 = .ok (.invokevirtual 94, 3) := by decide +kernel
theorem dX10_of_59 : decode cX10_of 59 = .ok (.ireturn, 1) := by decide +kernel
theorem dX10_of_60 : decode cX10_of 60 = .ok (.aload_n 0, 1) := by decide +kernel
theorem dX10_of_61 : decode cX10_of 61 = .ok (.getfield 10, 3) := by decide +kernel
theorem dX10_of_64 : decode cX10_of 64 = .ok (.getfield 91, 3) := by decide +kernel
theorem dX10_of_67 : decode cX10_of 67 = .ok (.iload_n 1, 1) := by decide +kernel
theorem dX10_of_68 : decode cX10_of 68 = .ok (.invokevirtual 164, 3) := by decide +kernel
theorem dX10_of_71 : decode cX10_of 71 = .ok (.ireturn, 1) := by decide +kernel
theorem dX10_of_72 : decode cX10_of 72 = .ok (.aload_n 0, 1) := by decide +kernel
theorem dX10_of_73 : decode cX10_of 73 = .ok (.getfield 10, 3) := by decide +kernel
theorem dX10_of_76 : decode cX10_of 76 = .ok (.getfield 91, 3) := by decide +kernel
theorem dX10_of_79 : decode cX10_of 79 = .ok (.iload_n 1, 1) := by decide +kernel
theorem dX10_of_80 : decode cX10_of 80 = .ok (.invokevirtual 161, 3) := by decide +kernel
theorem dX10_of_83 : decode cX10_of 83 = .ok (.ireturn, 1) := by decide +kernel
theorem dX10_about_0 : decode cX10_about 0 = .ok (.aload_n 0, 1) := by decide +kernel
theorem dX10_about_1 : decode cX10_about 1 = .ok (.iload_n 1, 1) := by decide +kernel
theorem dX10_about_2 : decode cX10_about 2 = .ok (.invokevirtual 187, 3) := by decide +kernel
theorem dX10_about_5 : decode cX10_about 5 = .ok (.ifCond .eq 12, 3) := by decide +kernel
theorem dX10_about_8 : decode cX10_about 8 = .ok (.iload_n 2, 1) := by decide +kernel
theorem dX10_about_9 : decode cX10_about 9 = .ok (.iconst 0, 1) := by decide +kernel
theorem dX10_about_10 : decode cX10_about 10 = .ok (.iconst 3, 1) := by decide +kernel
theorem dX10_about_11 : decode cX10_about 11 = .ok (.invokestatic 65, 3) := by decide +kernel
theorem dX10_about_14 : decode cX10_about 14 = .ok (.ifCond .ne 8, 3) := by decide +kernel
theorem dX10_about_17 : decode cX10_about 17 = .ok (.aload_n 0, 1) := by decide +kernel
theorem dX10_about_18 : decode cX10_about 18 = .ok (.invokevirtual 69, 3) := by decide +kernel
theorem dX10_about_21 : decode cX10_about 21 = .ok (.ireturn, 1) := by decide +kernel
theorem dX10_about_22 : decode cX10_about 22 = .ok (.iload_n 2, 1) := by decide +kernel
theorem dX10_about_23 : decode cX10_about 23 = .ok (.tableswitch 61 0 2 #[25, 37, 49], 25) := by decide +kernel
theorem dX10_about_48 : decode cX10_about 48 = .ok (.aload_n 0, 1) := by decide +kernel
theorem dX10_about_49 : decode cX10_about 49 = .ok (.getfield 10, 3) := by decide +kernel
theorem dX10_about_52 : decode cX10_about 52 = .ok (.getfield 73, 3) := by decide +kernel
theorem dX10_about_55 : decode cX10_about 55 = .ok (.iload_n 1, 1) := by decide +kernel
theorem dX10_about_56 : decode cX10_about 56 = .ok (.invokevirtual 190, 3) := by decide +kernel
theorem dX10_about_59 : decode cX10_about 59 = .ok (.ireturn, 1) := by decide +kernel
theorem dX10_about_60 : decode cX10_about 60 = .ok (.aload_n 0, 1) := by decide +kernel
theorem dX10_about_61 : decode cX10_about 61 = .ok (.getfield 10, 3) := by decide +kernel
theorem dX10_about_64 : decode cX10_about 64 = .ok (.getfield 73, 3) := by decide +kernel
theorem dX10_about_67 : decode cX10_about 67 = .ok (.iload_n 1, 1) := by decide +kernel
theorem dX10_about_68 : decode cX10_about 68 = .ok (.invokevirtual 191, 3) := by decide +kernel
theorem dX10_about_71 : decode cX10_about 71 = .ok (.ireturn, 1) := by decide +kernel
theorem dX10_about_72 : decode cX10_about 72 = .ok (.aload_n 0, 1) := by decide +kernel
theorem dX10_about_73 : decode cX10_about 73 = .ok (.getfield 10, 3) := by decide +kernel
theorem dX10_about_76 : decode cX10_about 76 = .ok (.getfield 73, 3) := by decide +kernel
theorem dX10_about_79 : decode cX10_about 79 = .ok (.iload_n 1, 1) := by decide +kernel
theorem dX10_about_80 : decode cX10_about 80 = .ok (.invokevirtual 194, 3) := by decide +kernel
theorem dX10_about_83 : decode cX10_about 83 = .ok (.ireturn, 1) := by decide +kernel
theorem dX10_about_84 : decode cX10_about 84 = .ok (.aload_n 0, 1) := by decide +kernel
theorem dX10_about_85 : decode cX10_about 85 = .ok (.invokevirtual 197, 3) := by decide +kernel
theorem dX10_about_88 : decode cX10_about 88 = .ok (.iload_n 1, 1) := by decide +kernel
theorem dX10_about_89 : decode cX10_about 89 = .ok (.invokestatic 200, 3) := by decide +kernel
theorem dX10_about_92 : decode cX10_about 92 = .ok (.ifCond .eq 7, 3) := by decide +kernel
theorem dX10_about_95 : decode cX10_about 95 = .ok (.iconst 1, 1) := by decide +kernel
theorem dX10_about_96 : decode cX10_about 96 = .ok (.goto 4, 3) := by decide +kernel
theorem dX10_about_99 : decode cX10_about 99 = .ok (.iconst 0, 1) := by decide +kernel
theorem dX10_about_100 : decode cX10_about 100 = .ok (.ireturn, 1) := by decide +kernel
theorem dX10_then_0 : decode cX10_then 0 = .ok (.iload_n 1, 1) := by decide +kernel
theorem dX10_then_1 : decode cX10_then 1 = .ok (.invokestatic 87, 3) := by decide +kernel
theorem dX10_then_4 : decode cX10_then 4 = .ok (.ifCond .eq 22, 3) := by decide +kernel
theorem dX10_then_7 : decode cX10_then 7 = .ok (.iload_n 2, 1) := by decide +kernel
theorem dX10_then_8 : decode cX10_then 8 = .ok (.iconst 0, 1) := by decide +kernel
theorem dX10_then_9 : decode cX10_then 9 = .ok (.bipush 60, 2) := by decide +kernel
theorem dX10_then_11 : decode cX10_then 11 = .ok (.invokestatic 65, 3) := by decide +kernel
theorem dX10_then_14 : decode cX10_then 14 = .ok (.ifCond .eq 12, 3) := by decide +kernel
theorem dX10_then_17 : decode cX10_then 17 = .ok (.iload_n 3, 1) := by decide +kernel
theorem dX10_then_18 : decode cX10_then 18 = .ok (.iconst 0, 1) := by decide +kernel
theorem dX10_then_19 : decode cX10_then 19 = .ok (.iconst 1, 1) := by decide +kernel
theorem dX10_then_20 : decode cX10_then 20 = .ok (.invokestatic 65, 3) := by decide +kernel
theorem dX10_then_23 : decode cX10_then 23 = .ok (.ifCond .ne 8, 3) := by decide +kernel
theorem dX10_then_26 : decode cX10_then 26 = .ok (.aload_n 0, 1) := by decide +kernel
theorem dX10_then_27 : decode cX10_then 27 = .ok (.invokevirtual 69, 3) := by decide +kernel
theorem dX10_then_30 : decode cX10_then 30 = .ok (.ireturn, 1) := by decide +kernel
theorem dX10_then_31 : decode cX10_then 31 = .ok (.aload_n 0, 1) := by decide +kernel
theorem dX10_then_32 : decode cX10_then 32 = .ok (.getfield 10, 3) := by decide +kernel
theorem dX10_then_35 : decode cX10_then 35 = .ok (.iload_n 1, 1) := by decide +kernel
theorem dX10_then_36 : decode cX10_then 36 = .ok (.iload_n 2, 1) := by decide +kernel
theorem dX10_then_37 : decode cX10_then 37 = .ok (.invokevirtual 204, 3) := by decide +kernel
theorem dX10_then_40 : decode cX10_then 40 = .ok (.istore 4, 2) := by decide +kernel
theorem dX10_then_42 : decode cX10_then 42 = .ok (.iload_n 3, 1) := by decide +kernel
theorem dX10_then_43 : decode cX10_then 43 = .ok (.ifCond .ne 8, 3) := by decide +kernel
theorem dX10_then_46 : decode cX10_then 46 = .ok (.iload 4, 2) := by decide +kernel
theorem dX10_then_48 : decode cX10_then 48 = .ok (.goto 19, 3) := by decide +kernel
theorem dX10_then_51 : decode cX10_then 51 = .ok (.aload_n 0, 1) := by decide +kernel
theorem dX10_then_52 : decode cX10_then 52 = .ok (.getfield 10, 3) := by decide +kernel
theorem dX10_then_55 : decode cX10_then 55 = .ok (.getfield 91, 3) := by decide +kernel
theorem dX10_then_58 : decode cX10_then 58 = .ok (.iload_n 1, 1) := by decide +kernel
theorem dX10_then_59 : decode cX10_then 59 = .ok (.invokevirtual 94, 3) := by decide +kernel
theorem dX10_then_62 : decode cX10_then 62 = .ok (.iload 4, 2) := by decide +kernel
theorem dX10_then_64 : decode cX10_then 64 = .ok (.invokestatic 207, 3) := by decide +kernel
theorem dX10_then_67 : decode cX10_then 67 = .ok (.ireturn, 1) := by decide +kernel
theorem dX10_when_0 : decode cX10_when 0 = .ok (.iload_n 1, 1) := by decide +kernel
theorem dX10_when_1 : decode cX10_when 1 = .ok (.invokestatic 87, 3) := by decide +kernel
theorem dX10_when_4 : decode cX10_when 4 = .ok (.ifCond .eq 10, 3) := by decide +kernel
theorem dX10_when_7 : decode cX10_when 7 = .ok (.iload_n 2, 1) := by decide +kernel
theorem dX10_when_8 : decode cX10_when 8 = .ok (.invokestatic 211, 3) := by decide +kernel
theorem dX10_when_11 : decode cX10_when 11 = .ok (.ifCond .ne 8, 3) := by decide +kernel
theorem dX10_when_14 : decode cX10_when 14 = .ok (.aload_n 0, 1) := by decide +kernel
theorem dX10_when_15 : decode cX10_when 15 = .ok (.invokevirtual 69, 3) := by decide +kernel
theorem dX10_when_18 : decode cX10_when 18 = .ok (.ireturn, 1) := by decide +kernel
theorem dX10_when_19 : decode cX10_when 19 = .ok (.aload_n 0, 1) := by decide +kernel
theorem dX10_when_20 : decode cX10_when 20 = .ok (.getfield 10, 3) := by decide +kernel
theorem dX10_when_23 : decode cX10_when 23 = .ok (.getfield 91, 3) := by decide +kernel
theorem dX10_when_26 : decode cX10_when 26 = .ok (.iload_n 1, 1) := by decide +kernel
theorem dX10_when_27 : decode cX10_when 27 = .ok (.invokevirtual 94, 3) := by decide +kernel
theorem dX10_when_30 : decode cX10_when 30 = .ok (.istore_n 3, 1) := by decide +kernel
theorem dX10_when_31 : decode cX10_when 31 = .ok (.aload_n 0, 1) := by decide +kernel
theorem dX10_when_32 : decode cX10_when 32 = .ok (.getfield 10, 3) := by decide +kernel
theorem dX10_when_35 : decode cX10_when 35 = .ok (.getfield 91, 3) := by decide +kernel
theorem dX10_when_38 : decode cX10_when 38 = .ok (.iload_n 1, 1) := by decide +kernel
theorem dX10_when_39 : decode cX10_when 39 = .ok (.invokevirtual 164, 3) := by decide +kernel
theorem dX10_when_42 : decode cX10_when 42 = .ok (.istore 4, 2) := by decide +kernel
theorem dX10_when_44 : decode cX10_when 44 = .ok (.iconst 0, 1) := by decide +kernel
theorem dX10_when_45 : decode cX10_when 45 = .ok (.istore 5, 2) := by decide +kernel
theorem dX10_when_47 : decode cX10_when 47 = .ok (.iload 5, 2) := by decide +kernel
theorem dX10_when_49 : decode cX10_when 49 = .ok (.bipush 60, 2) := by decide +kernel
theorem dX10_when_51 : decode cX10_when 51 = .ok (.if_icmp .gt 47, 3) := by decide +kernel
theorem dX10_when_54 : decode cX10_when 54 = .ok (.iload_n 3, 1) := by decide +kernel
theorem dX10_when_55 : decode cX10_when 55 = .ok (.iload 4, 2) := by decide +kernel
theorem dX10_when_57 : decode cX10_when 57 = .ok (.invokestatic 207, 3) := by decide +kernel
theorem dX10_when_60 : decode cX10_when 60 = .ok (.iload_n 2, 1) := by decide +kernel
theorem dX10_when_61 : decode cX10_when 61 = .ok (.if_icmp .lt 6, 3) := by decide +kernel
theorem dX10_when_64 : decode cX10_when 64 = .ok (.iload 5, 2) := by decide +kernel
theorem dX10_when_66 : decode cX10_when 66 = .ok (.ireturn, 1) := by decide +kernel
theorem dX10_when_67 : decode cX10_when 67 = .ok (.aload_n 0, 1) := by decide +kernel
theorem dX10_when_68 : decode cX10_when 68 = .ok (.getfield 10, 3) := by decide +kernel
theorem dX10_when_71 : decode cX10_when 71 = .ok (.getfield 114, 3) := by decide +kernel
theorem dX10_when_74 : decode cX10_when 74 = .ok (.iload_n 3, 1) := by decide +kernel
theorem dX10_when_75 : decode cX10_when 75 = .ok (.iload 4, 2) := by decide +kernel
theorem dX10_when_77 : decode cX10_when 77 = .ok (.aload_n 0, 1) := by decide +kernel
theorem dX10_when_78 : decode cX10_when 78 = .ok (.getfield 10, 3) := by decide +kernel
theorem dX10_when_81 : decode cX10_when 81 = .ok (.getfield 184, 3) := by decide +kernel
theorem dX10_when_84 : decode cX10_when 84 = .ok (.iload 5, 2) := by decide +kernel
theorem dX10_when_86 : decode cX10_when 86 = .ok (.iadd, 1) := by decide +kernel
theorem dX10_when_87 : decode cX10_when 87 = .ok (.invokevirtual 214, 3) := by decide +kernel
theorem dX10_when_90 : decode cX10_when 90 = .ok (.istore 4, 2) := by decide +kernel
theorem dX10_when_92 : decode cX10_when 92 = .ok (.iinc 5 1, 3) := by decide +kernel
theorem dX10_when_95 : decode cX10_when 95 = .ok (.goto (-48), 3) := by decide +kernel
theorem dX10_when_98 : decode cX10_when 98 = .ok (.iconst (-1), 1) := by decide +kernel
theorem dX10_when_99 : decode cX10_when 99 = .ok (.ireturn, 1) := by decide +kernel
theorem dX10_where_0 : decode cX10_where 0 = .ok (.iload_n 1, 1) := by decide +kernel
theorem dX10_where_1 : decode cX10_where 1 = .ok (.invokestatic 211, 3) := by decide +kernel
theorem dX10_where_4 : decode cX10_where 4 = .ok (.ifCond .eq 13, 3) := by decide +kernel
theorem dX10_where_7 : decode cX10_where 7 = .ok (.iload_n 2, 1) := by decide +kernel
theorem dX10_where_8 : decode cX10_where 8 = .ok (.iconst 0, 1) := by decide +kernel
theorem dX10_where_9 : decode cX10_where 9 = .ok (.bipush 60, 2) := by decide +kernel
theorem dX10_where_11 : decode cX10_where 11 = .ok (.invokestatic 65, 3) := by decide +kernel
theorem dX10_where_14 : decode cX10_where 14 = .ok (.ifCond .ne 8, 3) := by decide +kernel
theorem dX10_where_17 : decode cX10_where 17 = .ok (.aload_n 0, 1) := by decide +kernel
theorem dX10_where_18 : decode cX10_where 18 = .ok (.invokevirtual 69, 3) := by decide +kernel
theorem dX10_where_21 : decode cX10_where 21 = .ok (.ireturn, 1) := by decide +kernel
theorem dX10_where_22 : decode cX10_where 22 = .ok (.aload_n 0, 1) := by decide +kernel
theorem dX10_where_23 : decode cX10_where 23 = .ok (.getfield 26, 3) := by decide +kernel
theorem dX10_where_26 : decode cX10_where 26 = .ok (.aload_n 0, 1) := by decide +kernel
theorem dX10_where_27 : decode cX10_where 27 = .ok (.getfield 10, 3) := by decide +kernel
theorem dX10_where_30 : decode cX10_where 30 = .ok (.getfield 91, 3) := by decide +kernel
theorem dX10_where_33 : decode cX10_where 33 = .ok (.invokevirtual 218, 3) := by decide +kernel
theorem dX10_where_36 : decode cX10_where 36 = .ok (.iconst 0, 1) := by decide +kernel
theorem dX10_where_37 : decode cX10_where 37 = .ok (.istore_n 3, 1) := by decide +kernel
theorem dX10_where_38 : decode cX10_where 38 = .ok (.iload_n 3, 1) := by decide +kernel
theorem dX10_where_39 : decode cX10_where 39 = .ok (.iload_n 2, 1) := by decide +kernel
theorem dX10_where_40 : decode cX10_where 40 = .ok (.if_icmp .ge 54, 3) := by decide +kernel
theorem dX10_where_43 : decode cX10_where 43 = .ok (.aload_n 0, 1) := by decide +kernel
theorem dX10_where_44 : decode cX10_where 44 = .ok (.getfield 26, 3) := by decide +kernel
theorem dX10_where_47 : decode cX10_where 47 = .ok (.aload_n 0, 1) := by decide +kernel
theorem dX10_where_48 : decode cX10_where 48 = .ok (.getfield 10, 3) := by decide +kernel
theorem dX10_where_51 : decode cX10_where 51 = .ok (.getfield 114, 3) := by decide +kernel
theorem dX10_where_54 : decode cX10_where 54 = .ok (.aload_n 0, 1) := by decide +kernel
theorem dX10_where_55 : decode cX10_where 55 = .ok (.getfield 10, 3) := by decide +kernel
theorem dX10_where_58 : decode cX10_where 58 = .ok (.getfield 184, 3) := by decide +kernel
theorem dX10_where_61 : decode cX10_where 61 = .ok (.iload_n 3, 1) := by decide +kernel
theorem dX10_where_62 : decode cX10_where 62 = .ok (.iadd, 1) := by decide +kernel
theorem dX10_where_63 : decode cX10_where 63 = .ok (.invokevirtual 118, 3) := by decide +kernel
theorem dX10_where_66 : decode cX10_where 66 = .ok (.aload_n 0, 1) := by decide +kernel
theorem dX10_where_67 : decode cX10_where 67 = .ok (.getfield 10, 3) := by decide +kernel
theorem dX10_where_70 : decode cX10_where 70 = .ok (.getfield 114, 3) := by decide +kernel
theorem dX10_where_73 : decode cX10_where 73 = .ok (.aload_n 0, 1) := by decide +kernel
theorem dX10_where_74 : decode cX10_where 74 = .ok (.getfield 10, 3) := by decide +kernel
theorem dX10_where_77 : decode cX10_where 77 = .ok (.getfield 184, 3) := by decide +kernel
theorem dX10_where_80 : decode cX10_where 80 = .ok (.iload_n 3, 1) := by decide +kernel
theorem dX10_where_81 : decode cX10_where 81 = .ok (.iadd, 1) := by decide +kernel
theorem dX10_where_82 : decode cX10_where 82 = .ok (.invokevirtual 123, 3) := by decide +kernel
theorem dX10_where_85 : decode cX10_where 85 = .ok (.invokevirtual 221, 3) := by decide +kernel
theorem dX10_where_88 : decode cX10_where 88 = .ok (.iinc 3 1, 3) := by decide +kernel
theorem dX10_where_91 : decode cX10_where 91 = .ok (.goto (-53), 3) := by decide +kernel
theorem dX10_where_94 : decode cX10_where 94 = .ok (.aload_n 0, 1) := by decide +kernel
theorem dX10_where_95 : decode cX10_where 95 = .ok (.getfield 26, 3) := by decide +kernel
theorem dX10_where_98 : decode cX10_where 98 = .ok (.iload_n 1, 1) := by decide +kernel
theorem dX10_where_99 : decode cX10_where 99 = .ok (.invokevirtual 224, 3) := by decide +kernel
theorem dX10_where_102 : decode cX10_where 102 = .ok (.ireturn, 1) := by decide +kernel
theorem dX10_horses_0 : decode cX10_horses 0 = .ok (.iload_n 1, 1) := by decide +kernel
theorem dX10_horses_1 : decode cX10_horses 1 = .ok (.invokestatic 211, 3) := by decide +kernel
theorem dX10_horses_4 : decode cX10_horses 4 = .ok (.ifCond .ne 8, 3) := by decide +kernel
theorem dX10_horses_7 : decode cX10_horses 7 = .ok (.aload_n 0, 1) := by decide +kernel
theorem dX10_horses_8 : decode cX10_horses 8 = .ok (.invokevirtual 69, 3) := by decide +kernel
theorem dX10_horses_11 : decode cX10_horses 11 = .ok (.ireturn, 1) := by decide +kernel
theorem dX10_horses_12 : decode cX10_horses 12 = .ok (.aload_n 0, 1) := by decide +kernel
theorem dX10_horses_13 : decode cX10_horses 13 = .ok (.getfield 26, 3) := by decide +kernel
theorem dX10_horses_16 : decode cX10_horses 16 = .ok (.aload_n 0, 1) := by decide +kernel
theorem dX10_horses_17 : decode cX10_horses 17 = .ok (.getfield 10, 3) := by decide +kernel
theorem dX10_horses_20 : decode cX10_horses 20 = .ok (.getfield 91, 3) := by decide +kernel
theorem dX10_horses_23 : decode cX10_horses 23 = .ok (.invokevirtual 218, 3) := by decide +kernel
theorem dX10_horses_26 : decode cX10_horses 26 = .ok (.iconst 0, 1) := by decide +kernel
theorem dX10_horses_27 : decode cX10_horses 27 = .ok (.istore_n 2, 1) := by decide +kernel
theorem dX10_horses_28 : decode cX10_horses 28 = .ok (.iload_n 2, 1) := by decide +kernel
theorem dX10_horses_29 : decode cX10_horses 29 = .ok (.bipush 60, 2) := by decide +kernel
theorem dX10_horses_31 : decode cX10_horses 31 = .ok (.if_icmp .gt 70, 3) := by decide +kernel
theorem dX10_horses_34 : decode cX10_horses 34 = .ok (.aload_n 0, 1) := by decide +kernel
theorem dX10_horses_35 : decode cX10_horses 35 = .ok (.getfield 26, 3) := by decide +kernel
theorem dX10_horses_38 : decode cX10_horses 38 = .ok (.invokevirtual 227, 3) := by decide +kernel
theorem dX10_horses_41 : decode cX10_horses 41 = .ok (.bipush 25, 2) := by decide +kernel
theorem dX10_horses_43 : decode cX10_horses 43 = .ok (.iload_n 1, 1) := by decide +kernel
theorem dX10_horses_44 : decode cX10_horses 44 = .ok (.imul, 1) := by decide +kernel
theorem dX10_horses_45 : decode cX10_horses 45 = .ok (.if_icmp .lt 5, 3) := by decide +kernel
theorem dX10_horses_48 : decode cX10_horses 48 = .ok (.iload_n 2, 1) := by decide +kernel
theorem dX10_horses_49 : decode cX10_horses 49 = .ok (.ireturn, 1) := by decide +kernel
theorem dX10_horses_50 : decode cX10_horses 50 = .ok (.aload_n 0, 1) := by decide +kernel
theorem dX10_horses_51 : decode cX10_horses 51 = .ok (.getfield 26, 3) := by decide +kernel
theorem dX10_horses_54 : decode cX10_horses 54 = .ok (.aload_n 0, 1) := by decide +kernel
theorem dX10_horses_55 : decode cX10_horses 55 = .ok (.getfield 10, 3) := by decide +kernel
theorem dX10_horses_58 : decode cX10_horses 58 = .ok (.getfield 114, 3) := by decide +kernel
theorem dX10_horses_61 : decode cX10_horses 61 = .ok (.aload_n 0, 1) := by decide +kernel
theorem dX10_horses_62 : decode cX10_horses 62 = .ok (.getfield 10, 3) := by decide +kernel
theorem dX10_horses_65 : decode cX10_horses 65 = .ok (.getfield 184, 3) := by decide +kernel
theorem dX10_horses_68 : decode cX10_horses 68 = .ok (.iload_n 2, 1) := by decide +kernel
theorem dX10_horses_69 : decode cX10_horses 69 = .ok (.iadd, 1) := by decide +kernel
theorem dX10_horses_70 : decode cX10_horses 70 = .ok (.invokevirtual 118, 3) := by decide +kernel
theorem dX10_horses_73 : decode cX10_horses 73 = .ok (.aload_n 0, 1) := by decide +kernel
theorem dX10_horses_74 : decode cX10_horses 74 = .ok (.getfield 10, 3) := by decide +kernel
theorem dX10_horses_77 : decode cX10_horses 77 = .ok (.getfield 114, 3) := by decide +kernel
theorem dX10_horses_80 : decode cX10_horses 80 = .ok (.aload_n 0, 1) := by decide +kernel
theorem dX10_horses_81 : decode cX10_horses 81 = .ok (.getfield 10, 3) := by decide +kernel
theorem dX10_horses_84 : decode cX10_horses 84 = .ok (.getfield 184, 3) := by decide +kernel
theorem dX10_horses_87 : decode cX10_horses 87 = .ok (.iload_n 2, 1) := by decide +kernel
theorem dX10_horses_88 : decode cX10_horses 88 = .ok (.iadd, 1) := by decide +kernel
theorem dX10_horses_89 : decode cX10_horses 89 = .ok (.invokevirtual 123, 3) := by decide +kernel
theorem dX10_horses_92 : decode cX10_horses 92 = .ok (.invokevirtual 221, 3) := by decide +kernel
theorem dX10_horses_95 : decode cX10_horses 95 = .ok (.iinc 2 1, 3) := by decide +kernel
theorem dX10_horses_98 : decode cX10_horses 98 = .ok (.goto (-70), 3) := by decide +kernel
theorem dX10_horses_101 : decode cX10_horses 101 = .ok (.iconst (-1), 1) := by decide +kernel
theorem dX10_horses_102 : decode cX10_horses 102 = .ok (.ireturn, 1) := by decide +kernel
theorem dX10_path_0 : decode cX10_path 0 = .ok (.iload_n 1, 1) := by decide +kernel
theorem dX10_path_1 : decode cX10_path 1 = .ok (.invokestatic 211, 3) := by decide +kernel
theorem dX10_path_4 : decode cX10_path 4 = .ok (.ifCond .eq 23, 3) := by decide +kernel
theorem dX10_path_7 : decode cX10_path 7 = .ok (.iload_n 2, 1) := by decide +kernel
theorem dX10_path_8 : decode cX10_path 8 = .ok (.invokestatic 87, 3) := by decide +kernel
theorem dX10_path_11 : decode cX10_path 11 = .ok (.ifCond .eq 16, 3) := by decide +kernel
theorem dX10_path_14 : decode cX10_path 14 = .ok (.iload_n 3, 1) := by decide +kernel
theorem dX10_path_15 : decode cX10_path 15 = .ok (.invokestatic 87, 3) := by decide +kernel
theorem dX10_path_18 : decode cX10_path 18 = .ok (.ifCond .eq 9, 3) := by decide +kernel
theorem dX10_path_21 : decode cX10_path 21 = .ok (.iload 4, 2) := by decide +kernel
theorem dX10_path_23 : decode cX10_path 23 = .ok (.iconst (-1), 1) := by decide +kernel
theorem dX10_path_24 : decode cX10_path 24 = .ok (.if_icmp .ge 11, 3) := by decide +kernel
theorem dX10_path_27 : decode cX10_path 27 = .ok (.aload_n 0, 1) := by decide +kernel
theorem dX10_path_28 : decode cX10_path 28 = .ok (.invokevirtual 69, 3) := by decide +kernel
theorem dX10_path_31 : decode cX10_path 31 = .ok (.pop, 1) := by decide +kernel
theorem dX10_path_32 : decode cX10_path 32 = .ok (.bipush (-10), 2) := by decide +kernel
theorem dX10_path_34 : decode cX10_path 34 = .ok (.ireturn, 1) := by decide +kernel
theorem dX10_path_35 : decode cX10_path 35 = .ok (.aload_n 0, 1) := by decide +kernel
theorem dX10_path_36 : decode cX10_path 36 = .ok (.getfield 33, 3) := by decide +kernel
theorem dX10_path_39 : decode cX10_path 39 = .ok (.aload_n 0, 1) := by decide +kernel
theorem dX10_path_40 : decode cX10_path 40 = .ok (.getfield 10, 3) := by decide +kernel
theorem dX10_path_43 : decode cX10_path 43 = .ok (.getfield 91, 3) := by decide +kernel
theorem dX10_path_46 : decode cX10_path 46 = .ok (.iload_n 1, 1) := by decide +kernel
theorem dX10_path_47 : decode cX10_path 47 = .ok (.invokevirtual 224, 3) := by decide +kernel
theorem dX10_path_50 : decode cX10_path 50 = .ok (.iload_n 2, 1) := by decide +kernel
theorem dX10_path_51 : decode cX10_path 51 = .ok (.iload_n 3, 1) := by decide +kernel
theorem dX10_path_52 : decode cX10_path 52 = .ok (.invokevirtual 230, 3) := by decide +kernel
theorem dX10_path_55 : decode cX10_path 55 = .ok (.istore 5, 2) := by decide +kernel
theorem dX10_path_57 : decode cX10_path 57 = .ok (.iload 5, 2) := by decide +kernel
theorem dX10_path_59 : decode cX10_path 59 = .ok (.ifCond .ne 5, 3) := by decide +kernel
theorem dX10_path_62 : decode cX10_path 62 = .ok (.iconst (-1), 1) := by decide +kernel
theorem dX10_path_63 : decode cX10_path 63 = .ok (.ireturn, 1) := by decide +kernel
theorem dX10_path_64 : decode cX10_path 64 = .ok (.iload 4, 2) := by decide +kernel
theorem dX10_path_66 : decode cX10_path 66 = .ok (.iconst (-1), 1) := by decide +kernel
theorem dX10_path_67 : decode cX10_path 67 = .ok (.if_icmp .ne 6, 3) := by decide +kernel
theorem dX10_path_70 : decode cX10_path 70 = .ok (.iload 5, 2) := by decide +kernel
theorem dX10_path_72 : decode cX10_path 72 = .ok (.ireturn, 1) := by decide +kernel
theorem dX10_path_73 : decode cX10_path 73 = .ok (.iload 4, 2) := by decide +kernel
theorem dX10_path_75 : decode cX10_path 75 = .ok (.iload 5, 2) := by decide +kernel
theorem dX10_path_77 : decode cX10_path 77 = .ok (.if_icmp .ge 15, 3) := by decide +kernel
theorem dX10_path_80 : decode cX10_path 80 = .ok (.aload_n 0, 1) := by decide +kernel
theorem dX10_path_81 : decode cX10_path 81 = .ok (.getfield 33, 3) := by decide +kernel
theorem dX10_path_84 : decode cX10_path 84 = .ok (.iload 4, 2) := by decide +kernel
theorem dX10_path_86 : decode cX10_path 86 = .ok (.invokevirtual 233, 3) := by decide +kernel
theorem dX10_path_89 : decode cX10_path 89 = .ok (.goto 5, 3) := by decide +kernel
theorem dX10_path_92 : decode cX10_path 92 = .ok (.bipush (-5), 2) := by decide +kernel
theorem dX10_path_94 : decode cX10_path 94 = .ok (.ireturn, 1) := by decide +kernel
theorem dX10_safe_0 : decode cX10_safe 0 = .ok (.iload_n 1, 1) := by decide +kernel
theorem dX10_safe_1 : decode cX10_safe 1 = .ok (.invokestatic 87, 3) := by decide +kernel
theorem dX10_safe_4 : decode cX10_safe 4 = .ok (.ifCond .eq 10, 3) := by decide +kernel
theorem dX10_safe_7 : decode cX10_safe 7 = .ok (.iload_n 2, 1) := by decide +kernel
theorem dX10_safe_8 : decode cX10_safe 8 = .ok (.invokestatic 87, 3) := by decide +kernel
theorem dX10_safe_11 : decode cX10_safe 11 = .ok (.ifCond .ne 8, 3) := by decide +kernel
theorem dX10_safe_14 : decode cX10_safe 14 = .ok (.aload_n 0, 1) := by decide +kernel
theorem dX10_safe_15 : decode cX10_safe 15 = .ok (.invokevirtual 69, 3) := by decide +kernel
theorem dX10_safe_18 : decode cX10_safe 18 = .ok (.ireturn, 1) := by decide +kernel
theorem dX10_safe_19 : decode cX10_safe 19 = .ok (.iconst 0, 1) := by decide +kernel
theorem dX10_safe_20 : decode cX10_safe 20 = .ok (.istore_n 3, 1) := by decide +kernel
theorem dX10_safe_21 : decode cX10_safe 21 = .ok (.sipush 128, 3) := by decide +kernel
theorem dX10_safe_24 : decode cX10_safe 24 = .ok (.istore 4, 2) := by decide +kernel
theorem dX10_safe_26 : decode cX10_safe 26 = .ok (.iload 4, 2) := by decide +kernel
theorem dX10_safe_28 : decode cX10_safe 28 = .ok (.ifCond .le 49, 3) := by decide +kernel
theorem dX10_safe_31 : decode cX10_safe 31 = .ok (.iload_n 3, 1) := by decide +kernel
theorem dX10_safe_32 : decode cX10_safe 32 = .ok (.iload 4, 2) := by decide +kernel
theorem dX10_safe_34 : decode cX10_safe 34 = .ok (.iadd, 1) := by decide +kernel
theorem dX10_safe_35 : decode cX10_safe 35 = .ok (.istore 5, 2) := by decide +kernel
theorem dX10_safe_37 : decode cX10_safe 37 = .ok (.iload 5, 2) := by decide +kernel
theorem dX10_safe_39 : decode cX10_safe 39 = .ok (.sipush 198, 3) := by decide +kernel
theorem dX10_safe_42 : decode cX10_safe 42 = .ok (.if_icmp .gt 26, 3) := by decide +kernel
theorem dX10_safe_45 : decode cX10_safe 45 = .ok (.aload_n 0, 1) := by decide +kernel
theorem dX10_safe_46 : decode cX10_safe 46 = .ok (.getfield 10, 3) := by decide +kernel
theorem dX10_safe_49 : decode cX10_safe 49 = .ok (.getfield 91, 3) := by decide +kernel
theorem dX10_safe_52 : decode cX10_safe 52 = .ok (.iload 5, 2) := by decide +kernel
theorem dX10_safe_54 : decode cX10_safe 54 = .ok (.invokevirtual 224, 3) := by decide +kernel
theorem dX10_safe_57 : decode cX10_safe 57 = .ok (.iload_n 1, 1) := by decide +kernel
theorem dX10_safe_58 : decode cX10_safe 58 = .ok (.iload_n 2, 1) := by decide +kernel
theorem dX10_safe_59 : decode cX10_safe 59 = .ok (.invokestatic 236, 3) := by decide +kernel
theorem dX10_safe_62 : decode cX10_safe 62 = .ok (.ifCond .eq 6, 3) := by decide +kernel
theorem dX10_safe_65 : decode cX10_safe 65 = .ok (.iload 5, 2) := by decide +kernel
theorem dX10_safe_67 : decode cX10_safe 67 = .ok (.istore_n 3, 1) := by decide +kernel
theorem dX10_safe_68 : decode cX10_safe 68 = .ok (.iload 4, 2) := by decide +kernel
theorem dX10_safe_70 : decode cX10_safe 70 = .ok (.iconst 2, 1) := by decide +kernel
theorem dX10_safe_71 : decode cX10_safe 71 = .ok (.idiv, 1) := by decide +kernel
theorem dX10_safe_72 : decode cX10_safe 72 = .ok (.istore 4, 2) := by decide +kernel
theorem dX10_safe_74 : decode cX10_safe 74 = .ok (.goto (-48), 3) := by decide +kernel
theorem dX10_safe_77 : decode cX10_safe 77 = .ok (.iload_n 3, 1) := by decide +kernel
theorem dX10_safe_78 : decode cX10_safe 78 = .ok (.ireturn, 1) := by decide +kernel
theorem dX10_cross_0 : decode cX10_cross 0 = .ok (.iload_n 1, 1) := by decide +kernel
theorem dX10_cross_1 : decode cX10_cross 1 = .ok (.iconst 1, 1) := by decide +kernel
theorem dX10_cross_2 : decode cX10_cross 2 = .ok (.bipush 99, 2) := by decide +kernel
theorem dX10_cross_4 : decode cX10_cross 4 = .ok (.invokestatic 65, 3) := by decide +kernel
theorem dX10_cross_7 : decode cX10_cross 7 = .ok (.ifCond .eq 22, 3) := by decide +kernel
theorem dX10_cross_10 : decode cX10_cross 10 = .ok (.iload_n 2, 1) := by decide +kernel
theorem dX10_cross_11 : decode cX10_cross 11 = .ok (.invokestatic 87, 3) := by decide +kernel
theorem dX10_cross_14 : decode cX10_cross 14 = .ok (.ifCond .eq 15, 3) := by decide +kernel
theorem dX10_cross_17 : decode cX10_cross 17 = .ok (.iload_n 3, 1) := by decide +kernel
theorem dX10_cross_18 : decode cX10_cross 18 = .ok (.invokestatic 87, 3) := by decide +kernel
theorem dX10_cross_21 : decode cX10_cross 21 = .ok (.ifCond .eq 8, 3) := by decide +kernel
theorem dX10_cross_24 : decode cX10_cross 24 = .ok (.iload_n 2, 1) := by decide +kernel
theorem dX10_cross_25 : decode cX10_cross 25 = .ok (.iload_n 3, 1) := by decide +kernel
theorem dX10_cross_26 : decode cX10_cross 26 = .ok (.if_icmp .ne 8, 3) := by decide +kernel
theorem dX10_cross_29 : decode cX10_cross 29 = .ok (.aload_n 0, 1) := by decide +kernel
theorem dX10_cross_30 : decode cX10_cross 30 = .ok (.invokevirtual 69, 3) := by decide +kernel
theorem dX10_cross_33 : decode cX10_cross 33 = .ok (.ireturn, 1) := by decide +kernel
theorem dX10_cross_34 : decode cX10_cross 34 = .ok (.aload_n 0, 1) := by decide +kernel
theorem dX10_cross_35 : decode cX10_cross 35 = .ok (.getfield 26, 3) := by decide +kernel
theorem dX10_cross_38 : decode cX10_cross 38 = .ok (.aload_n 0, 1) := by decide +kernel
theorem dX10_cross_39 : decode cX10_cross 39 = .ok (.getfield 10, 3) := by decide +kernel
theorem dX10_cross_42 : decode cX10_cross 42 = .ok (.getfield 91, 3) := by decide +kernel
theorem dX10_cross_45 : decode cX10_cross 45 = .ok (.invokevirtual 218, 3) := by decide +kernel
theorem dX10_cross_48 : decode cX10_cross 48 = .ok (.iconst 0, 1) := by decide +kernel
theorem dX10_cross_49 : decode cX10_cross 49 = .ok (.istore 4, 2) := by decide +kernel
theorem dX10_cross_51 : decode cX10_cross 51 = .ok (.iload 4, 2) := by decide +kernel
theorem dX10_cross_53 : decode cX10_cross 53 = .ok (.bipush 40, 2) := by decide +kernel
theorem dX10_cross_55 : decode cX10_cross 55 = .ok (.if_icmp .ge 87, 3) := by decide +kernel
theorem dX10_cross_58 : decode cX10_cross 58 = .ok (.aload_n 0, 1) := by decide +kernel
theorem dX10_cross_59 : decode cX10_cross 59 = .ok (.getfield 33, 3) := by decide +kernel
theorem dX10_cross_62 : decode cX10_cross 62 = .ok (.aload_n 0, 1) := by decide +kernel
theorem dX10_cross_63 : decode cX10_cross 63 = .ok (.getfield 26, 3) := by decide +kernel
theorem dX10_cross_66 : decode cX10_cross 66 = .ok (.iload_n 1, 1) := by decide +kernel
theorem dX10_cross_67 : decode cX10_cross 67 = .ok (.invokevirtual 224, 3) := by decide +kernel
theorem dX10_cross_70 : decode cX10_cross 70 = .ok (.iload_n 2, 1) := by decide +kernel
theorem dX10_cross_71 : decode cX10_cross 71 = .ok (.iload_n 3, 1) := by decide +kernel
theorem dX10_cross_72 : decode cX10_cross 72 = .ok (.invokevirtual 230, 3) := by decide +kernel
theorem dX10_cross_75 : decode cX10_cross 75 = .ok (.istore 5, 2) := by decide +kernel
theorem dX10_cross_77 : decode cX10_cross 77 = .ok (.iload 5, 2) := by decide +kernel
theorem dX10_cross_79 : decode cX10_cross 79 = .ok (.ifCond .ne 6, 3) := by decide +kernel
theorem dX10_cross_82 : decode cX10_cross 82 = .ok (.iload 4, 2) := by decide +kernel
theorem dX10_cross_84 : decode cX10_cross 84 = .ok (.ireturn, 1) := by decide +kernel
theorem dX10_cross_85 : decode cX10_cross 85 = .ok (.iconst 0, 1) := by decide +kernel
theorem dX10_cross_86 : decode cX10_cross 86 = .ok (.istore 6, 2) := by decide +kernel
theorem dX10_cross_88 : decode cX10_cross 88 = .ok (.iload 6, 2) := by decide +kernel
theorem dX10_cross_90 : decode cX10_cross 90 = .ok (.iload 5, 2) := by decide +kernel
theorem dX10_cross_92 : decode cX10_cross 92 = .ok (.if_icmp .ge 44, 3) := by decide +kernel
theorem dX10_cross_95 : decode cX10_cross 95 = .ok (.aload_n 0, 1) := by decide +kernel
theorem dX10_cross_96 : decode cX10_cross 96 = .ok (.getfield 33, 3) := by decide +kernel
theorem dX10_cross_99 : decode cX10_cross 99 = .ok (.iload 6, 2) := by decide +kernel
theorem dX10_cross_101 : decode cX10_cross 101 = .ok (.invokevirtual 233, 3) := by decide +kernel
theorem dX10_cross_104 : decode cX10_cross 104 = .ok (.istore 7, 2) := by decide +kernel
theorem dX10_cross_106 : decode cX10_cross 106 = .ok (.aload_n 0, 1) := by decide +kernel
theorem dX10_cross_107 : decode cX10_cross 107 = .ok (.getfield 26, 3) := by decide +kernel
theorem dX10_cross_110 : decode cX10_cross 110 = .ok (.iload 7, 2) := by decide +kernel
theorem dX10_cross_112 : decode cX10_cross 112 = .ok (.iconst 0, 1) := by decide +kernel
theorem dX10_cross_113 : decode cX10_cross 113 = .ok (.aload_n 0, 1) := by decide +kernel
theorem dX10_cross_114 : decode cX10_cross 114 = .ok (.getfield 26, 3) := by decide +kernel
theorem dX10_cross_117 : decode cX10_cross 117 = .ok (.iload 7, 2) := by decide +kernel
theorem dX10_cross_119 : decode cX10_cross 119 = .ok (.invokevirtual 164, 3) := by decide +kernel
theorem dX10_cross_122 : decode cX10_cross 122 = .ok (.iconst 1, 1) := by decide +kernel
theorem dX10_cross_123 : decode cX10_cross 123 = .ok (.isub, 1) := by decide +kernel
theorem dX10_cross_124 : decode cX10_cross 124 = .ok (.invokestatic 167, 3) := by decide +kernel
theorem dX10_cross_127 : decode cX10_cross 127 = .ok (.invokevirtual 173, 3) := by decide +kernel
theorem dX10_cross_130 : decode cX10_cross 130 = .ok (.iinc 6 1, 3) := by decide +kernel
theorem dX10_cross_133 : decode cX10_cross 133 = .ok (.goto (-45), 3) := by decide +kernel
theorem dX10_cross_136 : decode cX10_cross 136 = .ok (.iinc 4 1, 3) := by decide +kernel
theorem dX10_cross_139 : decode cX10_cross 139 = .ok (.goto (-88), 3) := by decide +kernel
theorem dX10_cross_142 : decode cX10_cross 142 = .ok (.bipush 40, 2) := by decide +kernel
theorem dX10_cross_144 : decode cX10_cross 144 = .ok (.ireturn, 1) := by decide +kernel
theorem dX10_apart_0 : decode cX10_apart 0 = .ok (.iload_n 1, 1) := by decide +kernel
theorem dX10_apart_1 : decode cX10_apart 1 = .ok (.invokestatic 211, 3) := by decide +kernel
theorem dX10_apart_4 : decode cX10_apart 4 = .ok (.ifCond .eq 32, 3) := by decide +kernel
theorem dX10_apart_7 : decode cX10_apart 7 = .ok (.iload_n 2, 1) := by decide +kernel
theorem dX10_apart_8 : decode cX10_apart 8 = .ok (.invokestatic 87, 3) := by decide +kernel
theorem dX10_apart_11 : decode cX10_apart 11 = .ok (.ifCond .eq 25, 3) := by decide +kernel
theorem dX10_apart_14 : decode cX10_apart 14 = .ok (.iload_n 3, 1) := by decide +kernel
theorem dX10_apart_15 : decode cX10_apart 15 = .ok (.invokestatic 87, 3) := by decide +kernel
theorem dX10_apart_18 : decode cX10_apart 18 = .ok (.ifCond .eq 18, 3) := by decide +kernel
theorem dX10_apart_21 : decode cX10_apart 21 = .ok (.iload_n 2, 1) := by decide +kernel
theorem dX10_apart_22 : decode cX10_apart 22 = .ok (.iload_n 3, 1) := by decide +kernel
theorem dX10_apart_23 : decode cX10_apart 23 = .ok (.if_icmp .eq 13, 3) := by decide +kernel
theorem dX10_apart_26 : decode cX10_apart 26 = .ok (.iload 4, 2) := by decide +kernel
theorem dX10_apart_28 : decode cX10_apart 28 = .ok (.iconst 0, 1) := by decide +kernel
theorem dX10_apart_29 : decode cX10_apart 29 = .ok (.iconst 1, 1) := by decide +kernel
theorem dX10_apart_30 : decode cX10_apart 30 = .ok (.invokestatic 65, 3) := by decide +kernel
theorem dX10_apart_33 : decode cX10_apart 33 = .ok (.ifCond .ne 8, 3) := by decide +kernel
theorem dX10_apart_36 : decode cX10_apart 36 = .ok (.aload_n 0, 1) := by decide +kernel
theorem dX10_apart_37 : decode cX10_apart 37 = .ok (.invokevirtual 69, 3) := by decide +kernel
theorem dX10_apart_40 : decode cX10_apart 40 = .ok (.ireturn, 1) := by decide +kernel
theorem dX10_apart_41 : decode cX10_apart 41 = .ok (.aload_n 0, 1) := by decide +kernel
theorem dX10_apart_42 : decode cX10_apart 42 = .ok (.getfield 10, 3) := by decide +kernel
theorem dX10_apart_45 : decode cX10_apart 45 = .ok (.getfield 91, 3) := by decide +kernel
theorem dX10_apart_48 : decode cX10_apart 48 = .ok (.iload_n 1, 1) := by decide +kernel
theorem dX10_apart_49 : decode cX10_apart 49 = .ok (.invokevirtual 224, 3) := by decide +kernel
theorem dX10_apart_52 : decode cX10_apart 52 = .ok (.iload_n 2, 1) := by decide +kernel
theorem dX10_apart_53 : decode cX10_apart 53 = .ok (.iload_n 3, 1) := by decide +kernel
theorem dX10_apart_54 : decode cX10_apart 54 = .ok (.invokestatic 239, 3) := by decide +kernel
theorem dX10_apart_57 : decode cX10_apart 57 = .ok (.istore 5, 2) := by decide +kernel
theorem dX10_apart_59 : decode cX10_apart 59 = .ok (.iload 4, 2) := by decide +kernel
theorem dX10_apart_61 : decode cX10_apart 61 = .ok (.iconst 1, 1) := by decide +kernel
theorem dX10_apart_62 : decode cX10_apart 62 = .ok (.if_icmp .eq 14, 3) := by decide +kernel
theorem dX10_apart_65 : decode cX10_apart 65 = .ok (.iload 5, 2) := by decide +kernel
theorem dX10_apart_67 : decode cX10_apart 67 = .ok (.iconst (-1), 1) := by decide +kernel
theorem dX10_apart_68 : decode cX10_apart 68 = .ok (.if_icmp .eq 8, 3) := by decide +kernel
theorem dX10_apart_71 : decode cX10_apart 71 = .ok (.iload 5, 2) := by decide +kernel
theorem dX10_apart_73 : decode cX10_apart 73 = .ok (.ifCond .ne 6, 3) := by decide +kernel
theorem dX10_apart_76 : decode cX10_apart 76 = .ok (.iload 5, 2) := by decide +kernel
theorem dX10_apart_78 : decode cX10_apart 78 = .ok (.ireturn, 1) := by decide +kernel
theorem dX10_apart_79 : decode cX10_apart 79 = .ok (.iload 5, 2) := by decide +kernel
theorem dX10_apart_81 : decode cX10_apart 81 = .ok (.sipush 992, 3) := by decide +kernel
theorem dX10_apart_84 : decode cX10_apart 84 = .ok (.if_icmp .lt 7, 3) := by decide +kernel
theorem dX10_apart_87 : decode cX10_apart 87 = .ok (.iconst 1, 1) := by decide +kernel
theorem dX10_apart_88 : decode cX10_apart 88 = .ok (.goto 4, 3) := by decide +kernel
theorem dX10_apart_91 : decode cX10_apart 91 = .ok (.iconst 2, 1) := by decide +kernel
theorem dX10_apart_92 : decode cX10_apart 92 = .ok (.ireturn, 1) := by decide +kernel
theorem dX10_votes_0 : decode cX10_votes 0 = .ok (.iload_n 1, 1) := by decide +kernel
theorem dX10_votes_1 : decode cX10_votes 1 = .ok (.iconst 0, 1) := by decide +kernel
theorem dX10_votes_2 : decode cX10_votes 2 = .ok (.iconst 2, 1) := by decide +kernel
theorem dX10_votes_3 : decode cX10_votes 3 = .ok (.invokestatic 65, 3) := by decide +kernel
theorem dX10_votes_6 : decode cX10_votes 6 = .ok (.ifCond .ne 8, 3) := by decide +kernel
theorem dX10_votes_9 : decode cX10_votes 9 = .ok (.aload_n 0, 1) := by decide +kernel
theorem dX10_votes_10 : decode cX10_votes 10 = .ok (.invokevirtual 69, 3) := by decide +kernel
theorem dX10_votes_13 : decode cX10_votes 13 = .ok (.ireturn, 1) := by decide +kernel
theorem dX10_votes_14 : decode cX10_votes 14 = .ok (.iload_n 1, 1) := by decide +kernel
theorem dX10_votes_15 : decode cX10_votes 15 = .ok (.lookupswitch 53 #[(0, 25), (1, 30)], 25) := by decide +kernel
theorem dX10_votes_40 : decode cX10_votes 40 = .ok (.aload_n 0, 1) := by decide +kernel
theorem dX10_votes_41 : decode cX10_votes 41 = .ok (.invokevirtual 197, 3) := by decide +kernel
theorem dX10_votes_44 : decode cX10_votes 44 = .ok (.ireturn, 1) := by decide +kernel
theorem dX10_votes_45 : decode cX10_votes 45 = .ok (.aload_n 0, 1) := by decide +kernel
theorem dX10_votes_46 : decode cX10_votes 46 = .ok (.getfield 10, 3) := by decide +kernel
theorem dX10_votes_49 : decode cX10_votes 49 = .ok (.getfield 73, 3) := by decide +kernel
theorem dX10_votes_52 : decode cX10_votes 52 = .ok (.aload_n 0, 1) := by decide +kernel
theorem dX10_votes_53 : decode cX10_votes 53 = .ok (.invokevirtual 197, 3) := by decide +kernel
theorem dX10_votes_56 : decode cX10_votes 56 = .ok (.invokevirtual 242, 3) := by decide +kernel
theorem dX10_votes_59 : decode cX10_votes 59 = .ok (.ifCond .eq 7, 3) := by decide +kernel
theorem dX10_votes_62 : decode cX10_votes 62 = .ok (.iconst 1, 1) := by decide +kernel
theorem dX10_votes_63 : decode cX10_votes 63 = .ok (.goto 4, 3) := by decide +kernel
theorem dX10_votes_66 : decode cX10_votes 66 = .ok (.iconst 0, 1) := by decide +kernel
theorem dX10_votes_67 : decode cX10_votes 67 = .ok (.ireturn, 1) := by decide +kernel
theorem dX10_votes_68 : decode cX10_votes 68 = .ok (.aload_n 0, 1) := by decide +kernel
theorem dX10_votes_69 : decode cX10_votes 69 = .ok (.getfield 10, 3) := by decide +kernel
theorem dX10_votes_72 : decode cX10_votes 72 = .ok (.getfield 73, 3) := by decide +kernel
theorem dX10_votes_75 : decode cX10_votes 75 = .ok (.aload_n 0, 1) := by decide +kernel
theorem dX10_votes_76 : decode cX10_votes 76 = .ok (.getfield 10, 3) := by decide +kernel
theorem dX10_votes_79 : decode cX10_votes 79 = .ok (.getfield 91, 3) := by decide +kernel
theorem dX10_votes_82 : decode cX10_votes 82 = .ok (.aload_n 0, 1) := by decide +kernel
theorem dX10_votes_83 : decode cX10_votes 83 = .ok (.getfield 10, 3) := by decide +kernel
theorem dX10_votes_86 : decode cX10_votes 86 = .ok (.invokevirtual 245, 3) := by decide +kernel
theorem dX10_votes_89 : decode cX10_votes 89 = .ok (.invokevirtual 248, 3) := by decide +kernel
theorem dX10_votes_92 : decode cX10_votes 92 = .ok (.ireturn, 1) := by decide +kernel
theorem dX10_turn_0 : decode cX10_turn 0 = .ok (.aload_n 0, 1) := by decide +kernel
theorem dX10_turn_1 : decode cX10_turn 1 = .ok (.invokevirtual 197, 3) := by decide +kernel
theorem dX10_turn_4 : decode cX10_turn 4 = .ok (.istore_n 1, 1) := by decide +kernel
theorem dX10_turn_5 : decode cX10_turn 5 = .ok (.aload_n 0, 1) := by decide +kernel
theorem dX10_turn_6 : decode cX10_turn 6 = .ok (.getfield 10, 3) := by decide +kernel
theorem dX10_turn_9 : decode cX10_turn 9 = .ok (.getfield 73, 3) := by decide +kernel
theorem dX10_turn_12 : decode cX10_turn 12 = .ok (.iload_n 1, 1) := by decide +kernel
theorem dX10_turn_13 : decode cX10_turn 13 = .ok (.invokevirtual 242, 3) := by decide +kernel
theorem dX10_turn_16 : decode cX10_turn 16 = .ok (.istore_n 2, 1) := by decide +kernel
theorem dX10_turn_17 : decode cX10_turn 17 = .ok (.iconst (-1), 1) := by decide +kernel
theorem dX10_turn_18 : decode cX10_turn 18 = .ok (.istore_n 3, 1) := by decide +kernel
theorem dX10_turn_19 : decode cX10_turn 19 = .ok (.iconst 1, 1) := by decide +kernel
theorem dX10_turn_20 : decode cX10_turn 20 = .ok (.istore 4, 2) := by decide +kernel
theorem dX10_turn_22 : decode cX10_turn 22 = .ok (.iload 4, 2) := by decide +kernel
theorem dX10_turn_24 : decode cX10_turn 24 = .ok (.aload_n 0, 1) := by decide +kernel
theorem dX10_turn_25 : decode cX10_turn 25 = .ok (.getfield 10, 3) := by decide +kernel
theorem dX10_turn_28 : decode cX10_turn 28 = .ok (.getfield 73, 3) := by decide +kernel
theorem dX10_turn_31 : decode cX10_turn 31 = .ok (.invokevirtual 252, 3) := by decide +kernel
theorem dX10_turn_34 : decode cX10_turn 34 = .ok (.if_icmp .ge 59, 3) := by decide +kernel
theorem dX10_turn_37 : decode cX10_turn 37 = .ok (.iload_n 3, 1) := by decide +kernel
theorem dX10_turn_38 : decode cX10_turn 38 = .ok (.iconst (-1), 1) := by decide +kernel
theorem dX10_turn_39 : decode cX10_turn 39 = .ok (.if_icmp .eq 15, 3) := by decide +kernel
theorem dX10_turn_42 : decode cX10_turn 42 = .ok (.iload 4, 2) := by decide +kernel
theorem dX10_turn_44 : decode cX10_turn 44 = .ok (.invokestatic 255, 3) := by decide +kernel
theorem dX10_turn_47 : decode cX10_turn 47 = .ok (.iload_n 3, 1) := by decide +kernel
theorem dX10_turn_48 : decode cX10_turn 48 = .ok (.invokestatic 255, 3) := by decide +kernel
theorem dX10_turn_51 : decode cX10_turn 51 = .ok (.if_icmp .ge 7, 3) := by decide +kernel
theorem dX10_turn_54 : decode cX10_turn 54 = .ok (.iconst 1, 1) := by decide +kernel
theorem dX10_turn_55 : decode cX10_turn 55 = .ok (.goto 4, 3) := by decide +kernel
theorem dX10_turn_58 : decode cX10_turn 58 = .ok (.iconst 0, 1) := by decide +kernel
theorem dX10_turn_59 : decode cX10_turn 59 = .ok (.istore 5, 2) := by decide +kernel
theorem dX10_turn_61 : decode cX10_turn 61 = .ok (.iload 5, 2) := by decide +kernel
theorem dX10_turn_63 : decode cX10_turn 63 = .ok (.ifCond .eq 24, 3) := by decide +kernel
theorem dX10_turn_66 : decode cX10_turn 66 = .ok (.aload_n 0, 1) := by decide +kernel
theorem dX10_turn_67 : decode cX10_turn 67 = .ok (.getfield 10, 3) := by decide +kernel
theorem dX10_turn_70 : decode cX10_turn 70 = .ok (.getfield 73, 3) := by decide +kernel
theorem dX10_turn_73 : decode cX10_turn 73 = .ok (.iload_n 1, 1) := by decide +kernel
theorem dX10_turn_74 : decode cX10_turn 74 = .ok (.iload 4, 2) := by decide +kernel
theorem dX10_turn_76 : decode cX10_turn 76 = .ok (.ixor, 1) := by decide +kernel
theorem dX10_turn_77 : decode cX10_turn 77 = .ok (.invokevirtual 242, 3) := by decide +kernel
theorem dX10_turn_80 : decode cX10_turn 80 = .ok (.iload_n 2, 1) := by decide +kernel
theorem dX10_turn_81 : decode cX10_turn 81 = .ok (.if_icmp .eq 6, 3) := by decide +kernel
theorem dX10_turn_84 : decode cX10_turn 84 = .ok (.iload 4, 2) := by decide +kernel
theorem dX10_turn_86 : decode cX10_turn 86 = .ok (.istore_n 3, 1) := by decide +kernel
theorem dX10_turn_87 : decode cX10_turn 87 = .ok (.iinc 4 1, 3) := by decide +kernel
theorem dX10_turn_90 : decode cX10_turn 90 = .ok (.goto (-68), 3) := by decide +kernel
theorem dX10_turn_93 : decode cX10_turn 93 = .ok (.iload_n 3, 1) := by decide +kernel
theorem dX10_turn_94 : decode cX10_turn 94 = .ok (.ireturn, 1) := by decide +kernel
theorem dX10_seen_0 : decode cX10_seen 0 = .ok (.iload_n 1, 1) := by decide +kernel
theorem dX10_seen_1 : decode cX10_seen 1 = .ok (.iconst 0, 1) := by decide +kernel
theorem dX10_seen_2 : decode cX10_seen 2 = .ok (.aload_n 0, 1) := by decide +kernel
theorem dX10_seen_3 : decode cX10_seen 3 = .ok (.getfield 10, 3) := by decide +kernel
theorem dX10_seen_6 : decode cX10_seen 6 = .ok (.getfield 73, 3) := by decide +kernel
theorem dX10_seen_9 : decode cX10_seen 9 = .ok (.invokevirtual 252, 3) := by decide +kernel
theorem dX10_seen_12 : decode cX10_seen 12 = .ok (.iconst 1, 1) := by decide +kernel
theorem dX10_seen_13 : decode cX10_seen 13 = .ok (.isub, 1) := by decide +kernel
theorem dX10_seen_14 : decode cX10_seen 14 = .ok (.invokestatic 65, 3) := by decide +kernel
theorem dX10_seen_17 : decode cX10_seen 17 = .ok (.ifCond .eq 12, 3) := by decide +kernel
theorem dX10_seen_20 : decode cX10_seen 20 = .ok (.iload_n 2, 1) := by decide +kernel
theorem dX10_seen_21 : decode cX10_seen 21 = .ok (.iconst 0, 1) := by decide +kernel
theorem dX10_seen_22 : decode cX10_seen 22 = .ok (.iconst 2, 1) := by decide +kernel
theorem dX10_seen_23 : decode cX10_seen 23 = .ok (.invokestatic 65, 3) := by decide +kernel
theorem dX10_seen_26 : decode cX10_seen 26 = .ok (.ifCond .ne 8, 3) := by decide +kernel
theorem dX10_seen_29 : decode cX10_seen 29 = .ok (.aload_n 0, 1) := by decide +kernel
theorem dX10_seen_30 : decode cX10_seen 30 = .ok (.invokevirtual 69, 3) := by decide +kernel
theorem dX10_seen_33 : decode cX10_seen 33 = .ok (.ireturn, 1) := by decide +kernel
theorem dX10_seen_34 : decode cX10_seen 34 = .ok (.aload_n 0, 1) := by decide +kernel
theorem dX10_seen_35 : decode cX10_seen 35 = .ok (.getfield 10, 3) := by decide +kernel
theorem dX10_seen_38 : decode cX10_seen 38 = .ok (.getfield 73, 3) := by decide +kernel
theorem dX10_seen_41 : decode cX10_seen 41 = .ok (.aload_n 0, 1) := by decide +kernel
theorem dX10_seen_42 : decode cX10_seen 42 = .ok (.getfield 10, 3) := by decide +kernel
theorem dX10_seen_45 : decode cX10_seen 45 = .ok (.getfield 91, 3) := by decide +kernel
theorem dX10_seen_48 : decode cX10_seen 48 = .ok (.invokevirtual 260, 3) := by decide +kernel
theorem dX10_seen_51 : decode cX10_seen 51 = .ok (.istore_n 3, 1) := by decide +kernel
theorem dX10_seen_52 : decode cX10_seen 52 = .ok (.iconst 0, 1) := by decide +kernel
theorem dX10_seen_53 : decode cX10_seen 53 = .ok (.istore 4, 2) := by decide +kernel
theorem dX10_seen_55 : decode cX10_seen 55 = .ok (.iconst (-1), 1) := by decide +kernel
theorem dX10_seen_56 : decode cX10_seen 56 = .ok (.istore 5, 2) := by decide +kernel
theorem dX10_seen_58 : decode cX10_seen 58 = .ok (.iconst 0, 1) := by decide +kernel
theorem dX10_seen_59 : decode cX10_seen 59 = .ok (.istore 6, 2) := by decide +kernel
theorem dX10_seen_61 : decode cX10_seen 61 = .ok (.iconst 0, 1) := by decide +kernel
theorem dX10_seen_62 : decode cX10_seen 62 = .ok (.istore 7, 2) := by decide +kernel
theorem dX10_seen_64 : decode cX10_seen 64 = .ok (.iload 7, 2) := by decide +kernel
theorem dX10_seen_66 : decode cX10_seen 66 = .ok (.aload_n 0, 1) := by decide +kernel
theorem dX10_seen_67 : decode cX10_seen 67 = .ok (.getfield 10, 3) := by decide +kernel
theorem dX10_seen_70 : decode cX10_seen 70 = .ok (.getfield 73, 3) := by decide +kernel
theorem dX10_seen_73 : decode cX10_seen 73 = .ok (.invokevirtual 252, 3) := by decide +kernel
theorem dX10_seen_76 : decode cX10_seen 76 = .ok (.if_icmp .ge 49, 3) := by decide +kernel
theorem dX10_seen_79 : decode cX10_seen 79 = .ok (.iload 7, 2) := by decide +kernel
theorem dX10_seen_81 : decode cX10_seen 81 = .ok (.iload_n 3, 1) := by decide +kernel
theorem dX10_seen_82 : decode cX10_seen 82 = .ok (.iand, 1) := by decide +kernel
theorem dX10_seen_83 : decode cX10_seen 83 = .ok (.iload_n 1, 1) := by decide +kernel
theorem dX10_seen_84 : decode cX10_seen 84 = .ok (.if_icmp .ne 35, 3) := by decide +kernel
theorem dX10_seen_87 : decode cX10_seen 87 = .ok (.aload_n 0, 1) := by decide +kernel
theorem dX10_seen_88 : decode cX10_seen 88 = .ok (.getfield 10, 3) := by decide +kernel
theorem dX10_seen_91 : decode cX10_seen 91 = .ok (.getfield 73, 3) := by decide +kernel
theorem dX10_seen_94 : decode cX10_seen 94 = .ok (.iload 7, 2) := by decide +kernel
theorem dX10_seen_96 : decode cX10_seen 96 = .ok (.invokevirtual 242, 3) := by decide +kernel
theorem dX10_seen_99 : decode cX10_seen 99 = .ok (.ifCond .eq 20, 3) := by decide +kernel
theorem dX10_seen_102 : decode cX10_seen 102 = .ok (.iinc 4 1, 3) := by decide +kernel
theorem dX10_seen_105 : decode cX10_seen 105 = .ok (.iload 5, 2) := by decide +kernel
theorem dX10_seen_107 : decode cX10_seen 107 = .ok (.iload 7, 2) := by decide +kernel
theorem dX10_seen_109 : decode cX10_seen 109 = .ok (.iand, 1) := by decide +kernel
theorem dX10_seen_110 : decode cX10_seen 110 = .ok (.istore 5, 2) := by decide +kernel
theorem dX10_seen_112 : decode cX10_seen 112 = .ok (.iload 6, 2) := by decide +kernel
theorem dX10_seen_114 : decode cX10_seen 114 = .ok (.iload 7, 2) := by decide +kernel
theorem dX10_seen_116 : decode cX10_seen 116 = .ok (.ior, 1) := by decide +kernel
theorem dX10_seen_117 : decode cX10_seen 117 = .ok (.istore 6, 2) := by decide +kernel
theorem dX10_seen_119 : decode cX10_seen 119 = .ok (.iinc 7 1, 3) := by decide +kernel
theorem dX10_seen_122 : decode cX10_seen 122 = .ok (.goto (-58), 3) := by decide +kernel
theorem dX10_seen_125 : decode cX10_seen 125 = .ok (.iload_n 2, 1) := by decide +kernel
theorem dX10_seen_126 : decode cX10_seen 126 = .ok (.lookupswitch 32 #[(0, 26), (1, 29)], 26) := by decide +kernel
theorem dX10_seen_152 : decode cX10_seen 152 = .ok (.iload 4, 2) := by decide +kernel
theorem dX10_seen_154 : decode cX10_seen 154 = .ok (.ireturn, 1) := by decide +kernel
theorem dX10_seen_155 : decode cX10_seen 155 = .ok (.iload 5, 2) := by decide +kernel
theorem dX10_seen_157 : decode cX10_seen 157 = .ok (.ireturn, 1) := by decide +kernel
theorem dX10_seen_158 : decode cX10_seen 158 = .ok (.iload 6, 2) := by decide +kernel
theorem dX10_seen_160 : decode cX10_seen 160 = .ok (.ireturn, 1) := by decide +kernel
theorem dX10_lies_0 : decode cX10_lies 0 = .ok (.iconst 0, 1) := by decide +kernel
theorem dX10_lies_1 : decode cX10_lies 1 = .ok (.istore_n 1, 1) := by decide +kernel
theorem dX10_lies_2 : decode cX10_lies 2 = .ok (.iconst 0, 1) := by decide +kernel
theorem dX10_lies_3 : decode cX10_lies 3 = .ok (.istore_n 2, 1) := by decide +kernel
theorem dX10_lies_4 : decode cX10_lies 4 = .ok (.iload_n 2, 1) := by decide +kernel
theorem dX10_lies_5 : decode cX10_lies 5 = .ok (.iconst 4, 1) := by decide +kernel
theorem dX10_lies_6 : decode cX10_lies 6 = .ok (.if_icmp .ge 40, 3) := by decide +kernel
theorem dX10_lies_9 : decode cX10_lies 9 = .ok (.aload_n 0, 1) := by decide +kernel
theorem dX10_lies_10 : decode cX10_lies 10 = .ok (.getfield 10, 3) := by decide +kernel
theorem dX10_lies_13 : decode cX10_lies 13 = .ok (.getfield 130, 3) := by decide +kernel
theorem dX10_lies_16 : decode cX10_lies 16 = .ok (.iload_n 2, 1) := by decide +kernel
theorem dX10_lies_17 : decode cX10_lies 17 = .ok (.iaload, 1) := by decide +kernel
theorem dX10_lies_18 : decode cX10_lies 18 = .ok (.aload_n 0, 1) := by decide +kernel
theorem dX10_lies_19 : decode cX10_lies 19 = .ok (.getfield 10, 3) := by decide +kernel
theorem dX10_lies_22 : decode cX10_lies 22 = .ok (.getfield 91, 3) := by decide +kernel
theorem dX10_lies_25 : decode cX10_lies 25 = .ok (.iload_n 2, 1) := by decide +kernel
theorem dX10_lies_26 : decode cX10_lies 26 = .ok (.invokevirtual 263, 3) := by decide +kernel
theorem dX10_lies_29 : decode cX10_lies 29 = .ok (.iconst 4, 1) := by decide +kernel
theorem dX10_lies_30 : decode cX10_lies 30 = .ok (.idiv, 1) := by decide +kernel
theorem dX10_lies_31 : decode cX10_lies 31 = .ok (.if_icmp .le 9, 3) := by decide +kernel
theorem dX10_lies_34 : decode cX10_lies 34 = .ok (.iload_n 1, 1) := by decide +kernel
theorem dX10_lies_35 : decode cX10_lies 35 = .ok (.iconst 1, 1) := by decide +kernel
theorem dX10_lies_36 : decode cX10_lies 36 = .ok (.iload_n 2, 1) := by decide +kernel
theorem dX10_lies_37 : decode cX10_lies 37 = .ok (.ishl, 1) := by decide +kernel
theorem dX10_lies_38 : decode cX10_lies 38 = .ok (.ior, 1) := by decide +kernel
theorem dX10_lies_39 : decode cX10_lies 39 = .ok (.istore_n 1, 1) := by decide +kernel
theorem dX10_lies_40 : decode cX10_lies 40 = .ok (.iinc 2 1, 3) := by decide +kernel
theorem dX10_lies_43 : decode cX10_lies 43 = .ok (.goto (-39), 3) := by decide +kernel
theorem dX10_lies_46 : decode cX10_lies 46 = .ok (.iload_n 1, 1) := by decide +kernel
theorem dX10_lies_47 : decode cX10_lies 47 = .ok (.ireturn, 1) := by decide +kernel
theorem dX10_stones_0 : decode cX10_stones 0 = .ok (.iload_n 1, 1) := by decide +kernel
theorem dX10_stones_1 : decode cX10_stones 1 = .ok (.invokestatic 211, 3) := by decide +kernel
theorem dX10_stones_4 : decode cX10_stones 4 = .ok (.ifCond .eq 22, 3) := by decide +kernel
theorem dX10_stones_7 : decode cX10_stones 7 = .ok (.iload_n 2, 1) := by decide +kernel
theorem dX10_stones_8 : decode cX10_stones 8 = .ok (.invokestatic 87, 3) := by decide +kernel
theorem dX10_stones_11 : decode cX10_stones 11 = .ok (.ifCond .eq 15, 3) := by decide +kernel
theorem dX10_stones_14 : decode cX10_stones 14 = .ok (.iload_n 3, 1) := by decide +kernel
theorem dX10_stones_15 : decode cX10_stones 15 = .ok (.invokestatic 87, 3) := by decide +kernel
theorem dX10_stones_18 : decode cX10_stones 18 = .ok (.ifCond .eq 8, 3) := by decide +kernel
theorem dX10_stones_21 : decode cX10_stones 21 = .ok (.iload_n 2, 1) := by decide +kernel
theorem dX10_stones_22 : decode cX10_stones 22 = .ok (.iload_n 3, 1) := by decide +kernel
theorem dX10_stones_23 : decode cX10_stones 23 = .ok (.if_icmp .ne 8, 3) := by decide +kernel
theorem dX10_stones_26 : decode cX10_stones 26 = .ok (.aload_n 0, 1) := by decide +kernel
theorem dX10_stones_27 : decode cX10_stones 27 = .ok (.invokevirtual 69, 3) := by decide +kernel
theorem dX10_stones_30 : decode cX10_stones 30 = .ok (.ireturn, 1) := by decide +kernel
theorem dX10_stones_31 : decode cX10_stones 31 = .ok (.aload_n 0, 1) := by decide +kernel
theorem dX10_stones_32 : decode cX10_stones 32 = .ok (.getfield 10, 3) := by decide +kernel
theorem dX10_stones_35 : decode cX10_stones 35 = .ok (.getfield 91, 3) := by decide +kernel
theorem dX10_stones_38 : decode cX10_stones 38 = .ok (.iload_n 2, 1) := by decide +kernel
theorem dX10_stones_39 : decode cX10_stones 39 = .ok (.invokevirtual 161, 3) := by decide +kernel
theorem dX10_stones_42 : decode cX10_stones 42 = .ok (.iload_n 1, 1) := by decide +kernel
theorem dX10_stones_43 : decode cX10_stones 43 = .ok (.if_icmp .lt 7, 3) := by decide +kernel
theorem dX10_stones_46 : decode cX10_stones 46 = .ok (.iconst 1, 1) := by decide +kernel
theorem dX10_stones_47 : decode cX10_stones 47 = .ok (.goto 4, 3) := by decide +kernel
theorem dX10_stones_50 : decode cX10_stones 50 = .ok (.iconst 0, 1) := by decide +kernel
theorem dX10_stones_51 : decode cX10_stones 51 = .ok (.istore 4, 2) := by decide +kernel
theorem dX10_stones_53 : decode cX10_stones 53 = .ok (.aload_n 0, 1) := by decide +kernel
theorem dX10_stones_54 : decode cX10_stones 54 = .ok (.getfield 10, 3) := by decide +kernel
theorem dX10_stones_57 : decode cX10_stones 57 = .ok (.getfield 91, 3) := by decide +kernel
theorem dX10_stones_60 : decode cX10_stones 60 = .ok (.iload_n 3, 1) := by decide +kernel
theorem dX10_stones_61 : decode cX10_stones 61 = .ok (.invokevirtual 161, 3) := by decide +kernel
theorem dX10_stones_64 : decode cX10_stones 64 = .ok (.iload_n 1, 1) := by decide +kernel
theorem dX10_stones_65 : decode cX10_stones 65 = .ok (.if_icmp .lt 7, 3) := by decide +kernel
theorem dX10_stones_68 : decode cX10_stones 68 = .ok (.iconst 1, 1) := by decide +kernel
theorem dX10_stones_69 : decode cX10_stones 69 = .ok (.goto 4, 3) := by decide +kernel
theorem dX10_stones_72 : decode cX10_stones 72 = .ok (.iconst 0, 1) := by decide +kernel
theorem dX10_stones_73 : decode cX10_stones 73 = .ok (.istore 5, 2) := by decide +kernel
theorem dX10_stones_75 : decode cX10_stones 75 = .ok (.iload 4, 2) := by decide +kernel
theorem dX10_stones_77 : decode cX10_stones 77 = .ok (.iload 5, 2) := by decide +kernel
theorem dX10_stones_79 : decode cX10_stones 79 = .ok (.if_icmp .ne 5, 3) := by decide +kernel
theorem dX10_stones_82 : decode cX10_stones 82 = .ok (.iconst (-1), 1) := by decide +kernel
theorem dX10_stones_83 : decode cX10_stones 83 = .ok (.ireturn, 1) := by decide +kernel
theorem dX10_stones_84 : decode cX10_stones 84 = .ok (.iload 4, 2) := by decide +kernel
theorem dX10_stones_86 : decode cX10_stones 86 = .ok (.ifCond .eq 7, 3) := by decide +kernel
theorem dX10_stones_89 : decode cX10_stones 89 = .ok (.iload_n 3, 1) := by decide +kernel
theorem dX10_stones_90 : decode cX10_stones 90 = .ok (.goto 4, 3) := by decide +kernel
theorem dX10_stones_93 : decode cX10_stones 93 = .ok (.iload_n 2, 1) := by decide +kernel
theorem dX10_stones_94 : decode cX10_stones 94 = .ok (.ireturn, 1) := by decide +kernel
theorem dX10_note_0 : decode cX10_note 0 = .ok (.iload_n 1, 1) := by decide +kernel
theorem dX10_note_1 : decode cX10_note 1 = .ok (.invokestatic 87, 3) := by decide +kernel
theorem dX10_note_4 : decode cX10_note 4 = .ok (.ifCond .eq 39, 3) := by decide +kernel
theorem dX10_note_7 : decode cX10_note 7 = .ok (.iload_n 2, 1) := by decide +kernel
theorem dX10_note_8 : decode cX10_note 8 = .ok (.iconst 0, 1) := by decide +kernel
theorem dX10_note_9 : decode cX10_note 9 = .ok (.bipush 99, 2) := by decide +kernel
theorem dX10_note_11 : decode cX10_note 11 = .ok (.invokestatic 65, 3) := by decide +kernel
theorem dX10_note_14 : decode cX10_note 14 = .ok (.ifCond .eq 29, 3) := by decide +kernel
theorem dX10_note_17 : decode cX10_note 17 = .ok (.iload_n 3, 1) := by decide +kernel
theorem dX10_note_18 : decode cX10_note 18 = .ok (.invokestatic 111, 3) := by decide +kernel
theorem dX10_note_21 : decode cX10_note 21 = .ok (.ifCond .eq 22, 3) := by decide +kernel
theorem dX10_note_24 : decode cX10_note 24 = .ok (.iload 4, 2) := by decide +kernel
theorem dX10_note_26 : decode cX10_note 26 = .ok (.invokestatic 111, 3) := by decide +kernel
theorem dX10_note_29 : decode cX10_note 29 = .ok (.ifCond .eq 14, 3) := by decide +kernel
theorem dX10_note_32 : decode cX10_note 32 = .ok (.iload 5, 2) := by decide +kernel
theorem dX10_note_34 : decode cX10_note 34 = .ok (.iconst 0, 1) := by decide +kernel
theorem dX10_note_35 : decode cX10_note 35 = .ok (.bipush 99, 2) := by decide +kernel
theorem dX10_note_37 : decode cX10_note 37 = .ok (.invokestatic 65, 3) := by decide +kernel
theorem dX10_note_40 : decode cX10_note 40 = .ok (.ifCond .ne 8, 3) := by decide +kernel
theorem dX10_note_43 : decode cX10_note 43 = .ok (.aload_n 0, 1) := by decide +kernel
theorem dX10_note_44 : decode cX10_note 44 = .ok (.invokevirtual 69, 3) := by decide +kernel
theorem dX10_note_47 : decode cX10_note 47 = .ok (.ireturn, 1) := by decide +kernel
theorem dX10_note_48 : decode cX10_note 48 = .ok (.aload_n 0, 1) := by decide +kernel
theorem dX10_note_49 : decode cX10_note 49 = .ok (.getfield 10, 3) := by decide +kernel
theorem dX10_note_52 : decode cX10_note 52 = .ok (.getfield 266, 3) := by decide +kernel
theorem dX10_note_55 : decode cX10_note 55 = .ok (.getfield 270, 3) := by decide +kernel
theorem dX10_note_58 : decode cX10_note 58 = .ok (.bipush 6, 2) := by decide +kernel
theorem dX10_note_60 : decode cX10_note 60 = .ok (.if_icmp .lt 10, 3) := by decide +kernel
theorem dX10_note_63 : decode cX10_note 63 = .ok (.aload_n 0, 1) := by decide +kernel
theorem dX10_note_64 : decode cX10_note 64 = .ok (.invokevirtual 133, 3) := by decide +kernel
theorem dX10_note_67 : decode cX10_note 67 = .ok (.goto 20, 3) := by decide +kernel
theorem dX10_note_70 : decode cX10_note 70 = .ok (.aload_n 0, 1) := by decide +kernel
theorem dX10_note_71 : decode cX10_note 71 = .ok (.getfield 10, 3) := by decide +kernel
theorem dX10_note_74 : decode cX10_note 74 = .ok (.getfield 266, 3) := by decide +kernel
theorem dX10_note_77 : decode cX10_note 77 = .ok (.iload_n 1, 1) := by decide +kernel
theorem dX10_note_78 : decode cX10_note 78 = .ok (.iload_n 2, 1) := by decide +kernel
theorem dX10_note_79 : decode cX10_note 79 = .ok (.iload_n 3, 1) := by decide +kernel
theorem dX10_note_80 : decode cX10_note 80 = .ok (.iload 4, 2) := by decide +kernel
theorem dX10_note_82 : decode cX10_note 82 = .ok (.iload 5, 2) := by decide +kernel
theorem dX10_note_84 : decode cX10_note 84 = .ok (.invokevirtual 273, 3) := by decide +kernel
theorem dX10_note_87 : decode cX10_note 87 = .ok (.ireturn, 1) := by decide +kernel
theorem dX10_voted_0 : decode cX10_voted 0 = .ok (.aload_n 0, 1) := by decide +kernel
theorem dX10_voted_1 : decode cX10_voted 1 = .ok (.iload_n 1, 1) := by decide +kernel
theorem dX10_voted_2 : decode cX10_voted 2 = .ok (.invokevirtual 187, 3) := by decide +kernel
theorem dX10_voted_5 : decode cX10_voted 5 = .ok (.ifCond .eq 43, 3) := by decide +kernel
theorem dX10_voted_8 : decode cX10_voted 8 = .ok (.iload_n 2, 1) := by decide +kernel
theorem dX10_voted_9 : decode cX10_voted 9 = .ok (.iconst 0, 1) := by decide +kernel
theorem dX10_voted_10 : decode cX10_voted 10 = .ok (.iconst 1, 1) := by decide +kernel
theorem dX10_voted_11 : decode cX10_voted 11 = .ok (.invokestatic 65, 3) := by decide +kernel
theorem dX10_voted_14 : decode cX10_voted 14 = .ok (.ifCond .eq 34, 3) := by decide +kernel
theorem dX10_voted_17 : decode cX10_voted 17 = .ok (.iload_n 3, 1) := by decide +kernel
theorem dX10_voted_18 : decode cX10_voted 18 = .ok (.iconst 0, 1) := by decide +kernel
theorem dX10_voted_19 : decode cX10_voted 19 = .ok (.sipush 198, 3) := by decide +kernel
theorem dX10_voted_22 : decode cX10_voted 22 = .ok (.invokestatic 65, 3) := by decide +kernel
theorem dX10_voted_25 : decode cX10_voted 25 = .ok (.ifCond .eq 23, 3) := by decide +kernel
theorem dX10_voted_28 : decode cX10_voted 28 = .ok (.iload 4, 2) := by decide +kernel
theorem dX10_voted_30 : decode cX10_voted 30 = .ok (.iconst 0, 1) := by decide +kernel
theorem dX10_voted_31 : decode cX10_voted 31 = .ok (.sipush 198, 3) := by decide +kernel
theorem dX10_voted_34 : decode cX10_voted 34 = .ok (.invokestatic 65, 3) := by decide +kernel
theorem dX10_voted_37 : decode cX10_voted 37 = .ok (.ifCond .eq 11, 3) := by decide +kernel
theorem dX10_voted_40 : decode cX10_voted 40 = .ok (.iload 5, 2) := by decide +kernel
theorem dX10_voted_42 : decode cX10_voted 42 = .ok (.invokestatic 111, 3) := by decide +kernel
theorem dX10_voted_45 : decode cX10_voted 45 = .ok (.ifCond .ne 8, 3) := by decide +kernel
theorem dX10_voted_48 : decode cX10_voted 48 = .ok (.aload_n 0, 1) := by decide +kernel
theorem dX10_voted_49 : decode cX10_voted 49 = .ok (.invokevirtual 69, 3) := by decide +kernel
theorem dX10_voted_52 : decode cX10_voted 52 = .ok (.ireturn, 1) := by decide +kernel
theorem dX10_voted_53 : decode cX10_voted 53 = .ok (.aload_n 0, 1) := by decide +kernel
theorem dX10_voted_54 : decode cX10_voted 54 = .ok (.getfield 10, 3) := by decide +kernel
theorem dX10_voted_57 : decode cX10_voted 57 = .ok (.getfield 276, 3) := by decide +kernel
theorem dX10_voted_60 : decode cX10_voted 60 = .ok (.getfield 270, 3) := by decide +kernel
theorem dX10_voted_63 : decode cX10_voted 63 = .ok (.bipush 6, 2) := by decide +kernel
theorem dX10_voted_65 : decode cX10_voted 65 = .ok (.if_icmp .lt 10, 3) := by decide +kernel
theorem dX10_voted_68 : decode cX10_voted 68 = .ok (.aload_n 0, 1) := by decide +kernel
theorem dX10_voted_69 : decode cX10_voted 69 = .ok (.invokevirtual 133, 3) := by decide +kernel
theorem dX10_voted_72 : decode cX10_voted 72 = .ok (.goto 20, 3) := by decide +kernel
theorem dX10_voted_75 : decode cX10_voted 75 = .ok (.aload_n 0, 1) := by decide +kernel
theorem dX10_voted_76 : decode cX10_voted 76 = .ok (.getfield 10, 3) := by decide +kernel
theorem dX10_voted_79 : decode cX10_voted 79 = .ok (.getfield 276, 3) := by decide +kernel
theorem dX10_voted_82 : decode cX10_voted 82 = .ok (.iload_n 1, 1) := by decide +kernel
theorem dX10_voted_83 : decode cX10_voted 83 = .ok (.iload_n 2, 1) := by decide +kernel
theorem dX10_voted_84 : decode cX10_voted 84 = .ok (.iload_n 3, 1) := by decide +kernel
theorem dX10_voted_85 : decode cX10_voted 85 = .ok (.iload 4, 2) := by decide +kernel
theorem dX10_voted_87 : decode cX10_voted 87 = .ok (.iload 5, 2) := by decide +kernel
theorem dX10_voted_89 : decode cX10_voted 89 = .ok (.invokevirtual 273, 3) := by decide +kernel
theorem dX10_voted_92 : decode cX10_voted 92 = .ok (.ireturn, 1) := by decide +kernel
theorem dX10_forget_0 : decode cX10_forget 0 = .ok (.iload_n 1, 1) := by decide +kernel
theorem dX10_forget_1 : decode cX10_forget 1 = .ok (.iconst 0, 1) := by decide +kernel
theorem dX10_forget_2 : decode cX10_forget 2 = .ok (.iconst 1, 1) := by decide +kernel
theorem dX10_forget_3 : decode cX10_forget 3 = .ok (.invokestatic 65, 3) := by decide +kernel
theorem dX10_forget_6 : decode cX10_forget 6 = .ok (.ifCond .ne 8, 3) := by decide +kernel
theorem dX10_forget_9 : decode cX10_forget 9 = .ok (.aload_n 0, 1) := by decide +kernel
theorem dX10_forget_10 : decode cX10_forget 10 = .ok (.invokevirtual 69, 3) := by decide +kernel
theorem dX10_forget_13 : decode cX10_forget 13 = .ok (.ireturn, 1) := by decide +kernel
theorem dX10_forget_14 : decode cX10_forget 14 = .ok (.iload_n 1, 1) := by decide +kernel
theorem dX10_forget_15 : decode cX10_forget 15 = .ok (.ifCond .ne 16, 3) := by decide +kernel
theorem dX10_forget_18 : decode cX10_forget 18 = .ok (.aload_n 0, 1) := by decide +kernel
theorem dX10_forget_19 : decode cX10_forget 19 = .ok (.getfield 10, 3) := by decide +kernel
theorem dX10_forget_22 : decode cX10_forget 22 = .ok (.getfield 266, 3) := by decide +kernel
theorem dX10_forget_25 : decode cX10_forget 25 = .ok (.invokevirtual 279, 3) := by decide +kernel
theorem dX10_forget_28 : decode cX10_forget 28 = .ok (.goto 13, 3) := by decide +kernel
theorem dX10_forget_31 : decode cX10_forget 31 = .ok (.aload_n 0, 1) := by decide +kernel
theorem dX10_forget_32 : decode cX10_forget 32 = .ok (.getfield 10, 3) := by decide +kernel
theorem dX10_forget_35 : decode cX10_forget 35 = .ok (.getfield 276, 3) := by decide +kernel
theorem dX10_forget_38 : decode cX10_forget 38 = .ok (.invokevirtual 279, 3) := by decide +kernel
theorem dX10_forget_41 : decode cX10_forget 41 = .ok (.ireturn, 1) := by decide +kernel
theorem dX10_is_0 : decode cX10_is 0 = .ok (.iload_n 1, 1) := by decide +kernel
theorem dX10_is_1 : decode cX10_is 1 = .ok (.invokestatic 87, 3) := by decide +kernel
theorem dX10_is_4 : decode cX10_is 4 = .ok (.ifCond .eq 11, 3) := by decide +kernel
theorem dX10_is_7 : decode cX10_is 7 = .ok (.aload_n 0, 1) := by decide +kernel
theorem dX10_is_8 : decode cX10_is 8 = .ok (.iload_n 1, 1) := by decide +kernel
theorem dX10_is_9 : decode cX10_is 9 = .ok (.invokevirtual 281, 3) := by decide +kernel
theorem dX10_is_12 : decode cX10_is 12 = .ok (.goto 7, 3) := by decide +kernel
theorem dX10_is_15 : decode cX10_is 15 = .ok (.aload_n 0, 1) := by decide +kernel
theorem dX10_is_16 : decode cX10_is 16 = .ok (.invokevirtual 69, 3) := by decide +kernel
theorem dX10_is_19 : decode cX10_is 19 = .ok (.ireturn, 1) := by decide +kernel
theorem dX10_next_0 : decode cX10_next 0 = .ok (.iload_n 1, 1) := by decide +kernel
theorem dX10_next_1 : decode cX10_next 1 = .ok (.invokestatic 87, 3) := by decide +kernel
theorem dX10_next_4 : decode cX10_next 4 = .ok (.ifCond .ne 8, 3) := by decide +kernel
theorem dX10_next_7 : decode cX10_next 7 = .ok (.aload_n 0, 1) := by decide +kernel
theorem dX10_next_8 : decode cX10_next 8 = .ok (.invokevirtual 69, 3) := by decide +kernel
theorem dX10_next_11 : decode cX10_next 11 = .ok (.ireturn, 1) := by decide +kernel
theorem dX10_next_12 : decode cX10_next 12 = .ok (.aload_n 0, 1) := by decide +kernel
theorem dX10_next_13 : decode cX10_next 13 = .ok (.iload_n 1, 1) := by decide +kernel
theorem dX10_next_14 : decode cX10_next 14 = .ok (.invokevirtual 281, 3) := by decide +kernel
theorem dX10_next_17 : decode cX10_next 17 = .ok (.istore_n 2, 1) := by decide +kernel
theorem dX10_next_18 : decode cX10_next 18 = .ok (.iload_n 2, 1) := by decide +kernel
theorem dX10_next_19 : decode cX10_next 19 = .ok (.ifCond .ne 5, 3) := by decide +kernel
theorem dX10_next_22 : decode cX10_next 22 = .ok (.iconst (-1), 1) := by decide +kernel
theorem dX10_next_23 : decode cX10_next 23 = .ok (.ireturn, 1) := by decide +kernel
theorem dX10_next_24 : decode cX10_next 24 = .ok (.iconst (-1), 1) := by decide +kernel
theorem dX10_next_25 : decode cX10_next 25 = .ok (.istore_n 3, 1) := by decide +kernel
theorem dX10_next_26 : decode cX10_next 26 = .ok (.bipush 7, 2) := by decide +kernel
theorem dX10_next_28 : decode cX10_next 28 = .ok (.istore 4, 2) := by decide +kernel
theorem dX10_next_30 : decode cX10_next 30 = .ok (.iconst 0, 1) := by decide +kernel
theorem dX10_next_31 : decode cX10_next 31 = .ok (.istore 5, 2) := by decide +kernel
theorem dX10_next_33 : decode cX10_next 33 = .ok (.iload 5, 2) := by decide +kernel
theorem dX10_next_35 : decode cX10_next 35 = .ok (.bipush 100, 2) := by decide +kernel
theorem dX10_next_37 : decode cX10_next 37 = .ok (.if_icmp .ge 51, 3) := by decide +kernel
theorem dX10_next_40 : decode cX10_next 40 = .ok (.aload_n 0, 1) := by decide +kernel
theorem dX10_next_41 : decode cX10_next 41 = .ok (.iload_n 2, 1) := by decide +kernel
theorem dX10_next_42 : decode cX10_next 42 = .ok (.aload_n 0, 1) := by decide +kernel
theorem dX10_next_43 : decode cX10_next 43 = .ok (.getfield 10, 3) := by decide +kernel
theorem dX10_next_46 : decode cX10_next 46 = .ok (.getfield 91, 3) := by decide +kernel
theorem dX10_next_49 : decode cX10_next 49 = .ok (.iload_n 1, 1) := by decide +kernel
theorem dX10_next_50 : decode cX10_next 50 = .ok (.invokevirtual 164, 3) := by decide +kernel
theorem dX10_next_53 : decode cX10_next 53 = .ok (.iload 5, 2) := by decide +kernel
theorem dX10_next_55 : decode cX10_next 55 = .ok (.bipush 10, 2) := by decide +kernel
theorem dX10_next_57 : decode cX10_next 57 = .ok (.idiv, 1) := by decide +kernel
theorem dX10_next_58 : decode cX10_next 58 = .ok (.iload 5, 2) := by decide +kernel
theorem dX10_next_60 : decode cX10_next 60 = .ok (.bipush 10, 2) := by decide +kernel
theorem dX10_next_62 : decode cX10_next 62 = .ok (.irem, 1) := by decide +kernel
theorem dX10_next_63 : decode cX10_next 63 = .ok (.invokevirtual 284, 3) := by decide +kernel
theorem dX10_next_66 : decode cX10_next 66 = .ok (.istore 6, 2) := by decide +kernel
theorem dX10_next_68 : decode cX10_next 68 = .ok (.iload 6, 2) := by decide +kernel
theorem dX10_next_70 : decode cX10_next 70 = .ok (.iload 4, 2) := by decide +kernel
theorem dX10_next_72 : decode cX10_next 72 = .ok (.if_icmp .ge 10, 3) := by decide +kernel
theorem dX10_next_75 : decode cX10_next 75 = .ok (.iload 6, 2) := by decide +kernel
theorem dX10_next_77 : decode cX10_next 77 = .ok (.istore 4, 2) := by decide +kernel
theorem dX10_next_79 : decode cX10_next 79 = .ok (.iload 5, 2) := by decide +kernel
theorem dX10_next_81 : decode cX10_next 81 = .ok (.istore_n 3, 1) := by decide +kernel
theorem dX10_next_82 : decode cX10_next 82 = .ok (.iinc 5 1, 3) := by decide +kernel
theorem dX10_next_85 : decode cX10_next 85 = .ok (.goto (-52), 3) := by decide +kernel
theorem dX10_next_88 : decode cX10_next 88 = .ok (.iload_n 3, 1) := by decide +kernel
theorem dX10_next_89 : decode cX10_next 89 = .ok (.ireturn, 1) := by decide +kernel
theorem dX10_who_0 : decode cX10_who 0 = .ok (.aload_n 0, 1) := by decide +kernel
theorem dX10_who_1 : decode cX10_who 1 = .ok (.iload_n 1, 1) := by decide +kernel
theorem dX10_who_2 : decode cX10_who 2 = .ok (.invokevirtual 187, 3) := by decide +kernel
theorem dX10_who_5 : decode cX10_who 5 = .ok (.ifCond .ne 8, 3) := by decide +kernel
theorem dX10_who_8 : decode cX10_who 8 = .ok (.aload_n 0, 1) := by decide +kernel
theorem dX10_who_9 : decode cX10_who 9 = .ok (.invokevirtual 69, 3) := by decide +kernel
theorem dX10_who_12 : decode cX10_who 12 = .ok (.ireturn, 1) := by decide +kernel
theorem dX10_who_13 : decode cX10_who 13 = .ok (.iconst 0, 1) := by decide +kernel
theorem dX10_who_14 : decode cX10_who 14 = .ok (.istore_n 2, 1) := by decide +kernel
theorem dX10_who_15 : decode cX10_who 15 = .ok (.iconst 0, 1) := by decide +kernel
theorem dX10_who_16 : decode cX10_who 16 = .ok (.istore_n 3, 1) := by decide +kernel
theorem dX10_who_17 : decode cX10_who 17 = .ok (.iload_n 3, 1) := by decide +kernel
theorem dX10_who_18 : decode cX10_who 18 = .ok (.bipush 6, 2) := by decide +kernel
theorem dX10_who_20 : decode cX10_who 20 = .ok (.if_icmp .ge 24, 3) := by decide +kernel
theorem dX10_who_23 : decode cX10_who 23 = .ok (.aload_n 0, 1) := by decide +kernel
theorem dX10_who_24 : decode cX10_who 24 = .ok (.iload_n 3, 1) := by decide +kernel
theorem dX10_who_25 : decode cX10_who 25 = .ok (.iload_n 1, 1) := by decide +kernel
theorem dX10_who_26 : decode cX10_who 26 = .ok (.invokevirtual 288, 3) := by decide +kernel
theorem dX10_who_29 : decode cX10_who 29 = .ok (.ifCond .eq 9, 3) := by decide +kernel
theorem dX10_who_32 : decode cX10_who 32 = .ok (.iload_n 2, 1) := by decide +kernel
theorem dX10_who_33 : decode cX10_who 33 = .ok (.iconst 1, 1) := by decide +kernel
theorem dX10_who_34 : decode cX10_who 34 = .ok (.iload_n 3, 1) := by decide +kernel
theorem dX10_who_35 : decode cX10_who 35 = .ok (.ishl, 1) := by decide +kernel
theorem dX10_who_36 : decode cX10_who 36 = .ok (.ior, 1) := by decide +kernel
theorem dX10_who_37 : decode cX10_who 37 = .ok (.istore_n 2, 1) := by decide +kernel
theorem dX10_who_38 : decode cX10_who 38 = .ok (.iinc 3 1, 3) := by decide +kernel
theorem dX10_who_41 : decode cX10_who 41 = .ok (.goto (-24), 3) := by decide +kernel
theorem dX10_who_44 : decode cX10_who 44 = .ok (.iload_n 2, 1) := by decide +kernel
theorem dX10_who_45 : decode cX10_who 45 = .ok (.ireturn, 1) := by decide +kernel
theorem dX10_two_0 : decode cX10_two 0 = .ok (.aload_n 0, 1) := by decide +kernel
theorem dX10_two_1 : decode cX10_two 1 = .ok (.iload_n 1, 1) := by decide +kernel
theorem dX10_two_2 : decode cX10_two 2 = .ok (.invokevirtual 187, 3) := by decide +kernel
theorem dX10_two_5 : decode cX10_two 5 = .ok (.ifCond .eq 16, 3) := by decide +kernel
theorem dX10_two_8 : decode cX10_two 8 = .ok (.aload_n 0, 1) := by decide +kernel
theorem dX10_two_9 : decode cX10_two 9 = .ok (.iload_n 2, 1) := by decide +kernel
theorem dX10_two_10 : decode cX10_two 10 = .ok (.invokevirtual 187, 3) := by decide +kernel
theorem dX10_two_13 : decode cX10_two 13 = .ok (.ifCond .eq 8, 3) := by decide +kernel
theorem dX10_two_16 : decode cX10_two 16 = .ok (.iload_n 1, 1) := by decide +kernel
theorem dX10_two_17 : decode cX10_two 17 = .ok (.iload_n 2, 1) := by decide +kernel
theorem dX10_two_18 : decode cX10_two 18 = .ok (.if_icmp .ne 8, 3) := by decide +kernel
theorem dX10_two_21 : decode cX10_two 21 = .ok (.aload_n 0, 1) := by decide +kernel
theorem dX10_two_22 : decode cX10_two 22 = .ok (.invokevirtual 69, 3) := by decide +kernel
theorem dX10_two_25 : decode cX10_two 25 = .ok (.ireturn, 1) := by decide +kernel
theorem dX10_two_26 : decode cX10_two 26 = .ok (.aload_n 0, 1) := by decide +kernel
theorem dX10_two_27 : decode cX10_two 27 = .ok (.getfield 10, 3) := by decide +kernel
theorem dX10_two_30 : decode cX10_two 30 = .ok (.getfield 73, 3) := by decide +kernel
theorem dX10_two_33 : decode cX10_two 33 = .ok (.aload_n 0, 1) := by decide +kernel
theorem dX10_two_34 : decode cX10_two 34 = .ok (.getfield 10, 3) := by decide +kernel
theorem dX10_two_37 : decode cX10_two 37 = .ok (.getfield 91, 3) := by decide +kernel
theorem dX10_two_40 : decode cX10_two 40 = .ok (.invokevirtual 260, 3) := by decide +kernel
theorem dX10_two_43 : decode cX10_two 43 = .ok (.istore_n 3, 1) := by decide +kernel
theorem dX10_two_44 : decode cX10_two 44 = .ok (.aload_n 0, 1) := by decide +kernel
theorem dX10_two_45 : decode cX10_two 45 = .ok (.invokevirtual 197, 3) := by decide +kernel
theorem dX10_two_48 : decode cX10_two 48 = .ok (.iconst 1, 1) := by decide +kernel
theorem dX10_two_49 : decode cX10_two 49 = .ok (.iload_n 1, 1) := by decide +kernel
theorem dX10_two_50 : decode cX10_two 50 = .ok (.ishl, 1) := by decide +kernel
theorem dX10_two_51 : decode cX10_two 51 = .ok (.iconst (-1), 1) := by decide +kernel
theorem dX10_two_52 : decode cX10_two 52 = .ok (.ixor, 1) := by decide +kernel
theorem dX10_two_53 : decode cX10_two 53 = .ok (.iand, 1) := by decide +kernel
theorem dX10_two_54 : decode cX10_two 54 = .ok (.iconst 1, 1) := by decide +kernel
theorem dX10_two_55 : decode cX10_two 55 = .ok (.iload_n 2, 1) := by decide +kernel
theorem dX10_two_56 : decode cX10_two 56 = .ok (.ishl, 1) := by decide +kernel
theorem dX10_two_57 : decode cX10_two 57 = .ok (.iconst (-1), 1) := by decide +kernel
theorem dX10_two_58 : decode cX10_two 58 = .ok (.ixor, 1) := by decide +kernel
theorem dX10_two_59 : decode cX10_two 59 = .ok (.iand, 1) := by decide +kernel
theorem dX10_two_60 : decode cX10_two 60 = .ok (.istore 4, 2) := by decide +kernel
theorem dX10_two_62 : decode cX10_two 62 = .ok (.iconst 0, 1) := by decide +kernel
theorem dX10_two_63 : decode cX10_two 63 = .ok (.istore 5, 2) := by decide +kernel
theorem dX10_two_65 : decode cX10_two 65 = .ok (.iconst 0, 1) := by decide +kernel
theorem dX10_two_66 : decode cX10_two 66 = .ok (.istore 6, 2) := by decide +kernel
theorem dX10_two_68 : decode cX10_two 68 = .ok (.iload 6, 2) := by decide +kernel
theorem dX10_two_70 : decode cX10_two 70 = .ok (.iconst 4, 1) := by decide +kernel
theorem dX10_two_71 : decode cX10_two 71 = .ok (.if_icmp .ge 150, 3) := by decide +kernel
theorem dX10_two_74 : decode cX10_two 74 = .ok (.iload 4, 2) := by decide +kernel
theorem dX10_two_76 : decode cX10_two 76 = .ok (.iload 6, 2) := by decide +kernel
theorem dX10_two_78 : decode cX10_two 78 = .ok (.iconst 0, 1) := by decide +kernel
theorem dX10_two_79 : decode cX10_two 79 = .ok (.invokestatic 200, 3) := by decide +kernel
theorem dX10_two_82 : decode cX10_two 82 = .ok (.ifCond .eq 9, 3) := by decide +kernel
theorem dX10_two_85 : decode cX10_two 85 = .ok (.iconst 1, 1) := by decide +kernel
theorem dX10_two_86 : decode cX10_two 86 = .ok (.iload_n 1, 1) := by decide +kernel
theorem dX10_two_87 : decode cX10_two 87 = .ok (.ishl, 1) := by decide +kernel
theorem dX10_two_88 : decode cX10_two 88 = .ok (.goto 4, 3) := by decide +kernel
theorem dX10_two_91 : decode cX10_two 91 = .ok (.iconst 0, 1) := by decide +kernel
theorem dX10_two_92 : decode cX10_two 92 = .ok (.ior, 1) := by decide +kernel
theorem dX10_two_93 : decode cX10_two 93 = .ok (.iload 6, 2) := by decide +kernel
theorem dX10_two_95 : decode cX10_two 95 = .ok (.iconst 1, 1) := by decide +kernel
theorem dX10_two_96 : decode cX10_two 96 = .ok (.invokestatic 200, 3) := by decide +kernel
theorem dX10_two_99 : decode cX10_two 99 = .ok (.ifCond .eq 9, 3) := by decide +kernel
theorem dX10_two_102 : decode cX10_two 102 = .ok (.iconst 1, 1) := by decide +kernel
theorem dX10_two_103 : decode cX10_two 103 = .ok (.iload_n 2, 1) := by decide +kernel
theorem dX10_two_104 : decode cX10_two 104 = .ok (.ishl, 1) := by decide +kernel
theorem dX10_two_105 : decode cX10_two 105 = .ok (.goto 4, 3) := by decide +kernel
theorem dX10_two_108 : decode cX10_two 108 = .ok (.iconst 0, 1) := by decide +kernel
theorem dX10_two_109 : decode cX10_two 109 = .ok (.ior, 1) := by decide +kernel
theorem dX10_two_110 : decode cX10_two 110 = .ok (.istore 7, 2) := by decide +kernel
theorem dX10_two_112 : decode cX10_two 112 = .ok (.aload_n 0, 1) := by decide +kernel
theorem dX10_two_113 : decode cX10_two 113 = .ok (.getfield 10, 3) := by decide +kernel
theorem dX10_two_116 : decode cX10_two 116 = .ok (.getfield 73, 3) := by decide +kernel
theorem dX10_two_119 : decode cX10_two 119 = .ok (.iload_n 1, 1) := by decide +kernel
theorem dX10_two_120 : decode cX10_two 120 = .ok (.iload 7, 2) := by decide +kernel
theorem dX10_two_122 : decode cX10_two 122 = .ok (.iload_n 3, 1) := by decide +kernel
theorem dX10_two_123 : decode cX10_two 123 = .ok (.invokevirtual 291, 3) := by decide +kernel
theorem dX10_two_126 : decode cX10_two 126 = .ok (.aload_n 0, 1) := by decide +kernel
theorem dX10_two_127 : decode cX10_two 127 = .ok (.getfield 10, 3) := by decide +kernel
theorem dX10_two_130 : decode cX10_two 130 = .ok (.getfield 73, 3) := by decide +kernel
theorem dX10_two_133 : decode cX10_two 133 = .ok (.iload_n 1, 1) := by decide +kernel
theorem dX10_two_134 : decode cX10_two 134 = .ok (.iload 7, 2) := by decide +kernel
theorem dX10_two_136 : decode cX10_two 136 = .ok (.iconst 1, 1) := by decide +kernel
theorem dX10_two_137 : decode cX10_two 137 = .ok (.iload_n 1, 1) := by decide +kernel
theorem dX10_two_138 : decode cX10_two 138 = .ok (.ishl, 1) := by decide +kernel
theorem dX10_two_139 : decode cX10_two 139 = .ok (.ixor, 1) := by decide +kernel
theorem dX10_two_140 : decode cX10_two 140 = .ok (.iload_n 3, 1) := by decide +kernel
theorem dX10_two_141 : decode cX10_two 141 = .ok (.invokevirtual 291, 3) := by decide +kernel
theorem dX10_two_144 : decode cX10_two 144 = .ok (.if_icmp .lt 7, 3) := by decide +kernel
theorem dX10_two_147 : decode cX10_two 147 = .ok (.iconst 1, 1) := by decide +kernel
theorem dX10_two_148 : decode cX10_two 148 = .ok (.goto 4, 3) := by decide +kernel
theorem dX10_two_151 : decode cX10_two 151 = .ok (.iconst 0, 1) := by decide +kernel
theorem dX10_two_152 : decode cX10_two 152 = .ok (.istore 8, 2) := by decide +kernel
theorem dX10_two_154 : decode cX10_two 154 = .ok (.aload_n 0, 1) := by decide +kernel
theorem dX10_two_155 : decode cX10_two 155 = .ok (.getfield 10, 3) := by decide +kernel
theorem dX10_two_158 : decode cX10_two 158 = .ok (.getfield 73, 3) := by decide +kernel
theorem dX10_two_161 : decode cX10_two 161 = .ok (.iload_n 2, 1) := by decide +kernel
theorem dX10_two_162 : decode cX10_two 162 = .ok (.iload 7, 2) := by decide +kernel
theorem dX10_two_164 : decode cX10_two 164 = .ok (.iload_n 3, 1) := by decide +kernel
theorem dX10_two_165 : decode cX10_two 165 = .ok (.invokevirtual 291, 3) := by decide +kernel
theorem dX10_two_168 : decode cX10_two 168 = .ok (.aload_n 0, 1) := by decide +kernel
theorem dX10_two_169 : decode cX10_two 169 = .ok (.getfield 10, 3) := by decide +kernel
theorem dX10_two_172 : decode cX10_two 172 = .ok (.getfield 73, 3) := by decide +kernel
theorem dX10_two_175 : decode cX10_two 175 = .ok (.iload_n 2, 1) := by decide +kernel
theorem dX10_two_176 : decode cX10_two 176 = .ok (.iload 7, 2) := by decide +kernel
theorem dX10_two_178 : decode cX10_two 178 = .ok (.iconst 1, 1) := by decide +kernel
theorem dX10_two_179 : decode cX10_two 179 = .ok (.iload_n 2, 1) := by decide +kernel
theorem dX10_two_180 : decode cX10_two 180 = .ok (.ishl, 1) := by decide +kernel
theorem dX10_two_181 : decode cX10_two 181 = .ok (.ixor, 1) := by decide +kernel
theorem dX10_two_182 : decode cX10_two 182 = .ok (.iload_n 3, 1) := by decide +kernel
theorem dX10_two_183 : decode cX10_two 183 = .ok (.invokevirtual 291, 3) := by decide +kernel
theorem dX10_two_186 : decode cX10_two 186 = .ok (.if_icmp .lt 7, 3) := by decide +kernel
theorem dX10_two_189 : decode cX10_two 189 = .ok (.iconst 1, 1) := by decide +kernel
theorem dX10_two_190 : decode cX10_two 190 = .ok (.goto 4, 3) := by decide +kernel
theorem dX10_two_193 : decode cX10_two 193 = .ok (.iconst 0, 1) := by decide +kernel
theorem dX10_two_194 : decode cX10_two 194 = .ok (.istore 9, 2) := by decide +kernel
theorem dX10_two_196 : decode cX10_two 196 = .ok (.iload 8, 2) := by decide +kernel
theorem dX10_two_198 : decode cX10_two 198 = .ok (.ifCond .eq 17, 3) := by decide +kernel
theorem dX10_two_201 : decode cX10_two 201 = .ok (.iload 9, 2) := by decide +kernel
theorem dX10_two_203 : decode cX10_two 203 = .ok (.ifCond .eq 12, 3) := by decide +kernel
theorem dX10_two_206 : decode cX10_two 206 = .ok (.iload 5, 2) := by decide +kernel
theorem dX10_two_208 : decode cX10_two 208 = .ok (.iconst 1, 1) := by decide +kernel
theorem dX10_two_209 : decode cX10_two 209 = .ok (.iload 6, 2) := by decide +kernel
theorem dX10_two_211 : decode cX10_two 211 = .ok (.ishl, 1) := by decide +kernel
theorem dX10_two_212 : decode cX10_two 212 = .ok (.ior, 1) := by decide +kernel
theorem dX10_two_213 : decode cX10_two 213 = .ok (.istore 5, 2) := by decide +kernel
theorem dX10_two_215 : decode cX10_two 215 = .ok (.iinc 6 1, 3) := by decide +kernel
theorem dX10_two_218 : decode cX10_two 218 = .ok (.goto (-150), 3) := by decide +kernel
theorem dX10_two_221 : decode cX10_two 221 = .ok (.iload 5, 2) := by decide +kernel
theorem dX10_two_223 : decode cX10_two 223 = .ok (.ireturn, 1) := by decide +kernel
theorem dX10_thaw_0 : decode cX10_thaw 0 = .ok (.iload_n 1, 1) := by decide +kernel
theorem dX10_thaw_1 : decode cX10_thaw 1 = .ok (.invokestatic 87, 3) := by decide +kernel
theorem dX10_thaw_4 : decode cX10_thaw 4 = .ok (.ifCond .eq 31, 3) := by decide +kernel
theorem dX10_thaw_7 : decode cX10_thaw 7 = .ok (.iload_n 2, 1) := by decide +kernel
theorem dX10_thaw_8 : decode cX10_thaw 8 = .ok (.invokestatic 211, 3) := by decide +kernel
theorem dX10_thaw_11 : decode cX10_thaw 11 = .ok (.ifCond .eq 24, 3) := by decide +kernel
theorem dX10_thaw_14 : decode cX10_thaw 14 = .ok (.iload_n 3, 1) := by decide +kernel
theorem dX10_thaw_15 : decode cX10_thaw 15 = .ok (.iconst 0, 1) := by decide +kernel
theorem dX10_thaw_16 : decode cX10_thaw 16 = .ok (.bipush 8, 2) := by decide +kernel
theorem dX10_thaw_18 : decode cX10_thaw 18 = .ok (.invokestatic 65, 3) := by decide +kernel
theorem dX10_thaw_21 : decode cX10_thaw 21 = .ok (.ifCond .eq 14, 3) := by decide +kernel
theorem dX10_thaw_24 : decode cX10_thaw 24 = .ok (.iload 4, 2) := by decide +kernel
theorem dX10_thaw_26 : decode cX10_thaw 26 = .ok (.iconst 0, 1) := by decide +kernel
theorem dX10_thaw_27 : decode cX10_thaw 27 = .ok (.bipush 10, 2) := by decide +kernel
theorem dX10_thaw_29 : decode cX10_thaw 29 = .ok (.invokestatic 65, 3) := by decide +kernel
theorem dX10_thaw_32 : decode cX10_thaw 32 = .ok (.ifCond .ne 8, 3) := by decide +kernel
theorem dX10_thaw_35 : decode cX10_thaw 35 = .ok (.aload_n 0, 1) := by decide +kernel
theorem dX10_thaw_36 : decode cX10_thaw 36 = .ok (.invokevirtual 69, 3) := by decide +kernel
theorem dX10_thaw_39 : decode cX10_thaw 39 = .ok (.ireturn, 1) := by decide +kernel
theorem dX10_thaw_40 : decode cX10_thaw 40 = .ok (.aload_n 0, 1) := by decide +kernel
theorem dX10_thaw_41 : decode cX10_thaw 41 = .ok (.getfield 10, 3) := by decide +kernel
theorem dX10_thaw_44 : decode cX10_thaw 44 = .ok (.getfield 91, 3) := by decide +kernel
theorem dX10_thaw_47 : decode cX10_thaw 47 = .ok (.iload_n 1, 1) := by decide +kernel
theorem dX10_thaw_48 : decode cX10_thaw 48 = .ok (.invokevirtual 94, 3) := by decide +kernel
theorem dX10_thaw_51 : decode cX10_thaw 51 = .ok (.istore 5, 2) := by decide +kernel
theorem dX10_thaw_53 : decode cX10_thaw 53 = .ok (.aload_n 0, 1) := by decide +kernel
theorem dX10_thaw_54 : decode cX10_thaw 54 = .ok (.getfield 51, 3) := by decide +kernel
theorem dX10_thaw_57 : decode cX10_thaw 57 = .ok (.lconst 0, 1) := by decide +kernel
theorem dX10_thaw_58 : decode cX10_thaw 58 = .ok (.invokestatic 294, 3) := by decide +kernel
theorem dX10_thaw_61 : decode cX10_thaw 61 = .ok (.aload_n 0, 1) := by decide +kernel
theorem dX10_thaw_62 : decode cX10_thaw 62 = .ok (.getfield 51, 3) := by decide +kernel
theorem dX10_thaw_65 : decode cX10_thaw 65 = .ok (.aload_n 0, 1) := by decide +kernel
theorem dX10_thaw_66 : decode cX10_thaw 66 = .ok (.getfield 10, 3) := by decide +kernel
theorem dX10_thaw_69 : decode cX10_thaw 69 = .ok (.getfield 91, 3) := by decide +kernel
theorem dX10_thaw_72 : decode cX10_thaw 72 = .ok (.iload_n 1, 1) := by decide +kernel
theorem dX10_thaw_73 : decode cX10_thaw 73 = .ok (.invokevirtual 164, 3) := by decide +kernel
theorem dX10_thaw_76 : decode cX10_thaw 76 = .ok (.lconst 1, 1) := by decide +kernel
theorem dX10_thaw_77 : decode cX10_thaw 77 = .ok (.invokestatic 300, 3) := by decide +kernel
theorem dX10_thaw_80 : decode cX10_thaw 80 = .ok (.lconst 1, 1) := by decide +kernel
theorem dX10_thaw_81 : decode cX10_thaw 81 = .ok (.lstore 6, 2) := by decide +kernel
theorem dX10_thaw_83 : decode cX10_thaw 83 = .ok (.iconst 0, 1) := by decide +kernel
theorem dX10_thaw_84 : decode cX10_thaw 84 = .ok (.istore 8, 2) := by decide +kernel
theorem dX10_thaw_86 : decode cX10_thaw 86 = .ok (.iload 8, 2) := by decide +kernel
theorem dX10_thaw_88 : decode cX10_thaw 88 = .ok (.iload_n 3, 1) := by decide +kernel
theorem dX10_thaw_89 : decode cX10_thaw 89 = .ok (.if_icmp .ge 35, 3) := by decide +kernel
theorem dX10_thaw_92 : decode cX10_thaw 92 = .ok (.aload_n 0, 1) := by decide +kernel
theorem dX10_thaw_93 : decode cX10_thaw 93 = .ok (.iload 5, 2) := by decide +kernel
theorem dX10_thaw_95 : decode cX10_thaw 95 = .ok (.aload_n 0, 1) := by decide +kernel
theorem dX10_thaw_96 : decode cX10_thaw 96 = .ok (.getfield 10, 3) := by decide +kernel
theorem dX10_thaw_99 : decode cX10_thaw 99 = .ok (.getfield 184, 3) := by decide +kernel
theorem dX10_thaw_102 : decode cX10_thaw 102 = .ok (.iload 8, 2) := by decide +kernel
theorem dX10_thaw_104 : decode cX10_thaw 104 = .ok (.iadd, 1) := by decide +kernel
theorem dX10_thaw_105 : decode cX10_thaw 105 = .ok (.iload 4, 2) := by decide +kernel
theorem dX10_thaw_107 : decode cX10_thaw 107 = .ok (.invokevirtual 304, 3) := by decide +kernel
theorem dX10_thaw_110 : decode cX10_thaw 110 = .ok (.lload 6, 2) := by decide +kernel
theorem dX10_thaw_112 : decode cX10_thaw 112 = .ok (.ldc2_w 307, 3) := by decide +kernel
theorem dX10_thaw_115 : decode cX10_thaw 115 = .ok (.lmul, 1) := by decide +kernel
theorem dX10_thaw_116 : decode cX10_thaw 116 = .ok (.lstore 6, 2) := by decide +kernel
theorem dX10_thaw_118 : decode cX10_thaw 118 = .ok (.iinc 8 1, 3) := by decide +kernel
theorem dX10_thaw_121 : decode cX10_thaw 121 = .ok (.goto (-35), 3) := by decide +kernel
theorem dX10_thaw_124 : decode cX10_thaw 124 = .ok (.lconst 0, 1) := by decide +kernel
theorem dX10_thaw_125 : decode cX10_thaw 125 = .ok (.lstore 8, 2) := by decide +kernel
theorem dX10_thaw_127 : decode cX10_thaw 127 = .ok (.iconst 0, 1) := by decide +kernel
theorem dX10_thaw_128 : decode cX10_thaw 128 = .ok (.istore 10, 2) := by decide +kernel
theorem dX10_thaw_130 : decode cX10_thaw 130 = .ok (.iload 10, 2) := by decide +kernel
theorem dX10_thaw_132 : decode cX10_thaw 132 = .ok (.bipush 99, 2) := by decide +kernel
theorem dX10_thaw_134 : decode cX10_thaw 134 = .ok (.if_icmp .gt 36, 3) := by decide +kernel
theorem dX10_thaw_137 : decode cX10_thaw 137 = .ok (.lload 8, 2) := by decide +kernel
theorem dX10_thaw_139 : decode cX10_thaw 139 = .ok (.iload 5, 2) := by decide +kernel
theorem dX10_thaw_141 : decode cX10_thaw 141 = .ok (.iload 10, 2) := by decide +kernel
theorem dX10_thaw_143 : decode cX10_thaw 143 = .ok (.invokestatic 207, 3) := by decide +kernel
theorem dX10_thaw_146 : decode cX10_thaw 146 = .ok (.iload_n 2, 1) := by decide +kernel
theorem dX10_thaw_147 : decode cX10_thaw 147 = .ok (.if_icmp .lt 13, 3) := by decide +kernel
theorem dX10_thaw_150 : decode cX10_thaw 150 = .ok (.aload_n 0, 1) := by decide +kernel
theorem dX10_thaw_151 : decode cX10_thaw 151 = .ok (.getfield 51, 3) := by decide +kernel
theorem dX10_thaw_154 : decode cX10_thaw 154 = .ok (.iload 10, 2) := by decide +kernel
theorem dX10_thaw_156 : decode cX10_thaw 156 = .ok (.laload, 1) := by decide +kernel
theorem dX10_thaw_157 : decode cX10_thaw 157 = .ok (.goto 4, 3) := by decide +kernel
theorem dX10_thaw_160 : decode cX10_thaw 160 = .ok (.lconst 0, 1) := by decide +kernel
theorem dX10_thaw_161 : decode cX10_thaw 161 = .ok (.ladd, 1) := by decide +kernel
theorem dX10_thaw_162 : decode cX10_thaw 162 = .ok (.lstore 8, 2) := by decide +kernel
theorem dX10_thaw_164 : decode cX10_thaw 164 = .ok (.iinc 10 1, 3) := by decide +kernel
theorem dX10_thaw_167 : decode cX10_thaw 167 = .ok (.goto (-37), 3) := by decide +kernel
theorem dX10_thaw_170 : decode cX10_thaw 170 = .ok (.aload_n 0, 1) := by decide +kernel
theorem dX10_thaw_171 : decode cX10_thaw 171 = .ok (.lload 8, 2) := by decide +kernel
theorem dX10_thaw_173 : decode cX10_thaw 173 = .ok (.lload 6, 2) := by decide +kernel
theorem dX10_thaw_175 : decode cX10_thaw 175 = .ok (.invokevirtual 309, 3) := by decide +kernel
theorem dX10_thaw_178 : decode cX10_thaw 178 = .ok (.iconst 1, 1) := by decide +kernel
theorem dX10_thaw_179 : decode cX10_thaw 179 = .ok (.ireturn, 1) := by decide +kernel
theorem dX10_winters_0 : decode cX10_winters 0 = .ok (.iload_n 1, 1) := by decide +kernel
theorem dX10_winters_1 : decode cX10_winters 1 = .ok (.iconst 0, 1) := by decide +kernel
theorem dX10_winters_2 : decode cX10_winters 2 = .ok (.ldc_w 313, 3) := by decide +kernel
theorem dX10_winters_5 : decode cX10_winters 5 = .ok (.invokestatic 65, 3) := by decide +kernel
theorem dX10_winters_8 : decode cX10_winters 8 = .ok (.ifCond .eq 13, 3) := by decide +kernel
theorem dX10_winters_11 : decode cX10_winters 11 = .ok (.iload_n 2, 1) := by decide +kernel
theorem dX10_winters_12 : decode cX10_winters 12 = .ok (.iconst 0, 1) := by decide +kernel
theorem dX10_winters_13 : decode cX10_winters 13 = .ok (.bipush 60, 2) := by decide +kernel
theorem dX10_winters_15 : decode cX10_winters 15 = .ok (.invokestatic 65, 3) := by decide +kernel
theorem dX10_winters_18 : decode cX10_winters 18 = .ok (.ifCond .ne 8, 3) := by decide +kernel
theorem dX10_winters_21 : decode cX10_winters 21 = .ok (.aload_n 0, 1) := by decide +kernel
theorem dX10_winters_22 : decode cX10_winters 22 = .ok (.invokevirtual 69, 3) := by decide +kernel
theorem dX10_winters_25 : decode cX10_winters 25 = .ok (.ireturn, 1) := by decide +kernel
theorem dX10_winters_26 : decode cX10_winters 26 = .ok (.aload_n 0, 1) := by decide +kernel
theorem dX10_winters_27 : decode cX10_winters 27 = .ok (.getfield 26, 3) := by decide +kernel
theorem dX10_winters_30 : decode cX10_winters 30 = .ok (.aload_n 0, 1) := by decide +kernel
theorem dX10_winters_31 : decode cX10_winters 31 = .ok (.getfield 10, 3) := by decide +kernel
theorem dX10_winters_34 : decode cX10_winters 34 = .ok (.getfield 91, 3) := by decide +kernel
theorem dX10_winters_37 : decode cX10_winters 37 = .ok (.invokevirtual 218, 3) := by decide +kernel
theorem dX10_winters_40 : decode cX10_winters 40 = .ok (.iload_n 1, 1) := by decide +kernel
theorem dX10_winters_41 : decode cX10_winters 41 = .ok (.i2l, 1) := by decide +kernel
theorem dX10_winters_42 : decode cX10_winters 42 = .ok (.lstore_n 3, 1) := by decide +kernel
theorem dX10_winters_43 : decode cX10_winters 43 = .ok (.iconst 0, 1) := by decide +kernel
theorem dX10_winters_44 : decode cX10_winters 44 = .ok (.istore 5, 2) := by decide +kernel
theorem dX10_winters_46 : decode cX10_winters 46 = .ok (.iconst 0, 1) := by decide +kernel
theorem dX10_winters_47 : decode cX10_winters 47 = .ok (.istore 6, 2) := by decide +kernel
theorem dX10_winters_49 : decode cX10_winters 49 = .ok (.iload 6, 2) := by decide +kernel
theorem dX10_winters_51 : decode cX10_winters 51 = .ok (.iload_n 2, 1) := by decide +kernel
theorem dX10_winters_52 : decode cX10_winters 52 = .ok (.if_icmp .ge 82, 3) := by decide +kernel
theorem dX10_winters_55 : decode cX10_winters 55 = .ok (.lload_n 3, 1) := by decide +kernel
theorem dX10_winters_56 : decode cX10_winters 56 = .ok (.ldc2_w 314, 3) := by decide +kernel
theorem dX10_winters_59 : decode cX10_winters 59 = .ok (.lmul, 1) := by decide +kernel
theorem dX10_winters_60 : decode cX10_winters 60 = .ok (.ldc2_w 316, 3) := by decide +kernel
theorem dX10_winters_63 : decode cX10_winters 63 = .ok (.ladd, 1) := by decide +kernel
theorem dX10_winters_64 : decode cX10_winters 64 = .ok (.ldc2_w 318, 3) := by decide +kernel
theorem dX10_winters_67 : decode cX10_winters 67 = .ok (.lrem, 1) := by decide +kernel
theorem dX10_winters_68 : decode cX10_winters 68 = .ok (.lstore_n 3, 1) := by decide +kernel
theorem dX10_winters_69 : decode cX10_winters 69 = .ok (.lload_n 3, 1) := by decide +kernel
theorem dX10_winters_70 : decode cX10_winters 70 = .ok (.ldc2_w 320, 3) := by decide +kernel
theorem dX10_winters_73 : decode cX10_winters 73 = .ok (.ldiv, 1) := by decide +kernel
theorem dX10_winters_74 : decode cX10_winters 74 = .ok (.ldc2_w 307, 3) := by decide +kernel
theorem dX10_winters_77 : decode cX10_winters 77 = .ok (.lrem, 1) := by decide +kernel
theorem dX10_winters_78 : decode cX10_winters 78 = .ok (.l2i, 1) := by decide +kernel
theorem dX10_winters_79 : decode cX10_winters 79 = .ok (.istore 7, 2) := by decide +kernel
theorem dX10_winters_81 : decode cX10_winters 81 = .ok (.lload_n 3, 1) := by decide +kernel
theorem dX10_winters_82 : decode cX10_winters 82 = .ok (.ldc2_w 322, 3) := by decide +kernel
theorem dX10_winters_85 : decode cX10_winters 85 = .ok (.ldiv, 1) := by decide +kernel
theorem dX10_winters_86 : decode cX10_winters 86 = .ok (.ldc2_w 307, 3) := by decide +kernel
theorem dX10_winters_89 : decode cX10_winters 89 = .ok (.lrem, 1) := by decide +kernel
theorem dX10_winters_90 : decode cX10_winters 90 = .ok (.l2i, 1) := by decide +kernel
theorem dX10_winters_91 : decode cX10_winters 91 = .ok (.istore 8, 2) := by decide +kernel
theorem dX10_winters_93 : decode cX10_winters 93 = .ok (.aload_n 0, 1) := by decide +kernel
theorem dX10_winters_94 : decode cX10_winters 94 = .ok (.getfield 26, 3) := by decide +kernel
theorem dX10_winters_97 : decode cX10_winters 97 = .ok (.iload 7, 2) := by decide +kernel
theorem dX10_winters_99 : decode cX10_winters 99 = .ok (.iload 8, 2) := by decide +kernel
theorem dX10_winters_101 : decode cX10_winters 101 = .ok (.invokevirtual 221, 3) := by decide +kernel
theorem dX10_winters_104 : decode cX10_winters 104 = .ok (.iload 5, 2) := by decide +kernel
theorem dX10_winters_106 : decode cX10_winters 106 = .ok (.aload_n 0, 1) := by decide +kernel
theorem dX10_winters_107 : decode cX10_winters 107 = .ok (.getfield 10, 3) := by decide +kernel
theorem dX10_winters_110 : decode cX10_winters 110 = .ok (.getfield 73, 3) := by decide +kernel
theorem dX10_winters_113 : decode cX10_winters 113 = .ok (.aload_n 0, 1) := by decide +kernel
theorem dX10_winters_114 : decode cX10_winters 114 = .ok (.getfield 26, 3) := by decide +kernel
theorem dX10_winters_117 : decode cX10_winters 117 = .ok (.iload 7, 2) := by decide +kernel
theorem dX10_winters_119 : decode cX10_winters 119 = .ok (.invokevirtual 248, 3) := by decide +kernel
theorem dX10_winters_122 : decode cX10_winters 122 = .ok (.invokestatic 255, 3) := by decide +kernel
theorem dX10_winters_125 : decode cX10_winters 125 = .ok (.iadd, 1) := by decide +kernel
theorem dX10_winters_126 : decode cX10_winters 126 = .ok (.istore 5, 2) := by decide +kernel
theorem dX10_winters_128 : decode cX10_winters 128 = .ok (.iinc 6 1, 3) := by decide +kernel
theorem dX10_winters_131 : decode cX10_winters 131 = .ok (.goto (-82), 3) := by decide +kernel
theorem dX10_winters_134 : decode cX10_winters 134 = .ok (.iload 5, 2) := by decide +kernel
theorem dX10_winters_136 : decode cX10_winters 136 = .ok (.ireturn, 1) := by decide +kernel
theorem dX10_part_0 : decode cX10_part 0 = .ok (.iload_n 1, 1) := by decide +kernel
theorem dX10_part_1 : decode cX10_part 1 = .ok (.iconst 0, 1) := by decide +kernel
theorem dX10_part_2 : decode cX10_part 2 = .ok (.iconst 1, 1) := by decide +kernel
theorem dX10_part_3 : decode cX10_part 3 = .ok (.invokestatic 65, 3) := by decide +kernel
theorem dX10_part_6 : decode cX10_part 6 = .ok (.ifCond .ne 9, 3) := by decide +kernel
theorem dX10_part_9 : decode cX10_part 9 = .ok (.aload_n 0, 1) := by decide +kernel
theorem dX10_part_10 : decode cX10_part 10 = .ok (.invokevirtual 69, 3) := by decide +kernel
theorem dX10_part_13 : decode cX10_part 13 = .ok (.i2l, 1) := by decide +kernel
theorem dX10_part_14 : decode cX10_part 14 = .ok (.lreturn, 1) := by decide +kernel
theorem dX10_part_15 : decode cX10_part 15 = .ok (.iload_n 1, 1) := by decide +kernel
theorem dX10_part_16 : decode cX10_part 16 = .ok (.ifCond .ne 10, 3) := by decide +kernel
theorem dX10_part_19 : decode cX10_part 19 = .ok (.aload_n 0, 1) := by decide +kernel
theorem dX10_part_20 : decode cX10_part 20 = .ok (.getfield 58, 3) := by decide +kernel
theorem dX10_part_23 : decode cX10_part 23 = .ok (.goto 7, 3) := by decide +kernel
theorem dX10_part_26 : decode cX10_part 26 = .ok (.aload_n 0, 1) := by decide +kernel
theorem dX10_part_27 : decode cX10_part 27 = .ok (.getfield 62, 3) := by decide +kernel
theorem dX10_part_30 : decode cX10_part 30 = .ok (.lreturn, 1) := by decide +kernel
theorem dX10_image_0 : decode cX10_image 0 = .ok (.iload_n 1, 1) := by decide +kernel
theorem dX10_image_1 : decode cX10_image 1 = .ok (.iconst 0, 1) := by decide +kernel
theorem dX10_image_2 : decode cX10_image 2 = .ok (.iconst 1, 1) := by decide +kernel
theorem dX10_image_3 : decode cX10_image 3 = .ok (.invokestatic 65, 3) := by decide +kernel
theorem dX10_image_6 : decode cX10_image 6 = .ok (.ifCond .ne 8, 3) := by decide +kernel
theorem dX10_image_9 : decode cX10_image 9 = .ok (.aload_n 0, 1) := by decide +kernel
theorem dX10_image_10 : decode cX10_image 10 = .ok (.invokevirtual 69, 3) := by decide +kernel
theorem dX10_image_13 : decode cX10_image 13 = .ok (.ireturn, 1) := by decide +kernel
theorem dX10_image_14 : decode cX10_image 14 = .ok (.aload_n 0, 1) := by decide +kernel
theorem dX10_image_15 : decode cX10_image 15 = .ok (.getfield 19, 3) := by decide +kernel
theorem dX10_image_18 : decode cX10_image 18 = .ok (.iload_n 1, 1) := by decide +kernel
theorem dX10_image_19 : decode cX10_image 19 = .ok (.aaload, 1) := by decide +kernel
theorem dX10_image_20 : decode cX10_image 20 = .ok (.astore_n 2, 1) := by decide +kernel
theorem dX10_image_21 : decode cX10_image 21 = .ok (.aload_n 2, 1) := by decide +kernel
theorem dX10_image_22 : decode cX10_image 22 = .ok (.ifnonnull 18, 3) := by decide +kernel
theorem dX10_image_25 : decode cX10_image 25 = .ok (.new 7, 3) := by decide +kernel
theorem dX10_image_28 : decode cX10_image 28 = .ok (.dup, 1) := by decide +kernel
theorem dX10_image_29 : decode cX10_image 29 = .ok (.invokespecial 9, 3) := by decide +kernel
theorem dX10_image_32 : decode cX10_image 32 = .ok (.astore_n 2, 1) := by decide +kernel
theorem dX10_image_33 : decode cX10_image 33 = .ok (.aload_n 0, 1) := by decide +kernel
theorem dX10_image_34 : decode cX10_image 34 = .ok (.getfield 19, 3) := by decide +kernel
theorem dX10_image_37 : decode cX10_image 37 = .ok (.iload_n 1, 1) := by decide +kernel
theorem dX10_image_38 : decode cX10_image 38 = .ok (.aload_n 2, 1) := by decide +kernel
theorem dX10_image_39 : decode cX10_image 39 = .ok (.aastore, 1) := by decide +kernel
theorem dX10_image_40 : decode cX10_image 40 = .ok (.aload_n 2, 1) := by decide +kernel
theorem dX10_image_41 : decode cX10_image 41 = .ok (.aload_n 0, 1) := by decide +kernel
theorem dX10_image_42 : decode cX10_image 42 = .ok (.getfield 10, 3) := by decide +kernel
theorem dX10_image_45 : decode cX10_image 45 = .ok (.invokevirtual 148, 3) := by decide +kernel
theorem dX10_image_48 : decode cX10_image 48 = .ok (.iconst 1, 1) := by decide +kernel
theorem dX10_image_49 : decode cX10_image 49 = .ok (.ireturn, 1) := by decide +kernel
theorem dX10_from_0 : decode cX10_from 0 = .ok (.iload_n 1, 1) := by decide +kernel
theorem dX10_from_1 : decode cX10_from 1 = .ok (.iconst 0, 1) := by decide +kernel
theorem dX10_from_2 : decode cX10_from 2 = .ok (.iconst 1, 1) := by decide +kernel
theorem dX10_from_3 : decode cX10_from 3 = .ok (.invokestatic 65, 3) := by decide +kernel
theorem dX10_from_6 : decode cX10_from 6 = .ok (.ifCond .ne 8, 3) := by decide +kernel
theorem dX10_from_9 : decode cX10_from 9 = .ok (.aload_n 0, 1) := by decide +kernel
theorem dX10_from_10 : decode cX10_from 10 = .ok (.invokevirtual 69, 3) := by decide +kernel
theorem dX10_from_13 : decode cX10_from 13 = .ok (.ireturn, 1) := by decide +kernel
theorem dX10_from_14 : decode cX10_from 14 = .ok (.aload_n 0, 1) := by decide +kernel
theorem dX10_from_15 : decode cX10_from 15 = .ok (.getfield 19, 3) := by decide +kernel
theorem dX10_from_18 : decode cX10_from 18 = .ok (.iload_n 1, 1) := by decide +kernel
theorem dX10_from_19 : decode cX10_from 19 = .ok (.aaload, 1) := by decide +kernel
theorem dX10_from_20 : decode cX10_from 20 = .ok (.astore_n 2, 1) := by decide +kernel
theorem dX10_from_21 : decode cX10_from 21 = .ok (.aload_n 2, 1) := by decide +kernel
theorem dX10_from_22 : decode cX10_from 22 = .ok (.ifnonnull 8, 3) := by decide +kernel
theorem dX10_from_25 : decode cX10_from 25 = .ok (.aload_n 0, 1) := by decide +kernel
theorem dX10_from_26 : decode cX10_from 26 = .ok (.invokevirtual 177, 3) := by decide +kernel
theorem dX10_from_29 : decode cX10_from 29 = .ok (.ireturn, 1) := by decide +kernel
theorem dX10_from_30 : decode cX10_from 30 = .ok (.aload_n 0, 1) := by decide +kernel
theorem dX10_from_31 : decode cX10_from 31 = .ok (.getfield 10, 3) := by decide +kernel
theorem dX10_from_34 : decode cX10_from 34 = .ok (.aload_n 2, 1) := by decide +kernel
theorem dX10_from_35 : decode cX10_from 35 = .ok (.invokevirtual 148, 3) := by decide +kernel
theorem dX10_from_38 : decode cX10_from 38 = .ok (.iconst 1, 1) := by decide +kernel
theorem dX10_from_39 : decode cX10_from 39 = .ok (.ireturn, 1) := by decide +kernel
theorem dX10_status_0 : decode cX10_status 0 = .ok (.iload_n 1, 1) := by decide +kernel
theorem dX10_status_1 : decode cX10_status 1 = .ok (.iconst 0, 1) := by decide +kernel
theorem dX10_status_2 : decode cX10_status 2 = .ok (.iconst 2, 1) := by decide +kernel
theorem dX10_status_3 : decode cX10_status 3 = .ok (.invokestatic 65, 3) := by decide +kernel
theorem dX10_status_6 : decode cX10_status 6 = .ok (.ifCond .ne 10, 3) := by decide +kernel
theorem dX10_status_9 : decode cX10_status 9 = .ok (.aload_n 0, 1) := by decide +kernel
theorem dX10_status_10 : decode cX10_status 10 = .ok (.invokevirtual 69, 3) := by decide +kernel
theorem dX10_status_13 : decode cX10_status 13 = .ok (.pop, 1) := by decide +kernel
theorem dX10_status_14 : decode cX10_status 14 = .ok (.iconst (-1), 1) := by decide +kernel
theorem dX10_status_15 : decode cX10_status 15 = .ok (.ireturn, 1) := by decide +kernel
theorem dX10_status_16 : decode cX10_status 16 = .ok (.aload_n 0, 1) := by decide +kernel
theorem dX10_status_17 : decode cX10_status 17 = .ok (.getfield 44, 3) := by decide +kernel
theorem dX10_status_20 : decode cX10_status 20 = .ok (.iload_n 1, 1) := by decide +kernel
theorem dX10_status_21 : decode cX10_status 21 = .ok (.iaload, 1) := by decide +kernel
theorem dX10_status_22 : decode cX10_status 22 = .ok (.ireturn, 1) := by decide +kernel
theorem dX10_count_0 : decode cX10_count 0 = .ok (.iload_n 1, 1) := by decide +kernel
theorem dX10_count_1 : decode cX10_count 1 = .ok (.iconst 0, 1) := by decide +kernel
theorem dX10_count_2 : decode cX10_count 2 = .ok (.bipush 6, 2) := by decide +kernel
theorem dX10_count_4 : decode cX10_count 4 = .ok (.invokestatic 65, 3) := by decide +kernel
theorem dX10_count_7 : decode cX10_count 7 = .ok (.ifCond .eq 11, 3) := by decide +kernel
theorem dX10_count_10 : decode cX10_count 10 = .ok (.aload_n 0, 1) := by decide +kernel
theorem dX10_count_11 : decode cX10_count 11 = .ok (.iload_n 1, 1) := by decide +kernel
theorem dX10_count_12 : decode cX10_count 12 = .ok (.invokevirtual 324, 3) := by decide +kernel
theorem dX10_count_15 : decode cX10_count 15 = .ok (.goto 7, 3) := by decide +kernel
theorem dX10_count_18 : decode cX10_count 18 = .ok (.aload_n 0, 1) := by decide +kernel
theorem dX10_count_19 : decode cX10_count 19 = .ok (.invokevirtual 69, 3) := by decide +kernel
theorem dX10_count_22 : decode cX10_count 22 = .ok (.ireturn, 1) := by decide +kernel
theorem dX10_digest_0 : decode cX10_digest 0 = .ok (.ldc2_w 327, 3) := by decide +kernel
theorem dX10_digest_3 : decode cX10_digest 3 = .ok (.lstore_n 1, 1) := by decide +kernel
theorem dX10_digest_4 : decode cX10_digest 4 = .ok (.iconst 0, 1) := by decide +kernel
theorem dX10_digest_5 : decode cX10_digest 5 = .ok (.istore_n 3, 1) := by decide +kernel
theorem dX10_digest_6 : decode cX10_digest 6 = .ok (.iload_n 3, 1) := by decide +kernel
theorem dX10_digest_7 : decode cX10_digest 7 = .ok (.bipush 6, 2) := by decide +kernel
theorem dX10_digest_9 : decode cX10_digest 9 = .ok (.if_icmp .gt 22, 3) := by decide +kernel
theorem dX10_digest_12 : decode cX10_digest 12 = .ok (.ldc2_w 329, 3) := by decide +kernel
theorem dX10_digest_15 : decode cX10_digest 15 = .ok (.lload_n 1, 1) := by decide +kernel
theorem dX10_digest_16 : decode cX10_digest 16 = .ok (.lmul, 1) := by decide +kernel
theorem dX10_digest_17 : decode cX10_digest 17 = .ok (.aload_n 0, 1) := by decide +kernel
theorem dX10_digest_18 : decode cX10_digest 18 = .ok (.iload_n 3, 1) := by decide +kernel
theorem dX10_digest_19 : decode cX10_digest 19 = .ok (.invokevirtual 324, 3) := by decide +kernel
theorem dX10_digest_22 : decode cX10_digest 22 = .ok (.i2l, 1) := by decide +kernel
theorem dX10_digest_23 : decode cX10_digest 23 = .ok (.ladd, 1) := by decide +kernel
theorem dX10_digest_24 : decode cX10_digest 24 = .ok (.lstore_n 1, 1) := by decide +kernel
theorem dX10_digest_25 : decode cX10_digest 25 = .ok (.iinc 3 1, 3) := by decide +kernel
theorem dX10_digest_28 : decode cX10_digest 28 = .ok (.goto (-22), 3) := by decide +kernel
theorem dX10_digest_31 : decode cX10_digest 31 = .ok (.iconst 0, 1) := by decide +kernel
theorem dX10_digest_32 : decode cX10_digest 32 = .ok (.istore_n 3, 1) := by decide +kernel
theorem dX10_digest_33 : decode cX10_digest 33 = .ok (.iload_n 3, 1) := by decide +kernel
theorem dX10_digest_34 : decode cX10_digest 34 = .ok (.bipush 25, 2) := by decide +kernel
theorem dX10_digest_36 : decode cX10_digest 36 = .ok (.if_icmp .ge 45, 3) := by decide +kernel
theorem dX10_digest_39 : decode cX10_digest 39 = .ok (.ldc2_w 329, 3) := by decide +kernel
theorem dX10_digest_42 : decode cX10_digest 42 = .ok (.ldc2_w 329, 3) := by decide +kernel
theorem dX10_digest_45 : decode cX10_digest 45 = .ok (.lload_n 1, 1) := by decide +kernel
theorem dX10_digest_46 : decode cX10_digest 46 = .ok (.lmul, 1) := by decide +kernel
theorem dX10_digest_47 : decode cX10_digest 47 = .ok (.aload_n 0, 1) := by decide +kernel
theorem dX10_digest_48 : decode cX10_digest 48 = .ok (.getfield 10, 3) := by decide +kernel
theorem dX10_digest_51 : decode cX10_digest 51 = .ok (.getfield 91, 3) := by decide +kernel
theorem dX10_digest_54 : decode cX10_digest 54 = .ok (.iload_n 3, 1) := by decide +kernel
theorem dX10_digest_55 : decode cX10_digest 55 = .ok (.invokevirtual 94, 3) := by decide +kernel
theorem dX10_digest_58 : decode cX10_digest 58 = .ok (.i2l, 1) := by decide +kernel
theorem dX10_digest_59 : decode cX10_digest 59 = .ok (.ladd, 1) := by decide +kernel
theorem dX10_digest_60 : decode cX10_digest 60 = .ok (.lmul, 1) := by decide +kernel
theorem dX10_digest_61 : decode cX10_digest 61 = .ok (.aload_n 0, 1) := by decide +kernel
theorem dX10_digest_62 : decode cX10_digest 62 = .ok (.getfield 10, 3) := by decide +kernel
theorem dX10_digest_65 : decode cX10_digest 65 = .ok (.getfield 91, 3) := by decide +kernel
theorem dX10_digest_68 : decode cX10_digest 68 = .ok (.iload_n 3, 1) := by decide +kernel
theorem dX10_digest_69 : decode cX10_digest 69 = .ok (.invokevirtual 164, 3) := by decide +kernel
theorem dX10_digest_72 : decode cX10_digest 72 = .ok (.i2l, 1) := by decide +kernel
theorem dX10_digest_73 : decode cX10_digest 73 = .ok (.ladd, 1) := by decide +kernel
theorem dX10_digest_74 : decode cX10_digest 74 = .ok (.lstore_n 1, 1) := by decide +kernel
theorem dX10_digest_75 : decode cX10_digest 75 = .ok (.iinc 3 1, 3) := by decide +kernel
theorem dX10_digest_78 : decode cX10_digest 78 = .ok (.goto (-45), 3) := by decide +kernel
theorem dX10_digest_81 : decode cX10_digest 81 = .ok (.iconst 0, 1) := by decide +kernel
theorem dX10_digest_82 : decode cX10_digest 82 = .ok (.istore_n 3, 1) := by decide +kernel
theorem dX10_digest_83 : decode cX10_digest 83 = .ok (.iload_n 3, 1) := by decide +kernel
theorem dX10_digest_84 : decode cX10_digest 84 = .ok (.bipush 7, 2) := by decide +kernel
theorem dX10_digest_86 : decode cX10_digest 86 = .ok (.if_icmp .ge 45, 3) := by decide +kernel
theorem dX10_digest_89 : decode cX10_digest 89 = .ok (.ldc2_w 329, 3) := by decide +kernel
theorem dX10_digest_92 : decode cX10_digest 92 = .ok (.ldc2_w 329, 3) := by decide +kernel
theorem dX10_digest_95 : decode cX10_digest 95 = .ok (.lload_n 1, 1) := by decide +kernel
theorem dX10_digest_96 : decode cX10_digest 96 = .ok (.lmul, 1) := by decide +kernel
theorem dX10_digest_97 : decode cX10_digest 97 = .ok (.aload_n 0, 1) := by decide +kernel
theorem dX10_digest_98 : decode cX10_digest 98 = .ok (.getfield 10, 3) := by decide +kernel
theorem dX10_digest_101 : decode cX10_digest 101 = .ok (.getfield 114, 3) := by decide +kernel
theorem dX10_digest_104 : decode cX10_digest 104 = .ok (.iload_n 3, 1) := by decide +kernel
theorem dX10_digest_105 : decode cX10_digest 105 = .ok (.invokevirtual 118, 3) := by decide +kernel
theorem dX10_digest_108 : decode cX10_digest 108 = .ok (.i2l, 1) := by decide +kernel
theorem dX10_digest_109 : decode cX10_digest 109 = .ok (.ladd, 1) := by decide +kernel
theorem dX10_digest_110 : decode cX10_digest 110 = .ok (.lmul, 1) := by decide +kernel
theorem dX10_digest_111 : decode cX10_digest 111 = .ok (.aload_n 0, 1) := by decide +kernel
theorem dX10_digest_112 : decode cX10_digest 112 = .ok (.getfield 10, 3) := by decide +kernel
theorem dX10_digest_115 : decode cX10_digest 115 = .ok (.getfield 114, 3) := by decide +kernel
theorem dX10_digest_118 : decode cX10_digest 118 = .ok (.iload_n 3, 1) := by decide +kernel
theorem dX10_digest_119 : decode cX10_digest 119 = .ok (.invokevirtual 123, 3) := by decide +kernel
theorem dX10_digest_122 : decode cX10_digest 122 = .ok (.i2l, 1) := by decide +kernel
theorem dX10_digest_123 : decode cX10_digest 123 = .ok (.ladd, 1) := by decide +kernel
theorem dX10_digest_124 : decode cX10_digest 124 = .ok (.lstore_n 1, 1) := by decide +kernel
theorem dX10_digest_125 : decode cX10_digest 125 = .ok (.iinc 3 1, 3) := by decide +kernel
theorem dX10_digest_128 : decode cX10_digest 128 = .ok (.goto (-45), 3) := by decide +kernel
theorem dX10_digest_131 : decode cX10_digest 131 = .ok (.iconst 0, 1) := by decide +kernel
theorem dX10_digest_132 : decode cX10_digest 132 = .ok (.istore_n 3, 1) := by decide +kernel
theorem dX10_digest_133 : decode cX10_digest 133 = .ok (.iload_n 3, 1) := by decide +kernel
theorem dX10_digest_134 : decode cX10_digest 134 = .ok (.iconst 4, 1) := by decide +kernel
theorem dX10_digest_135 : decode cX10_digest 135 = .ok (.if_icmp .ge 26, 3) := by decide +kernel
theorem dX10_digest_138 : decode cX10_digest 138 = .ok (.ldc2_w 329, 3) := by decide +kernel
theorem dX10_digest_141 : decode cX10_digest 141 = .ok (.lload_n 1, 1) := by decide +kernel
theorem dX10_digest_142 : decode cX10_digest 142 = .ok (.lmul, 1) := by decide +kernel
theorem dX10_digest_143 : decode cX10_digest 143 = .ok (.aload_n 0, 1) := by decide +kernel
theorem dX10_digest_144 : decode cX10_digest 144 = .ok (.getfield 10, 3) := by decide +kernel
theorem dX10_digest_147 : decode cX10_digest 147 = .ok (.getfield 130, 3) := by decide +kernel
theorem dX10_digest_150 : decode cX10_digest 150 = .ok (.iload_n 3, 1) := by decide +kernel
theorem dX10_digest_151 : decode cX10_digest 151 = .ok (.iaload, 1) := by decide +kernel
theorem dX10_digest_152 : decode cX10_digest 152 = .ok (.i2l, 1) := by decide +kernel
theorem dX10_digest_153 : decode cX10_digest 153 = .ok (.ladd, 1) := by decide +kernel
theorem dX10_digest_154 : decode cX10_digest 154 = .ok (.lstore_n 1, 1) := by decide +kernel
theorem dX10_digest_155 : decode cX10_digest 155 = .ok (.iinc 3 1, 3) := by decide +kernel
theorem dX10_digest_158 : decode cX10_digest 158 = .ok (.goto (-25), 3) := by decide +kernel
theorem dX10_digest_161 : decode cX10_digest 161 = .ok (.aload_n 0, 1) := by decide +kernel
theorem dX10_digest_162 : decode cX10_digest 162 = .ok (.getfield 10, 3) := by decide +kernel
theorem dX10_digest_165 : decode cX10_digest 165 = .ok (.getfield 73, 3) := by decide +kernel
theorem dX10_digest_168 : decode cX10_digest 168 = .ok (.lload_n 1, 1) := by decide +kernel
theorem dX10_digest_169 : decode cX10_digest 169 = .ok (.invokevirtual 331, 3) := by decide +kernel
theorem dX10_digest_172 : decode cX10_digest 172 = .ok (.lstore_n 1, 1) := by decide +kernel
theorem dX10_digest_173 : decode cX10_digest 173 = .ok (.aload_n 0, 1) := by decide +kernel
theorem dX10_digest_174 : decode cX10_digest 174 = .ok (.getfield 10, 3) := by decide +kernel
theorem dX10_digest_177 : decode cX10_digest 177 = .ok (.getfield 266, 3) := by decide +kernel
theorem dX10_digest_180 : decode cX10_digest 180 = .ok (.lload_n 1, 1) := by decide +kernel
theorem dX10_digest_181 : decode cX10_digest 181 = .ok (.invokevirtual 335, 3) := by decide +kernel
theorem dX10_digest_184 : decode cX10_digest 184 = .ok (.lstore_n 1, 1) := by decide +kernel
theorem dX10_digest_185 : decode cX10_digest 185 = .ok (.aload_n 0, 1) := by decide +kernel
theorem dX10_digest_186 : decode cX10_digest 186 = .ok (.getfield 10, 3) := by decide +kernel
theorem dX10_digest_189 : decode cX10_digest 189 = .ok (.getfield 276, 3) := by decide +kernel
theorem dX10_digest_192 : decode cX10_digest 192 = .ok (.lload_n 1, 1) := by decide +kernel
theorem dX10_digest_193 : decode cX10_digest 193 = .ok (.invokevirtual 335, 3) := by decide +kernel
theorem dX10_digest_196 : decode cX10_digest 196 = .ok (.lstore_n 1, 1) := by decide +kernel
theorem dX10_digest_197 : decode cX10_digest 197 = .ok (.ldc2_w 329, 3) := by decide +kernel
theorem dX10_digest_200 : decode cX10_digest 200 = .ok (.ldc2_w 329, 3) := by decide +kernel
theorem dX10_digest_203 : decode cX10_digest 203 = .ok (.lload_n 1, 1) := by decide +kernel
theorem dX10_digest_204 : decode cX10_digest 204 = .ok (.lmul, 1) := by decide +kernel
theorem dX10_digest_205 : decode cX10_digest 205 = .ok (.aload_n 0, 1) := by decide +kernel
theorem dX10_digest_206 : decode cX10_digest 206 = .ok (.getfield 58, 3) := by decide +kernel
theorem dX10_digest_209 : decode cX10_digest 209 = .ok (.ladd, 1) := by decide +kernel
theorem dX10_digest_210 : decode cX10_digest 210 = .ok (.lmul, 1) := by decide +kernel
theorem dX10_digest_211 : decode cX10_digest 211 = .ok (.aload_n 0, 1) := by decide +kernel
theorem dX10_digest_212 : decode cX10_digest 212 = .ok (.getfield 62, 3) := by decide +kernel
theorem dX10_digest_215 : decode cX10_digest 215 = .ok (.ladd, 1) := by decide +kernel
theorem dX10_digest_216 : decode cX10_digest 216 = .ok (.lreturn, 1) := by decide +kernel
theorem dX10_bad_0 : decode cX10_bad 0 = .ok (.aload_n 0, 1) := by decide +kernel
theorem dX10_bad_1 : decode cX10_bad 1 = .ok (.getfield 44, 3) := by decide +kernel
theorem dX10_bad_4 : decode cX10_bad 4 = .ok (.iconst 0, 1) := by decide +kernel
theorem dX10_bad_5 : decode cX10_bad 5 = .ok (.dup2, 1) := by decide +kernel
theorem dX10_bad_6 : decode cX10_bad 6 = .ok (.iaload, 1) := by decide +kernel
theorem dX10_bad_7 : decode cX10_bad 7 = .ok (.iconst 1, 1) := by decide +kernel
theorem dX10_bad_8 : decode cX10_bad 8 = .ok (.iadd, 1) := by decide +kernel
theorem dX10_bad_9 : decode cX10_bad 9 = .ok (.iastore, 1) := by decide +kernel
theorem dX10_bad_10 : decode cX10_bad 10 = .ok (.bipush (-2), 2) := by decide +kernel
theorem dX10_bad_12 : decode cX10_bad 12 = .ok (.ireturn, 1) := by decide +kernel
theorem dX10_no_0 : decode cX10_no 0 = .ok (.aload_n 0, 1) := by decide +kernel
theorem dX10_no_1 : decode cX10_no 1 = .ok (.getfield 44, 3) := by decide +kernel
theorem dX10_no_4 : decode cX10_no 4 = .ok (.iconst 1, 1) := by decide +kernel
theorem dX10_no_5 : decode cX10_no 5 = .ok (.dup2, 1) := by decide +kernel
theorem dX10_no_6 : decode cX10_no 6 = .ok (.iaload, 1) := by decide +kernel
theorem dX10_no_7 : decode cX10_no 7 = .ok (.iconst 1, 1) := by decide +kernel
theorem dX10_no_8 : decode cX10_no 8 = .ok (.iadd, 1) := by decide +kernel
theorem dX10_no_9 : decode cX10_no 9 = .ok (.iastore, 1) := by decide +kernel
theorem dX10_no_10 : decode cX10_no 10 = .ok (.bipush (-3), 2) := by decide +kernel
theorem dX10_no_12 : decode cX10_no 12 = .ok (.ireturn, 1) := by decide +kernel
theorem dX10_full_0 : decode cX10_full 0 = .ok (.aload_n 0, 1) := by decide +kernel
theorem dX10_full_1 : decode cX10_full 1 = .ok (.getfield 44, 3) := by decide +kernel
theorem dX10_full_4 : decode cX10_full 4 = .ok (.iconst 2, 1) := by decide +kernel
theorem dX10_full_5 : decode cX10_full 5 = .ok (.dup2, 1) := by decide +kernel
theorem dX10_full_6 : decode cX10_full 6 = .ok (.iaload, 1) := by decide +kernel
theorem dX10_full_7 : decode cX10_full 7 = .ok (.iconst 1, 1) := by decide +kernel
theorem dX10_full_8 : decode cX10_full 8 = .ok (.iadd, 1) := by decide +kernel
theorem dX10_full_9 : decode cX10_full 9 = .ok (.iastore, 1) := by decide +kernel
theorem dX10_full_10 : decode cX10_full 10 = .ok (.bipush (-4), 2) := by decide +kernel
theorem dX10_full_12 : decode cX10_full 12 = .ok (.ireturn, 1) := by decide +kernel
theorem dX10_isVoter_0 : decode cX10_isVoter 0 = .ok (.iload_n 1, 1) := by decide +kernel
theorem dX10_isVoter_1 : decode cX10_isVoter 1 = .ok (.iconst 0, 1) := by decide +kernel
theorem dX10_isVoter_2 : decode cX10_isVoter 2 = .ok (.aload_n 0, 1) := by decide +kernel
theorem dX10_isVoter_3 : decode cX10_isVoter 3 = .ok (.getfield 10, 3) := by decide +kernel
theorem dX10_isVoter_6 : decode cX10_isVoter 6 = .ok (.getfield 73, 3) := by decide +kernel
theorem dX10_isVoter_9 : decode cX10_isVoter 9 = .ok (.getfield 77, 3) := by decide +kernel
theorem dX10_isVoter_12 : decode cX10_isVoter 12 = .ok (.iconst 1, 1) := by decide +kernel
theorem dX10_isVoter_13 : decode cX10_isVoter 13 = .ok (.isub, 1) := by decide +kernel
theorem dX10_isVoter_14 : decode cX10_isVoter 14 = .ok (.invokestatic 65, 3) := by decide +kernel
theorem dX10_isVoter_17 : decode cX10_isVoter 17 = .ok (.ireturn, 1) := by decide +kernel
theorem dX10_isCell_0 : decode cX10_isCell 0 = .ok (.iload_n 0, 1) := by decide +kernel
theorem dX10_isCell_1 : decode cX10_isCell 1 = .ok (.iconst 0, 1) := by decide +kernel
theorem dX10_isCell_2 : decode cX10_isCell 2 = .ok (.bipush 24, 2) := by decide +kernel
theorem dX10_isCell_4 : decode cX10_isCell 4 = .ok (.invokestatic 65, 3) := by decide +kernel
theorem dX10_isCell_7 : decode cX10_isCell 7 = .ok (.ireturn, 1) := by decide +kernel
theorem dX10_isSky_0 : decode cX10_isSky 0 = .ok (.iload_n 0, 1) := by decide +kernel
theorem dX10_isSky_1 : decode cX10_isSky 1 = .ok (.iconst 0, 1) := by decide +kernel
theorem dX10_isSky_2 : decode cX10_isSky 2 = .ok (.bipush 9, 2) := by decide +kernel
theorem dX10_isSky_4 : decode cX10_isSky 4 = .ok (.invokestatic 65, 3) := by decide +kernel
theorem dX10_isSky_7 : decode cX10_isSky 7 = .ok (.ireturn, 1) := by decide +kernel
theorem dX10_isBorne_0 : decode cX10_isBorne 0 = .ok (.iload_n 0, 1) := by decide +kernel
theorem dX10_isBorne_1 : decode cX10_isBorne 1 = .ok (.iconst 1, 1) := by decide +kernel
theorem dX10_isBorne_2 : decode cX10_isBorne 2 = .ok (.sipush 198, 3) := by decide +kernel
theorem dX10_isBorne_5 : decode cX10_isBorne 5 = .ok (.invokestatic 65, 3) := by decide +kernel
theorem dX10_isBorne_8 : decode cX10_isBorne 8 = .ok (.ireturn, 1) := by decide +kernel
theorem dX10_within_0 : decode cX10_within 0 = .ok (.iload_n 0, 1) := by decide +kernel
theorem dX10_within_1 : decode cX10_within 1 = .ok (.iload_n 1, 1) := by decide +kernel
theorem dX10_within_2 : decode cX10_within 2 = .ok (.if_icmp .lt 12, 3) := by decide +kernel
theorem dX10_within_5 : decode cX10_within 5 = .ok (.iload_n 0, 1) := by decide +kernel
theorem dX10_within_6 : decode cX10_within 6 = .ok (.iload_n 2, 1) := by decide +kernel
theorem dX10_within_7 : decode cX10_within 7 = .ok (.if_icmp .gt 7, 3) := by decide +kernel
theorem dX10_within_10 : decode cX10_within 10 = .ok (.iconst 1, 1) := by decide +kernel
theorem dX10_within_11 : decode cX10_within 11 = .ok (.goto 4, 3) := by decide +kernel
theorem dX10_within_14 : decode cX10_within 14 = .ok (.iconst 0, 1) := by decide +kernel
theorem dX10_within_15 : decode cX10_within 15 = .ok (.ireturn, 1) := by decide +kernel
theorem dX10_has_0 : decode cX10_has 0 = .ok (.iload_n 0, 1) := by decide +kernel
theorem dX10_has_1 : decode cX10_has 1 = .ok (.iload_n 1, 1) := by decide +kernel
theorem dX10_has_2 : decode cX10_has 2 = .ok (.ishr, 1) := by decide +kernel
theorem dX10_has_3 : decode cX10_has 3 = .ok (.iconst 1, 1) := by decide +kernel
theorem dX10_has_4 : decode cX10_has 4 = .ok (.iand, 1) := by decide +kernel
theorem dX10_has_5 : decode cX10_has 5 = .ok (.iconst 1, 1) := by decide +kernel
theorem dX10_has_6 : decode cX10_has 6 = .ok (.if_icmp .ne 7, 3) := by decide +kernel
theorem dX10_has_9 : decode cX10_has 9 = .ok (.iconst 1, 1) := by decide +kernel
theorem dX10_has_10 : decode cX10_has 10 = .ok (.goto 4, 3) := by decide +kernel
theorem dX10_has_13 : decode cX10_has 13 = .ok (.iconst 0, 1) := by decide +kernel
theorem dX10_has_14 : decode cX10_has 14 = .ok (.ireturn, 1) := by decide +kernel
theorem dX10_amount_0 : decode cX10_amount 0 = .ok (.iload_n 1, 1) := by decide +kernel
theorem dX10_amount_1 : decode cX10_amount 1 = .ok (.tableswitch 102 0 5 #[39, 50, 58, 69, 80, 91], 39) := by decide +kernel
theorem dX10_amount_40 : decode cX10_amount 40 = .ok (.aload_n 0, 1) := by decide +kernel
theorem dX10_amount_41 : decode cX10_amount 41 = .ok (.getfield 10, 3) := by decide +kernel
theorem dX10_amount_44 : decode cX10_amount 44 = .ok (.getfield 73, 3) := by decide +kernel
theorem dX10_amount_47 : decode cX10_amount 47 = .ok (.getfield 77, 3) := by decide +kernel
theorem dX10_amount_50 : decode cX10_amount 50 = .ok (.ireturn, 1) := by decide +kernel
theorem dX10_amount_51 : decode cX10_amount 51 = .ok (.aload_n 0, 1) := by decide +kernel
theorem dX10_amount_52 : decode cX10_amount 52 = .ok (.getfield 10, 3) := by decide +kernel
theorem dX10_amount_55 : decode cX10_amount 55 = .ok (.getfield 184, 3) := by decide +kernel
theorem dX10_amount_58 : decode cX10_amount 58 = .ok (.ireturn, 1) := by decide +kernel
theorem dX10_amount_59 : decode cX10_amount 59 = .ok (.aload_n 0, 1) := by decide +kernel
theorem dX10_amount_60 : decode cX10_amount 60 = .ok (.getfield 10, 3) := by decide +kernel
theorem dX10_amount_63 : decode cX10_amount 63 = .ok (.getfield 91, 3) := by decide +kernel
theorem dX10_amount_66 : decode cX10_amount 66 = .ok (.invokevirtual 158, 3) := by decide +kernel
theorem dX10_amount_69 : decode cX10_amount 69 = .ok (.ireturn, 1) := by decide +kernel
theorem dX10_amount_70 : decode cX10_amount 70 = .ok (.aload_n 0, 1) := by decide +kernel
theorem dX10_amount_71 : decode cX10_amount 71 = .ok (.getfield 10, 3) := by decide +kernel
theorem dX10_amount_74 : decode cX10_amount 74 = .ok (.getfield 266, 3) := by decide +kernel
theorem dX10_amount_77 : decode cX10_amount 77 = .ok (.getfield 270, 3) := by decide +kernel
theorem dX10_amount_80 : decode cX10_amount 80 = .ok (.ireturn, 1) := by decide +kernel
theorem dX10_amount_81 : decode cX10_amount 81 = .ok (.aload_n 0, 1) := by decide +kernel
theorem dX10_amount_82 : decode cX10_amount 82 = .ok (.getfield 10, 3) := by decide +kernel
theorem dX10_amount_85 : decode cX10_amount 85 = .ok (.getfield 276, 3) := by decide +kernel
theorem dX10_amount_88 : decode cX10_amount 88 = .ok (.getfield 270, 3) := by decide +kernel
theorem dX10_amount_91 : decode cX10_amount 91 = .ok (.ireturn, 1) := by decide +kernel
theorem dX10_amount_92 : decode cX10_amount 92 = .ok (.aload_n 0, 1) := by decide +kernel
theorem dX10_amount_93 : decode cX10_amount 93 = .ok (.getfield 10, 3) := by decide +kernel
theorem dX10_amount_96 : decode cX10_amount 96 = .ok (.getfield 102, 3) := by decide +kernel
theorem dX10_amount_99 : decode cX10_amount 99 = .ok (.getfield 176, 3) := by decide +kernel
theorem dX10_amount_102 : decode cX10_amount 102 = .ok (.ireturn, 1) := by decide +kernel
theorem dX10_amount_103 : decode cX10_amount 103 = .ok (.aload_n 0, 1) := by decide +kernel
theorem dX10_amount_104 : decode cX10_amount 104 = .ok (.getfield 40, 3) := by decide +kernel
theorem dX10_amount_107 : decode cX10_amount 107 = .ok (.getfield 139, 3) := by decide +kernel
theorem dX10_amount_110 : decode cX10_amount 110 = .ok (.ireturn, 1) := by decide +kernel
theorem dX10_yesNow_0 : decode cX10_yesNow 0 = .ok (.aload_n 0, 1) := by decide +kernel
theorem dX10_yesNow_1 : decode cX10_yesNow 1 = .ok (.getfield 10, 3) := by decide +kernel
theorem dX10_yesNow_4 : decode cX10_yesNow 4 = .ok (.getfield 73, 3) := by decide +kernel
theorem dX10_yesNow_7 : decode cX10_yesNow 7 = .ok (.aload_n 0, 1) := by decide +kernel
theorem dX10_yesNow_8 : decode cX10_yesNow 8 = .ok (.getfield 10, 3) := by decide +kernel
theorem dX10_yesNow_11 : decode cX10_yesNow 11 = .ok (.getfield 91, 3) := by decide +kernel
theorem dX10_yesNow_14 : decode cX10_yesNow 14 = .ok (.aload_n 0, 1) := by decide +kernel
theorem dX10_yesNow_15 : decode cX10_yesNow 15 = .ok (.getfield 10, 3) := by decide +kernel
theorem dX10_yesNow_18 : decode cX10_yesNow 18 = .ok (.invokevirtual 245, 3) := by decide +kernel
theorem dX10_yesNow_21 : decode cX10_yesNow 21 = .ok (.invokevirtual 336, 3) := by decide +kernel
theorem dX10_yesNow_24 : decode cX10_yesNow 24 = .ok (.ireturn, 1) := by decide +kernel
theorem dX10_kindsNoted_0 : decode cX10_kindsNoted 0 = .ok (.iconst 0, 1) := by decide +kernel
theorem dX10_kindsNoted_1 : decode cX10_kindsNoted 1 = .ok (.istore_n 2, 1) := by decide +kernel
theorem dX10_kindsNoted_2 : decode cX10_kindsNoted 2 = .ok (.iconst 0, 1) := by decide +kernel
theorem dX10_kindsNoted_3 : decode cX10_kindsNoted 3 = .ok (.istore_n 3, 1) := by decide +kernel
theorem dX10_kindsNoted_4 : decode cX10_kindsNoted 4 = .ok (.iload_n 3, 1) := by decide +kernel
theorem dX10_kindsNoted_5 : decode cX10_kindsNoted 5 = .ok (.bipush 6, 2) := by decide +kernel
theorem dX10_kindsNoted_7 : decode cX10_kindsNoted 7 = .ok (.if_icmp .ge 24, 3) := by decide +kernel
theorem dX10_kindsNoted_10 : decode cX10_kindsNoted 10 = .ok (.aload_n 0, 1) := by decide +kernel
theorem dX10_kindsNoted_11 : decode cX10_kindsNoted 11 = .ok (.iload_n 3, 1) := by decide +kernel
theorem dX10_kindsNoted_12 : decode cX10_kindsNoted 12 = .ok (.iload_n 1, 1) := by decide +kernel
theorem dX10_kindsNoted_13 : decode cX10_kindsNoted 13 = .ok (.invokevirtual 339, 3) := by decide +kernel
theorem dX10_kindsNoted_16 : decode cX10_kindsNoted 16 = .ok (.ifCond .eq 9, 3) := by decide +kernel
theorem dX10_kindsNoted_19 : decode cX10_kindsNoted 19 = .ok (.iload_n 2, 1) := by decide +kernel
theorem dX10_kindsNoted_20 : decode cX10_kindsNoted 20 = .ok (.iconst 1, 1) := by decide +kernel
theorem dX10_kindsNoted_21 : decode cX10_kindsNoted 21 = .ok (.iload_n 3, 1) := by decide +kernel
theorem dX10_kindsNoted_22 : decode cX10_kindsNoted 22 = .ok (.ishl, 1) := by decide +kernel
theorem dX10_kindsNoted_23 : decode cX10_kindsNoted 23 = .ok (.ior, 1) := by decide +kernel
theorem dX10_kindsNoted_24 : decode cX10_kindsNoted 24 = .ok (.istore_n 2, 1) := by decide +kernel
theorem dX10_kindsNoted_25 : decode cX10_kindsNoted 25 = .ok (.iinc 3 1, 3) := by decide +kernel
theorem dX10_kindsNoted_28 : decode cX10_kindsNoted 28 = .ok (.goto (-24), 3) := by decide +kernel
theorem dX10_kindsNoted_31 : decode cX10_kindsNoted 31 = .ok (.iload_n 2, 1) := by decide +kernel
theorem dX10_kindsNoted_32 : decode cX10_kindsNoted 32 = .ok (.ireturn, 1) := by decide +kernel
theorem dX10_fitsNotes_0 : decode cX10_fitsNotes 0 = .ok (.aload_n 0, 1) := by decide +kernel
theorem dX10_fitsNotes_1 : decode cX10_fitsNotes 1 = .ok (.getfield 10, 3) := by decide +kernel
theorem dX10_fitsNotes_4 : decode cX10_fitsNotes 4 = .ok (.getfield 266, 3) := by decide +kernel
theorem dX10_fitsNotes_7 : decode cX10_fitsNotes 7 = .ok (.astore_n 3, 1) := by decide +kernel
theorem dX10_fitsNotes_8 : decode cX10_fitsNotes 8 = .ok (.iconst 0, 1) := by decide +kernel
theorem dX10_fitsNotes_9 : decode cX10_fitsNotes 9 = .ok (.istore 4, 2) := by decide +kernel
theorem dX10_fitsNotes_11 : decode cX10_fitsNotes 11 = .ok (.iload 4, 2) := by decide +kernel
theorem dX10_fitsNotes_13 : decode cX10_fitsNotes 13 = .ok (.aload_n 3, 1) := by decide +kernel
theorem dX10_fitsNotes_14 : decode cX10_fitsNotes 14 = .ok (.getfield 270, 3) := by decide +kernel
theorem dX10_fitsNotes_17 : decode cX10_fitsNotes 17 = .ok (.if_icmp .ge 61, 3) := by decide +kernel
theorem dX10_fitsNotes_20 : decode cX10_fitsNotes 20 = .ok (.iload_n 1, 1) := by decide +kernel
theorem dX10_fitsNotes_21 : decode cX10_fitsNotes 21 = .ok (.aload_n 3, 1) := by decide +kernel
theorem dX10_fitsNotes_22 : decode cX10_fitsNotes 22 = .ok (.iload 4, 2) := by decide +kernel
theorem dX10_fitsNotes_24 : decode cX10_fitsNotes 24 = .ok (.iconst 1, 1) := by decide +kernel
theorem dX10_fitsNotes_25 : decode cX10_fitsNotes 25 = .ok (.invokevirtual 342, 3) := by decide +kernel
theorem dX10_fitsNotes_28 : decode cX10_fitsNotes 28 = .ok (.aload_n 3, 1) := by decide +kernel
theorem dX10_fitsNotes_29 : decode cX10_fitsNotes 29 = .ok (.iload 4, 2) := by decide +kernel
theorem dX10_fitsNotes_31 : decode cX10_fitsNotes 31 = .ok (.iconst 2, 1) := by decide +kernel
theorem dX10_fitsNotes_32 : decode cX10_fitsNotes 32 = .ok (.invokevirtual 342, 3) := by decide +kernel
theorem dX10_fitsNotes_35 : decode cX10_fitsNotes 35 = .ok (.aload_n 3, 1) := by decide +kernel
theorem dX10_fitsNotes_36 : decode cX10_fitsNotes 36 = .ok (.iload 4, 2) := by decide +kernel
theorem dX10_fitsNotes_38 : decode cX10_fitsNotes 38 = .ok (.iconst 3, 1) := by decide +kernel
theorem dX10_fitsNotes_39 : decode cX10_fitsNotes 39 = .ok (.invokevirtual 342, 3) := by decide +kernel
theorem dX10_fitsNotes_42 : decode cX10_fitsNotes 42 = .ok (.invokestatic 345, 3) := by decide +kernel
theorem dX10_fitsNotes_45 : decode cX10_fitsNotes 45 = .ok (.istore 5, 2) := by decide +kernel
theorem dX10_fitsNotes_47 : decode cX10_fitsNotes 47 = .ok (.aload_n 3, 1) := by decide +kernel
theorem dX10_fitsNotes_48 : decode cX10_fitsNotes 48 = .ok (.iload 4, 2) := by decide +kernel
theorem dX10_fitsNotes_50 : decode cX10_fitsNotes 50 = .ok (.iconst 0, 1) := by decide +kernel
theorem dX10_fitsNotes_51 : decode cX10_fitsNotes 51 = .ok (.invokevirtual 342, 3) := by decide +kernel
theorem dX10_fitsNotes_54 : decode cX10_fitsNotes 54 = .ok (.iload_n 2, 1) := by decide +kernel
theorem dX10_fitsNotes_55 : decode cX10_fitsNotes 55 = .ok (.if_icmp .ne 17, 3) := by decide +kernel
theorem dX10_fitsNotes_58 : decode cX10_fitsNotes 58 = .ok (.iload 5, 2) := by decide +kernel
theorem dX10_fitsNotes_60 : decode cX10_fitsNotes 60 = .ok (.aload_n 3, 1) := by decide +kernel
theorem dX10_fitsNotes_61 : decode cX10_fitsNotes 61 = .ok (.iload 4, 2) := by decide +kernel
theorem dX10_fitsNotes_63 : decode cX10_fitsNotes 63 = .ok (.iconst 4, 1) := by decide +kernel
theorem dX10_fitsNotes_64 : decode cX10_fitsNotes 64 = .ok (.invokevirtual 342, 3) := by decide +kernel
theorem dX10_fitsNotes_67 : decode cX10_fitsNotes 67 = .ok (.if_icmp .eq 5, 3) := by decide +kernel
theorem dX10_fitsNotes_70 : decode cX10_fitsNotes 70 = .ok (.iconst 0, 1) := by decide +kernel
theorem dX10_fitsNotes_71 : decode cX10_fitsNotes 71 = .ok (.ireturn, 1) := by decide +kernel
theorem dX10_fitsNotes_72 : decode cX10_fitsNotes 72 = .ok (.iinc 4 1, 3) := by decide +kernel
theorem dX10_fitsNotes_75 : decode cX10_fitsNotes 75 = .ok (.goto (-64), 3) := by decide +kernel
theorem dX10_fitsNotes_78 : decode cX10_fitsNotes 78 = .ok (.iconst 1, 1) := by decide +kernel
theorem dX10_fitsNotes_79 : decode cX10_fitsNotes 79 = .ok (.ireturn, 1) := by decide +kernel
theorem dX10_mostAlike_0 : decode cX10_mostAlike 0 = .ok (.iconst 0, 1) := by decide +kernel
theorem dX10_mostAlike_1 : decode cX10_mostAlike 1 = .ok (.istore 5, 2) := by decide +kernel
theorem dX10_mostAlike_3 : decode cX10_mostAlike 3 = .ok (.iload 5, 2) := by decide +kernel
theorem dX10_mostAlike_5 : decode cX10_mostAlike 5 = .ok (.bipush 6, 2) := by decide +kernel
theorem dX10_mostAlike_7 : decode cX10_mostAlike 7 = .ok (.if_icmp .ge 38, 3) := by decide +kernel
theorem dX10_mostAlike_10 : decode cX10_mostAlike 10 = .ok (.aload_n 0, 1) := by decide +kernel
theorem dX10_mostAlike_11 : decode cX10_mostAlike 11 = .ok (.getfield 48, 3) := by decide +kernel
theorem dX10_mostAlike_14 : decode cX10_mostAlike 14 = .ok (.iload 5, 2) := by decide +kernel
theorem dX10_mostAlike_16 : decode cX10_mostAlike 16 = .ok (.iload_n 1, 1) := by decide +kernel
theorem dX10_mostAlike_17 : decode cX10_mostAlike 17 = .ok (.iload 5, 2) := by decide +kernel
theorem dX10_mostAlike_19 : decode cX10_mostAlike 19 = .ok (.invokestatic 200, 3) := by decide +kernel
theorem dX10_mostAlike_22 : decode cX10_mostAlike 22 = .ok (.ifCond .eq 15, 3) := by decide +kernel
theorem dX10_mostAlike_25 : decode cX10_mostAlike 25 = .ok (.iload 5, 2) := by decide +kernel
theorem dX10_mostAlike_27 : decode cX10_mostAlike 27 = .ok (.iload_n 2, 1) := by decide +kernel
theorem dX10_mostAlike_28 : decode cX10_mostAlike 28 = .ok (.iload_n 3, 1) := by decide +kernel
theorem dX10_mostAlike_29 : decode cX10_mostAlike 29 = .ok (.iload 4, 2) := by decide +kernel
theorem dX10_mostAlike_31 : decode cX10_mostAlike 31 = .ok (.invokestatic 345, 3) := by decide +kernel
theorem dX10_mostAlike_34 : decode cX10_mostAlike 34 = .ok (.goto 4, 3) := by decide +kernel
theorem dX10_mostAlike_37 : decode cX10_mostAlike 37 = .ok (.iconst (-1), 1) := by decide +kernel
theorem dX10_mostAlike_38 : decode cX10_mostAlike 38 = .ok (.iastore, 1) := by decide +kernel
theorem dX10_mostAlike_39 : decode cX10_mostAlike 39 = .ok (.iinc 5 1, 3) := by decide +kernel
theorem dX10_mostAlike_42 : decode cX10_mostAlike 42 = .ok (.goto (-39), 3) := by decide +kernel
theorem dX10_mostAlike_45 : decode cX10_mostAlike 45 = .ok (.iconst 0, 1) := by decide +kernel
theorem dX10_mostAlike_46 : decode cX10_mostAlike 46 = .ok (.istore 5, 2) := by decide +kernel
theorem dX10_mostAlike_48 : decode cX10_mostAlike 48 = .ok (.iconst 0, 1) := by decide +kernel
theorem dX10_mostAlike_49 : decode cX10_mostAlike 49 = .ok (.istore 6, 2) := by decide +kernel
theorem dX10_mostAlike_51 : decode cX10_mostAlike 51 = .ok (.iload 6, 2) := by decide +kernel
theorem dX10_mostAlike_53 : decode cX10_mostAlike 53 = .ok (.bipush 6, 2) := by decide +kernel
theorem dX10_mostAlike_55 : decode cX10_mostAlike 55 = .ok (.if_icmp .ge 75, 3) := by decide +kernel
theorem dX10_mostAlike_58 : decode cX10_mostAlike 58 = .ok (.iconst 0, 1) := by decide +kernel
theorem dX10_mostAlike_59 : decode cX10_mostAlike 59 = .ok (.istore 7, 2) := by decide +kernel
theorem dX10_mostAlike_61 : decode cX10_mostAlike 61 = .ok (.iconst 0, 1) := by decide +kernel
theorem dX10_mostAlike_62 : decode cX10_mostAlike 62 = .ok (.istore 8, 2) := by decide +kernel
theorem dX10_mostAlike_64 : decode cX10_mostAlike 64 = .ok (.iload 8, 2) := by decide +kernel
theorem dX10_mostAlike_66 : decode cX10_mostAlike 66 = .ok (.bipush 6, 2) := by decide +kernel
theorem dX10_mostAlike_68 : decode cX10_mostAlike 68 = .ok (.if_icmp .ge 36, 3) := by decide +kernel
theorem dX10_mostAlike_71 : decode cX10_mostAlike 71 = .ok (.iload 7, 2) := by decide +kernel
theorem dX10_mostAlike_73 : decode cX10_mostAlike 73 = .ok (.aload_n 0, 1) := by decide +kernel
theorem dX10_mostAlike_74 : decode cX10_mostAlike 74 = .ok (.getfield 48, 3) := by decide +kernel
theorem dX10_mostAlike_77 : decode cX10_mostAlike 77 = .ok (.iload 8, 2) := by decide +kernel
theorem dX10_mostAlike_79 : decode cX10_mostAlike 79 = .ok (.iaload, 1) := by decide +kernel
theorem dX10_mostAlike_80 : decode cX10_mostAlike 80 = .ok (.aload_n 0, 1) := by decide +kernel
theorem dX10_mostAlike_81 : decode cX10_mostAlike 81 = .ok (.getfield 48, 3) := by decide +kernel
theorem dX10_mostAlike_84 : decode cX10_mostAlike 84 = .ok (.iload 6, 2) := by decide +kernel
theorem dX10_mostAlike_86 : decode cX10_mostAlike 86 = .ok (.iaload, 1) := by decide +kernel
theorem dX10_mostAlike_87 : decode cX10_mostAlike 87 = .ok (.if_icmp .ne 7, 3) := by decide +kernel
theorem dX10_mostAlike_90 : decode cX10_mostAlike 90 = .ok (.iconst 1, 1) := by decide +kernel
theorem dX10_mostAlike_91 : decode cX10_mostAlike 91 = .ok (.goto 4, 3) := by decide +kernel
theorem dX10_mostAlike_94 : decode cX10_mostAlike 94 = .ok (.iconst 0, 1) := by decide +kernel
theorem dX10_mostAlike_95 : decode cX10_mostAlike 95 = .ok (.iadd, 1) := by decide +kernel
theorem dX10_mostAlike_96 : decode cX10_mostAlike 96 = .ok (.istore 7, 2) := by decide +kernel
theorem dX10_mostAlike_98 : decode cX10_mostAlike 98 = .ok (.iinc 8 1, 3) := by decide +kernel
theorem dX10_mostAlike_101 : decode cX10_mostAlike 101 = .ok (.goto (-37), 3) := by decide +kernel
theorem dX10_mostAlike_104 : decode cX10_mostAlike 104 = .ok (.aload_n 0, 1) := by decide +kernel
theorem dX10_mostAlike_105 : decode cX10_mostAlike 105 = .ok (.getfield 48, 3) := by decide +kernel
theorem dX10_mostAlike_108 : decode cX10_mostAlike 108 = .ok (.iload 6, 2) := by decide +kernel
theorem dX10_mostAlike_110 : decode cX10_mostAlike 110 = .ok (.iaload, 1) := by decide +kernel
theorem dX10_mostAlike_111 : decode cX10_mostAlike 111 = .ok (.iconst (-1), 1) := by decide +kernel
theorem dX10_mostAlike_112 : decode cX10_mostAlike 112 = .ok (.if_icmp .eq 12, 3) := by decide +kernel
theorem dX10_mostAlike_115 : decode cX10_mostAlike 115 = .ok (.iload 5, 2) := by decide +kernel
theorem dX10_mostAlike_117 : decode cX10_mostAlike 117 = .ok (.iload 7, 2) := by decide +kernel
theorem dX10_mostAlike_119 : decode cX10_mostAlike 119 = .ok (.invokestatic 167, 3) := by decide +kernel
theorem dX10_mostAlike_122 : decode cX10_mostAlike 122 = .ok (.istore 5, 2) := by decide +kernel
theorem dX10_mostAlike_124 : decode cX10_mostAlike 124 = .ok (.iinc 6 1, 3) := by decide +kernel
theorem dX10_mostAlike_127 : decode cX10_mostAlike 127 = .ok (.goto (-76), 3) := by decide +kernel
theorem dX10_mostAlike_130 : decode cX10_mostAlike 130 = .ok (.iload 5, 2) := by decide +kernel
theorem dX10_mostAlike_132 : decode cX10_mostAlike 132 = .ok (.ireturn, 1) := by decide +kernel
theorem dX10_fitsPolls_0 : decode cX10_fitsPolls 0 = .ok (.aload_n 0, 1) := by decide +kernel
theorem dX10_fitsPolls_1 : decode cX10_fitsPolls 1 = .ok (.getfield 10, 3) := by decide +kernel
theorem dX10_fitsPolls_4 : decode cX10_fitsPolls 4 = .ok (.getfield 276, 3) := by decide +kernel
theorem dX10_fitsPolls_7 : decode cX10_fitsPolls 7 = .ok (.astore_n 3, 1) := by decide +kernel
theorem dX10_fitsPolls_8 : decode cX10_fitsPolls 8 = .ok (.aload_n 0, 1) := by decide +kernel
theorem dX10_fitsPolls_9 : decode cX10_fitsPolls 9 = .ok (.getfield 10, 3) := by decide +kernel
theorem dX10_fitsPolls_12 : decode cX10_fitsPolls 12 = .ok (.getfield 73, 3) := by decide +kernel
theorem dX10_fitsPolls_15 : decode cX10_fitsPolls 15 = .ok (.iload_n 2, 1) := by decide +kernel
theorem dX10_fitsPolls_16 : decode cX10_fitsPolls 16 = .ok (.invokevirtual 191, 3) := by decide +kernel
theorem dX10_fitsPolls_19 : decode cX10_fitsPolls 19 = .ok (.istore 4, 2) := by decide +kernel
theorem dX10_fitsPolls_21 : decode cX10_fitsPolls 21 = .ok (.iconst 0, 1) := by decide +kernel
theorem dX10_fitsPolls_22 : decode cX10_fitsPolls 22 = .ok (.istore 5, 2) := by decide +kernel
theorem dX10_fitsPolls_24 : decode cX10_fitsPolls 24 = .ok (.iload 5, 2) := by decide +kernel
theorem dX10_fitsPolls_26 : decode cX10_fitsPolls 26 = .ok (.aload_n 3, 1) := by decide +kernel
theorem dX10_fitsPolls_27 : decode cX10_fitsPolls 27 = .ok (.getfield 270, 3) := by decide +kernel
theorem dX10_fitsPolls_30 : decode cX10_fitsPolls 30 = .ok (.if_icmp .ge 72, 3) := by decide +kernel
theorem dX10_fitsPolls_33 : decode cX10_fitsPolls 33 = .ok (.iload_n 1, 1) := by decide +kernel
theorem dX10_fitsPolls_34 : decode cX10_fitsPolls 34 = .ok (.iload 4, 2) := by decide +kernel
theorem dX10_fitsPolls_36 : decode cX10_fitsPolls 36 = .ok (.aload_n 3, 1) := by decide +kernel
theorem dX10_fitsPolls_37 : decode cX10_fitsPolls 37 = .ok (.iload 5, 2) := by decide +kernel
theorem dX10_fitsPolls_39 : decode cX10_fitsPolls 39 = .ok (.iconst 2, 1) := by decide +kernel
theorem dX10_fitsPolls_40 : decode cX10_fitsPolls 40 = .ok (.invokevirtual 342, 3) := by decide +kernel
theorem dX10_fitsPolls_43 : decode cX10_fitsPolls 43 = .ok (.aload_n 3, 1) := by decide +kernel
theorem dX10_fitsPolls_44 : decode cX10_fitsPolls 44 = .ok (.iload 5, 2) := by decide +kernel
theorem dX10_fitsPolls_46 : decode cX10_fitsPolls 46 = .ok (.iconst 3, 1) := by decide +kernel
theorem dX10_fitsPolls_47 : decode cX10_fitsPolls 47 = .ok (.invokevirtual 342, 3) := by decide +kernel
theorem dX10_fitsPolls_50 : decode cX10_fitsPolls 50 = .ok (.aload_n 3, 1) := by decide +kernel
theorem dX10_fitsPolls_51 : decode cX10_fitsPolls 51 = .ok (.iload 5, 2) := by decide +kernel
theorem dX10_fitsPolls_53 : decode cX10_fitsPolls 53 = .ok (.iconst 4, 1) := by decide +kernel
theorem dX10_fitsPolls_54 : decode cX10_fitsPolls 54 = .ok (.invokevirtual 342, 3) := by decide +kernel
theorem dX10_fitsPolls_57 : decode cX10_fitsPolls 57 = .ok (.invokestatic 348, 3) := by decide +kernel
theorem dX10_fitsPolls_60 : decode cX10_fitsPolls 60 = .ok (.istore 6, 2) := by decide +kernel
theorem dX10_fitsPolls_62 : decode cX10_fitsPolls 62 = .ok (.aload_n 3, 1) := by decide +kernel
theorem dX10_fitsPolls_63 : decode cX10_fitsPolls 63 = .ok (.iload 5, 2) := by decide +kernel
theorem dX10_fitsPolls_65 : decode cX10_fitsPolls 65 = .ok (.iconst 0, 1) := by decide +kernel
theorem dX10_fitsPolls_66 : decode cX10_fitsPolls 66 = .ok (.invokevirtual 342, 3) := by decide +kernel
theorem dX10_fitsPolls_69 : decode cX10_fitsPolls 69 = .ok (.iload_n 2, 1) := by decide +kernel
theorem dX10_fitsPolls_70 : decode cX10_fitsPolls 70 = .ok (.if_icmp .ne 26, 3) := by decide +kernel
theorem dX10_fitsPolls_73 : decode cX10_fitsPolls 73 = .ok (.iload 6, 2) := by decide +kernel
theorem dX10_fitsPolls_75 : decode cX10_fitsPolls 75 = .ok (.aload_n 3, 1) := by decide +kernel
theorem dX10_fitsPolls_76 : decode cX10_fitsPolls 76 = .ok (.iload 5, 2) := by decide +kernel
theorem dX10_fitsPolls_78 : decode cX10_fitsPolls 78 = .ok (.iconst 1, 1) := by decide +kernel
theorem dX10_fitsPolls_79 : decode cX10_fitsPolls 79 = .ok (.invokevirtual 342, 3) := by decide +kernel
theorem dX10_fitsPolls_82 : decode cX10_fitsPolls 82 = .ok (.iconst 1, 1) := by decide +kernel
theorem dX10_fitsPolls_83 : decode cX10_fitsPolls 83 = .ok (.if_icmp .ne 7, 3) := by decide +kernel
theorem dX10_fitsPolls_86 : decode cX10_fitsPolls 86 = .ok (.iconst 1, 1) := by decide +kernel
theorem dX10_fitsPolls_87 : decode cX10_fitsPolls 87 = .ok (.goto 4, 3) := by decide +kernel
theorem dX10_fitsPolls_90 : decode cX10_fitsPolls 90 = .ok (.iconst 0, 1) := by decide +kernel
theorem dX10_fitsPolls_91 : decode cX10_fitsPolls 91 = .ok (.if_icmp .eq 5, 3) := by decide +kernel
theorem dX10_fitsPolls_94 : decode cX10_fitsPolls 94 = .ok (.iconst 0, 1) := by decide +kernel
theorem dX10_fitsPolls_95 : decode cX10_fitsPolls 95 = .ok (.ireturn, 1) := by decide +kernel
theorem dX10_fitsPolls_96 : decode cX10_fitsPolls 96 = .ok (.iinc 5 1, 3) := by decide +kernel
theorem dX10_fitsPolls_99 : decode cX10_fitsPolls 99 = .ok (.goto (-75), 3) := by decide +kernel
theorem dX10_fitsPolls_102 : decode cX10_fitsPolls 102 = .ok (.iconst 1, 1) := by decide +kernel
theorem dX10_fitsPolls_103 : decode cX10_fitsPolls 103 = .ok (.ireturn, 1) := by decide +kernel
theorem dX10_passNight_0 : decode cX10_passNight 0 = .ok (.aload_n 0, 1) := by decide +kernel
theorem dX10_passNight_1 : decode cX10_passNight 1 = .ok (.getfield 10, 3) := by decide +kernel
theorem dX10_passNight_4 : decode cX10_passNight 4 = .ok (.getfield 114, 3) := by decide +kernel
theorem dX10_passNight_7 : decode cX10_passNight 7 = .ok (.iload_n 2, 1) := by decide +kernel
theorem dX10_passNight_8 : decode cX10_passNight 8 = .ok (.invokevirtual 118, 3) := by decide +kernel
theorem dX10_passNight_11 : decode cX10_passNight 11 = .ok (.istore 4, 2) := by decide +kernel
theorem dX10_passNight_13 : decode cX10_passNight 13 = .ok (.aload_n 0, 1) := by decide +kernel
theorem dX10_passNight_14 : decode cX10_passNight 14 = .ok (.getfield 10, 3) := by decide +kernel
theorem dX10_passNight_17 : decode cX10_passNight 17 = .ok (.getfield 114, 3) := by decide +kernel
theorem dX10_passNight_20 : decode cX10_passNight 20 = .ok (.iload_n 2, 1) := by decide +kernel
theorem dX10_passNight_21 : decode cX10_passNight 21 = .ok (.invokevirtual 123, 3) := by decide +kernel
theorem dX10_passNight_24 : decode cX10_passNight 24 = .ok (.istore 5, 2) := by decide +kernel
theorem dX10_passNight_26 : decode cX10_passNight 26 = .ok (.aload_n 0, 1) := by decide +kernel
theorem dX10_passNight_27 : decode cX10_passNight 27 = .ok (.getfield 55, 3) := by decide +kernel
theorem dX10_passNight_30 : decode cX10_passNight 30 = .ok (.lconst 0, 1) := by decide +kernel
theorem dX10_passNight_31 : decode cX10_passNight 31 = .ok (.invokestatic 294, 3) := by decide +kernel
theorem dX10_passNight_34 : decode cX10_passNight 34 = .ok (.iconst 0, 1) := by decide +kernel
theorem dX10_passNight_35 : decode cX10_passNight 35 = .ok (.istore 6, 2) := by decide +kernel
theorem dX10_passNight_37 : decode cX10_passNight 37 = .ok (.iload 6, 2) := by decide +kernel
theorem dX10_passNight_39 : decode cX10_passNight 39 = .ok (.bipush 99, 2) := by decide +kernel
theorem dX10_passNight_41 : decode cX10_passNight 41 = .ok (.if_icmp .gt 65, 3) := by decide +kernel
theorem dX10_passNight_44 : decode cX10_passNight 44 = .ok (.aload_n 0, 1) := by decide +kernel
theorem dX10_passNight_45 : decode cX10_passNight 45 = .ok (.getfield 55, 3) := by decide +kernel
theorem dX10_passNight_48 : decode cX10_passNight 48 = .ok (.iload_n 1, 1) := by decide +kernel
theorem dX10_passNight_49 : decode cX10_passNight 49 = .ok (.iload 6, 2) := by decide +kernel
theorem dX10_passNight_51 : decode cX10_passNight 51 = .ok (.iconst 0, 1) := by decide +kernel
theorem dX10_passNight_52 : decode cX10_passNight 52 = .ok (.iload 5, 2) := by decide +kernel
theorem dX10_passNight_54 : decode cX10_passNight 54 = .ok (.invokestatic 345, 3) := by decide +kernel
theorem dX10_passNight_57 : decode cX10_passNight 57 = .ok (.aload_n 0, 1) := by decide +kernel
theorem dX10_passNight_58 : decode cX10_passNight 58 = .ok (.getfield 51, 3) := by decide +kernel
theorem dX10_passNight_61 : decode cX10_passNight 61 = .ok (.iload 6, 2) := by decide +kernel
theorem dX10_passNight_63 : decode cX10_passNight 63 = .ok (.laload, 1) := by decide +kernel
theorem dX10_passNight_64 : decode cX10_passNight 64 = .ok (.iload_n 3, 1) := by decide +kernel
theorem dX10_passNight_65 : decode cX10_passNight 65 = .ok (.i2l, 1) := by decide +kernel
theorem dX10_passNight_66 : decode cX10_passNight 66 = .ok (.lmul, 1) := by decide +kernel
theorem dX10_passNight_67 : decode cX10_passNight 67 = .ok (.invokestatic 300, 3) := by decide +kernel
theorem dX10_passNight_70 : decode cX10_passNight 70 = .ok (.aload_n 0, 1) := by decide +kernel
theorem dX10_passNight_71 : decode cX10_passNight 71 = .ok (.getfield 55, 3) := by decide +kernel
theorem dX10_passNight_74 : decode cX10_passNight 74 = .ok (.iload_n 1, 1) := by decide +kernel
theorem dX10_passNight_75 : decode cX10_passNight 75 = .ok (.iload 6, 2) := by decide +kernel
theorem dX10_passNight_77 : decode cX10_passNight 77 = .ok (.iload 4, 2) := by decide +kernel
theorem dX10_passNight_79 : decode cX10_passNight 79 = .ok (.iload 5, 2) := by decide +kernel
theorem dX10_passNight_81 : decode cX10_passNight 81 = .ok (.invokestatic 345, 3) := by decide +kernel
theorem dX10_passNight_84 : decode cX10_passNight 84 = .ok (.aload_n 0, 1) := by decide +kernel
theorem dX10_passNight_85 : decode cX10_passNight 85 = .ok (.getfield 51, 3) := by decide +kernel
theorem dX10_passNight_88 : decode cX10_passNight 88 = .ok (.iload 6, 2) := by decide +kernel
theorem dX10_passNight_90 : decode cX10_passNight 90 = .ok (.laload, 1) := by decide +kernel
theorem dX10_passNight_91 : decode cX10_passNight 91 = .ok (.bipush 10, 2) := by decide +kernel
theorem dX10_passNight_93 : decode cX10_passNight 93 = .ok (.iload_n 3, 1) := by decide +kernel
theorem dX10_passNight_94 : decode cX10_passNight 94 = .ok (.isub, 1) := by decide +kernel
theorem dX10_passNight_95 : decode cX10_passNight 95 = .ok (.i2l, 1) := by decide +kernel
theorem dX10_passNight_96 : decode cX10_passNight 96 = .ok (.lmul, 1) := by decide +kernel
theorem dX10_passNight_97 : decode cX10_passNight 97 = .ok (.invokestatic 300, 3) := by decide +kernel
theorem dX10_passNight_100 : decode cX10_passNight 100 = .ok (.iinc 6 1, 3) := by decide +kernel
theorem dX10_passNight_103 : decode cX10_passNight 103 = .ok (.goto (-66), 3) := by decide +kernel
theorem dX10_passNight_106 : decode cX10_passNight 106 = .ok (.aload_n 0, 1) := by decide +kernel
theorem dX10_passNight_107 : decode cX10_passNight 107 = .ok (.getfield 55, 3) := by decide +kernel
theorem dX10_passNight_110 : decode cX10_passNight 110 = .ok (.iconst 0, 1) := by decide +kernel
theorem dX10_passNight_111 : decode cX10_passNight 111 = .ok (.aload_n 0, 1) := by decide +kernel
theorem dX10_passNight_112 : decode cX10_passNight 112 = .ok (.getfield 51, 3) := by decide +kernel
theorem dX10_passNight_115 : decode cX10_passNight 115 = .ok (.iconst 0, 1) := by decide +kernel
theorem dX10_passNight_116 : decode cX10_passNight 116 = .ok (.bipush 100, 2) := by decide +kernel
theorem dX10_passNight_118 : decode cX10_passNight 118 = .ok (.invokestatic 353, 3) := by decide +kernel
theorem dX10_passNight_121 : decode cX10_passNight 121 = .ok (.return_, 1) := by decide +kernel
theorem dX10_addAt_0 : decode cX10_addAt 0 = .ok (.iload_n 1, 1) := by decide +kernel
theorem dX10_addAt_1 : decode cX10_addAt 1 = .ok (.ifCond .lt 16, 3) := by decide +kernel
theorem dX10_addAt_4 : decode cX10_addAt 4 = .ok (.iload_n 1, 1) := by decide +kernel
theorem dX10_addAt_5 : decode cX10_addAt 5 = .ok (.aload_n 0, 1) := by decide +kernel
theorem dX10_addAt_6 : decode cX10_addAt 6 = .ok (.arraylength, 1) := by decide +kernel
theorem dX10_addAt_7 : decode cX10_addAt 7 = .ok (.if_icmp .ge 10, 3) := by decide +kernel
theorem dX10_addAt_10 : decode cX10_addAt 10 = .ok (.aload_n 0, 1) := by decide +kernel
theorem dX10_addAt_11 : decode cX10_addAt 11 = .ok (.iload_n 1, 1) := by decide +kernel
theorem dX10_addAt_12 : decode cX10_addAt 12 = .ok (.dup2, 1) := by decide +kernel
theorem dX10_addAt_13 : decode cX10_addAt 13 = .ok (.laload, 1) := by decide +kernel
theorem dX10_addAt_14 : decode cX10_addAt 14 = .ok (.lload_n 2, 1) := by decide +kernel
theorem dX10_addAt_15 : decode cX10_addAt 15 = .ok (.ladd, 1) := by decide +kernel
theorem dX10_addAt_16 : decode cX10_addAt 16 = .ok (.lastore, 1) := by decide +kernel
theorem dX10_addAt_17 : decode cX10_addAt 17 = .ok (.return_, 1) := by decide +kernel
theorem dX10_keepFraction_0 : decode cX10_keepFraction 0 = .ok (.lload_n 1, 1) := by decide +kernel
theorem dX10_keepFraction_1 : decode cX10_keepFraction 1 = .ok (.lstore 5, 2) := by decide +kernel
theorem dX10_keepFraction_3 : decode cX10_keepFraction 3 = .ok (.lload_n 3, 1) := by decide +kernel
theorem dX10_keepFraction_4 : decode cX10_keepFraction 4 = .ok (.lstore 7, 2) := by decide +kernel
theorem dX10_keepFraction_6 : decode cX10_keepFraction 6 = .ok (.iconst 0, 1) := by decide +kernel
theorem dX10_keepFraction_7 : decode cX10_keepFraction 7 = .ok (.istore 9, 2) := by decide +kernel
theorem dX10_keepFraction_9 : decode cX10_keepFraction 9 = .ok (.iload 9, 2) := by decide +kernel
theorem dX10_keepFraction_11 : decode cX10_keepFraction 11 = .ok (.bipush 100, 2) := by decide +kernel
theorem dX10_keepFraction_13 : decode cX10_keepFraction 13 = .ok (.if_icmp .ge 31, 3) := by decide +kernel
theorem dX10_keepFraction_16 : decode cX10_keepFraction 16 = .ok (.lload 5, 2) := by decide +kernel
theorem dX10_keepFraction_18 : decode cX10_keepFraction 18 = .ok (.lconst 0, 1) := by decide +kernel
theorem dX10_keepFraction_19 : decode cX10_keepFraction 19 = .ok (.lcmp, 1) := by decide +kernel
theorem dX10_keepFraction_20 : decode cX10_keepFraction 20 = .ok (.ifCond .eq 24, 3) := by decide +kernel
theorem dX10_keepFraction_23 : decode cX10_keepFraction 23 = .ok (.lload 7, 2) := by decide +kernel
theorem dX10_keepFraction_25 : decode cX10_keepFraction 25 = .ok (.lload 5, 2) := by decide +kernel
theorem dX10_keepFraction_27 : decode cX10_keepFraction 27 = .ok (.lrem, 1) := by decide +kernel
theorem dX10_keepFraction_28 : decode cX10_keepFraction 28 = .ok (.lstore 10, 2) := by decide +kernel
theorem dX10_keepFraction_30 : decode cX10_keepFraction 30 = .ok (.lload 5, 2) := by decide +kernel
theorem dX10_keepFraction_32 : decode cX10_keepFraction 32 = .ok (.lstore 7, 2) := by decide +kernel
theorem dX10_keepFraction_34 : decode cX10_keepFraction 34 = .ok (.lload 10, 2) := by decide +kernel
theorem dX10_keepFraction_36 : decode cX10_keepFraction 36 = .ok (.lstore 5, 2) := by decide +kernel
theorem dX10_keepFraction_38 : decode cX10_keepFraction 38 = .ok (.iinc 9 1, 3) := by decide +kernel
theorem dX10_keepFraction_41 : decode cX10_keepFraction 41 = .ok (.goto (-32), 3) := by decide +kernel
theorem dX10_keepFraction_44 : decode cX10_keepFraction 44 = .ok (.lload 7, 2) := by decide +kernel
theorem dX10_keepFraction_46 : decode cX10_keepFraction 46 = .ok (.lconst 0, 1) := by decide +kernel
theorem dX10_keepFraction_47 : decode cX10_keepFraction 47 = .ok (.lcmp, 1) := by decide +kernel
theorem dX10_keepFraction_48 : decode cX10_keepFraction 48 = .ok (.ifCond .le 19, 3) := by decide +kernel
theorem dX10_keepFraction_51 : decode cX10_keepFraction 51 = .ok (.aload_n 0, 1) := by decide +kernel
theorem dX10_keepFraction_52 : decode cX10_keepFraction 52 = .ok (.lload_n 1, 1) := by decide +kernel
theorem dX10_keepFraction_53 : decode cX10_keepFraction 53 = .ok (.lload 7, 2) := by decide +kernel
theorem dX10_keepFraction_55 : decode cX10_keepFraction 55 = .ok (.ldiv, 1) := by decide +kernel
theorem dX10_keepFraction_56 : decode cX10_keepFraction 56 = .ok (.putfield 58, 3) := by decide +kernel
theorem dX10_keepFraction_59 : decode cX10_keepFraction 59 = .ok (.aload_n 0, 1) := by decide +kernel
theorem dX10_keepFraction_60 : decode cX10_keepFraction 60 = .ok (.lload_n 3, 1) := by decide +kernel
theorem dX10_keepFraction_61 : decode cX10_keepFraction 61 = .ok (.lload 7, 2) := by decide +kernel
theorem dX10_keepFraction_63 : decode cX10_keepFraction 63 = .ok (.ldiv, 1) := by decide +kernel
theorem dX10_keepFraction_64 : decode cX10_keepFraction 64 = .ok (.putfield 62, 3) := by decide +kernel
theorem dX10_keepFraction_67 : decode cX10_keepFraction 67 = .ok (.return_, 1) := by decide +kernel
theorem dJ6_bitCount_0f7a4_0 : decode cJ6_bitCount_0f7a4 0 = .ok (.iload_n 0, 1) := by decide +kernel
theorem dJ6_bitCount_0f7a4_1 : decode cJ6_bitCount_0f7a4 1 = .ok (.iload_n 0, 1) := by decide +kernel
theorem dJ6_bitCount_0f7a4_2 : decode cJ6_bitCount_0f7a4 2 = .ok (.iconst 1, 1) := by decide +kernel
theorem dJ6_bitCount_0f7a4_3 : decode cJ6_bitCount_0f7a4 3 = .ok (.iushr, 1) := by decide +kernel
theorem dJ6_bitCount_0f7a4_4 : decode cJ6_bitCount_0f7a4 4 = .ok (.ldc_w 265, 3) := by decide +kernel
theorem dJ6_bitCount_0f7a4_7 : decode cJ6_bitCount_0f7a4 7 = .ok (.iand, 1) := by decide +kernel
theorem dJ6_bitCount_0f7a4_8 : decode cJ6_bitCount_0f7a4 8 = .ok (.isub, 1) := by decide +kernel
theorem dJ6_bitCount_0f7a4_9 : decode cJ6_bitCount_0f7a4 9 = .ok (.istore_n 0, 1) := by decide +kernel
theorem dJ6_bitCount_0f7a4_10 : decode cJ6_bitCount_0f7a4 10 = .ok (.iload_n 0, 1) := by decide +kernel
theorem dJ6_bitCount_0f7a4_11 : decode cJ6_bitCount_0f7a4 11 = .ok (.ldc_w 266, 3) := by decide +kernel
theorem dJ6_bitCount_0f7a4_14 : decode cJ6_bitCount_0f7a4 14 = .ok (.iand, 1) := by decide +kernel
theorem dJ6_bitCount_0f7a4_15 : decode cJ6_bitCount_0f7a4 15 = .ok (.iload_n 0, 1) := by decide +kernel
theorem dJ6_bitCount_0f7a4_16 : decode cJ6_bitCount_0f7a4 16 = .ok (.iconst 2, 1) := by decide +kernel
theorem dJ6_bitCount_0f7a4_17 : decode cJ6_bitCount_0f7a4 17 = .ok (.iushr, 1) := by decide +kernel
theorem dJ6_bitCount_0f7a4_18 : decode cJ6_bitCount_0f7a4 18 = .ok (.ldc_w 266, 3) := by decide +kernel
theorem dJ6_bitCount_0f7a4_21 : decode cJ6_bitCount_0f7a4 21 = .ok (.iand, 1) := by decide +kernel
theorem dJ6_bitCount_0f7a4_22 : decode cJ6_bitCount_0f7a4 22 = .ok (.iadd, 1) := by decide +kernel
theorem dJ6_bitCount_0f7a4_23 : decode cJ6_bitCount_0f7a4 23 = .ok (.istore_n 0, 1) := by decide +kernel
theorem dJ6_bitCount_0f7a4_24 : decode cJ6_bitCount_0f7a4 24 = .ok (.iload_n 0, 1) := by decide +kernel
theorem dJ6_bitCount_0f7a4_25 : decode cJ6_bitCount_0f7a4 25 = .ok (.iload_n 0, 1) := by decide +kernel
theorem dJ6_bitCount_0f7a4_26 : decode cJ6_bitCount_0f7a4 26 = .ok (.iconst 4, 1) := by decide +kernel
theorem dJ6_bitCount_0f7a4_27 : decode cJ6_bitCount_0f7a4 27 = .ok (.iushr, 1) := by decide +kernel
theorem dJ6_bitCount_0f7a4_28 : decode cJ6_bitCount_0f7a4 28 = .ok (.iadd, 1) := by decide +kernel
theorem dJ6_bitCount_0f7a4_29 : decode cJ6_bitCount_0f7a4 29 = .ok (.ldc_w 267, 3) := by decide +kernel
theorem dJ6_bitCount_0f7a4_32 : decode cJ6_bitCount_0f7a4 32 = .ok (.iand, 1) := by decide +kernel
theorem dJ6_bitCount_0f7a4_33 : decode cJ6_bitCount_0f7a4 33 = .ok (.istore_n 0, 1) := by decide +kernel
theorem dJ6_bitCount_0f7a4_34 : decode cJ6_bitCount_0f7a4 34 = .ok (.iload_n 0, 1) := by decide +kernel
theorem dJ6_bitCount_0f7a4_35 : decode cJ6_bitCount_0f7a4 35 = .ok (.iload_n 0, 1) := by decide +kernel
theorem dJ6_bitCount_0f7a4_36 : decode cJ6_bitCount_0f7a4 36 = .ok (.bipush 8, 2) := by decide +kernel
theorem dJ6_bitCount_0f7a4_38 : decode cJ6_bitCount_0f7a4 38 = .ok (.iushr, 1) := by decide +kernel
theorem dJ6_bitCount_0f7a4_39 : decode cJ6_bitCount_0f7a4 39 = .ok (.iadd, 1) := by decide +kernel
theorem dJ6_bitCount_0f7a4_40 : decode cJ6_bitCount_0f7a4 40 = .ok (.istore_n 0, 1) := by decide +kernel
theorem dJ6_bitCount_0f7a4_41 : decode cJ6_bitCount_0f7a4 41 = .ok (.iload_n 0, 1) := by decide +kernel
theorem dJ6_bitCount_0f7a4_42 : decode cJ6_bitCount_0f7a4 42 = .ok (.iload_n 0, 1) := by decide +kernel
theorem dJ6_bitCount_0f7a4_43 : decode cJ6_bitCount_0f7a4 43 = .ok (.bipush 16, 2) := by decide +kernel
theorem dJ6_bitCount_0f7a4_45 : decode cJ6_bitCount_0f7a4 45 = .ok (.iushr, 1) := by decide +kernel
theorem dJ6_bitCount_0f7a4_46 : decode cJ6_bitCount_0f7a4 46 = .ok (.iadd, 1) := by decide +kernel
theorem dJ6_bitCount_0f7a4_47 : decode cJ6_bitCount_0f7a4 47 = .ok (.istore_n 0, 1) := by decide +kernel
theorem dJ6_bitCount_0f7a4_48 : decode cJ6_bitCount_0f7a4 48 = .ok (.iload_n 0, 1) := by decide +kernel
theorem dJ6_bitCount_0f7a4_49 : decode cJ6_bitCount_0f7a4 49 = .ok (.bipush 63, 2) := by decide +kernel
theorem dJ6_bitCount_0f7a4_51 : decode cJ6_bitCount_0f7a4 51 = .ok (.iand, 1) := by decide +kernel
theorem dJ6_bitCount_0f7a4_52 : decode cJ6_bitCount_0f7a4 52 = .ok (.ireturn, 1) := by decide +kernel
theorem dJ9_floorMod_7cf53_0 : decode cJ9_floorMod_7cf53 0 = .ok (.iload_n 0, 1) := by decide +kernel
theorem dJ9_floorMod_7cf53_1 : decode cJ9_floorMod_7cf53 1 = .ok (.iload_n 1, 1) := by decide +kernel
theorem dJ9_floorMod_7cf53_2 : decode cJ9_floorMod_7cf53 2 = .ok (.irem, 1) := by decide +kernel
theorem dJ9_floorMod_7cf53_3 : decode cJ9_floorMod_7cf53 3 = .ok (.istore_n 2, 1) := by decide +kernel
theorem dJ9_floorMod_7cf53_4 : decode cJ9_floorMod_7cf53 4 = .ok (.iload_n 0, 1) := by decide +kernel
theorem dJ9_floorMod_7cf53_5 : decode cJ9_floorMod_7cf53 5 = .ok (.iload_n 1, 1) := by decide +kernel
theorem dJ9_floorMod_7cf53_6 : decode cJ9_floorMod_7cf53 6 = .ok (.ixor, 1) := by decide +kernel
theorem dJ9_floorMod_7cf53_7 : decode cJ9_floorMod_7cf53 7 = .ok (.ifCond .ge 11, 3) := by decide +kernel
theorem dJ9_floorMod_7cf53_10 : decode cJ9_floorMod_7cf53 10 = .ok (.iload_n 2, 1) := by decide +kernel
theorem dJ9_floorMod_7cf53_11 : decode cJ9_floorMod_7cf53 11 = .ok (.ifCond .eq 7, 3) := by decide +kernel
theorem dJ9_floorMod_7cf53_14 : decode cJ9_floorMod_7cf53 14 = .ok (.iload_n 2, 1) := by decide +kernel
theorem dJ9_floorMod_7cf53_15 : decode cJ9_floorMod_7cf53 15 = .ok (.iload_n 1, 1) := by decide +kernel
theorem dJ9_floorMod_7cf53_16 : decode cJ9_floorMod_7cf53 16 = .ok (.iadd, 1) := by decide +kernel
theorem dJ9_floorMod_7cf53_17 : decode cJ9_floorMod_7cf53 17 = .ok (.ireturn, 1) := by decide +kernel
theorem dJ9_floorMod_7cf53_18 : decode cJ9_floorMod_7cf53 18 = .ok (.iload_n 2, 1) := by decide +kernel
theorem dJ9_floorMod_7cf53_19 : decode cJ9_floorMod_7cf53 19 = .ok (.ireturn, 1) := by decide +kernel
theorem dJ9_max_7cf53_0 : decode cJ9_max_7cf53 0 = .ok (.iload_n 0, 1) := by decide +kernel
theorem dJ9_max_7cf53_1 : decode cJ9_max_7cf53 1 = .ok (.iload_n 1, 1) := by decide +kernel
theorem dJ9_max_7cf53_2 : decode cJ9_max_7cf53 2 = .ok (.if_icmp .lt 7, 3) := by decide +kernel
theorem dJ9_max_7cf53_5 : decode cJ9_max_7cf53 5 = .ok (.iload_n 0, 1) := by decide +kernel
theorem dJ9_max_7cf53_6 : decode cJ9_max_7cf53 6 = .ok (.goto 4, 3) := by decide +kernel
theorem dJ9_max_7cf53_9 : decode cJ9_max_7cf53 9 = .ok (.iload_n 1, 1) := by decide +kernel
theorem dJ9_max_7cf53_10 : decode cJ9_max_7cf53 10 = .ok (.ireturn, 1) := by decide +kernel
theorem dJ9_min_7cf53_0 : decode cJ9_min_7cf53 0 = .ok (.iload_n 0, 1) := by decide +kernel
theorem dJ9_min_7cf53_1 : decode cJ9_min_7cf53 1 = .ok (.iload_n 1, 1) := by decide +kernel
theorem dJ9_min_7cf53_2 : decode cJ9_min_7cf53 2 = .ok (.if_icmp .gt 7, 3) := by decide +kernel
theorem dJ9_min_7cf53_5 : decode cJ9_min_7cf53 5 = .ok (.iload_n 0, 1) := by decide +kernel
theorem dJ9_min_7cf53_6 : decode cJ9_min_7cf53 6 = .ok (.goto 4, 3) := by decide +kernel
theorem dJ9_min_7cf53_9 : decode cJ9_min_7cf53 9 = .ok (.iload_n 1, 1) := by decide +kernel
theorem dJ9_min_7cf53_10 : decode cJ9_min_7cf53 10 = .ok (.ireturn, 1) := by decide +kernel
theorem dJ0_length_8abf5_0 : decode cJ0_length_8abf5 0 = .ok (.aload_n 0, 1) := by decide +kernel
theorem dJ0_length_8abf5_1 : decode cJ0_length_8abf5 1 = .ok (.getfield 9, 3) := by decide +kernel
theorem dJ0_length_8abf5_4 : decode cJ0_length_8abf5 4 = .ok (.arraylength, 1) := by decide +kernel
theorem dJ0_length_8abf5_5 : decode cJ0_length_8abf5 5 = .ok (.aload_n 0, 1) := by decide +kernel
theorem dJ0_length_8abf5_6 : decode cJ0_length_8abf5 6 = .ok (.invokevirtual 335, 3) := by decide +kernel
theorem dJ0_length_8abf5_9 : decode cJ0_length_8abf5 9 = .ok (.ishr, 1) := by decide +kernel
theorem dJ0_length_8abf5_10 : decode cJ0_length_8abf5 10 = .ok (.ireturn, 1) := by decide +kernel
theorem dJ0_charAt_5068e_0 : decode cJ0_charAt_5068e 0 = .ok (.aload_n 0, 1) := by decide +kernel
theorem dJ0_charAt_5068e_1 : decode cJ0_charAt_5068e 1 = .ok (.invokevirtual 492, 3) := by decide +kernel
theorem dJ0_charAt_5068e_4 : decode cJ0_charAt_5068e 4 = .ok (.ifCond .eq 12, 3) := by decide +kernel
theorem dJ0_charAt_5068e_7 : decode cJ0_charAt_5068e 7 = .ok (.aload_n 0, 1) := by decide +kernel
theorem dJ0_charAt_5068e_8 : decode cJ0_charAt_5068e 8 = .ok (.getfield 9, 3) := by decide +kernel
theorem dJ0_charAt_5068e_11 : decode cJ0_charAt_5068e 11 = .ok (.iload_n 1, 1) := by decide +kernel
theorem dJ0_charAt_5068e_12 : decode cJ0_charAt_5068e 12 = .ok (.invokestatic 495, 3) := by decide +kernel
theorem dJ0_charAt_5068e_15 : decode cJ0_charAt_5068e 15 = .ok (.ireturn, 1) := by decide +kernel
theorem dJ0_charAt_5068e_16 : decode cJ0_charAt_5068e 16 = .ok (.aload_n 0, 1) := by decide +kernel
theorem dJ0_charAt_5068e_17 : decode cJ0_charAt_5068e 17 = .ok (.getfield 9, 3) := by decide +kernel
theorem dJ0_charAt_5068e_20 : decode cJ0_charAt_5068e 20 = .ok (.iload_n 1, 1) := by decide +kernel
theorem dJ0_charAt_5068e_21 : decode cJ0_charAt_5068e 21 = .ok (.invokestatic 498, 3) := by decide +kernel
theorem dJ0_charAt_5068e_24 : decode cJ0_charAt_5068e 24 = .ok (.ireturn, 1) := by decide +kernel
theorem dJ0_coder_7d493_0 : decode cJ0_coder_7d493 0 = .ok (.getstatic 38, 3) := by decide +kernel
theorem dJ0_coder_7d493_3 : decode cJ0_coder_7d493 3 = .ok (.ifCond .eq 10, 3) := by decide +kernel
theorem dJ0_coder_7d493_6 : decode cJ0_coder_7d493 6 = .ok (.aload_n 0, 1) := by decide +kernel
theorem dJ0_coder_7d493_7 : decode cJ0_coder_7d493 7 = .ok (.getfield 15, 3) := by decide +kernel
theorem dJ0_coder_7d493_10 : decode cJ0_coder_7d493 10 = .ok (.goto 4, 3) := by decide +kernel
theorem dJ0_coder_7d493_13 : decode cJ0_coder_7d493 13 = .ok (.iconst 1, 1) := by decide +kernel
theorem dJ0_coder_7d493_14 : decode cJ0_coder_7d493 14 = .ok (.ireturn, 1) := by decide +kernel
theorem dJ0_isLatin1_aae02_0 : decode cJ0_isLatin1_aae02 0 = .ok (.getstatic 38, 3) := by decide +kernel
theorem dJ0_isLatin1_aae02_3 : decode cJ0_isLatin1_aae02 3 = .ok (.ifCond .eq 14, 3) := by decide +kernel
theorem dJ0_isLatin1_aae02_6 : decode cJ0_isLatin1_aae02 6 = .ok (.aload_n 0, 1) := by decide +kernel
theorem dJ0_isLatin1_aae02_7 : decode cJ0_isLatin1_aae02 7 = .ok (.getfield 15, 3) := by decide +kernel
theorem dJ0_isLatin1_aae02_10 : decode cJ0_isLatin1_aae02 10 = .ok (.ifCond .ne 7, 3) := by decide +kernel
theorem dJ0_isLatin1_aae02_13 : decode cJ0_isLatin1_aae02 13 = .ok (.iconst 1, 1) := by decide +kernel
theorem dJ0_isLatin1_aae02_14 : decode cJ0_isLatin1_aae02 14 = .ok (.goto 4, 3) := by decide +kernel
theorem dJ0_isLatin1_aae02_17 : decode cJ0_isLatin1_aae02 17 = .ok (.iconst 0, 1) := by decide +kernel
theorem dJ0_isLatin1_aae02_18 : decode cJ0_isLatin1_aae02 18 = .ok (.ireturn, 1) := by decide +kernel
theorem dJ0_checkIndex_df160_0 : decode cJ0_checkIndex_df160 0 = .ok (.iload_n 0, 1) := by decide +kernel
theorem dJ0_checkIndex_df160_1 : decode cJ0_checkIndex_df160 1 = .ok (.iload_n 1, 1) := by decide +kernel
theorem dJ0_checkIndex_df160_2 : decode cJ0_checkIndex_df160 2 = .ok (.getstatic 1053, 3) := by decide +kernel
theorem dJ0_checkIndex_df160_5 : decode cJ0_checkIndex_df160 5 = .ok (.invokestatic 1059, 3) := by decide +kernel
theorem dJ0_checkIndex_df160_8 : decode cJ0_checkIndex_df160 8 = .ok (.pop, 1) := by decide +kernel
theorem dJ0_checkIndex_df160_9 : decode cJ0_checkIndex_df160 9 = .ok (.return_, 1) := by decide +kernel
theorem dJ1_charAt_3b067_0 : decode cJ1_charAt_3b067 0 = .ok (.iload_n 1, 1) := by decide +kernel
theorem dJ1_charAt_3b067_1 : decode cJ1_charAt_3b067 1 = .ok (.aload_n 0, 1) := by decide +kernel
theorem dJ1_charAt_3b067_2 : decode cJ1_charAt_3b067 2 = .ok (.arraylength, 1) := by decide +kernel
theorem dJ1_charAt_3b067_3 : decode cJ1_charAt_3b067 3 = .ok (.invokestatic 9, 3) := by decide +kernel
theorem dJ1_charAt_3b067_6 : decode cJ1_charAt_3b067 6 = .ok (.aload_n 0, 1) := by decide +kernel
theorem dJ1_charAt_3b067_7 : decode cJ1_charAt_3b067 7 = .ok (.iload_n 1, 1) := by decide +kernel
theorem dJ1_charAt_3b067_8 : decode cJ1_charAt_3b067 8 = .ok (.baload, 1) := by decide +kernel
theorem dJ1_charAt_3b067_9 : decode cJ1_charAt_3b067 9 = .ok (.sipush 255, 3) := by decide +kernel
theorem dJ1_charAt_3b067_12 : decode cJ1_charAt_3b067 12 = .ok (.iand, 1) := by decide +kernel
theorem dJ1_charAt_3b067_13 : decode cJ1_charAt_3b067 13 = .ok (.i2c, 1) := by decide +kernel
theorem dJ1_charAt_3b067_14 : decode cJ1_charAt_3b067 14 = .ok (.ireturn, 1) := by decide +kernel
theorem dJ2_getChar_3b067_0 : decode cJ2_getChar_3b067 0 = .ok (.getstatic 44, 3) := by decide +kernel
theorem dJ2_getChar_3b067_3 : decode cJ2_getChar_3b067 3 = .ok (.ifCond .ne 25, 3) := by decide +kernel
theorem dJ2_getChar_3b067_6 : decode cJ2_getChar_3b067 6 = .ok (.iload_n 1, 1) := by decide +kernel
theorem dJ2_getChar_3b067_7 : decode cJ2_getChar_3b067 7 = .ok (.ifCond .lt 11, 3) := by decide +kernel
theorem dJ2_getChar_3b067_10 : decode cJ2_getChar_3b067 10 = .ok (.iload_n 1, 1) := by decide +kernel
theorem dJ2_getChar_3b067_11 : decode cJ2_getChar_3b067 11 = .ok (.aload_n 0, 1) := by decide +kernel
theorem dJ2_getChar_3b067_12 : decode cJ2_getChar_3b067 12 = .ok (.invokestatic 48, 3) := by decide +kernel
theorem dJ2_getChar_3b067_15 : decode cJ2_getChar_3b067 15 = .ok (.if_icmp .lt 13, 3) := by decide +kernel
theorem dJ2_getChar_3b067_18 : decode cJ2_getChar_3b067 18 = .ok (.new 52, 3) := by decide +kernel
theorem dJ2_getChar_3b067_21 : decode cJ2_getChar_3b067 21 = .ok (.dup, 1) := by decide +kernel
theorem dJ2_getChar_3b067_22 : decode cJ2_getChar_3b067 22 = .ok (.ldc 54, 2) := by decide +kernel
theorem dJ2_getChar_3b067_24 : decode cJ2_getChar_3b067 24 = .ok (.invokespecial 56, 3) := by decide +kernel
theorem dJ2_getChar_3b067_27 : decode cJ2_getChar_3b067 27 = .ok (.athrow, 1) := by decide +kernel
theorem dJ2_getChar_3b067_28 : decode cJ2_getChar_3b067 28 = .ok (.iload_n 1, 1) := by decide +kernel
theorem dJ2_getChar_3b067_29 : decode cJ2_getChar_3b067 29 = .ok (.iconst 1, 1) := by decide +kernel
theorem dJ2_getChar_3b067_30 : decode cJ2_getChar_3b067 30 = .ok (.ishl, 1) := by decide +kernel
theorem dJ2_getChar_3b067_31 : decode cJ2_getChar_3b067 31 = .ok (.istore_n 1, 1) := by decide +kernel
theorem dJ2_getChar_3b067_32 : decode cJ2_getChar_3b067 32 = .ok (.aload_n 0, 1) := by decide +kernel
theorem dJ2_getChar_3b067_33 : decode cJ2_getChar_3b067 33 = .ok (.iload_n 1, 1) := by decide +kernel
theorem dJ2_getChar_3b067_34 : decode cJ2_getChar_3b067 34 = .ok (.iinc 1 1, 3) := by decide +kernel
theorem dJ2_getChar_3b067_37 : decode cJ2_getChar_3b067 37 = .ok (.baload, 1) := by decide +kernel
theorem dJ2_getChar_3b067_38 : decode cJ2_getChar_3b067 38 = .ok (.sipush 255, 3) := by decide +kernel
theorem dJ2_getChar_3b067_41 : decode cJ2_getChar_3b067 41 = .ok (.iand, 1) := by decide +kernel
theorem dJ2_getChar_3b067_42 : decode cJ2_getChar_3b067 42 = .ok (.getstatic 59, 3) := by decide +kernel
theorem dJ2_getChar_3b067_45 : decode cJ2_getChar_3b067 45 = .ok (.ishl, 1) := by decide +kernel
theorem dJ2_getChar_3b067_46 : decode cJ2_getChar_3b067 46 = .ok (.aload_n 0, 1) := by decide +kernel
theorem dJ2_getChar_3b067_47 : decode cJ2_getChar_3b067 47 = .ok (.iload_n 1, 1) := by decide +kernel
theorem dJ2_getChar_3b067_48 : decode cJ2_getChar_3b067 48 = .ok (.baload, 1) := by decide +kernel
theorem dJ2_getChar_3b067_49 : decode cJ2_getChar_3b067 49 = .ok (.sipush 255, 3) := by decide +kernel
theorem dJ2_getChar_3b067_52 : decode cJ2_getChar_3b067 52 = .ok (.iand, 1) := by decide +kernel
theorem dJ2_getChar_3b067_53 : decode cJ2_getChar_3b067 53 = .ok (.getstatic 63, 3) := by decide +kernel
theorem dJ2_getChar_3b067_56 : decode cJ2_getChar_3b067 56 = .ok (.ishl, 1) := by decide +kernel
theorem dJ2_getChar_3b067_57 : decode cJ2_getChar_3b067 57 = .ok (.ior, 1) := by decide +kernel
theorem dJ2_getChar_3b067_58 : decode cJ2_getChar_3b067 58 = .ok (.i2c, 1) := by decide +kernel
theorem dJ2_getChar_3b067_59 : decode cJ2_getChar_3b067 59 = .ok (.ireturn, 1) := by decide +kernel
theorem dJ2_length_9d52b_0 : decode cJ2_length_9d52b 0 = .ok (.aload_n 0, 1) := by decide +kernel
theorem dJ2_length_9d52b_1 : decode cJ2_length_9d52b 1 = .ok (.arraylength, 1) := by decide +kernel
theorem dJ2_length_9d52b_2 : decode cJ2_length_9d52b 2 = .ok (.iconst 1, 1) := by decide +kernel
theorem dJ2_length_9d52b_3 : decode cJ2_length_9d52b 3 = .ok (.ishr, 1) := by decide +kernel
theorem dJ2_length_9d52b_4 : decode cJ2_length_9d52b 4 = .ok (.ireturn, 1) := by decide +kernel
theorem dJ2_charAt_3b067_0 : decode cJ2_charAt_3b067 0 = .ok (.iload_n 1, 1) := by decide +kernel
theorem dJ2_charAt_3b067_1 : decode cJ2_charAt_3b067 1 = .ok (.aload_n 0, 1) := by decide +kernel
theorem dJ2_charAt_3b067_2 : decode cJ2_charAt_3b067 2 = .ok (.invokestatic 67, 3) := by decide +kernel
theorem dJ2_charAt_3b067_5 : decode cJ2_charAt_3b067 5 = .ok (.aload_n 0, 1) := by decide +kernel
theorem dJ2_charAt_3b067_6 : decode cJ2_charAt_3b067 6 = .ok (.iload_n 1, 1) := by decide +kernel
theorem dJ2_charAt_3b067_7 : decode cJ2_charAt_3b067 7 = .ok (.invokestatic 71, 3) := by decide +kernel
theorem dJ2_charAt_3b067_10 : decode cJ2_charAt_3b067 10 = .ok (.ireturn, 1) := by decide +kernel
theorem dJ2_checkIndex_2214a_0 : decode cJ2_checkIndex_2214a 0 = .ok (.iload_n 0, 1) := by decide +kernel
theorem dJ2_checkIndex_2214a_1 : decode cJ2_checkIndex_2214a 1 = .ok (.aload_n 1, 1) := by decide +kernel
theorem dJ2_checkIndex_2214a_2 : decode cJ2_checkIndex_2214a 2 = .ok (.invokestatic 48, 3) := by decide +kernel
theorem dJ2_checkIndex_2214a_5 : decode cJ2_checkIndex_2214a 5 = .ok (.invokestatic 414, 3) := by decide +kernel
theorem dJ2_checkIndex_2214a_8 : decode cJ2_checkIndex_2214a 8 = .ok (.return_, 1) := by decide +kernel
theorem dJ7_fill_d0a16_0 : decode cJ7_fill_d0a16 0 = .ok (.iconst 0, 1) := by decide +kernel
theorem dJ7_fill_d0a16_1 : decode cJ7_fill_d0a16 1 = .ok (.istore_n 3, 1) := by decide +kernel
theorem dJ7_fill_d0a16_2 : decode cJ7_fill_d0a16 2 = .ok (.aload_n 0, 1) := by decide +kernel
theorem dJ7_fill_d0a16_3 : decode cJ7_fill_d0a16 3 = .ok (.arraylength, 1) := by decide +kernel
theorem dJ7_fill_d0a16_4 : decode cJ7_fill_d0a16 4 = .ok (.istore 4, 2) := by decide +kernel
theorem dJ7_fill_d0a16_6 : decode cJ7_fill_d0a16 6 = .ok (.iload_n 3, 1) := by decide +kernel
theorem dJ7_fill_d0a16_7 : decode cJ7_fill_d0a16 7 = .ok (.iload 4, 2) := by decide +kernel
theorem dJ7_fill_d0a16_9 : decode cJ7_fill_d0a16 9 = .ok (.if_icmp .ge 13, 3) := by decide +kernel
theorem dJ7_fill_d0a16_12 : decode cJ7_fill_d0a16 12 = .ok (.aload_n 0, 1) := by decide +kernel
theorem dJ7_fill_d0a16_13 : decode cJ7_fill_d0a16 13 = .ok (.iload_n 3, 1) := by decide +kernel
theorem dJ7_fill_d0a16_14 : decode cJ7_fill_d0a16 14 = .ok (.lload_n 1, 1) := by decide +kernel
theorem dJ7_fill_d0a16_15 : decode cJ7_fill_d0a16 15 = .ok (.lastore, 1) := by decide +kernel
theorem dJ7_fill_d0a16_16 : decode cJ7_fill_d0a16 16 = .ok (.iinc 3 1, 3) := by decide +kernel
theorem dJ7_fill_d0a16_19 : decode cJ7_fill_d0a16 19 = .ok (.goto (-13), 3) := by decide +kernel
theorem dJ7_fill_d0a16_22 : decode cJ7_fill_d0a16 22 = .ok (.return_, 1) := by decide +kernel
theorem dJ7_fill_53178_0 : decode cJ7_fill_53178 0 = .ok (.iconst 0, 1) := by decide +kernel
theorem dJ7_fill_53178_1 : decode cJ7_fill_53178 1 = .ok (.istore_n 2, 1) := by decide +kernel
theorem dJ7_fill_53178_2 : decode cJ7_fill_53178 2 = .ok (.aload_n 0, 1) := by decide +kernel
theorem dJ7_fill_53178_3 : decode cJ7_fill_53178 3 = .ok (.arraylength, 1) := by decide +kernel
theorem dJ7_fill_53178_4 : decode cJ7_fill_53178 4 = .ok (.istore_n 3, 1) := by decide +kernel
theorem dJ7_fill_53178_5 : decode cJ7_fill_53178 5 = .ok (.iload_n 2, 1) := by decide +kernel
theorem dJ7_fill_53178_6 : decode cJ7_fill_53178 6 = .ok (.iload_n 3, 1) := by decide +kernel
theorem dJ7_fill_53178_7 : decode cJ7_fill_53178 7 = .ok (.if_icmp .ge 13, 3) := by decide +kernel
theorem dJ7_fill_53178_10 : decode cJ7_fill_53178 10 = .ok (.aload_n 0, 1) := by decide +kernel
theorem dJ7_fill_53178_11 : decode cJ7_fill_53178 11 = .ok (.iload_n 2, 1) := by decide +kernel
theorem dJ7_fill_53178_12 : decode cJ7_fill_53178 12 = .ok (.iload_n 1, 1) := by decide +kernel
theorem dJ7_fill_53178_13 : decode cJ7_fill_53178 13 = .ok (.iastore, 1) := by decide +kernel
theorem dJ7_fill_53178_14 : decode cJ7_fill_53178 14 = .ok (.iinc 2 1, 3) := by decide +kernel
theorem dJ7_fill_53178_17 : decode cJ7_fill_53178 17 = .ok (.goto (-12), 3) := by decide +kernel
theorem dJ7_fill_53178_20 : decode cJ7_fill_53178 20 = .ok (.return_, 1) := by decide +kernel
theorem dJ3_checkIndex_8e157_0 : decode cJ3_checkIndex_8e157 0 = .ok (.iload_n 0, 1) := by decide +kernel
theorem dJ3_checkIndex_8e157_1 : decode cJ3_checkIndex_8e157 1 = .ok (.ifCond .lt 8, 3) := by decide +kernel
theorem dJ3_checkIndex_8e157_4 : decode cJ3_checkIndex_8e157 4 = .ok (.iload_n 0, 1) := by decide +kernel
theorem dJ3_checkIndex_8e157_5 : decode cJ3_checkIndex_8e157 5 = .ok (.iload_n 1, 1) := by decide +kernel
theorem dJ3_checkIndex_8e157_6 : decode cJ3_checkIndex_8e157 6 = .ok (.if_icmp .lt 10, 3) := by decide +kernel
theorem dJ3_checkIndex_8e157_9 : decode cJ3_checkIndex_8e157 9 = .ok (.aload_n 2, 1) := by decide +kernel
theorem dJ3_checkIndex_8e157_10 : decode cJ3_checkIndex_8e157 10 = .ok (.iload_n 0, 1) := by decide +kernel
theorem dJ3_checkIndex_8e157_11 : decode cJ3_checkIndex_8e157 11 = .ok (.iload_n 1, 1) := by decide +kernel
theorem dJ3_checkIndex_8e157_12 : decode cJ3_checkIndex_8e157 12 = .ok (.invokestatic 95, 3) := by decide +kernel
theorem dJ3_checkIndex_8e157_15 : decode cJ3_checkIndex_8e157 15 = .ok (.athrow, 1) := by decide +kernel
theorem dJ3_checkIndex_8e157_16 : decode cJ3_checkIndex_8e157 16 = .ok (.iload_n 0, 1) := by decide +kernel
theorem dJ3_checkIndex_8e157_17 : decode cJ3_checkIndex_8e157 17 = .ok (.ireturn, 1) := by decide +kernel
