theorem dX0_init_0 : decode cX0_init 0 = .ok (.aload_n 0, 1) := by decide +kernel
theorem dX0_init_1 : decode cX0_init 1 = .ok (.invokespecial 3, 3) := by decide +kernel
theorem dX0_init_4 : decode cX0_init 4 = .ok (.aload_n 0, 1) := by decide +kernel
theorem dX0_init_5 : decode cX0_init 5 = .ok (.bipush 32, 2) := by decide +kernel
theorem dX0_init_7 : decode cX0_init 7 = .ok (.iconst 4, 1) := by decide +kernel
theorem dX0_init_8 : decode cX0_init 8 = .ok (.multianewarray 9 2, 4) := by decide +kernel
theorem dX0_init_12 : decode cX0_init 12 = .ok (.putfield 11, 3) := by decide +kernel
theorem dX0_init_15 : decode cX0_init 15 = .ok (.aload_n 0, 1) := by decide +kernel
theorem dX0_init_16 : decode cX0_init 16 = .ok (.bipush 32, 2) := by decide +kernel
theorem dX0_init_18 : decode cX0_init 18 = .ok (.newarray .boolean, 2) := by decide +kernel
theorem dX0_init_20 : decode cX0_init 20 = .ok (.putfield 16, 3) := by decide +kernel
theorem dX0_init_23 : decode cX0_init 23 = .ok (.aload_n 0, 1) := by decide +kernel
theorem dX0_init_24 : decode cX0_init 24 = .ok (.bipush 9, 2) := by decide +kernel
theorem dX0_init_26 : decode cX0_init 26 = .ok (.iconst 4, 1) := by decide +kernel
theorem dX0_init_27 : decode cX0_init 27 = .ok (.multianewarray 9 2, 4) := by decide +kernel
theorem dX0_init_31 : decode cX0_init 31 = .ok (.putfield 20, 3) := by decide +kernel
theorem dX0_init_34 : decode cX0_init 34 = .ok (.aload_n 0, 1) := by decide +kernel
theorem dX0_init_35 : decode cX0_init 35 = .ok (.iconst 4, 1) := by decide +kernel
theorem dX0_init_36 : decode cX0_init 36 = .ok (.newarray .int, 2) := by decide +kernel
theorem dX0_init_38 : decode cX0_init 38 = .ok (.putfield 23, 3) := by decide +kernel
theorem dX0_init_41 : decode cX0_init 41 = .ok (.aload_n 0, 1) := by decide +kernel
theorem dX0_init_42 : decode cX0_init 42 = .ok (.bipush 8, 2) := by decide +kernel
theorem dX0_init_44 : decode cX0_init 44 = .ok (.newarray .int, 2) := by decide +kernel
theorem dX0_init_46 : decode cX0_init 46 = .ok (.putfield 27, 3) := by decide +kernel
theorem dX0_init_49 : decode cX0_init 49 = .ok (.aload_n 0, 1) := by decide +kernel
theorem dX0_init_50 : decode cX0_init 50 = .ok (.bipush 8, 2) := by decide +kernel
theorem dX0_init_52 : decode cX0_init 52 = .ok (.newarray .int, 2) := by decide +kernel
theorem dX0_init_54 : decode cX0_init 54 = .ok (.putfield 30, 3) := by decide +kernel
theorem dX0_init_57 : decode cX0_init 57 = .ok (.return_, 1) := by decide +kernel
theorem dX0_run_0 : decode cX0_run 0 = .ok (.aload_n 0, 1) := by decide +kernel
theorem dX0_run_1 : decode cX0_run 1 = .ok (.aload_n 1, 1) := by decide +kernel
theorem dX0_run_2 : decode cX0_run 2 = .ok (.getfield 33, 3) := by decide +kernel
theorem dX0_run_5 : decode cX0_run 5 = .ok (.putfield 39, 3) := by decide +kernel
theorem dX0_run_8 : decode cX0_run 8 = .ok (.aload_n 0, 1) := by decide +kernel
theorem dX0_run_9 : decode cX0_run 9 = .ok (.aload_n 1, 1) := by decide +kernel
theorem dX0_run_10 : decode cX0_run 10 = .ok (.getfield 40, 3) := by decide +kernel
theorem dX0_run_13 : decode cX0_run 13 = .ok (.putfield 43, 3) := by decide +kernel
theorem dX0_run_16 : decode cX0_run 16 = .ok (.aload_n 0, 1) := by decide +kernel
theorem dX0_run_17 : decode cX0_run 17 = .ok (.bipush 9, 2) := by decide +kernel
theorem dX0_run_19 : decode cX0_run 19 = .ok (.putfield 44, 3) := by decide +kernel
theorem dX0_run_22 : decode cX0_run 22 = .ok (.iconst 0, 1) := by decide +kernel
theorem dX0_run_23 : decode cX0_run 23 = .ok (.istore 4, 2) := by decide +kernel
theorem dX0_run_25 : decode cX0_run 25 = .ok (.iload 4, 2) := by decide +kernel
theorem dX0_run_27 : decode cX0_run 27 = .ok (.iconst 4, 1) := by decide +kernel
theorem dX0_run_28 : decode cX0_run 28 = .ok (.if_icmp .ge 33, 3) := by decide +kernel
theorem dX0_run_31 : decode cX0_run 31 = .ok (.aload_n 0, 1) := by decide +kernel
theorem dX0_run_32 : decode cX0_run 32 = .ok (.getfield 23, 3) := by decide +kernel
theorem dX0_run_35 : decode cX0_run 35 = .ok (.iload 4, 2) := by decide +kernel
theorem dX0_run_37 : decode cX0_run 37 = .ok (.aload_n 3, 1) := by decide +kernel
theorem dX0_run_38 : decode cX0_run 38 = .ok (.iload 4, 2) := by decide +kernel
theorem dX0_run_40 : decode cX0_run 40 = .ok (.iaload, 1) := by decide +kernel
theorem dX0_run_41 : decode cX0_run 41 = .ok (.iastore, 1) := by decide +kernel
theorem dX0_run_42 : decode cX0_run 42 = .ok (.aload_n 0, 1) := by decide +kernel
theorem dX0_run_43 : decode cX0_run 43 = .ok (.getfield 20, 3) := by decide +kernel
theorem dX0_run_46 : decode cX0_run 46 = .ok (.aload_n 0, 1) := by decide +kernel
theorem dX0_run_47 : decode cX0_run 47 = .ok (.getfield 39, 3) := by decide +kernel
theorem dX0_run_50 : decode cX0_run 50 = .ok (.aaload, 1) := by decide +kernel
theorem dX0_run_51 : decode cX0_run 51 = .ok (.iload 4, 2) := by decide +kernel
theorem dX0_run_53 : decode cX0_run 53 = .ok (.iconst 0, 1) := by decide +kernel
theorem dX0_run_54 : decode cX0_run 54 = .ok (.iastore, 1) := by decide +kernel
theorem dX0_run_55 : decode cX0_run 55 = .ok (.iinc 4 1, 3) := by decide +kernel
theorem dX0_run_58 : decode cX0_run 58 = .ok (.goto (-33), 3) := by decide +kernel
theorem dX0_run_61 : decode cX0_run 61 = .ok (.aload_n 0, 1) := by decide +kernel
theorem dX0_run_62 : decode cX0_run 62 = .ok (.getfield 39, 3) := by decide +kernel
theorem dX0_run_65 : decode cX0_run 65 = .ok (.iconst 1, 1) := by decide +kernel
theorem dX0_run_66 : decode cX0_run 66 = .ok (.isub, 1) := by decide +kernel
theorem dX0_run_67 : decode cX0_run 67 = .ok (.istore 4, 2) := by decide +kernel
theorem dX0_run_69 : decode cX0_run 69 = .ok (.iload 4, 2) := by decide +kernel
theorem dX0_run_71 : decode cX0_run 71 = .ok (.ifCond .lt 23, 3) := by decide +kernel
theorem dX0_run_74 : decode cX0_run 74 = .ok (.aload_n 0, 1) := by decide +kernel
theorem dX0_run_75 : decode cX0_run 75 = .ok (.aload_n 1, 1) := by decide +kernel
theorem dX0_run_76 : decode cX0_run 76 = .ok (.iload_n 2, 1) := by decide +kernel
theorem dX0_run_77 : decode cX0_run 77 = .ok (.iload 4, 2) := by decide +kernel
theorem dX0_run_79 : decode cX0_run 79 = .ok (.invokevirtual 47, 3) := by decide +kernel
theorem dX0_run_82 : decode cX0_run 82 = .ok (.aload_n 0, 1) := by decide +kernel
theorem dX0_run_83 : decode cX0_run 83 = .ok (.iload 4, 2) := by decide +kernel
theorem dX0_run_85 : decode cX0_run 85 = .ok (.invokevirtual 51, 3) := by decide +kernel
theorem dX0_run_88 : decode cX0_run 88 = .ok (.iinc 4 (-1), 3) := by decide +kernel
theorem dX0_run_91 : decode cX0_run 91 = .ok (.goto (-22), 3) := by decide +kernel
theorem dX0_run_94 : decode cX0_run 94 = .ok (.aload_n 0, 1) := by decide +kernel
theorem dX0_run_95 : decode cX0_run 95 = .ok (.iconst 0, 1) := by decide +kernel
theorem dX0_run_96 : decode cX0_run 96 = .ok (.iconst 0, 1) := by decide +kernel
theorem dX0_run_97 : decode cX0_run 97 = .ok (.invokevirtual 55, 3) := by decide +kernel
theorem dX0_run_100 : decode cX0_run 100 = .ok (.return_, 1) := by decide +kernel
theorem dX0_isFound_0 : decode cX0_isFound 0 = .ok (.aload_n 0, 1) := by decide +kernel
theorem dX0_isFound_1 : decode cX0_isFound 1 = .ok (.getfield 44, 3) := by decide +kernel
theorem dX0_isFound_4 : decode cX0_isFound 4 = .ok (.bipush 8, 2) := by decide +kernel
theorem dX0_isFound_6 : decode cX0_isFound 6 = .ok (.if_icmp .gt 7, 3) := by decide +kernel
theorem dX0_isFound_9 : decode cX0_isFound 9 = .ok (.iconst 1, 1) := by decide +kernel
theorem dX0_isFound_10 : decode cX0_isFound 10 = .ok (.goto 4, 3) := by decide +kernel
theorem dX0_isFound_13 : decode cX0_isFound 13 = .ok (.iconst 0, 1) := by decide +kernel
theorem dX0_isFound_14 : decode cX0_isFound 14 = .ok (.ireturn, 1) := by decide +kernel
theorem dX0_place_0 : decode cX0_place 0 = .ok (.iload_n 0, 1) := by decide +kernel
theorem dX0_place_1 : decode cX0_place 1 = .ok (.iconst 4, 1) := by decide +kernel
theorem dX0_place_2 : decode cX0_place 2 = .ok (.imul, 1) := by decide +kernel
theorem dX0_place_3 : decode cX0_place 3 = .ok (.iload_n 1, 1) := by decide +kernel
theorem dX0_place_4 : decode cX0_place 4 = .ok (.iadd, 1) := by decide +kernel
theorem dX0_place_5 : decode cX0_place 5 = .ok (.ireturn, 1) := by decide +kernel
theorem dX0_spinAll_0 : decode cX0_spinAll 0 = .ok (.aload_n 1, 1) := by decide +kernel
theorem dX0_spinAll_1 : decode cX0_spinAll 1 = .ok (.iload_n 2, 1) := by decide +kernel
theorem dX0_spinAll_2 : decode cX0_spinAll 2 = .ok (.iload_n 3, 1) := by decide +kernel
theorem dX0_spinAll_3 : decode cX0_spinAll 3 = .ok (.aload_n 1, 1) := by decide +kernel
theorem dX0_spinAll_4 : decode cX0_spinAll 4 = .ok (.getfield 59, 3) := by decide +kernel
theorem dX0_spinAll_7 : decode cX0_spinAll 7 = .ok (.iconst 1, 1) := by decide +kernel
theorem dX0_spinAll_8 : decode cX0_spinAll 8 = .ok (.iadd, 1) := by decide +kernel
theorem dX0_spinAll_9 : decode cX0_spinAll 9 = .ok (.invokevirtual 62, 3) := by decide +kernel
theorem dX0_spinAll_12 : decode cX0_spinAll 12 = .ok (.istore 4, 2) := by decide +kernel
theorem dX0_spinAll_14 : decode cX0_spinAll 14 = .ok (.iconst 0, 1) := by decide +kernel
theorem dX0_spinAll_15 : decode cX0_spinAll 15 = .ok (.istore 5, 2) := by decide +kernel
theorem dX0_spinAll_17 : decode cX0_spinAll 17 = .ok (.iload 5, 2) := by decide +kernel
theorem dX0_spinAll_19 : decode cX0_spinAll 19 = .ok (.aload_n 0, 1) := by decide +kernel
theorem dX0_spinAll_20 : decode cX0_spinAll 20 = .ok (.getfield 43, 3) := by decide +kernel
theorem dX0_spinAll_23 : decode cX0_spinAll 23 = .ok (.if_icmp .ge 79, 3) := by decide +kernel
theorem dX0_spinAll_26 : decode cX0_spinAll 26 = .ok (.aload_n 0, 1) := by decide +kernel
theorem dX0_spinAll_27 : decode cX0_spinAll 27 = .ok (.getfield 11, 3) := by decide +kernel
theorem dX0_spinAll_30 : decode cX0_spinAll 30 = .ok (.iload_n 3, 1) := by decide +kernel
theorem dX0_spinAll_31 : decode cX0_spinAll 31 = .ok (.iload 5, 2) := by decide +kernel
theorem dX0_spinAll_33 : decode cX0_spinAll 33 = .ok (.invokestatic 66, 3) := by decide +kernel
theorem dX0_spinAll_36 : decode cX0_spinAll 36 = .ok (.aaload, 1) := by decide +kernel
theorem dX0_spinAll_37 : decode cX0_spinAll 37 = .ok (.astore 6, 2) := by decide +kernel
theorem dX0_spinAll_39 : decode cX0_spinAll 39 = .ok (.iconst 0, 1) := by decide +kernel
theorem dX0_spinAll_40 : decode cX0_spinAll 40 = .ok (.istore 7, 2) := by decide +kernel
theorem dX0_spinAll_42 : decode cX0_spinAll 42 = .ok (.iload 7, 2) := by decide +kernel
theorem dX0_spinAll_44 : decode cX0_spinAll 44 = .ok (.iconst 4, 1) := by decide +kernel
theorem dX0_spinAll_45 : decode cX0_spinAll 45 = .ok (.if_icmp .ge 15, 3) := by decide +kernel
theorem dX0_spinAll_48 : decode cX0_spinAll 48 = .ok (.aload 6, 2) := by decide +kernel
theorem dX0_spinAll_50 : decode cX0_spinAll 50 = .ok (.iload 7, 2) := by decide +kernel
theorem dX0_spinAll_52 : decode cX0_spinAll 52 = .ok (.iconst 0, 1) := by decide +kernel
theorem dX0_spinAll_53 : decode cX0_spinAll 53 = .ok (.iastore, 1) := by decide +kernel
theorem dX0_spinAll_54 : decode cX0_spinAll 54 = .ok (.iinc 7 1, 3) := by decide +kernel
theorem dX0_spinAll_57 : decode cX0_spinAll 57 = .ok (.goto (-15), 3) := by decide +kernel
theorem dX0_spinAll_60 : decode cX0_spinAll 60 = .ok (.aload_n 1, 1) := by decide +kernel
theorem dX0_spinAll_61 : decode cX0_spinAll 61 = .ok (.aload 6, 2) := by decide +kernel
theorem dX0_spinAll_63 : decode cX0_spinAll 63 = .ok (.iload 5, 2) := by decide +kernel
theorem dX0_spinAll_65 : decode cX0_spinAll 65 = .ok (.iload_n 3, 1) := by decide +kernel
theorem dX0_spinAll_66 : decode cX0_spinAll 66 = .ok (.iconst 0, 1) := by decide +kernel
theorem dX0_spinAll_67 : decode cX0_spinAll 67 = .ok (.aload_n 1, 1) := by decide +kernel
theorem dX0_spinAll_68 : decode cX0_spinAll 68 = .ok (.getfield 70, 3) := by decide +kernel
theorem dX0_spinAll_71 : decode cX0_spinAll 71 = .ok (.iload_n 3, 1) := by decide +kernel
theorem dX0_spinAll_72 : decode cX0_spinAll 72 = .ok (.iaload, 1) := by decide +kernel
theorem dX0_spinAll_73 : decode cX0_spinAll 73 = .ok (.iload 4, 2) := by decide +kernel
theorem dX0_spinAll_75 : decode cX0_spinAll 75 = .ok (.invokevirtual 73, 3) := by decide +kernel
theorem dX0_spinAll_78 : decode cX0_spinAll 78 = .ok (.aload_n 0, 1) := by decide +kernel
theorem dX0_spinAll_79 : decode cX0_spinAll 79 = .ok (.getfield 16, 3) := by decide +kernel
theorem dX0_spinAll_82 : decode cX0_spinAll 82 = .ok (.iload_n 3, 1) := by decide +kernel
theorem dX0_spinAll_83 : decode cX0_spinAll 83 = .ok (.iload 5, 2) := by decide +kernel
theorem dX0_spinAll_85 : decode cX0_spinAll 85 = .ok (.invokestatic 66, 3) := by decide +kernel
theorem dX0_spinAll_88 : decode cX0_spinAll 88 = .ok (.aload_n 0, 1) := by decide +kernel
theorem dX0_spinAll_89 : decode cX0_spinAll 89 = .ok (.iload_n 3, 1) := by decide +kernel
theorem dX0_spinAll_90 : decode cX0_spinAll 90 = .ok (.iload 5, 2) := by decide +kernel
theorem dX0_spinAll_92 : decode cX0_spinAll 92 = .ok (.invokevirtual 77, 3) := by decide +kernel
theorem dX0_spinAll_95 : decode cX0_spinAll 95 = .ok (.bastore, 1) := by decide +kernel
theorem dX0_spinAll_96 : decode cX0_spinAll 96 = .ok (.iinc 5 1, 3) := by decide +kernel
theorem dX0_spinAll_99 : decode cX0_spinAll 99 = .ok (.goto (-82), 3) := by decide +kernel
theorem dX0_spinAll_102 : decode cX0_spinAll 102 = .ok (.return_, 1) := by decide +kernel
theorem dX0_isUnlikeEarlier_0 : decode cX0_isUnlikeEarlier 0 = .ok (.iconst 0, 1) := by decide +kernel
theorem dX0_isUnlikeEarlier_1 : decode cX0_isUnlikeEarlier 1 = .ok (.istore_n 3, 1) := by decide +kernel
theorem dX0_isUnlikeEarlier_2 : decode cX0_isUnlikeEarlier 2 = .ok (.iload_n 3, 1) := by decide +kernel
theorem dX0_isUnlikeEarlier_3 : decode cX0_isUnlikeEarlier 3 = .ok (.iload_n 2, 1) := by decide +kernel
theorem dX0_isUnlikeEarlier_4 : decode cX0_isUnlikeEarlier 4 = .ok (.if_icmp .ge 38, 3) := by decide +kernel
theorem dX0_isUnlikeEarlier_7 : decode cX0_isUnlikeEarlier 7 = .ok (.aload_n 0, 1) := by decide +kernel
theorem dX0_isUnlikeEarlier_8 : decode cX0_isUnlikeEarlier 8 = .ok (.getfield 11, 3) := by decide +kernel
theorem dX0_isUnlikeEarlier_11 : decode cX0_isUnlikeEarlier 11 = .ok (.iload_n 1, 1) := by decide +kernel
theorem dX0_isUnlikeEarlier_12 : decode cX0_isUnlikeEarlier 12 = .ok (.iload_n 3, 1) := by decide +kernel
theorem dX0_isUnlikeEarlier_13 : decode cX0_isUnlikeEarlier 13 = .ok (.invokestatic 66, 3) := by decide +kernel
theorem dX0_isUnlikeEarlier_16 : decode cX0_isUnlikeEarlier 16 = .ok (.aaload, 1) := by decide +kernel
theorem dX0_isUnlikeEarlier_17 : decode cX0_isUnlikeEarlier 17 = .ok (.aload_n 0, 1) := by decide +kernel
theorem dX0_isUnlikeEarlier_18 : decode cX0_isUnlikeEarlier 18 = .ok (.getfield 11, 3) := by decide +kernel
theorem dX0_isUnlikeEarlier_21 : decode cX0_isUnlikeEarlier 21 = .ok (.iload_n 1, 1) := by decide +kernel
theorem dX0_isUnlikeEarlier_22 : decode cX0_isUnlikeEarlier 22 = .ok (.iload_n 2, 1) := by decide +kernel
theorem dX0_isUnlikeEarlier_23 : decode cX0_isUnlikeEarlier 23 = .ok (.invokestatic 66, 3) := by decide +kernel
theorem dX0_isUnlikeEarlier_26 : decode cX0_isUnlikeEarlier 26 = .ok (.aaload, 1) := by decide +kernel
theorem dX0_isUnlikeEarlier_27 : decode cX0_isUnlikeEarlier 27 = .ok (.iconst 4, 1) := by decide +kernel
theorem dX0_isUnlikeEarlier_28 : decode cX0_isUnlikeEarlier 28 = .ok (.invokestatic 81, 3) := by decide +kernel
theorem dX0_isUnlikeEarlier_31 : decode cX0_isUnlikeEarlier 31 = .ok (.ifCond .eq 5, 3) := by decide +kernel
theorem dX0_isUnlikeEarlier_34 : decode cX0_isUnlikeEarlier 34 = .ok (.iconst 0, 1) := by decide +kernel
theorem dX0_isUnlikeEarlier_35 : decode cX0_isUnlikeEarlier 35 = .ok (.ireturn, 1) := by decide +kernel
theorem dX0_isUnlikeEarlier_36 : decode cX0_isUnlikeEarlier 36 = .ok (.iinc 3 1, 3) := by decide +kernel
theorem dX0_isUnlikeEarlier_39 : decode cX0_isUnlikeEarlier 39 = .ok (.goto (-37), 3) := by decide +kernel
theorem dX0_isUnlikeEarlier_42 : decode cX0_isUnlikeEarlier 42 = .ok (.iconst 1, 1) := by decide +kernel
theorem dX0_isUnlikeEarlier_43 : decode cX0_isUnlikeEarlier 43 = .ok (.ireturn, 1) := by decide +kernel
theorem dX0_addHope_0 : decode cX0_addHope 0 = .ok (.iconst 0, 1) := by decide +kernel
theorem dX0_addHope_1 : decode cX0_addHope 1 = .ok (.istore_n 2, 1) := by decide +kernel
theorem dX0_addHope_2 : decode cX0_addHope 2 = .ok (.iload_n 2, 1) := by decide +kernel
theorem dX0_addHope_3 : decode cX0_addHope 3 = .ok (.iconst 4, 1) := by decide +kernel
theorem dX0_addHope_4 : decode cX0_addHope 4 = .ok (.if_icmp .ge 67, 3) := by decide +kernel
theorem dX0_addHope_7 : decode cX0_addHope 7 = .ok (.iconst 0, 1) := by decide +kernel
theorem dX0_addHope_8 : decode cX0_addHope 8 = .ok (.istore_n 3, 1) := by decide +kernel
theorem dX0_addHope_9 : decode cX0_addHope 9 = .ok (.iconst 0, 1) := by decide +kernel
theorem dX0_addHope_10 : decode cX0_addHope 10 = .ok (.istore 4, 2) := by decide +kernel
theorem dX0_addHope_12 : decode cX0_addHope 12 = .ok (.iload 4, 2) := by decide +kernel
theorem dX0_addHope_14 : decode cX0_addHope 14 = .ok (.aload_n 0, 1) := by decide +kernel
theorem dX0_addHope_15 : decode cX0_addHope 15 = .ok (.getfield 43, 3) := by decide +kernel
theorem dX0_addHope_18 : decode cX0_addHope 18 = .ok (.if_icmp .ge 27, 3) := by decide +kernel
theorem dX0_addHope_21 : decode cX0_addHope 21 = .ok (.iload_n 3, 1) := by decide +kernel
theorem dX0_addHope_22 : decode cX0_addHope 22 = .ok (.aload_n 0, 1) := by decide +kernel
theorem dX0_addHope_23 : decode cX0_addHope 23 = .ok (.getfield 11, 3) := by decide +kernel
theorem dX0_addHope_26 : decode cX0_addHope 26 = .ok (.iload_n 1, 1) := by decide +kernel
theorem dX0_addHope_27 : decode cX0_addHope 27 = .ok (.iload 4, 2) := by decide +kernel
theorem dX0_addHope_29 : decode cX0_addHope 29 = .ok (.invokestatic 66, 3) := by decide +kernel
theorem dX0_addHope_32 : decode cX0_addHope 32 = .ok (.aaload, 1) := by decide +kernel
theorem dX0_addHope_33 : decode cX0_addHope 33 = .ok (.iload_n 2, 1) := by decide +kernel
theorem dX0_addHope_34 : decode cX0_addHope 34 = .ok (.iaload, 1) := by decide +kernel
theorem dX0_addHope_35 : decode cX0_addHope 35 = .ok (.invokestatic 85, 3) := by decide +kernel
theorem dX0_addHope_38 : decode cX0_addHope 38 = .ok (.istore_n 3, 1) := by decide +kernel
theorem dX0_addHope_39 : decode cX0_addHope 39 = .ok (.iinc 4 1, 3) := by decide +kernel
theorem dX0_addHope_42 : decode cX0_addHope 42 = .ok (.goto (-30), 3) := by decide +kernel
theorem dX0_addHope_45 : decode cX0_addHope 45 = .ok (.aload_n 0, 1) := by decide +kernel
theorem dX0_addHope_46 : decode cX0_addHope 46 = .ok (.getfield 20, 3) := by decide +kernel
theorem dX0_addHope_49 : decode cX0_addHope 49 = .ok (.iload_n 1, 1) := by decide +kernel
theorem dX0_addHope_50 : decode cX0_addHope 50 = .ok (.aaload, 1) := by decide +kernel
theorem dX0_addHope_51 : decode cX0_addHope 51 = .ok (.iload_n 2, 1) := by decide +kernel
theorem dX0_addHope_52 : decode cX0_addHope 52 = .ok (.aload_n 0, 1) := by decide +kernel
theorem dX0_addHope_53 : decode cX0_addHope 53 = .ok (.getfield 20, 3) := by decide +kernel
theorem dX0_addHope_56 : decode cX0_addHope 56 = .ok (.iload_n 1, 1) := by decide +kernel
theorem dX0_addHope_57 : decode cX0_addHope 57 = .ok (.iconst 1, 1) := by decide +kernel
theorem dX0_addHope_58 : decode cX0_addHope 58 = .ok (.iadd, 1) := by decide +kernel
theorem dX0_addHope_59 : decode cX0_addHope 59 = .ok (.aaload, 1) := by decide +kernel
theorem dX0_addHope_60 : decode cX0_addHope 60 = .ok (.iload_n 2, 1) := by decide +kernel
theorem dX0_addHope_61 : decode cX0_addHope 61 = .ok (.iaload, 1) := by decide +kernel
theorem dX0_addHope_62 : decode cX0_addHope 62 = .ok (.iload_n 3, 1) := by decide +kernel
theorem dX0_addHope_63 : decode cX0_addHope 63 = .ok (.iadd, 1) := by decide +kernel
theorem dX0_addHope_64 : decode cX0_addHope 64 = .ok (.iastore, 1) := by decide +kernel
theorem dX0_addHope_65 : decode cX0_addHope 65 = .ok (.iinc 2 1, 3) := by decide +kernel
theorem dX0_addHope_68 : decode cX0_addHope 68 = .ok (.goto (-66), 3) := by decide +kernel
theorem dX0_addHope_71 : decode cX0_addHope 71 = .ok (.return_, 1) := by decide +kernel
theorem dX0_isCovered_0 : decode cX0_isCovered 0 = .ok (.iconst 0, 1) := by decide +kernel
theorem dX0_isCovered_1 : decode cX0_isCovered 1 = .ok (.istore_n 2, 1) := by decide +kernel
theorem dX0_isCovered_2 : decode cX0_isCovered 2 = .ok (.iload_n 2, 1) := by decide +kernel
theorem dX0_isCovered_3 : decode cX0_isCovered 3 = .ok (.iconst 4, 1) := by decide +kernel
theorem dX0_isCovered_4 : decode cX0_isCovered 4 = .ok (.if_icmp .ge 23, 3) := by decide +kernel
theorem dX0_isCovered_7 : decode cX0_isCovered 7 = .ok (.aload_n 0, 1) := by decide +kernel
theorem dX0_isCovered_8 : decode cX0_isCovered 8 = .ok (.getfield 23, 3) := by decide +kernel
theorem dX0_isCovered_11 : decode cX0_isCovered 11 = .ok (.iload_n 2, 1) := by decide +kernel
theorem dX0_isCovered_12 : decode cX0_isCovered 12 = .ok (.iaload, 1) := by decide +kernel
theorem dX0_isCovered_13 : decode cX0_isCovered 13 = .ok (.aload_n 1, 1) := by decide +kernel
theorem dX0_isCovered_14 : decode cX0_isCovered 14 = .ok (.iload_n 2, 1) := by decide +kernel
theorem dX0_isCovered_15 : decode cX0_isCovered 15 = .ok (.iaload, 1) := by decide +kernel
theorem dX0_isCovered_16 : decode cX0_isCovered 16 = .ok (.if_icmp .le 5, 3) := by decide +kernel
theorem dX0_isCovered_19 : decode cX0_isCovered 19 = .ok (.iconst 0, 1) := by decide +kernel
theorem dX0_isCovered_20 : decode cX0_isCovered 20 = .ok (.ireturn, 1) := by decide +kernel
theorem dX0_isCovered_21 : decode cX0_isCovered 21 = .ok (.iinc 2 1, 3) := by decide +kernel
theorem dX0_isCovered_24 : decode cX0_isCovered 24 = .ok (.goto (-22), 3) := by decide +kernel
theorem dX0_isCovered_27 : decode cX0_isCovered 27 = .ok (.iconst 1, 1) := by decide +kernel
theorem dX0_isCovered_28 : decode cX0_isCovered 28 = .ok (.ireturn, 1) := by decide +kernel
theorem dX0_search_0 : decode cX0_search 0 = .ok (.iload_n 2, 1) := by decide +kernel
theorem dX0_search_1 : decode cX0_search 1 = .ok (.aload_n 0, 1) := by decide +kernel
theorem dX0_search_2 : decode cX0_search 2 = .ok (.getfield 44, 3) := by decide +kernel
theorem dX0_search_5 : decode cX0_search 5 = .ok (.if_icmp .ge 16, 3) := by decide +kernel
theorem dX0_search_8 : decode cX0_search 8 = .ok (.aload_n 0, 1) := by decide +kernel
theorem dX0_search_9 : decode cX0_search 9 = .ok (.aload_n 0, 1) := by decide +kernel
theorem dX0_search_10 : decode cX0_search 10 = .ok (.getfield 20, 3) := by decide +kernel
theorem dX0_search_13 : decode cX0_search 13 = .ok (.iload_n 1, 1) := by decide +kernel
theorem dX0_search_14 : decode cX0_search 14 = .ok (.aaload, 1) := by decide +kernel
theorem dX0_search_15 : decode cX0_search 15 = .ok (.invokevirtual 90, 3) := by decide +kernel
theorem dX0_search_18 : decode cX0_search 18 = .ok (.ifCond .ne 4, 3) := by decide +kernel
theorem dX0_search_21 : decode cX0_search 21 = .ok (.return_, 1) := by decide +kernel
theorem dX0_search_22 : decode cX0_search 22 = .ok (.aload_n 0, 1) := by decide +kernel
theorem dX0_search_23 : decode cX0_search 23 = .ok (.aload_n 0, 1) := by decide +kernel
theorem dX0_search_24 : decode cX0_search 24 = .ok (.getfield 20, 3) := by decide +kernel
theorem dX0_search_27 : decode cX0_search 27 = .ok (.aload_n 0, 1) := by decide +kernel
theorem dX0_search_28 : decode cX0_search 28 = .ok (.getfield 39, 3) := by decide +kernel
theorem dX0_search_31 : decode cX0_search 31 = .ok (.aaload, 1) := by decide +kernel
theorem dX0_search_32 : decode cX0_search 32 = .ok (.invokevirtual 90, 3) := by decide +kernel
theorem dX0_search_35 : decode cX0_search 35 = .ok (.ifCond .eq 23, 3) := by decide +kernel
theorem dX0_search_38 : decode cX0_search 38 = .ok (.aload_n 0, 1) := by decide +kernel
theorem dX0_search_39 : decode cX0_search 39 = .ok (.iload_n 2, 1) := by decide +kernel
theorem dX0_search_40 : decode cX0_search 40 = .ok (.putfield 44, 3) := by decide +kernel
theorem dX0_search_43 : decode cX0_search 43 = .ok (.aload_n 0, 1) := by decide +kernel
theorem dX0_search_44 : decode cX0_search 44 = .ok (.getfield 27, 3) := by decide +kernel
theorem dX0_search_47 : decode cX0_search 47 = .ok (.iconst 0, 1) := by decide +kernel
theorem dX0_search_48 : decode cX0_search 48 = .ok (.aload_n 0, 1) := by decide +kernel
theorem dX0_search_49 : decode cX0_search 49 = .ok (.getfield 30, 3) := by decide +kernel
theorem dX0_search_52 : decode cX0_search 52 = .ok (.iconst 0, 1) := by decide +kernel
theorem dX0_search_53 : decode cX0_search 53 = .ok (.iload_n 2, 1) := by decide +kernel
theorem dX0_search_54 : decode cX0_search 54 = .ok (.invokestatic 94, 3) := by decide +kernel
theorem dX0_search_57 : decode cX0_search 57 = .ok (.return_, 1) := by decide +kernel
theorem dX0_search_58 : decode cX0_search 58 = .ok (.iload_n 1, 1) := by decide +kernel
theorem dX0_search_59 : decode cX0_search 59 = .ok (.aload_n 0, 1) := by decide +kernel
theorem dX0_search_60 : decode cX0_search 60 = .ok (.getfield 39, 3) := by decide +kernel
theorem dX0_search_63 : decode cX0_search 63 = .ok (.if_icmp .ge 13, 3) := by decide +kernel
theorem dX0_search_66 : decode cX0_search 66 = .ok (.iload_n 2, 1) := by decide +kernel
theorem dX0_search_67 : decode cX0_search 67 = .ok (.iconst 1, 1) := by decide +kernel
theorem dX0_search_68 : decode cX0_search 68 = .ok (.iadd, 1) := by decide +kernel
theorem dX0_search_69 : decode cX0_search 69 = .ok (.aload_n 0, 1) := by decide +kernel
theorem dX0_search_70 : decode cX0_search 70 = .ok (.getfield 44, 3) := by decide +kernel
theorem dX0_search_73 : decode cX0_search 73 = .ok (.if_icmp .lt 4, 3) := by decide +kernel
theorem dX0_search_76 : decode cX0_search 76 = .ok (.return_, 1) := by decide +kernel
theorem dX0_search_77 : decode cX0_search 77 = .ok (.iconst 0, 1) := by decide +kernel
theorem dX0_search_78 : decode cX0_search 78 = .ok (.istore_n 3, 1) := by decide +kernel
theorem dX0_search_79 : decode cX0_search 79 = .ok (.iload_n 3, 1) := by decide +kernel
theorem dX0_search_80 : decode cX0_search 80 = .ok (.aload_n 0, 1) := by decide +kernel
theorem dX0_search_81 : decode cX0_search 81 = .ok (.getfield 43, 3) := by decide +kernel
theorem dX0_search_84 : decode cX0_search 84 = .ok (.if_icmp .ge 64, 3) := by decide +kernel
theorem dX0_search_87 : decode cX0_search 87 = .ok (.aload_n 0, 1) := by decide +kernel
theorem dX0_search_88 : decode cX0_search 88 = .ok (.getfield 16, 3) := by decide +kernel
theorem dX0_search_91 : decode cX0_search 91 = .ok (.iload_n 1, 1) := by decide +kernel
theorem dX0_search_92 : decode cX0_search 92 = .ok (.iload_n 3, 1) := by decide +kernel
theorem dX0_search_93 : decode cX0_search 93 = .ok (.invokestatic 66, 3) := by decide +kernel
theorem dX0_search_96 : decode cX0_search 96 = .ok (.baload, 1) := by decide +kernel
theorem dX0_search_97 : decode cX0_search 97 = .ok (.ifCond .eq 45, 3) := by decide +kernel
theorem dX0_search_100 : decode cX0_search 100 = .ok (.aload_n 0, 1) := by decide +kernel
theorem dX0_search_101 : decode cX0_search 101 = .ok (.getfield 27, 3) := by decide +kernel
theorem dX0_search_104 : decode cX0_search 104 = .ok (.iload_n 2, 1) := by decide +kernel
theorem dX0_search_105 : decode cX0_search 105 = .ok (.bipush 10, 2) := by decide +kernel
theorem dX0_search_107 : decode cX0_search 107 = .ok (.iload_n 1, 1) := by decide +kernel
theorem dX0_search_108 : decode cX0_search 108 = .ok (.imul, 1) := by decide +kernel
theorem dX0_search_109 : decode cX0_search 109 = .ok (.iload_n 3, 1) := by decide +kernel
theorem dX0_search_110 : decode cX0_search 110 = .ok (.iadd, 1) := by decide +kernel
theorem dX0_search_111 : decode cX0_search 111 = .ok (.iastore, 1) := by decide +kernel
theorem dX0_search_112 : decode cX0_search 112 = .ok (.aload_n 0, 1) := by decide +kernel
theorem dX0_search_113 : decode cX0_search 113 = .ok (.iload_n 1, 1) := by decide +kernel
theorem dX0_search_114 : decode cX0_search 114 = .ok (.iload_n 3, 1) := by decide +kernel
theorem dX0_search_115 : decode cX0_search 115 = .ok (.invokestatic 66, 3) := by decide +kernel
theorem dX0_search_118 : decode cX0_search 118 = .ok (.iconst 1, 1) := by decide +kernel
theorem dX0_search_119 : decode cX0_search 119 = .ok (.invokevirtual 100, 3) := by decide +kernel
theorem dX0_search_122 : decode cX0_search 122 = .ok (.aload_n 0, 1) := by decide +kernel
theorem dX0_search_123 : decode cX0_search 123 = .ok (.iload_n 1, 1) := by decide +kernel
theorem dX0_search_124 : decode cX0_search 124 = .ok (.iconst 1, 1) := by decide +kernel
theorem dX0_search_125 : decode cX0_search 125 = .ok (.iadd, 1) := by decide +kernel
theorem dX0_search_126 : decode cX0_search 126 = .ok (.iload_n 2, 1) := by decide +kernel
theorem dX0_search_127 : decode cX0_search 127 = .ok (.iconst 1, 1) := by decide +kernel
theorem dX0_search_128 : decode cX0_search 128 = .ok (.iadd, 1) := by decide +kernel
theorem dX0_search_129 : decode cX0_search 129 = .ok (.invokevirtual 55, 3) := by decide +kernel
theorem dX0_search_132 : decode cX0_search 132 = .ok (.aload_n 0, 1) := by decide +kernel
theorem dX0_search_133 : decode cX0_search 133 = .ok (.iload_n 1, 1) := by decide +kernel
theorem dX0_search_134 : decode cX0_search 134 = .ok (.iload_n 3, 1) := by decide +kernel
theorem dX0_search_135 : decode cX0_search 135 = .ok (.invokestatic 66, 3) := by decide +kernel
theorem dX0_search_138 : decode cX0_search 138 = .ok (.iconst (-1), 1) := by decide +kernel
theorem dX0_search_139 : decode cX0_search 139 = .ok (.invokevirtual 100, 3) := by decide +kernel
theorem dX0_search_142 : decode cX0_search 142 = .ok (.iinc 3 1, 3) := by decide +kernel
theorem dX0_search_145 : decode cX0_search 145 = .ok (.goto (-66), 3) := by decide +kernel
theorem dX0_search_148 : decode cX0_search 148 = .ok (.aload_n 0, 1) := by decide +kernel
theorem dX0_search_149 : decode cX0_search 149 = .ok (.iload_n 1, 1) := by decide +kernel
theorem dX0_search_150 : decode cX0_search 150 = .ok (.iconst 1, 1) := by decide +kernel
theorem dX0_search_151 : decode cX0_search 151 = .ok (.iadd, 1) := by decide +kernel
theorem dX0_search_152 : decode cX0_search 152 = .ok (.iload_n 2, 1) := by decide +kernel
theorem dX0_search_153 : decode cX0_search 153 = .ok (.invokevirtual 55, 3) := by decide +kernel
theorem dX0_search_156 : decode cX0_search 156 = .ok (.return_, 1) := by decide +kernel
theorem dX0_take_0 : decode cX0_take 0 = .ok (.iconst 0, 1) := by decide +kernel
theorem dX0_take_1 : decode cX0_take 1 = .ok (.istore_n 3, 1) := by decide +kernel
theorem dX0_take_2 : decode cX0_take 2 = .ok (.iload_n 3, 1) := by decide +kernel
theorem dX0_take_3 : decode cX0_take 3 = .ok (.iconst 4, 1) := by decide +kernel
theorem dX0_take_4 : decode cX0_take 4 = .ok (.if_icmp .ge 28, 3) := by decide +kernel
theorem dX0_take_7 : decode cX0_take 7 = .ok (.aload_n 0, 1) := by decide +kernel
theorem dX0_take_8 : decode cX0_take 8 = .ok (.getfield 23, 3) := by decide +kernel
theorem dX0_take_11 : decode cX0_take 11 = .ok (.iload_n 3, 1) := by decide +kernel
theorem dX0_take_12 : decode cX0_take 12 = .ok (.dup2, 1) := by decide +kernel
theorem dX0_take_13 : decode cX0_take 13 = .ok (.iaload, 1) := by decide +kernel
theorem dX0_take_14 : decode cX0_take 14 = .ok (.iload_n 2, 1) := by decide +kernel
theorem dX0_take_15 : decode cX0_take 15 = .ok (.aload_n 0, 1) := by decide +kernel
theorem dX0_take_16 : decode cX0_take 16 = .ok (.getfield 11, 3) := by decide +kernel
theorem dX0_take_19 : decode cX0_take 19 = .ok (.iload_n 1, 1) := by decide +kernel
theorem dX0_take_20 : decode cX0_take 20 = .ok (.aaload, 1) := by decide +kernel
theorem dX0_take_21 : decode cX0_take 21 = .ok (.iload_n 3, 1) := by decide +kernel
theorem dX0_take_22 : decode cX0_take 22 = .ok (.iaload, 1) := by decide +kernel
theorem dX0_take_23 : decode cX0_take 23 = .ok (.imul, 1) := by decide +kernel
theorem dX0_take_24 : decode cX0_take 24 = .ok (.isub, 1) := by decide +kernel
theorem dX0_take_25 : decode cX0_take 25 = .ok (.iastore, 1) := by decide +kernel
theorem dX0_take_26 : decode cX0_take 26 = .ok (.iinc 3 1, 3) := by decide +kernel
theorem dX0_take_29 : decode cX0_take 29 = .ok (.goto (-27), 3) := by decide +kernel
theorem dX0_take_32 : decode cX0_take 32 = .ok (.return_, 1) := by decide +kernel
theorem dX1_init_0 : decode cX1_init 0 = .ok (.aload_n 0, 1) := by decide +kernel
theorem dX1_init_1 : decode cX1_init 1 = .ok (.invokespecial 3, 3) := by decide +kernel
theorem dX1_init_4 : decode cX1_init 4 = .ok (.aload_n 0, 1) := by decide +kernel
theorem dX1_init_5 : decode cX1_init 5 = .ok (.bipush 9, 2) := by decide +kernel
theorem dX1_init_7 : decode cX1_init 7 = .ok (.newarray .int, 2) := by decide +kernel
theorem dX1_init_9 : decode cX1_init 9 = .ok (.putfield 9, 3) := by decide +kernel
theorem dX1_init_12 : decode cX1_init 12 = .ok (.return_, 1) := by decide +kernel
theorem dX1_begin_0 : decode cX1_begin 0 = .ok (.aload_n 0, 1) := by decide +kernel
theorem dX1_begin_1 : decode cX1_begin 1 = .ok (.aload_n 1, 1) := by decide +kernel
theorem dX1_begin_2 : decode cX1_begin 2 = .ok (.getfield 15, 3) := by decide +kernel
theorem dX1_begin_5 : decode cX1_begin 5 = .ok (.iload_n 3, 1) := by decide +kernel
theorem dX1_begin_6 : decode cX1_begin 6 = .ok (.iaload, 1) := by decide +kernel
theorem dX1_begin_7 : decode cX1_begin 7 = .ok (.putfield 20, 3) := by decide +kernel
theorem dX1_begin_10 : decode cX1_begin 10 = .ok (.aload_n 1, 1) := by decide +kernel
theorem dX1_begin_11 : decode cX1_begin 11 = .ok (.getfield 24, 3) := by decide +kernel
theorem dX1_begin_14 : decode cX1_begin 14 = .ok (.iload_n 2, 1) := by decide +kernel
theorem dX1_begin_15 : decode cX1_begin 15 = .ok (.iaload, 1) := by decide +kernel
theorem dX1_begin_16 : decode cX1_begin 16 = .ok (.aload_n 1, 1) := by decide +kernel
theorem dX1_begin_17 : decode cX1_begin 17 = .ok (.getfield 27, 3) := by decide +kernel
theorem dX1_begin_20 : decode cX1_begin 20 = .ok (.iload_n 3, 1) := by decide +kernel
theorem dX1_begin_21 : decode cX1_begin 21 = .ok (.aaload, 1) := by decide +kernel
theorem dX1_begin_22 : decode cX1_begin 22 = .ok (.aload_n 0, 1) := by decide +kernel
theorem dX1_begin_23 : decode cX1_begin 23 = .ok (.getfield 9, 3) := by decide +kernel
theorem dX1_begin_26 : decode cX1_begin 26 = .ok (.aload_n 0, 1) := by decide +kernel
theorem dX1_begin_27 : decode cX1_begin 27 = .ok (.getfield 20, 3) := by decide +kernel
theorem dX1_begin_30 : decode cX1_begin 30 = .ok (.invokestatic 30, 3) := by decide +kernel
theorem dX1_begin_33 : decode cX1_begin 33 = .ok (.return_, 1) := by decide +kernel
theorem dX1_heardUntilGone_0 : decode cX1_heardUntilGone 0 = .ok (.iconst 0, 1) := by decide +kernel
theorem dX1_heardUntilGone_1 : decode cX1_heardUntilGone 1 = .ok (.istore_n 2, 1) := by decide +kernel
theorem dX1_heardUntilGone_2 : decode cX1_heardUntilGone 2 = .ok (.iload_n 2, 1) := by decide +kernel
theorem dX1_heardUntilGone_3 : decode cX1_heardUntilGone 3 = .ok (.aload_n 0, 1) := by decide +kernel
theorem dX1_heardUntilGone_4 : decode cX1_heardUntilGone 4 = .ok (.getfield 20, 3) := by decide +kernel
theorem dX1_heardUntilGone_7 : decode cX1_heardUntilGone 7 = .ok (.if_icmp .ge 21, 3) := by decide +kernel
theorem dX1_heardUntilGone_10 : decode cX1_heardUntilGone 10 = .ok (.aload_n 0, 1) := by decide +kernel
theorem dX1_heardUntilGone_11 : decode cX1_heardUntilGone 11 = .ok (.getfield 9, 3) := by decide +kernel
theorem dX1_heardUntilGone_14 : decode cX1_heardUntilGone 14 = .ok (.iload_n 2, 1) := by decide +kernel
theorem dX1_heardUntilGone_15 : decode cX1_heardUntilGone 15 = .ok (.iaload, 1) := by decide +kernel
theorem dX1_heardUntilGone_16 : decode cX1_heardUntilGone 16 = .ok (.iload_n 1, 1) := by decide +kernel
theorem dX1_heardUntilGone_17 : decode cX1_heardUntilGone 17 = .ok (.if_icmp .ge 5, 3) := by decide +kernel
theorem dX1_heardUntilGone_20 : decode cX1_heardUntilGone 20 = .ok (.iload_n 2, 1) := by decide +kernel
theorem dX1_heardUntilGone_21 : decode cX1_heardUntilGone 21 = .ok (.ireturn, 1) := by decide +kernel
theorem dX1_heardUntilGone_22 : decode cX1_heardUntilGone 22 = .ok (.iinc 2 1, 3) := by decide +kernel
theorem dX1_heardUntilGone_25 : decode cX1_heardUntilGone 25 = .ok (.goto (-23), 3) := by decide +kernel
theorem dX1_heardUntilGone_28 : decode cX1_heardUntilGone 28 = .ok (.aload_n 0, 1) := by decide +kernel
theorem dX1_heardUntilGone_29 : decode cX1_heardUntilGone 29 = .ok (.getfield 20, 3) := by decide +kernel
theorem dX1_heardUntilGone_32 : decode cX1_heardUntilGone 32 = .ok (.ireturn, 1) := by decide +kernel
theorem dX1_tellerPoints_0 : decode cX1_tellerPoints 0 = .ok (.aload_n 0, 1) := by decide +kernel
theorem dX1_tellerPoints_1 : decode cX1_tellerPoints 1 = .ok (.iload_n 2, 1) := by decide +kernel
theorem dX1_tellerPoints_2 : decode cX1_tellerPoints 2 = .ok (.invokevirtual 34, 3) := by decide +kernel
theorem dX1_tellerPoints_5 : decode cX1_tellerPoints 5 = .ok (.istore_n 3, 1) := by decide +kernel
theorem dX1_tellerPoints_6 : decode cX1_tellerPoints 6 = .ok (.iload_n 3, 1) := by decide +kernel
theorem dX1_tellerPoints_7 : decode cX1_tellerPoints 7 = .ok (.iload_n 1, 1) := by decide +kernel
theorem dX1_tellerPoints_8 : decode cX1_tellerPoints 8 = .ok (.if_icmp .ge 9, 3) := by decide +kernel
theorem dX1_tellerPoints_11 : decode cX1_tellerPoints 11 = .ok (.iload_n 3, 1) := by decide +kernel
theorem dX1_tellerPoints_12 : decode cX1_tellerPoints 12 = .ok (.iconst 3, 1) := by decide +kernel
theorem dX1_tellerPoints_13 : decode cX1_tellerPoints 13 = .ok (.isub, 1) := by decide +kernel
theorem dX1_tellerPoints_14 : decode cX1_tellerPoints 14 = .ok (.goto 4, 3) := by decide +kernel
theorem dX1_tellerPoints_17 : decode cX1_tellerPoints 17 = .ok (.iload_n 1, 1) := by decide +kernel
theorem dX1_tellerPoints_18 : decode cX1_tellerPoints 18 = .ok (.ireturn, 1) := by decide +kernel
theorem dX1_spinnerPoints_0 : decode cX1_spinnerPoints 0 = .ok (.iload_n 1, 1) := by decide +kernel
theorem dX1_spinnerPoints_1 : decode cX1_spinnerPoints 1 = .ok (.aload_n 0, 1) := by decide +kernel
theorem dX1_spinnerPoints_2 : decode cX1_spinnerPoints 2 = .ok (.iload_n 2, 1) := by decide +kernel
theorem dX1_spinnerPoints_3 : decode cX1_spinnerPoints 3 = .ok (.invokevirtual 34, 3) := by decide +kernel
theorem dX1_spinnerPoints_6 : decode cX1_spinnerPoints 6 = .ok (.invokestatic 38, 3) := by decide +kernel
theorem dX1_spinnerPoints_9 : decode cX1_spinnerPoints 9 = .ok (.istore_n 3, 1) := by decide +kernel
theorem dX1_spinnerPoints_10 : decode cX1_spinnerPoints 10 = .ok (.iconst 0, 1) := by decide +kernel
theorem dX1_spinnerPoints_11 : decode cX1_spinnerPoints 11 = .ok (.istore 4, 2) := by decide +kernel
theorem dX1_spinnerPoints_13 : decode cX1_spinnerPoints 13 = .ok (.iconst 0, 1) := by decide +kernel
theorem dX1_spinnerPoints_14 : decode cX1_spinnerPoints 14 = .ok (.istore 5, 2) := by decide +kernel
theorem dX1_spinnerPoints_16 : decode cX1_spinnerPoints 16 = .ok (.iload 5, 2) := by decide +kernel
theorem dX1_spinnerPoints_18 : decode cX1_spinnerPoints 18 = .ok (.iload_n 3, 1) := by decide +kernel
theorem dX1_spinnerPoints_19 : decode cX1_spinnerPoints 19 = .ok (.if_icmp .ge 26, 3) := by decide +kernel
theorem dX1_spinnerPoints_22 : decode cX1_spinnerPoints 22 = .ok (.iload 4, 2) := by decide +kernel
theorem dX1_spinnerPoints_24 : decode cX1_spinnerPoints 24 = .ok (.aload_n 0, 1) := by decide +kernel
theorem dX1_spinnerPoints_25 : decode cX1_spinnerPoints 25 = .ok (.getfield 9, 3) := by decide +kernel
theorem dX1_spinnerPoints_28 : decode cX1_spinnerPoints 28 = .ok (.iload 5, 2) := by decide +kernel
theorem dX1_spinnerPoints_30 : decode cX1_spinnerPoints 30 = .ok (.iaload, 1) := by decide +kernel
theorem dX1_spinnerPoints_31 : decode cX1_spinnerPoints 31 = .ok (.invokestatic 44, 3) := by decide +kernel
theorem dX1_spinnerPoints_34 : decode cX1_spinnerPoints 34 = .ok (.iconst 1, 1) := by decide +kernel
theorem dX1_spinnerPoints_35 : decode cX1_spinnerPoints 35 = .ok (.isub, 1) := by decide +kernel
theorem dX1_spinnerPoints_36 : decode cX1_spinnerPoints 36 = .ok (.iadd, 1) := by decide +kernel
theorem dX1_spinnerPoints_37 : decode cX1_spinnerPoints 37 = .ok (.istore 4, 2) := by decide +kernel
theorem dX1_spinnerPoints_39 : decode cX1_spinnerPoints 39 = .ok (.iinc 5 1, 3) := by decide +kernel
theorem dX1_spinnerPoints_42 : decode cX1_spinnerPoints 42 = .ok (.goto (-26), 3) := by decide +kernel
theorem dX1_spinnerPoints_45 : decode cX1_spinnerPoints 45 = .ok (.iload 4, 2) := by decide +kernel
theorem dX1_spinnerPoints_47 : decode cX1_spinnerPoints 47 = .ok (.ireturn, 1) := by decide +kernel
theorem dX1_findRests_0 : decode cX1_findRests 0 = .ok (.aload_n 0, 1) := by decide +kernel
theorem dX1_findRests_1 : decode cX1_findRests 1 = .ok (.iconst 0, 1) := by decide +kernel
theorem dX1_findRests_2 : decode cX1_findRests 2 = .ok (.putfield 47, 3) := by decide +kernel
theorem dX1_findRests_5 : decode cX1_findRests 5 = .ok (.aload_n 0, 1) := by decide +kernel
theorem dX1_findRests_6 : decode cX1_findRests 6 = .ok (.bipush (-4), 2) := by decide +kernel
theorem dX1_findRests_8 : decode cX1_findRests 8 = .ok (.putfield 50, 3) := by decide +kernel
theorem dX1_findRests_11 : decode cX1_findRests 11 = .ok (.iconst 1, 1) := by decide +kernel
theorem dX1_findRests_12 : decode cX1_findRests 12 = .ok (.istore_n 1, 1) := by decide +kernel
theorem dX1_findRests_13 : decode cX1_findRests 13 = .ok (.iload_n 1, 1) := by decide +kernel
theorem dX1_findRests_14 : decode cX1_findRests 14 = .ok (.aload_n 0, 1) := by decide +kernel
theorem dX1_findRests_15 : decode cX1_findRests 15 = .ok (.getfield 20, 3) := by decide +kernel
theorem dX1_findRests_18 : decode cX1_findRests 18 = .ok (.if_icmp .gt 75, 3) := by decide +kernel
theorem dX1_findRests_21 : decode cX1_findRests 21 = .ok (.iconst 0, 1) := by decide +kernel
theorem dX1_findRests_22 : decode cX1_findRests 22 = .ok (.istore_n 2, 1) := by decide +kernel
theorem dX1_findRests_23 : decode cX1_findRests 23 = .ok (.iload_n 2, 1) := by decide +kernel
theorem dX1_findRests_24 : decode cX1_findRests 24 = .ok (.bipush 9, 2) := by decide +kernel
theorem dX1_findRests_26 : decode cX1_findRests 26 = .ok (.if_icmp .gt 61, 3) := by decide +kernel
theorem dX1_findRests_29 : decode cX1_findRests 29 = .ok (.aload_n 0, 1) := by decide +kernel
theorem dX1_findRests_30 : decode cX1_findRests 30 = .ok (.iload_n 1, 1) := by decide +kernel
theorem dX1_findRests_31 : decode cX1_findRests 31 = .ok (.iload_n 2, 1) := by decide +kernel
theorem dX1_findRests_32 : decode cX1_findRests 32 = .ok (.invokevirtual 53, 3) := by decide +kernel
theorem dX1_findRests_35 : decode cX1_findRests 35 = .ok (.ifCond .eq 46, 3) := by decide +kernel
theorem dX1_findRests_38 : decode cX1_findRests 38 = .ok (.aload_n 0, 1) := by decide +kernel
theorem dX1_findRests_39 : decode cX1_findRests 39 = .ok (.iload_n 1, 1) := by decide +kernel
theorem dX1_findRests_40 : decode cX1_findRests 40 = .ok (.iload_n 2, 1) := by decide +kernel
theorem dX1_findRests_41 : decode cX1_findRests 41 = .ok (.invokevirtual 57, 3) := by decide +kernel
theorem dX1_findRests_44 : decode cX1_findRests 44 = .ok (.ifCond .eq 37, 3) := by decide +kernel
theorem dX1_findRests_47 : decode cX1_findRests 47 = .ok (.aload_n 0, 1) := by decide +kernel
theorem dX1_findRests_48 : decode cX1_findRests 48 = .ok (.aload_n 0, 1) := by decide +kernel
theorem dX1_findRests_49 : decode cX1_findRests 49 = .ok (.getfield 47, 3) := by decide +kernel
theorem dX1_findRests_52 : decode cX1_findRests 52 = .ok (.ifCond .ne 12, 3) := by decide +kernel
theorem dX1_findRests_55 : decode cX1_findRests 55 = .ok (.bipush 10, 2) := by decide +kernel
theorem dX1_findRests_57 : decode cX1_findRests 57 = .ok (.iload_n 1, 1) := by decide +kernel
theorem dX1_findRests_58 : decode cX1_findRests 58 = .ok (.imul, 1) := by decide +kernel
theorem dX1_findRests_59 : decode cX1_findRests 59 = .ok (.iload_n 2, 1) := by decide +kernel
theorem dX1_findRests_60 : decode cX1_findRests 60 = .ok (.iadd, 1) := by decide +kernel
theorem dX1_findRests_61 : decode cX1_findRests 61 = .ok (.goto 7, 3) := by decide +kernel
theorem dX1_findRests_64 : decode cX1_findRests 64 = .ok (.aload_n 0, 1) := by decide +kernel
theorem dX1_findRests_65 : decode cX1_findRests 65 = .ok (.getfield 50, 3) := by decide +kernel
theorem dX1_findRests_68 : decode cX1_findRests 68 = .ok (.putfield 50, 3) := by decide +kernel
theorem dX1_findRests_71 : decode cX1_findRests 71 = .ok (.aload_n 0, 1) := by decide +kernel
theorem dX1_findRests_72 : decode cX1_findRests 72 = .ok (.dup, 1) := by decide +kernel
theorem dX1_findRests_73 : decode cX1_findRests 73 = .ok (.getfield 47, 3) := by decide +kernel
theorem dX1_findRests_76 : decode cX1_findRests 76 = .ok (.iconst 1, 1) := by decide +kernel
theorem dX1_findRests_77 : decode cX1_findRests 77 = .ok (.iadd, 1) := by decide +kernel
theorem dX1_findRests_78 : decode cX1_findRests 78 = .ok (.putfield 47, 3) := by decide +kernel
theorem dX1_findRests_81 : decode cX1_findRests 81 = .ok (.iinc 2 1, 3) := by decide +kernel
theorem dX1_findRests_84 : decode cX1_findRests 84 = .ok (.goto (-61), 3) := by decide +kernel
theorem dX1_findRests_87 : decode cX1_findRests 87 = .ok (.iinc 1 1, 3) := by decide +kernel
theorem dX1_findRests_90 : decode cX1_findRests 90 = .ok (.goto (-77), 3) := by decide +kernel
theorem dX1_findRests_93 : decode cX1_findRests 93 = .ok (.return_, 1) := by decide +kernel
theorem dX1_tellerRests_0 : decode cX1_tellerRests 0 = .ok (.aload_n 0, 1) := by decide +kernel
theorem dX1_tellerRests_1 : decode cX1_tellerRests 1 = .ok (.iload_n 1, 1) := by decide +kernel
theorem dX1_tellerRests_2 : decode cX1_tellerRests 2 = .ok (.iload_n 2, 1) := by decide +kernel
theorem dX1_tellerRests_3 : decode cX1_tellerRests 3 = .ok (.invokevirtual 60, 3) := by decide +kernel
theorem dX1_tellerRests_6 : decode cX1_tellerRests 6 = .ok (.istore_n 3, 1) := by decide +kernel
theorem dX1_tellerRests_7 : decode cX1_tellerRests 7 = .ok (.iconst 1, 1) := by decide +kernel
theorem dX1_tellerRests_8 : decode cX1_tellerRests 8 = .ok (.istore 4, 2) := by decide +kernel
theorem dX1_tellerRests_10 : decode cX1_tellerRests 10 = .ok (.iload 4, 2) := by decide +kernel
theorem dX1_tellerRests_12 : decode cX1_tellerRests 12 = .ok (.aload_n 0, 1) := by decide +kernel
theorem dX1_tellerRests_13 : decode cX1_tellerRests 13 = .ok (.getfield 20, 3) := by decide +kernel
theorem dX1_tellerRests_16 : decode cX1_tellerRests 16 = .ok (.if_icmp .gt 22, 3) := by decide +kernel
theorem dX1_tellerRests_19 : decode cX1_tellerRests 19 = .ok (.aload_n 0, 1) := by decide +kernel
theorem dX1_tellerRests_20 : decode cX1_tellerRests 20 = .ok (.iload 4, 2) := by decide +kernel
theorem dX1_tellerRests_22 : decode cX1_tellerRests 22 = .ok (.iload_n 2, 1) := by decide +kernel
theorem dX1_tellerRests_23 : decode cX1_tellerRests 23 = .ok (.invokevirtual 60, 3) := by decide +kernel
theorem dX1_tellerRests_26 : decode cX1_tellerRests 26 = .ok (.iload_n 3, 1) := by decide +kernel
theorem dX1_tellerRests_27 : decode cX1_tellerRests 27 = .ok (.if_icmp .le 5, 3) := by decide +kernel
theorem dX1_tellerRests_30 : decode cX1_tellerRests 30 = .ok (.iconst 0, 1) := by decide +kernel
theorem dX1_tellerRests_31 : decode cX1_tellerRests 31 = .ok (.ireturn, 1) := by decide +kernel
theorem dX1_tellerRests_32 : decode cX1_tellerRests 32 = .ok (.iinc 4 1, 3) := by decide +kernel
theorem dX1_tellerRests_35 : decode cX1_tellerRests 35 = .ok (.goto (-25), 3) := by decide +kernel
theorem dX1_tellerRests_38 : decode cX1_tellerRests 38 = .ok (.iconst 1, 1) := by decide +kernel
theorem dX1_tellerRests_39 : decode cX1_tellerRests 39 = .ok (.ireturn, 1) := by decide +kernel
theorem dX1_spinnerRests_0 : decode cX1_spinnerRests 0 = .ok (.aload_n 0, 1) := by decide +kernel
theorem dX1_spinnerRests_1 : decode cX1_spinnerRests 1 = .ok (.iload_n 1, 1) := by decide +kernel
theorem dX1_spinnerRests_2 : decode cX1_spinnerRests 2 = .ok (.iload_n 2, 1) := by decide +kernel
theorem dX1_spinnerRests_3 : decode cX1_spinnerRests 3 = .ok (.invokevirtual 63, 3) := by decide +kernel
theorem dX1_spinnerRests_6 : decode cX1_spinnerRests 6 = .ok (.istore_n 3, 1) := by decide +kernel
theorem dX1_spinnerRests_7 : decode cX1_spinnerRests 7 = .ok (.iconst 0, 1) := by decide +kernel
theorem dX1_spinnerRests_8 : decode cX1_spinnerRests 8 = .ok (.istore 4, 2) := by decide +kernel
theorem dX1_spinnerRests_10 : decode cX1_spinnerRests 10 = .ok (.iload 4, 2) := by decide +kernel
theorem dX1_spinnerRests_12 : decode cX1_spinnerRests 12 = .ok (.bipush 9, 2) := by decide +kernel
theorem dX1_spinnerRests_14 : decode cX1_spinnerRests 14 = .ok (.if_icmp .gt 22, 3) := by decide +kernel
theorem dX1_spinnerRests_17 : decode cX1_spinnerRests 17 = .ok (.aload_n 0, 1) := by decide +kernel
theorem dX1_spinnerRests_18 : decode cX1_spinnerRests 18 = .ok (.iload_n 1, 1) := by decide +kernel
theorem dX1_spinnerRests_19 : decode cX1_spinnerRests 19 = .ok (.iload 4, 2) := by decide +kernel
theorem dX1_spinnerRests_21 : decode cX1_spinnerRests 21 = .ok (.invokevirtual 63, 3) := by decide +kernel
theorem dX1_spinnerRests_24 : decode cX1_spinnerRests 24 = .ok (.iload_n 3, 1) := by decide +kernel
theorem dX1_spinnerRests_25 : decode cX1_spinnerRests 25 = .ok (.if_icmp .le 5, 3) := by decide +kernel
theorem dX1_spinnerRests_28 : decode cX1_spinnerRests 28 = .ok (.iconst 0, 1) := by decide +kernel
theorem dX1_spinnerRests_29 : decode cX1_spinnerRests 29 = .ok (.ireturn, 1) := by decide +kernel
theorem dX1_spinnerRests_30 : decode cX1_spinnerRests 30 = .ok (.iinc 4 1, 3) := by decide +kernel
theorem dX1_spinnerRests_33 : decode cX1_spinnerRests 33 = .ok (.goto (-23), 3) := by decide +kernel
theorem dX1_spinnerRests_36 : decode cX1_spinnerRests 36 = .ok (.iconst 1, 1) := by decide +kernel
theorem dX1_spinnerRests_37 : decode cX1_spinnerRests 37 = .ok (.ireturn, 1) := by decide +kernel
theorem dX2_init_0 : decode cX2_init 0 = .ok (.aload_n 0, 1) := by decide +kernel
theorem dX2_init_1 : decode cX2_init 1 = .ok (.invokespecial 3, 3) := by decide +kernel
theorem dX2_init_4 : decode cX2_init 4 = .ok (.aload_n 0, 1) := by decide +kernel
theorem dX2_init_5 : decode cX2_init 5 = .ok (.bipush 20, 2) := by decide +kernel
theorem dX2_init_7 : decode cX2_init 7 = .ok (.putfield 9, 3) := by decide +kernel
theorem dX2_init_10 : decode cX2_init 10 = .ok (.aload_n 0, 1) := by decide +kernel
theorem dX2_init_11 : decode cX2_init 11 = .ok (.bipush 8, 2) := by decide +kernel
theorem dX2_init_13 : decode cX2_init 13 = .ok (.newarray .int, 2) := by decide +kernel
theorem dX2_init_15 : decode cX2_init 15 = .ok (.putfield 15, 3) := by decide +kernel
theorem dX2_init_18 : decode cX2_init 18 = .ok (.aload_n 0, 1) := by decide +kernel
theorem dX2_init_19 : decode cX2_init 19 = .ok (.bipush 8, 2) := by decide +kernel
theorem dX2_init_21 : decode cX2_init 21 = .ok (.bipush 9, 2) := by decide +kernel
theorem dX2_init_23 : decode cX2_init 23 = .ok (.multianewarray 19 2, 4) := by decide +kernel
theorem dX2_init_27 : decode cX2_init 27 = .ok (.putfield 21, 3) := by decide +kernel
theorem dX2_init_30 : decode cX2_init 30 = .ok (.aload_n 0, 1) := by decide +kernel
theorem dX2_init_31 : decode cX2_init 31 = .ok (.iconst 4, 1) := by decide +kernel
theorem dX2_init_32 : decode cX2_init 32 = .ok (.newarray .int, 2) := by decide +kernel
theorem dX2_init_34 : decode cX2_init 34 = .ok (.putfield 24, 3) := by decide +kernel
theorem dX2_init_37 : decode cX2_init 37 = .ok (.aload_n 0, 1) := by decide +kernel
theorem dX2_init_38 : decode cX2_init 38 = .ok (.iconst 4, 1) := by decide +kernel
theorem dX2_init_39 : decode cX2_init 39 = .ok (.iconst 4, 1) := by decide +kernel
theorem dX2_init_40 : decode cX2_init 40 = .ok (.multianewarray 19 2, 4) := by decide +kernel
theorem dX2_init_44 : decode cX2_init 44 = .ok (.putfield 27, 3) := by decide +kernel
theorem dX2_init_47 : decode cX2_init 47 = .ok (.aload_n 0, 1) := by decide +kernel
theorem dX2_init_48 : decode cX2_init 48 = .ok (.iconst 4, 1) := by decide +kernel
theorem dX2_init_49 : decode cX2_init 49 = .ok (.bipush 8, 2) := by decide +kernel
theorem dX2_init_51 : decode cX2_init 51 = .ok (.multianewarray 19 2, 4) := by decide +kernel
theorem dX2_init_55 : decode cX2_init 55 = .ok (.putfield 30, 3) := by decide +kernel
theorem dX2_init_58 : decode cX2_init 58 = .ok (.aload_n 0, 1) := by decide +kernel
theorem dX2_init_59 : decode cX2_init 59 = .ok (.iconst (-1), 1) := by decide +kernel
theorem dX2_init_60 : decode cX2_init 60 = .ok (.putfield 33, 3) := by decide +kernel
theorem dX2_init_63 : decode cX2_init 63 = .ok (.return_, 1) := by decide +kernel
theorem dX2_hasTale_0 : decode cX2_hasTale 0 = .ok (.iload_n 1, 1) := by decide +kernel
theorem dX2_hasTale_1 : decode cX2_hasTale 1 = .ok (.iconst 0, 1) := by decide +kernel
theorem dX2_hasTale_2 : decode cX2_hasTale 2 = .ok (.aload_n 0, 1) := by decide +kernel
theorem dX2_hasTale_3 : decode cX2_hasTale 3 = .ok (.getfield 36, 3) := by decide +kernel
theorem dX2_hasTale_6 : decode cX2_hasTale 6 = .ok (.iconst 1, 1) := by decide +kernel
theorem dX2_hasTale_7 : decode cX2_hasTale 7 = .ok (.isub, 1) := by decide +kernel
theorem dX2_hasTale_8 : decode cX2_hasTale 8 = .ok (.invokestatic 39, 3) := by decide +kernel
theorem dX2_hasTale_11 : decode cX2_hasTale 11 = .ok (.ireturn, 1) := by decide +kernel
theorem dX2_hasSentence_0 : decode cX2_hasSentence 0 = .ok (.aload_n 0, 1) := by decide +kernel
theorem dX2_hasSentence_1 : decode cX2_hasSentence 1 = .ok (.iload_n 1, 1) := by decide +kernel
theorem dX2_hasSentence_2 : decode cX2_hasSentence 2 = .ok (.invokevirtual 43, 3) := by decide +kernel
theorem dX2_hasSentence_5 : decode cX2_hasSentence 5 = .ok (.ifCond .eq 23, 3) := by decide +kernel
theorem dX2_hasSentence_8 : decode cX2_hasSentence 8 = .ok (.iload_n 2, 1) := by decide +kernel
theorem dX2_hasSentence_9 : decode cX2_hasSentence 9 = .ok (.iconst 0, 1) := by decide +kernel
theorem dX2_hasSentence_10 : decode cX2_hasSentence 10 = .ok (.aload_n 0, 1) := by decide +kernel
theorem dX2_hasSentence_11 : decode cX2_hasSentence 11 = .ok (.getfield 15, 3) := by decide +kernel
theorem dX2_hasSentence_14 : decode cX2_hasSentence 14 = .ok (.iload_n 1, 1) := by decide +kernel
theorem dX2_hasSentence_15 : decode cX2_hasSentence 15 = .ok (.iaload, 1) := by decide +kernel
theorem dX2_hasSentence_16 : decode cX2_hasSentence 16 = .ok (.iconst 1, 1) := by decide +kernel
theorem dX2_hasSentence_17 : decode cX2_hasSentence 17 = .ok (.isub, 1) := by decide +kernel
theorem dX2_hasSentence_18 : decode cX2_hasSentence 18 = .ok (.invokestatic 39, 3) := by decide +kernel
theorem dX2_hasSentence_21 : decode cX2_hasSentence 21 = .ok (.ifCond .eq 7, 3) := by decide +kernel
theorem dX2_hasSentence_24 : decode cX2_hasSentence 24 = .ok (.iconst 1, 1) := by decide +kernel
theorem dX2_hasSentence_25 : decode cX2_hasSentence 25 = .ok (.goto 4, 3) := by decide +kernel
theorem dX2_hasSentence_28 : decode cX2_hasSentence 28 = .ok (.iconst 0, 1) := by decide +kernel
theorem dX2_hasSentence_29 : decode cX2_hasSentence 29 = .ok (.ireturn, 1) := by decide +kernel
theorem dX2_hasTeller_0 : decode cX2_hasTeller 0 = .ok (.iload_n 1, 1) := by decide +kernel
theorem dX2_hasTeller_1 : decode cX2_hasTeller 1 = .ok (.iconst 0, 1) := by decide +kernel
theorem dX2_hasTeller_2 : decode cX2_hasTeller 2 = .ok (.aload_n 0, 1) := by decide +kernel
theorem dX2_hasTeller_3 : decode cX2_hasTeller 3 = .ok (.getfield 47, 3) := by decide +kernel
theorem dX2_hasTeller_6 : decode cX2_hasTeller 6 = .ok (.iconst 1, 1) := by decide +kernel
theorem dX2_hasTeller_7 : decode cX2_hasTeller 7 = .ok (.isub, 1) := by decide +kernel
theorem dX2_hasTeller_8 : decode cX2_hasTeller 8 = .ok (.invokestatic 39, 3) := by decide +kernel
theorem dX2_hasTeller_11 : decode cX2_hasTeller 11 = .ok (.ireturn, 1) := by decide +kernel
theorem dX2_hasSpinner_0 : decode cX2_hasSpinner 0 = .ok (.iload_n 1, 1) := by decide +kernel
theorem dX2_hasSpinner_1 : decode cX2_hasSpinner 1 = .ok (.iconst 0, 1) := by decide +kernel
theorem dX2_hasSpinner_2 : decode cX2_hasSpinner 2 = .ok (.aload_n 0, 1) := by decide +kernel
theorem dX2_hasSpinner_3 : decode cX2_hasSpinner 3 = .ok (.getfield 50, 3) := by decide +kernel
theorem dX2_hasSpinner_6 : decode cX2_hasSpinner 6 = .ok (.iconst 1, 1) := by decide +kernel
theorem dX2_hasSpinner_7 : decode cX2_hasSpinner 7 = .ok (.isub, 1) := by decide +kernel
theorem dX2_hasSpinner_8 : decode cX2_hasSpinner 8 = .ok (.invokestatic 39, 3) := by decide +kernel
theorem dX2_hasSpinner_11 : decode cX2_hasSpinner 11 = .ok (.ireturn, 1) := by decide +kernel
theorem dX2_hasAllOf_0 : decode cX2_hasAllOf 0 = .ok (.iload_n 1, 1) := by decide +kernel
theorem dX2_hasAllOf_1 : decode cX2_hasAllOf 1 = .ok (.iconst 0, 1) := by decide +kernel
theorem dX2_hasAllOf_2 : decode cX2_hasAllOf 2 = .ok (.iconst 1, 1) := by decide +kernel
theorem dX2_hasAllOf_3 : decode cX2_hasAllOf 3 = .ok (.aload_n 0, 1) := by decide +kernel
theorem dX2_hasAllOf_4 : decode cX2_hasAllOf 4 = .ok (.getfield 50, 3) := by decide +kernel
theorem dX2_hasAllOf_7 : decode cX2_hasAllOf 7 = .ok (.ishl, 1) := by decide +kernel
theorem dX2_hasAllOf_8 : decode cX2_hasAllOf 8 = .ok (.iconst 1, 1) := by decide +kernel
theorem dX2_hasAllOf_9 : decode cX2_hasAllOf 9 = .ok (.isub, 1) := by decide +kernel
theorem dX2_hasAllOf_10 : decode cX2_hasAllOf 10 = .ok (.invokestatic 39, 3) := by decide +kernel
theorem dX2_hasAllOf_13 : decode cX2_hasAllOf 13 = .ok (.ireturn, 1) := by decide +kernel
theorem dX2_addTale_0 : decode cX2_addTale 0 = .ok (.aload_n 1, 1) := by decide +kernel
theorem dX2_addTale_1 : decode cX2_addTale 1 = .ok (.iconst 0, 1) := by decide +kernel
theorem dX2_addTale_2 : decode cX2_addTale 2 = .ok (.aload_n 0, 1) := by decide +kernel
theorem dX2_addTale_3 : decode cX2_addTale 3 = .ok (.getfield 21, 3) := by decide +kernel
theorem dX2_addTale_6 : decode cX2_addTale 6 = .ok (.aload_n 0, 1) := by decide +kernel
theorem dX2_addTale_7 : decode cX2_addTale 7 = .ok (.getfield 36, 3) := by decide +kernel
theorem dX2_addTale_10 : decode cX2_addTale 10 = .ok (.aaload, 1) := by decide +kernel
theorem dX2_addTale_11 : decode cX2_addTale 11 = .ok (.iconst 0, 1) := by decide +kernel
theorem dX2_addTale_12 : decode cX2_addTale 12 = .ok (.iload_n 2, 1) := by decide +kernel
theorem dX2_addTale_13 : decode cX2_addTale 13 = .ok (.invokestatic 53, 3) := by decide +kernel
theorem dX2_addTale_16 : decode cX2_addTale 16 = .ok (.aload_n 0, 1) := by decide +kernel
theorem dX2_addTale_17 : decode cX2_addTale 17 = .ok (.getfield 15, 3) := by decide +kernel
theorem dX2_addTale_20 : decode cX2_addTale 20 = .ok (.aload_n 0, 1) := by decide +kernel
theorem dX2_addTale_21 : decode cX2_addTale 21 = .ok (.getfield 36, 3) := by decide +kernel
theorem dX2_addTale_24 : decode cX2_addTale 24 = .ok (.iload_n 2, 1) := by decide +kernel
theorem dX2_addTale_25 : decode cX2_addTale 25 = .ok (.iastore, 1) := by decide +kernel
theorem dX2_addTale_26 : decode cX2_addTale 26 = .ok (.aload_n 0, 1) := by decide +kernel
theorem dX2_addTale_27 : decode cX2_addTale 27 = .ok (.dup, 1) := by decide +kernel
theorem dX2_addTale_28 : decode cX2_addTale 28 = .ok (.getfield 36, 3) := by decide +kernel
theorem dX2_addTale_31 : decode cX2_addTale 31 = .ok (.dup_x1, 1) := by decide +kernel
theorem dX2_addTale_32 : decode cX2_addTale 32 = .ok (.iconst 1, 1) := by decide +kernel
theorem dX2_addTale_33 : decode cX2_addTale 33 = .ok (.iadd, 1) := by decide +kernel
theorem dX2_addTale_34 : decode cX2_addTale 34 = .ok (.putfield 36, 3) := by decide +kernel
theorem dX2_addTale_37 : decode cX2_addTale 37 = .ok (.ireturn, 1) := by decide +kernel
theorem dX2_tensionBy_0 : decode cX2_tensionBy 0 = .ok (.aload_n 0, 1) := by decide +kernel
theorem dX2_tensionBy_1 : decode cX2_tensionBy 1 = .ok (.getfield 24, 3) := by decide +kernel
theorem dX2_tensionBy_4 : decode cX2_tensionBy 4 = .ok (.iload_n 1, 1) := by decide +kernel
theorem dX2_tensionBy_5 : decode cX2_tensionBy 5 = .ok (.iaload, 1) := by decide +kernel
theorem dX2_tensionBy_6 : decode cX2_tensionBy 6 = .ok (.iconst 3, 1) := by decide +kernel
theorem dX2_tensionBy_7 : decode cX2_tensionBy 7 = .ok (.if_icmp .ne 16, 3) := by decide +kernel
theorem dX2_tensionBy_10 : decode cX2_tensionBy 10 = .ok (.aload_n 0, 1) := by decide +kernel
theorem dX2_tensionBy_11 : decode cX2_tensionBy 11 = .ok (.getfield 15, 3) := by decide +kernel
theorem dX2_tensionBy_14 : decode cX2_tensionBy 14 = .ok (.iload_n 2, 1) := by decide +kernel
theorem dX2_tensionBy_15 : decode cX2_tensionBy 15 = .ok (.iaload, 1) := by decide +kernel
theorem dX2_tensionBy_16 : decode cX2_tensionBy 16 = .ok (.iconst 1, 1) := by decide +kernel
theorem dX2_tensionBy_17 : decode cX2_tensionBy 17 = .ok (.isub, 1) := by decide +kernel
theorem dX2_tensionBy_18 : decode cX2_tensionBy 18 = .ok (.iload_n 3, 1) := by decide +kernel
theorem dX2_tensionBy_19 : decode cX2_tensionBy 19 = .ok (.isub, 1) := by decide +kernel
theorem dX2_tensionBy_20 : decode cX2_tensionBy 20 = .ok (.goto 4, 3) := by decide +kernel
theorem dX2_tensionBy_23 : decode cX2_tensionBy 23 = .ok (.iload_n 3, 1) := by decide +kernel
theorem dX2_tensionBy_24 : decode cX2_tensionBy 24 = .ok (.istore 4, 2) := by decide +kernel
theorem dX2_tensionBy_26 : decode cX2_tensionBy 26 = .ok (.aload_n 0, 1) := by decide +kernel
theorem dX2_tensionBy_27 : decode cX2_tensionBy 27 = .ok (.getfield 24, 3) := by decide +kernel
theorem dX2_tensionBy_30 : decode cX2_tensionBy 30 = .ok (.iload_n 1, 1) := by decide +kernel
theorem dX2_tensionBy_31 : decode cX2_tensionBy 31 = .ok (.iaload, 1) := by decide +kernel
theorem dX2_tensionBy_32 : decode cX2_tensionBy 32 = .ok (.aload_n 0, 1) := by decide +kernel
theorem dX2_tensionBy_33 : decode cX2_tensionBy 33 = .ok (.getfield 21, 3) := by decide +kernel
theorem dX2_tensionBy_36 : decode cX2_tensionBy 36 = .ok (.iload_n 2, 1) := by decide +kernel
theorem dX2_tensionBy_37 : decode cX2_tensionBy 37 = .ok (.aaload, 1) := by decide +kernel
theorem dX2_tensionBy_38 : decode cX2_tensionBy 38 = .ok (.iload 4, 2) := by decide +kernel
theorem dX2_tensionBy_40 : decode cX2_tensionBy 40 = .ok (.iaload, 1) := by decide +kernel
theorem dX2_tensionBy_41 : decode cX2_tensionBy 41 = .ok (.invokestatic 59, 3) := by decide +kernel
theorem dX2_tensionBy_44 : decode cX2_tensionBy 44 = .ok (.ireturn, 1) := by decide +kernel
theorem dX2_isInMind_0 : decode cX2_isInMind 0 = .ok (.aload_n 0, 1) := by decide +kernel
theorem dX2_isInMind_1 : decode cX2_isInMind 1 = .ok (.getfield 30, 3) := by decide +kernel
theorem dX2_isInMind_4 : decode cX2_isInMind 4 = .ok (.iload_n 1, 1) := by decide +kernel
theorem dX2_isInMind_5 : decode cX2_isInMind 5 = .ok (.aaload, 1) := by decide +kernel
theorem dX2_isInMind_6 : decode cX2_isInMind 6 = .ok (.iload_n 2, 1) := by decide +kernel
theorem dX2_isInMind_7 : decode cX2_isInMind 7 = .ok (.iaload, 1) := by decide +kernel
theorem dX2_isInMind_8 : decode cX2_isInMind 8 = .ok (.iload_n 3, 1) := by decide +kernel
theorem dX2_isInMind_9 : decode cX2_isInMind 9 = .ok (.aload_n 0, 1) := by decide +kernel
theorem dX2_isInMind_10 : decode cX2_isInMind 10 = .ok (.getfield 9, 3) := by decide +kernel
theorem dX2_isInMind_13 : decode cX2_isInMind 13 = .ok (.invokestatic 63, 3) := by decide +kernel
theorem dX2_isInMind_16 : decode cX2_isInMind 16 = .ok (.ireturn, 1) := by decide +kernel
theorem dX2_spend_0 : decode cX2_spend 0 = .ok (.aload_n 0, 1) := by decide +kernel
theorem dX2_spend_1 : decode cX2_spend 1 = .ok (.getfield 33, 3) := by decide +kernel
theorem dX2_spend_4 : decode cX2_spend 4 = .ok (.iload_n 2, 1) := by decide +kernel
theorem dX2_spend_5 : decode cX2_spend 5 = .ok (.if_icmp .ne 15, 3) := by decide +kernel
theorem dX2_spend_8 : decode cX2_spend 8 = .ok (.aload_n 0, 1) := by decide +kernel
theorem dX2_spend_9 : decode cX2_spend 9 = .ok (.getfield 66, 3) := by decide +kernel
theorem dX2_spend_12 : decode cX2_spend 12 = .ok (.iload_n 1, 1) := by decide +kernel
theorem dX2_spend_13 : decode cX2_spend 13 = .ok (.if_icmp .ne 7, 3) := by decide +kernel
theorem dX2_spend_16 : decode cX2_spend 16 = .ok (.iconst 1, 1) := by decide +kernel
theorem dX2_spend_17 : decode cX2_spend 17 = .ok (.goto 4, 3) := by decide +kernel
theorem dX2_spend_20 : decode cX2_spend 20 = .ok (.iconst 0, 1) := by decide +kernel
theorem dX2_spend_21 : decode cX2_spend 21 = .ok (.istore 5, 2) := by decide +kernel
theorem dX2_spend_23 : decode cX2_spend 23 = .ok (.iload 5, 2) := by decide +kernel
theorem dX2_spend_25 : decode cX2_spend 25 = .ok (.ifCond .eq 10, 3) := by decide +kernel
theorem dX2_spend_28 : decode cX2_spend 28 = .ok (.aload_n 0, 1) := by decide +kernel
theorem dX2_spend_29 : decode cX2_spend 29 = .ok (.getfield 69, 3) := by decide +kernel
theorem dX2_spend_32 : decode cX2_spend 32 = .ok (.goto 4, 3) := by decide +kernel
theorem dX2_spend_35 : decode cX2_spend 35 = .ok (.iconst 0, 1) := by decide +kernel
theorem dX2_spend_36 : decode cX2_spend 36 = .ok (.istore 6, 2) := by decide +kernel
theorem dX2_spend_38 : decode cX2_spend 38 = .ok (.iload 6, 2) := by decide +kernel
theorem dX2_spend_40 : decode cX2_spend 40 = .ok (.iload_n 3, 1) := by decide +kernel
theorem dX2_spend_41 : decode cX2_spend 41 = .ok (.iadd, 1) := by decide +kernel
theorem dX2_spend_42 : decode cX2_spend 42 = .ok (.aload_n 0, 1) := by decide +kernel
theorem dX2_spend_43 : decode cX2_spend 43 = .ok (.getfield 15, 3) := by decide +kernel
theorem dX2_spend_46 : decode cX2_spend 46 = .ok (.iload_n 2, 1) := by decide +kernel
theorem dX2_spend_47 : decode cX2_spend 47 = .ok (.iaload, 1) := by decide +kernel
theorem dX2_spend_48 : decode cX2_spend 48 = .ok (.invokestatic 72, 3) := by decide +kernel
theorem dX2_spend_51 : decode cX2_spend 51 = .ok (.istore 7, 2) := by decide +kernel
theorem dX2_spend_53 : decode cX2_spend 53 = .ok (.aload_n 0, 1) := by decide +kernel
theorem dX2_spend_54 : decode cX2_spend 54 = .ok (.iload 5, 2) := by decide +kernel
theorem dX2_spend_56 : decode cX2_spend 56 = .ok (.ifCond .eq 13, 3) := by decide +kernel
theorem dX2_spend_59 : decode cX2_spend 59 = .ok (.aload_n 0, 1) := by decide +kernel
theorem dX2_spend_60 : decode cX2_spend 60 = .ok (.getfield 77, 3) := by decide +kernel
theorem dX2_spend_63 : decode cX2_spend 63 = .ok (.iload 4, 2) := by decide +kernel
theorem dX2_spend_65 : decode cX2_spend 65 = .ok (.iand, 1) := by decide +kernel
theorem dX2_spend_66 : decode cX2_spend 66 = .ok (.goto 5, 3) := by decide +kernel
theorem dX2_spend_69 : decode cX2_spend 69 = .ok (.iload 4, 2) := by decide +kernel
theorem dX2_spend_71 : decode cX2_spend 71 = .ok (.putfield 77, 3) := by decide +kernel
theorem dX2_spend_74 : decode cX2_spend 74 = .ok (.aload_n 0, 1) := by decide +kernel
theorem dX2_spend_75 : decode cX2_spend 75 = .ok (.dup, 1) := by decide +kernel
theorem dX2_spend_76 : decode cX2_spend 76 = .ok (.getfield 80, 3) := by decide +kernel
theorem dX2_spend_79 : decode cX2_spend 79 = .ok (.iconst 1, 1) := by decide +kernel
theorem dX2_spend_80 : decode cX2_spend 80 = .ok (.iadd, 1) := by decide +kernel
theorem dX2_spend_81 : decode cX2_spend 81 = .ok (.putfield 80, 3) := by decide +kernel
theorem dX2_spend_84 : decode cX2_spend 84 = .ok (.iconst 0, 1) := by decide +kernel
theorem dX2_spend_85 : decode cX2_spend 85 = .ok (.istore 8, 2) := by decide +kernel
theorem dX2_spend_87 : decode cX2_spend 87 = .ok (.iload 8, 2) := by decide +kernel
theorem dX2_spend_89 : decode cX2_spend 89 = .ok (.aload_n 0, 1) := by decide +kernel
theorem dX2_spend_90 : decode cX2_spend 90 = .ok (.getfield 50, 3) := by decide +kernel
theorem dX2_spend_93 : decode cX2_spend 93 = .ok (.if_icmp .ge 47, 3) := by decide +kernel
theorem dX2_spend_96 : decode cX2_spend 96 = .ok (.iload 4, 2) := by decide +kernel
theorem dX2_spend_98 : decode cX2_spend 98 = .ok (.iload 8, 2) := by decide +kernel
theorem dX2_spend_100 : decode cX2_spend 100 = .ok (.ishr, 1) := by decide +kernel
theorem dX2_spend_101 : decode cX2_spend 101 = .ok (.iconst 1, 1) := by decide +kernel
theorem dX2_spend_102 : decode cX2_spend 102 = .ok (.iand, 1) := by decide +kernel
theorem dX2_spend_103 : decode cX2_spend 103 = .ok (.ifCond .eq 31, 3) := by decide +kernel
theorem dX2_spend_106 : decode cX2_spend 106 = .ok (.aload_n 0, 1) := by decide +kernel
theorem dX2_spend_107 : decode cX2_spend 107 = .ok (.aload_n 0, 1) := by decide +kernel
theorem dX2_spend_108 : decode cX2_spend 108 = .ok (.getfield 27, 3) := by decide +kernel
theorem dX2_spend_111 : decode cX2_spend 111 = .ok (.iload 8, 2) := by decide +kernel
theorem dX2_spend_113 : decode cX2_spend 113 = .ok (.aaload, 1) := by decide +kernel
theorem dX2_spend_114 : decode cX2_spend 114 = .ok (.iload_n 1, 1) := by decide +kernel
theorem dX2_spend_115 : decode cX2_spend 115 = .ok (.iload_n 2, 1) := by decide +kernel
theorem dX2_spend_116 : decode cX2_spend 116 = .ok (.iload 6, 2) := by decide +kernel
theorem dX2_spend_118 : decode cX2_spend 118 = .ok (.iload 7, 2) := by decide +kernel
theorem dX2_spend_120 : decode cX2_spend 120 = .ok (.aload_n 0, 1) := by decide +kernel
theorem dX2_spend_121 : decode cX2_spend 121 = .ok (.iload 8, 2) := by decide +kernel
theorem dX2_spend_123 : decode cX2_spend 123 = .ok (.iload_n 2, 1) := by decide +kernel
theorem dX2_spend_124 : decode cX2_spend 124 = .ok (.aload_n 0, 1) := by decide +kernel
theorem dX2_spend_125 : decode cX2_spend 125 = .ok (.getfield 80, 3) := by decide +kernel
theorem dX2_spend_128 : decode cX2_spend 128 = .ok (.invokevirtual 83, 3) := by decide +kernel
theorem dX2_spend_131 : decode cX2_spend 131 = .ok (.invokevirtual 86, 3) := by decide +kernel
theorem dX2_spend_134 : decode cX2_spend 134 = .ok (.iinc 8 1, 3) := by decide +kernel
theorem dX2_spend_137 : decode cX2_spend 137 = .ok (.goto (-50), 3) := by decide +kernel
theorem dX2_spend_140 : decode cX2_spend 140 = .ok (.iload 7, 2) := by decide +kernel
theorem dX2_spend_142 : decode cX2_spend 142 = .ok (.aload_n 0, 1) := by decide +kernel
theorem dX2_spend_143 : decode cX2_spend 143 = .ok (.getfield 15, 3) := by decide +kernel
theorem dX2_spend_146 : decode cX2_spend 146 = .ok (.iload_n 2, 1) := by decide +kernel
theorem dX2_spend_147 : decode cX2_spend 147 = .ok (.iaload, 1) := by decide +kernel
theorem dX2_spend_148 : decode cX2_spend 148 = .ok (.if_icmp .ge 22, 3) := by decide +kernel
theorem dX2_spend_151 : decode cX2_spend 151 = .ok (.aload_n 0, 1) := by decide +kernel
theorem dX2_spend_152 : decode cX2_spend 152 = .ok (.iload_n 2, 1) := by decide +kernel
theorem dX2_spend_153 : decode cX2_spend 153 = .ok (.putfield 33, 3) := by decide +kernel
theorem dX2_spend_156 : decode cX2_spend 156 = .ok (.aload_n 0, 1) := by decide +kernel
theorem dX2_spend_157 : decode cX2_spend 157 = .ok (.iload_n 1, 1) := by decide +kernel
theorem dX2_spend_158 : decode cX2_spend 158 = .ok (.putfield 66, 3) := by decide +kernel
theorem dX2_spend_161 : decode cX2_spend 161 = .ok (.aload_n 0, 1) := by decide +kernel
theorem dX2_spend_162 : decode cX2_spend 162 = .ok (.iload 7, 2) := by decide +kernel
theorem dX2_spend_164 : decode cX2_spend 164 = .ok (.putfield 69, 3) := by decide +kernel
theorem dX2_spend_167 : decode cX2_spend 167 = .ok (.goto 17, 3) := by decide +kernel
theorem dX2_spend_170 : decode cX2_spend 170 = .ok (.aload_n 0, 1) := by decide +kernel
theorem dX2_spend_171 : decode cX2_spend 171 = .ok (.iconst (-1), 1) := by decide +kernel
theorem dX2_spend_172 : decode cX2_spend 172 = .ok (.putfield 33, 3) := by decide +kernel
theorem dX2_spend_175 : decode cX2_spend 175 = .ok (.aload_n 0, 1) := by decide +kernel
theorem dX2_spend_176 : decode cX2_spend 176 = .ok (.iload_n 2, 1) := by decide +kernel
theorem dX2_spend_177 : decode cX2_spend 177 = .ok (.aload_n 0, 1) := by decide +kernel
theorem dX2_spend_178 : decode cX2_spend 178 = .ok (.getfield 77, 3) := by decide +kernel
theorem dX2_spend_181 : decode cX2_spend 181 = .ok (.invokevirtual 90, 3) := by decide +kernel
theorem dX2_spend_184 : decode cX2_spend 184 = .ok (.iload 7, 2) := by decide +kernel
theorem dX2_spend_186 : decode cX2_spend 186 = .ok (.iload 6, 2) := by decide +kernel
theorem dX2_spend_188 : decode cX2_spend 188 = .ok (.isub, 1) := by decide +kernel
theorem dX2_spend_189 : decode cX2_spend 189 = .ok (.iload 4, 2) := by decide +kernel
theorem dX2_spend_191 : decode cX2_spend 191 = .ok (.invokestatic 94, 3) := by decide +kernel
theorem dX2_spend_194 : decode cX2_spend 194 = .ok (.imul, 1) := by decide +kernel
theorem dX2_spend_195 : decode cX2_spend 195 = .ok (.ireturn, 1) := by decide +kernel
theorem dX2_spin_0 : decode cX2_spin 0 = .ok (.iload 4, 2) := by decide +kernel
theorem dX2_spin_2 : decode cX2_spin 2 = .ok (.istore 7, 2) := by decide +kernel
theorem dX2_spin_4 : decode cX2_spin 4 = .ok (.iload 7, 2) := by decide +kernel
theorem dX2_spin_6 : decode cX2_spin 6 = .ok (.iload 5, 2) := by decide +kernel
theorem dX2_spin_8 : decode cX2_spin 8 = .ok (.if_icmp .ge 43, 3) := by decide +kernel
theorem dX2_spin_11 : decode cX2_spin 11 = .ok (.aload_n 0, 1) := by decide +kernel
theorem dX2_spin_12 : decode cX2_spin 12 = .ok (.iload_n 2, 1) := by decide +kernel
theorem dX2_spin_13 : decode cX2_spin 13 = .ok (.iload_n 3, 1) := by decide +kernel
theorem dX2_spin_14 : decode cX2_spin 14 = .ok (.iload 7, 2) := by decide +kernel
theorem dX2_spin_16 : decode cX2_spin 16 = .ok (.invokevirtual 100, 3) := by decide +kernel
theorem dX2_spin_19 : decode cX2_spin 19 = .ok (.invokestatic 104, 3) := by decide +kernel
theorem dX2_spin_22 : decode cX2_spin 22 = .ok (.istore 8, 2) := by decide +kernel
theorem dX2_spin_24 : decode cX2_spin 24 = .ok (.aload_n 1, 1) := by decide +kernel
theorem dX2_spin_25 : decode cX2_spin 25 = .ok (.iload 6, 2) := by decide +kernel
theorem dX2_spin_27 : decode cX2_spin 27 = .ok (.ifCond .eq 11, 3) := by decide +kernel
theorem dX2_spin_30 : decode cX2_spin 30 = .ok (.iload 8, 2) := by decide +kernel
theorem dX2_spin_32 : decode cX2_spin 32 = .ok (.invokestatic 107, 3) := by decide +kernel
theorem dX2_spin_35 : decode cX2_spin 35 = .ok (.goto 5, 3) := by decide +kernel
theorem dX2_spin_38 : decode cX2_spin 38 = .ok (.iload 8, 2) := by decide +kernel
theorem dX2_spin_40 : decode cX2_spin 40 = .ok (.dup2, 1) := by decide +kernel
theorem dX2_spin_41 : decode cX2_spin 41 = .ok (.iaload, 1) := by decide +kernel
theorem dX2_spin_42 : decode cX2_spin 42 = .ok (.iconst 1, 1) := by decide +kernel
theorem dX2_spin_43 : decode cX2_spin 43 = .ok (.iadd, 1) := by decide +kernel
theorem dX2_spin_44 : decode cX2_spin 44 = .ok (.iastore, 1) := by decide +kernel
theorem dX2_spin_45 : decode cX2_spin 45 = .ok (.iinc 7 1, 3) := by decide +kernel
theorem dX2_spin_48 : decode cX2_spin 48 = .ok (.goto (-44), 3) := by decide +kernel
theorem dX2_spin_51 : decode cX2_spin 51 = .ok (.return_, 1) := by decide +kernel
theorem dX2_keepInMind_0 : decode cX2_keepInMind 0 = .ok (.iconst 0, 1) := by decide +kernel
theorem dX2_keepInMind_1 : decode cX2_keepInMind 1 = .ok (.istore_n 3, 1) := by decide +kernel
theorem dX2_keepInMind_2 : decode cX2_keepInMind 2 = .ok (.iload_n 3, 1) := by decide +kernel
theorem dX2_keepInMind_3 : decode cX2_keepInMind 3 = .ok (.aload_n 0, 1) := by decide +kernel
theorem dX2_keepInMind_4 : decode cX2_keepInMind 4 = .ok (.getfield 50, 3) := by decide +kernel
theorem dX2_keepInMind_7 : decode cX2_keepInMind 7 = .ok (.if_icmp .ge 29, 3) := by decide +kernel
theorem dX2_keepInMind_10 : decode cX2_keepInMind 10 = .ok (.iload_n 2, 1) := by decide +kernel
theorem dX2_keepInMind_11 : decode cX2_keepInMind 11 = .ok (.iload_n 3, 1) := by decide +kernel
theorem dX2_keepInMind_12 : decode cX2_keepInMind 12 = .ok (.ishr, 1) := by decide +kernel
theorem dX2_keepInMind_13 : decode cX2_keepInMind 13 = .ok (.iconst 1, 1) := by decide +kernel
theorem dX2_keepInMind_14 : decode cX2_keepInMind 14 = .ok (.iand, 1) := by decide +kernel
theorem dX2_keepInMind_15 : decode cX2_keepInMind 15 = .ok (.ifCond .eq 15, 3) := by decide +kernel
theorem dX2_keepInMind_18 : decode cX2_keepInMind 18 = .ok (.aload_n 0, 1) := by decide +kernel
theorem dX2_keepInMind_19 : decode cX2_keepInMind 19 = .ok (.getfield 30, 3) := by decide +kernel
theorem dX2_keepInMind_22 : decode cX2_keepInMind 22 = .ok (.iload_n 3, 1) := by decide +kernel
theorem dX2_keepInMind_23 : decode cX2_keepInMind 23 = .ok (.aaload, 1) := by decide +kernel
theorem dX2_keepInMind_24 : decode cX2_keepInMind 24 = .ok (.iload_n 1, 1) := by decide +kernel
theorem dX2_keepInMind_25 : decode cX2_keepInMind 25 = .ok (.aload_n 0, 1) := by decide +kernel
theorem dX2_keepInMind_26 : decode cX2_keepInMind 26 = .ok (.getfield 80, 3) := by decide +kernel
theorem dX2_keepInMind_29 : decode cX2_keepInMind 29 = .ok (.iastore, 1) := by decide +kernel
theorem dX2_keepInMind_30 : decode cX2_keepInMind 30 = .ok (.iinc 3 1, 3) := by decide +kernel
theorem dX2_keepInMind_33 : decode cX2_keepInMind 33 = .ok (.goto (-31), 3) := by decide +kernel
theorem dX2_keepInMind_36 : decode cX2_keepInMind 36 = .ok (.return_, 1) := by decide +kernel
theorem dX2_tangleInto_0 : decode cX2_tangleInto 0 = .ok (.iconst 0, 1) := by decide +kernel
theorem dX2_tangleInto_1 : decode cX2_tangleInto 1 = .ok (.istore 4, 2) := by decide +kernel
theorem dX2_tangleInto_3 : decode cX2_tangleInto 3 = .ok (.iconst 0, 1) := by decide +kernel
theorem dX2_tangleInto_4 : decode cX2_tangleInto 4 = .ok (.istore 5, 2) := by decide +kernel
theorem dX2_tangleInto_6 : decode cX2_tangleInto 6 = .ok (.iload 5, 2) := by decide +kernel
theorem dX2_tangleInto_8 : decode cX2_tangleInto 8 = .ok (.bipush 9, 2) := by decide +kernel
theorem dX2_tangleInto_10 : decode cX2_tangleInto 10 = .ok (.if_icmp .ge 63, 3) := by decide +kernel
theorem dX2_tangleInto_13 : decode cX2_tangleInto 13 = .ok (.iload 5, 2) := by decide +kernel
theorem dX2_tangleInto_15 : decode cX2_tangleInto 15 = .ok (.aload_n 0, 1) := by decide +kernel
theorem dX2_tangleInto_16 : decode cX2_tangleInto 16 = .ok (.getfield 15, 3) := by decide +kernel
theorem dX2_tangleInto_19 : decode cX2_tangleInto 19 = .ok (.iload_n 2, 1) := by decide +kernel
theorem dX2_tangleInto_20 : decode cX2_tangleInto 20 = .ok (.iaload, 1) := by decide +kernel
theorem dX2_tangleInto_21 : decode cX2_tangleInto 21 = .ok (.if_icmp .ge 19, 3) := by decide +kernel
theorem dX2_tangleInto_24 : decode cX2_tangleInto 24 = .ok (.aload_n 1, 1) := by decide +kernel
theorem dX2_tangleInto_25 : decode cX2_tangleInto 25 = .ok (.iload 4, 2) := by decide +kernel
theorem dX2_tangleInto_27 : decode cX2_tangleInto 27 = .ok (.iinc 4 1, 3) := by decide +kernel
theorem dX2_tangleInto_30 : decode cX2_tangleInto 30 = .ok (.aload_n 0, 1) := by decide +kernel
theorem dX2_tangleInto_31 : decode cX2_tangleInto 31 = .ok (.getfield 21, 3) := by decide +kernel
theorem dX2_tangleInto_34 : decode cX2_tangleInto 34 = .ok (.iload_n 2, 1) := by decide +kernel
theorem dX2_tangleInto_35 : decode cX2_tangleInto 35 = .ok (.aaload, 1) := by decide +kernel
theorem dX2_tangleInto_36 : decode cX2_tangleInto 36 = .ok (.iload 5, 2) := by decide +kernel
theorem dX2_tangleInto_38 : decode cX2_tangleInto 38 = .ok (.iaload, 1) := by decide +kernel
theorem dX2_tangleInto_39 : decode cX2_tangleInto 39 = .ok (.iastore, 1) := by decide +kernel
theorem dX2_tangleInto_40 : decode cX2_tangleInto 40 = .ok (.iload 5, 2) := by decide +kernel
theorem dX2_tangleInto_42 : decode cX2_tangleInto 42 = .ok (.aload_n 0, 1) := by decide +kernel
theorem dX2_tangleInto_43 : decode cX2_tangleInto 43 = .ok (.getfield 15, 3) := by decide +kernel
theorem dX2_tangleInto_46 : decode cX2_tangleInto 46 = .ok (.iload_n 3, 1) := by decide +kernel
theorem dX2_tangleInto_47 : decode cX2_tangleInto 47 = .ok (.iaload, 1) := by decide +kernel
theorem dX2_tangleInto_48 : decode cX2_tangleInto 48 = .ok (.if_icmp .ge 19, 3) := by decide +kernel
theorem dX2_tangleInto_51 : decode cX2_tangleInto 51 = .ok (.aload_n 1, 1) := by decide +kernel
theorem dX2_tangleInto_52 : decode cX2_tangleInto 52 = .ok (.iload 4, 2) := by decide +kernel
theorem dX2_tangleInto_54 : decode cX2_tangleInto 54 = .ok (.iinc 4 1, 3) := by decide +kernel
theorem dX2_tangleInto_57 : decode cX2_tangleInto 57 = .ok (.aload_n 0, 1) := by decide +kernel
theorem dX2_tangleInto_58 : decode cX2_tangleInto 58 = .ok (.getfield 21, 3) := by decide +kernel
theorem dX2_tangleInto_61 : decode cX2_tangleInto 61 = .ok (.iload_n 3, 1) := by decide +kernel
theorem dX2_tangleInto_62 : decode cX2_tangleInto 62 = .ok (.aaload, 1) := by decide +kernel
theorem dX2_tangleInto_63 : decode cX2_tangleInto 63 = .ok (.iload 5, 2) := by decide +kernel
theorem dX2_tangleInto_65 : decode cX2_tangleInto 65 = .ok (.iaload, 1) := by decide +kernel
theorem dX2_tangleInto_66 : decode cX2_tangleInto 66 = .ok (.iastore, 1) := by decide +kernel
theorem dX2_tangleInto_67 : decode cX2_tangleInto 67 = .ok (.iinc 5 1, 3) := by decide +kernel
theorem dX2_tangleInto_70 : decode cX2_tangleInto 70 = .ok (.goto (-64), 3) := by decide +kernel
theorem dX2_tangleInto_73 : decode cX2_tangleInto 73 = .ok (.iload 4, 2) := by decide +kernel
theorem dX2_tangleInto_75 : decode cX2_tangleInto 75 = .ok (.ireturn, 1) := by decide +kernel
theorem dX2_becomeLike_0 : decode cX2_becomeLike 0 = .ok (.aload_n 0, 1) := by decide +kernel
theorem dX2_becomeLike_1 : decode cX2_becomeLike 1 = .ok (.aload_n 1, 1) := by decide +kernel
theorem dX2_becomeLike_2 : decode cX2_becomeLike 2 = .ok (.getfield 36, 3) := by decide +kernel
theorem dX2_becomeLike_5 : decode cX2_becomeLike 5 = .ok (.putfield 36, 3) := by decide +kernel
theorem dX2_becomeLike_8 : decode cX2_becomeLike 8 = .ok (.aload_n 0, 1) := by decide +kernel
theorem dX2_becomeLike_9 : decode cX2_becomeLike 9 = .ok (.aload_n 1, 1) := by decide +kernel
theorem dX2_becomeLike_10 : decode cX2_becomeLike 10 = .ok (.getfield 47, 3) := by decide +kernel
theorem dX2_becomeLike_13 : decode cX2_becomeLike 13 = .ok (.putfield 47, 3) := by decide +kernel
theorem dX2_becomeLike_16 : decode cX2_becomeLike 16 = .ok (.aload_n 0, 1) := by decide +kernel
theorem dX2_becomeLike_17 : decode cX2_becomeLike 17 = .ok (.aload_n 1, 1) := by decide +kernel
theorem dX2_becomeLike_18 : decode cX2_becomeLike 18 = .ok (.getfield 50, 3) := by decide +kernel
theorem dX2_becomeLike_21 : decode cX2_becomeLike 21 = .ok (.putfield 50, 3) := by decide +kernel
theorem dX2_becomeLike_24 : decode cX2_becomeLike 24 = .ok (.aload_n 0, 1) := by decide +kernel
theorem dX2_becomeLike_25 : decode cX2_becomeLike 25 = .ok (.aload_n 1, 1) := by decide +kernel
theorem dX2_becomeLike_26 : decode cX2_becomeLike 26 = .ok (.getfield 80, 3) := by decide +kernel
theorem dX2_becomeLike_29 : decode cX2_becomeLike 29 = .ok (.putfield 80, 3) := by decide +kernel
theorem dX2_becomeLike_32 : decode cX2_becomeLike 32 = .ok (.aload_n 0, 1) := by decide +kernel
theorem dX2_becomeLike_33 : decode cX2_becomeLike 33 = .ok (.aload_n 1, 1) := by decide +kernel
theorem dX2_becomeLike_34 : decode cX2_becomeLike 34 = .ok (.getfield 9, 3) := by decide +kernel
theorem dX2_becomeLike_37 : decode cX2_becomeLike 37 = .ok (.putfield 9, 3) := by decide +kernel
theorem dX2_becomeLike_40 : decode cX2_becomeLike 40 = .ok (.aload_n 0, 1) := by decide +kernel
theorem dX2_becomeLike_41 : decode cX2_becomeLike 41 = .ok (.aload_n 1, 1) := by decide +kernel
theorem dX2_becomeLike_42 : decode cX2_becomeLike 42 = .ok (.getfield 33, 3) := by decide +kernel
theorem dX2_becomeLike_45 : decode cX2_becomeLike 45 = .ok (.putfield 33, 3) := by decide +kernel
theorem dX2_becomeLike_48 : decode cX2_becomeLike 48 = .ok (.aload_n 0, 1) := by decide +kernel
theorem dX2_becomeLike_49 : decode cX2_becomeLike 49 = .ok (.aload_n 1, 1) := by decide +kernel
theorem dX2_becomeLike_50 : decode cX2_becomeLike 50 = .ok (.getfield 66, 3) := by decide +kernel
theorem dX2_becomeLike_53 : decode cX2_becomeLike 53 = .ok (.putfield 66, 3) := by decide +kernel
theorem dX2_becomeLike_56 : decode cX2_becomeLike 56 = .ok (.aload_n 0, 1) := by decide +kernel
theorem dX2_becomeLike_57 : decode cX2_becomeLike 57 = .ok (.aload_n 1, 1) := by decide +kernel
theorem dX2_becomeLike_58 : decode cX2_becomeLike 58 = .ok (.getfield 69, 3) := by decide +kernel
theorem dX2_becomeLike_61 : decode cX2_becomeLike 61 = .ok (.putfield 69, 3) := by decide +kernel
theorem dX2_becomeLike_64 : decode cX2_becomeLike 64 = .ok (.aload_n 0, 1) := by decide +kernel
theorem dX2_becomeLike_65 : decode cX2_becomeLike 65 = .ok (.aload_n 1, 1) := by decide +kernel
theorem dX2_becomeLike_66 : decode cX2_becomeLike 66 = .ok (.getfield 77, 3) := by decide +kernel
theorem dX2_becomeLike_69 : decode cX2_becomeLike 69 = .ok (.putfield 77, 3) := by decide +kernel
theorem dX2_becomeLike_72 : decode cX2_becomeLike 72 = .ok (.aload_n 1, 1) := by decide +kernel
theorem dX2_becomeLike_73 : decode cX2_becomeLike 73 = .ok (.getfield 15, 3) := by decide +kernel
theorem dX2_becomeLike_76 : decode cX2_becomeLike 76 = .ok (.iconst 0, 1) := by decide +kernel
theorem dX2_becomeLike_77 : decode cX2_becomeLike 77 = .ok (.aload_n 0, 1) := by decide +kernel
theorem dX2_becomeLike_78 : decode cX2_becomeLike 78 = .ok (.getfield 15, 3) := by decide +kernel
theorem dX2_becomeLike_81 : decode cX2_becomeLike 81 = .ok (.iconst 0, 1) := by decide +kernel
theorem dX2_becomeLike_82 : decode cX2_becomeLike 82 = .ok (.bipush 8, 2) := by decide +kernel
theorem dX2_becomeLike_84 : decode cX2_becomeLike 84 = .ok (.invokestatic 53, 3) := by decide +kernel
theorem dX2_becomeLike_87 : decode cX2_becomeLike 87 = .ok (.aload_n 1, 1) := by decide +kernel
theorem dX2_becomeLike_88 : decode cX2_becomeLike 88 = .ok (.getfield 24, 3) := by decide +kernel
theorem dX2_becomeLike_91 : decode cX2_becomeLike 91 = .ok (.iconst 0, 1) := by decide +kernel
theorem dX2_becomeLike_92 : decode cX2_becomeLike 92 = .ok (.aload_n 0, 1) := by decide +kernel
theorem dX2_becomeLike_93 : decode cX2_becomeLike 93 = .ok (.getfield 24, 3) := by decide +kernel
theorem dX2_becomeLike_96 : decode cX2_becomeLike 96 = .ok (.iconst 0, 1) := by decide +kernel
theorem dX2_becomeLike_97 : decode cX2_becomeLike 97 = .ok (.iconst 4, 1) := by decide +kernel
theorem dX2_becomeLike_98 : decode cX2_becomeLike 98 = .ok (.invokestatic 53, 3) := by decide +kernel
theorem dX2_becomeLike_101 : decode cX2_becomeLike 101 = .ok (.iconst 0, 1) := by decide +kernel
theorem dX2_becomeLike_102 : decode cX2_becomeLike 102 = .ok (.istore_n 2, 1) := by decide +kernel
theorem dX2_becomeLike_103 : decode cX2_becomeLike 103 = .ok (.iload_n 2, 1) := by decide +kernel
theorem dX2_becomeLike_104 : decode cX2_becomeLike 104 = .ok (.bipush 8, 2) := by decide +kernel
theorem dX2_becomeLike_106 : decode cX2_becomeLike 106 = .ok (.if_icmp .ge 28, 3) := by decide +kernel
theorem dX2_becomeLike_109 : decode cX2_becomeLike 109 = .ok (.aload_n 1, 1) := by decide +kernel
theorem dX2_becomeLike_110 : decode cX2_becomeLike 110 = .ok (.getfield 21, 3) := by decide +kernel
theorem dX2_becomeLike_113 : decode cX2_becomeLike 113 = .ok (.iload_n 2, 1) := by decide +kernel
theorem dX2_becomeLike_114 : decode cX2_becomeLike 114 = .ok (.aaload, 1) := by decide +kernel
theorem dX2_becomeLike_115 : decode cX2_becomeLike 115 = .ok (.iconst 0, 1) := by decide +kernel
theorem dX2_becomeLike_116 : decode cX2_becomeLike 116 = .ok (.aload_n 0, 1) := by decide +kernel
theorem dX2_becomeLike_117 : decode cX2_becomeLike 117 = .ok (.getfield 21, 3) := by decide +kernel
theorem dX2_becomeLike_120 : decode cX2_becomeLike 120 = .ok (.iload_n 2, 1) := by decide +kernel
theorem dX2_becomeLike_121 : decode cX2_becomeLike 121 = .ok (.aaload, 1) := by decide +kernel
theorem dX2_becomeLike_122 : decode cX2_becomeLike 122 = .ok (.iconst 0, 1) := by decide +kernel
theorem dX2_becomeLike_123 : decode cX2_becomeLike 123 = .ok (.bipush 9, 2) := by decide +kernel
theorem dX2_becomeLike_125 : decode cX2_becomeLike 125 = .ok (.invokestatic 53, 3) := by decide +kernel
theorem dX2_becomeLike_128 : decode cX2_becomeLike 128 = .ok (.iinc 2 1, 3) := by decide +kernel
theorem dX2_becomeLike_131 : decode cX2_becomeLike 131 = .ok (.goto (-28), 3) := by decide +kernel
theorem dX2_becomeLike_134 : decode cX2_becomeLike 134 = .ok (.iconst 0, 1) := by decide +kernel
theorem dX2_becomeLike_135 : decode cX2_becomeLike 135 = .ok (.istore_n 2, 1) := by decide +kernel
theorem dX2_becomeLike_136 : decode cX2_becomeLike 136 = .ok (.iload_n 2, 1) := by decide +kernel
theorem dX2_becomeLike_137 : decode cX2_becomeLike 137 = .ok (.iconst 4, 1) := by decide +kernel
theorem dX2_becomeLike_138 : decode cX2_becomeLike 138 = .ok (.if_icmp .ge 46, 3) := by decide +kernel
theorem dX2_becomeLike_141 : decode cX2_becomeLike 141 = .ok (.aload_n 1, 1) := by decide +kernel
theorem dX2_becomeLike_142 : decode cX2_becomeLike 142 = .ok (.getfield 27, 3) := by decide +kernel
theorem dX2_becomeLike_145 : decode cX2_becomeLike 145 = .ok (.iload_n 2, 1) := by decide +kernel
theorem dX2_becomeLike_146 : decode cX2_becomeLike 146 = .ok (.aaload, 1) := by decide +kernel
theorem dX2_becomeLike_147 : decode cX2_becomeLike 147 = .ok (.iconst 0, 1) := by decide +kernel
theorem dX2_becomeLike_148 : decode cX2_becomeLike 148 = .ok (.aload_n 0, 1) := by decide +kernel
theorem dX2_becomeLike_149 : decode cX2_becomeLike 149 = .ok (.getfield 27, 3) := by decide +kernel
theorem dX2_becomeLike_152 : decode cX2_becomeLike 152 = .ok (.iload_n 2, 1) := by decide +kernel
theorem dX2_becomeLike_153 : decode cX2_becomeLike 153 = .ok (.aaload, 1) := by decide +kernel
theorem dX2_becomeLike_154 : decode cX2_becomeLike 154 = .ok (.iconst 0, 1) := by decide +kernel
theorem dX2_becomeLike_155 : decode cX2_becomeLike 155 = .ok (.iconst 4, 1) := by decide +kernel
theorem dX2_becomeLike_156 : decode cX2_becomeLike 156 = .ok (.invokestatic 53, 3) := by decide +kernel
theorem dX2_becomeLike_159 : decode cX2_becomeLike 159 = .ok (.aload_n 1, 1) := by decide +kernel
theorem dX2_becomeLike_160 : decode cX2_becomeLike 160 = .ok (.getfield 30, 3) := by decide +kernel
theorem dX2_becomeLike_163 : decode cX2_becomeLike 163 = .ok (.iload_n 2, 1) := by decide +kernel
theorem dX2_becomeLike_164 : decode cX2_becomeLike 164 = .ok (.aaload, 1) := by decide +kernel
theorem dX2_becomeLike_165 : decode cX2_becomeLike 165 = .ok (.iconst 0, 1) := by decide +kernel
theorem dX2_becomeLike_166 : decode cX2_becomeLike 166 = .ok (.aload_n 0, 1) := by decide +kernel
theorem dX2_becomeLike_167 : decode cX2_becomeLike 167 = .ok (.getfield 30, 3) := by decide +kernel
theorem dX2_becomeLike_170 : decode cX2_becomeLike 170 = .ok (.iload_n 2, 1) := by decide +kernel
theorem dX2_becomeLike_171 : decode cX2_becomeLike 171 = .ok (.aaload, 1) := by decide +kernel
theorem dX2_becomeLike_172 : decode cX2_becomeLike 172 = .ok (.iconst 0, 1) := by decide +kernel
theorem dX2_becomeLike_173 : decode cX2_becomeLike 173 = .ok (.bipush 8, 2) := by decide +kernel
theorem dX2_becomeLike_175 : decode cX2_becomeLike 175 = .ok (.invokestatic 53, 3) := by decide +kernel
theorem dX2_becomeLike_178 : decode cX2_becomeLike 178 = .ok (.iinc 2 1, 3) := by decide +kernel
theorem dX2_becomeLike_181 : decode cX2_becomeLike 181 = .ok (.goto (-45), 3) := by decide +kernel
theorem dX2_becomeLike_184 : decode cX2_becomeLike 184 = .ok (.return_, 1) := by decide +kernel
theorem dX3_init_0 : decode cX3_init 0 = .ok (.aload_n 0, 1) := by decide +kernel
theorem dX3_init_1 : decode cX3_init 1 = .ok (.invokespecial 3, 3) := by decide +kernel
theorem dX3_init_4 : decode cX3_init 4 = .ok (.aload_n 0, 1) := by decide +kernel
theorem dX3_init_5 : decode cX3_init 5 = .ok (.iconst 4, 1) := by decide +kernel
theorem dX3_init_6 : decode cX3_init 6 = .ok (.bipush 9, 2) := by decide +kernel
theorem dX3_init_8 : decode cX3_init 8 = .ok (.multianewarray 9 2, 4) := by decide +kernel
theorem dX3_init_12 : decode cX3_init 12 = .ok (.putfield 11, 3) := by decide +kernel
theorem dX3_init_15 : decode cX3_init 15 = .ok (.aload_n 0, 1) := by decide +kernel
theorem dX3_init_16 : decode cX3_init 16 = .ok (.iconst 4, 1) := by decide +kernel
theorem dX3_init_17 : decode cX3_init 17 = .ok (.newarray .int, 2) := by decide +kernel
theorem dX3_init_19 : decode cX3_init 19 = .ok (.putfield 16, 3) := by decide +kernel
theorem dX3_init_22 : decode cX3_init 22 = .ok (.aload_n 0, 1) := by decide +kernel
theorem dX3_init_23 : decode cX3_init 23 = .ok (.bipush 9, 2) := by decide +kernel
theorem dX3_init_25 : decode cX3_init 25 = .ok (.newarray .int, 2) := by decide +kernel
theorem dX3_init_27 : decode cX3_init 27 = .ok (.putfield 20, 3) := by decide +kernel
theorem dX3_init_30 : decode cX3_init 30 = .ok (.aload_n 0, 1) := by decide +kernel
theorem dX3_init_31 : decode cX3_init 31 = .ok (.iconst 3, 1) := by decide +kernel
theorem dX3_init_32 : decode cX3_init 32 = .ok (.newarray .int, 2) := by decide +kernel
theorem dX3_init_34 : decode cX3_init 34 = .ok (.putfield 23, 3) := by decide +kernel
theorem dX3_init_37 : decode cX3_init 37 = .ok (.aload_n 0, 1) := by decide +kernel
theorem dX3_init_38 : decode cX3_init 38 = .ok (.iconst 3, 1) := by decide +kernel
theorem dX3_init_39 : decode cX3_init 39 = .ok (.newarray .int, 2) := by decide +kernel
theorem dX3_init_41 : decode cX3_init 41 = .ok (.putfield 26, 3) := by decide +kernel
theorem dX3_init_44 : decode cX3_init 44 = .ok (.return_, 1) := by decide +kernel
theorem dX3_run_0 : decode cX3_run 0 = .ok (.aload_n 0, 1) := by decide +kernel
theorem dX3_run_1 : decode cX3_run 1 = .ok (.iconst 0, 1) := by decide +kernel
theorem dX3_run_2 : decode cX3_run 2 = .ok (.putfield 29, 3) := by decide +kernel
theorem dX3_run_5 : decode cX3_run 5 = .ok (.aload_n 0, 1) := by decide +kernel
theorem dX3_run_6 : decode cX3_run 6 = .ok (.aload_n 1, 1) := by decide +kernel
theorem dX3_run_7 : decode cX3_run 7 = .ok (.getfield 33, 3) := by decide +kernel
theorem dX3_run_10 : decode cX3_run 10 = .ok (.iload_n 2, 1) := by decide +kernel
theorem dX3_run_11 : decode cX3_run 11 = .ok (.iaload, 1) := by decide +kernel
theorem dX3_run_12 : decode cX3_run 12 = .ok (.putfield 38, 3) := by decide +kernel
theorem dX3_run_15 : decode cX3_run 15 = .ok (.aload_n 0, 1) := by decide +kernel
theorem dX3_run_16 : decode cX3_run 16 = .ok (.getfield 38, 3) := by decide +kernel
theorem dX3_run_19 : decode cX3_run 19 = .ok (.iload 5, 2) := by decide +kernel
theorem dX3_run_21 : decode cX3_run 21 = .ok (.if_icmp .eq 4, 3) := by decide +kernel
theorem dX3_run_24 : decode cX3_run 24 = .ok (.return_, 1) := by decide +kernel
theorem dX3_run_25 : decode cX3_run 25 = .ok (.aload_n 0, 1) := by decide +kernel
theorem dX3_run_26 : decode cX3_run 26 = .ok (.aload_n 1, 1) := by decide +kernel
theorem dX3_run_27 : decode cX3_run 27 = .ok (.getfield 41, 3) := by decide +kernel
theorem dX3_run_30 : decode cX3_run 30 = .ok (.putfield 44, 3) := by decide +kernel
theorem dX3_run_33 : decode cX3_run 33 = .ok (.aload_n 0, 1) := by decide +kernel
theorem dX3_run_34 : decode cX3_run 34 = .ok (.iload_n 3, 1) := by decide +kernel
theorem dX3_run_35 : decode cX3_run 35 = .ok (.putfield 45, 3) := by decide +kernel
theorem dX3_run_38 : decode cX3_run 38 = .ok (.aload_n 1, 1) := by decide +kernel
theorem dX3_run_39 : decode cX3_run 39 = .ok (.getfield 48, 3) := by decide +kernel
theorem dX3_run_42 : decode cX3_run 42 = .ok (.iconst 0, 1) := by decide +kernel
theorem dX3_run_43 : decode cX3_run 43 = .ok (.aload_n 0, 1) := by decide +kernel
theorem dX3_run_44 : decode cX3_run 44 = .ok (.getfield 16, 3) := by decide +kernel
theorem dX3_run_47 : decode cX3_run 47 = .ok (.iconst 0, 1) := by decide +kernel
theorem dX3_run_48 : decode cX3_run 48 = .ok (.aload_n 0, 1) := by decide +kernel
theorem dX3_run_49 : decode cX3_run 49 = .ok (.getfield 44, 3) := by decide +kernel
theorem dX3_run_52 : decode cX3_run 52 = .ok (.invokestatic 49, 3) := by decide +kernel
theorem dX3_run_55 : decode cX3_run 55 = .ok (.aload 4, 2) := by decide +kernel
theorem dX3_run_57 : decode cX3_run 57 = .ok (.iconst 0, 1) := by decide +kernel
theorem dX3_run_58 : decode cX3_run 58 = .ok (.aload_n 0, 1) := by decide +kernel
theorem dX3_run_59 : decode cX3_run 59 = .ok (.getfield 20, 3) := by decide +kernel
theorem dX3_run_62 : decode cX3_run 62 = .ok (.iconst 0, 1) := by decide +kernel
theorem dX3_run_63 : decode cX3_run 63 = .ok (.iload 5, 2) := by decide +kernel
theorem dX3_run_65 : decode cX3_run 65 = .ok (.invokestatic 49, 3) := by decide +kernel
theorem dX3_run_68 : decode cX3_run 68 = .ok (.aload_n 1, 1) := by decide +kernel
theorem dX3_run_69 : decode cX3_run 69 = .ok (.getfield 55, 3) := by decide +kernel
theorem dX3_run_72 : decode cX3_run 72 = .ok (.iload_n 2, 1) := by decide +kernel
theorem dX3_run_73 : decode cX3_run 73 = .ok (.aaload, 1) := by decide +kernel
theorem dX3_run_74 : decode cX3_run 74 = .ok (.iconst 0, 1) := by decide +kernel
theorem dX3_run_75 : decode cX3_run 75 = .ok (.aload_n 0, 1) := by decide +kernel
theorem dX3_run_76 : decode cX3_run 76 = .ok (.getfield 11, 3) := by decide +kernel
theorem dX3_run_79 : decode cX3_run 79 = .ok (.iconst 0, 1) := by decide +kernel
theorem dX3_run_80 : decode cX3_run 80 = .ok (.aaload, 1) := by decide +kernel
theorem dX3_run_81 : decode cX3_run 81 = .ok (.iconst 0, 1) := by decide +kernel
theorem dX3_run_82 : decode cX3_run 82 = .ok (.iload 5, 2) := by decide +kernel
theorem dX3_run_84 : decode cX3_run 84 = .ok (.invokestatic 49, 3) := by decide +kernel
theorem dX3_run_87 : decode cX3_run 87 = .ok (.aload_n 0, 1) := by decide +kernel
theorem dX3_run_88 : decode cX3_run 88 = .ok (.iconst 0, 1) := by decide +kernel
theorem dX3_run_89 : decode cX3_run 89 = .ok (.invokevirtual 58, 3) := by decide +kernel
theorem dX3_run_92 : decode cX3_run 92 = .ok (.return_, 1) := by decide +kernel
theorem dX3_search_0 : decode cX3_search 0 = .ok (.iload_n 1, 1) := by decide +kernel
theorem dX3_search_1 : decode cX3_search 1 = .ok (.aload_n 0, 1) := by decide +kernel
theorem dX3_search_2 : decode cX3_search 2 = .ok (.getfield 45, 3) := by decide +kernel
theorem dX3_search_5 : decode cX3_search 5 = .ok (.if_icmp .lt 31, 3) := by decide +kernel
theorem dX3_search_8 : decode cX3_search 8 = .ok (.aload_n 0, 1) := by decide +kernel
theorem dX3_search_9 : decode cX3_search 9 = .ok (.getfield 11, 3) := by decide +kernel
theorem dX3_search_12 : decode cX3_search 12 = .ok (.aload_n 0, 1) := by decide +kernel
theorem dX3_search_13 : decode cX3_search 13 = .ok (.getfield 45, 3) := by decide +kernel
theorem dX3_search_16 : decode cX3_search 16 = .ok (.aaload, 1) := by decide +kernel
theorem dX3_search_17 : decode cX3_search 17 = .ok (.aload_n 0, 1) := by decide +kernel
theorem dX3_search_18 : decode cX3_search 18 = .ok (.getfield 20, 3) := by decide +kernel
theorem dX3_search_21 : decode cX3_search 21 = .ok (.aload_n 0, 1) := by decide +kernel
theorem dX3_search_22 : decode cX3_search 22 = .ok (.getfield 38, 3) := by decide +kernel
theorem dX3_search_25 : decode cX3_search 25 = .ok (.invokestatic 62, 3) := by decide +kernel
theorem dX3_search_28 : decode cX3_search 28 = .ok (.ifCond .eq 7, 3) := by decide +kernel
theorem dX3_search_31 : decode cX3_search 31 = .ok (.aload_n 0, 1) := by decide +kernel
theorem dX3_search_32 : decode cX3_search 32 = .ok (.invokevirtual 66, 3) := by decide +kernel
theorem dX3_search_35 : decode cX3_search 35 = .ok (.return_, 1) := by decide +kernel
theorem dX3_search_36 : decode cX3_search 36 = .ok (.iconst 0, 1) := by decide +kernel
theorem dX3_search_37 : decode cX3_search 37 = .ok (.istore_n 2, 1) := by decide +kernel
theorem dX3_search_38 : decode cX3_search 38 = .ok (.iload_n 2, 1) := by decide +kernel
theorem dX3_search_39 : decode cX3_search 39 = .ok (.aload_n 0, 1) := by decide +kernel
theorem dX3_search_40 : decode cX3_search 40 = .ok (.getfield 44, 3) := by decide +kernel
theorem dX3_search_43 : decode cX3_search 43 = .ok (.if_icmp .ge 50, 3) := by decide +kernel
theorem dX3_search_46 : decode cX3_search 46 = .ok (.aload_n 0, 1) := by decide +kernel
theorem dX3_search_47 : decode cX3_search 47 = .ok (.getfield 23, 3) := by decide +kernel
theorem dX3_search_50 : decode cX3_search 50 = .ok (.iload_n 1, 1) := by decide +kernel
theorem dX3_search_51 : decode cX3_search 51 = .ok (.iload_n 2, 1) := by decide +kernel
theorem dX3_search_52 : decode cX3_search 52 = .ok (.iastore, 1) := by decide +kernel
theorem dX3_search_53 : decode cX3_search 53 = .ok (.aload_n 0, 1) := by decide +kernel
theorem dX3_search_54 : decode cX3_search 54 = .ok (.getfield 16, 3) := by decide +kernel
theorem dX3_search_57 : decode cX3_search 57 = .ok (.iload_n 2, 1) := by decide +kernel
theorem dX3_search_58 : decode cX3_search 58 = .ok (.iaload, 1) := by decide +kernel
theorem dX3_search_59 : decode cX3_search 59 = .ok (.aload_n 0, 1) := by decide +kernel
theorem dX3_search_60 : decode cX3_search 60 = .ok (.getfield 11, 3) := by decide +kernel
theorem dX3_search_63 : decode cX3_search 63 = .ok (.iload_n 1, 1) := by decide +kernel
theorem dX3_search_64 : decode cX3_search 64 = .ok (.aaload, 1) := by decide +kernel
theorem dX3_search_65 : decode cX3_search 65 = .ok (.aload_n 0, 1) := by decide +kernel
theorem dX3_search_66 : decode cX3_search 66 = .ok (.getfield 11, 3) := by decide +kernel
theorem dX3_search_69 : decode cX3_search 69 = .ok (.iload_n 1, 1) := by decide +kernel
theorem dX3_search_70 : decode cX3_search 70 = .ok (.iconst 1, 1) := by decide +kernel
theorem dX3_search_71 : decode cX3_search 71 = .ok (.iadd, 1) := by decide +kernel
theorem dX3_search_72 : decode cX3_search 72 = .ok (.aaload, 1) := by decide +kernel
theorem dX3_search_73 : decode cX3_search 73 = .ok (.aload_n 0, 1) := by decide +kernel
theorem dX3_search_74 : decode cX3_search 74 = .ok (.getfield 38, 3) := by decide +kernel
theorem dX3_search_77 : decode cX3_search 77 = .ok (.invokestatic 69, 3) := by decide +kernel
theorem dX3_search_80 : decode cX3_search 80 = .ok (.aload_n 0, 1) := by decide +kernel
theorem dX3_search_81 : decode cX3_search 81 = .ok (.iload_n 1, 1) := by decide +kernel
theorem dX3_search_82 : decode cX3_search 82 = .ok (.iconst 1, 1) := by decide +kernel
theorem dX3_search_83 : decode cX3_search 83 = .ok (.iadd, 1) := by decide +kernel
theorem dX3_search_84 : decode cX3_search 84 = .ok (.invokevirtual 58, 3) := by decide +kernel
theorem dX3_search_87 : decode cX3_search 87 = .ok (.iinc 2 1, 3) := by decide +kernel
theorem dX3_search_90 : decode cX3_search 90 = .ok (.goto (-52), 3) := by decide +kernel
theorem dX3_search_93 : decode cX3_search 93 = .ok (.return_, 1) := by decide +kernel
theorem dX3_keepRow_0 : decode cX3_keepRow 0 = .ok (.aload_n 0, 1) := by decide +kernel
theorem dX3_keepRow_1 : decode cX3_keepRow 1 = .ok (.getfield 29, 3) := by decide +kernel
theorem dX3_keepRow_4 : decode cX3_keepRow 4 = .ok (.ifCond .ne 20, 3) := by decide +kernel
theorem dX3_keepRow_7 : decode cX3_keepRow 7 = .ok (.aload_n 0, 1) := by decide +kernel
theorem dX3_keepRow_8 : decode cX3_keepRow 8 = .ok (.getfield 23, 3) := by decide +kernel
theorem dX3_keepRow_11 : decode cX3_keepRow 11 = .ok (.iconst 0, 1) := by decide +kernel
theorem dX3_keepRow_12 : decode cX3_keepRow 12 = .ok (.aload_n 0, 1) := by decide +kernel
theorem dX3_keepRow_13 : decode cX3_keepRow 13 = .ok (.getfield 26, 3) := by decide +kernel
theorem dX3_keepRow_16 : decode cX3_keepRow 16 = .ok (.iconst 0, 1) := by decide +kernel
theorem dX3_keepRow_17 : decode cX3_keepRow 17 = .ok (.aload_n 0, 1) := by decide +kernel
theorem dX3_keepRow_18 : decode cX3_keepRow 18 = .ok (.getfield 45, 3) := by decide +kernel
theorem dX3_keepRow_21 : decode cX3_keepRow 21 = .ok (.invokestatic 49, 3) := by decide +kernel
theorem dX3_keepRow_24 : decode cX3_keepRow 24 = .ok (.aload_n 0, 1) := by decide +kernel
theorem dX3_keepRow_25 : decode cX3_keepRow 25 = .ok (.dup, 1) := by decide +kernel
theorem dX3_keepRow_26 : decode cX3_keepRow 26 = .ok (.getfield 29, 3) := by decide +kernel
theorem dX3_keepRow_29 : decode cX3_keepRow 29 = .ok (.iconst 1, 1) := by decide +kernel
theorem dX3_keepRow_30 : decode cX3_keepRow 30 = .ok (.iadd, 1) := by decide +kernel
theorem dX3_keepRow_31 : decode cX3_keepRow 31 = .ok (.putfield 29, 3) := by decide +kernel
theorem dX3_keepRow_34 : decode cX3_keepRow 34 = .ok (.return_, 1) := by decide +kernel
theorem dX4_init_0 : decode cX4_init 0 = .ok (.aload_n 0, 1) := by decide +kernel
theorem dX4_init_1 : decode cX4_init 1 = .ok (.invokespecial 3, 3) := by decide +kernel
theorem dX4_init_4 : decode cX4_init 4 = .ok (.aload_n 0, 1) := by decide +kernel
theorem dX4_init_5 : decode cX4_init 5 = .ok (.sipush 256, 3) := by decide +kernel
theorem dX4_init_8 : decode cX4_init 8 = .ok (.newarray .int, 2) := by decide +kernel
theorem dX4_init_10 : decode cX4_init 10 = .ok (.putfield 9, 3) := by decide +kernel
theorem dX4_init_13 : decode cX4_init 13 = .ok (.aload_n 0, 1) := by decide +kernel
theorem dX4_init_14 : decode cX4_init 14 = .ok (.bipush 8, 2) := by decide +kernel
theorem dX4_init_16 : decode cX4_init 16 = .ok (.newarray .int, 2) := by decide +kernel
theorem dX4_init_18 : decode cX4_init 18 = .ok (.putfield 15, 3) := by decide +kernel
theorem dX4_init_21 : decode cX4_init 21 = .ok (.return_, 1) := by decide +kernel
theorem dX4_run_0 : decode cX4_run 0 = .ok (.iconst 1, 1) := by decide +kernel
theorem dX4_run_1 : decode cX4_run 1 = .ok (.aload_n 1, 1) := by decide +kernel
theorem dX4_run_2 : decode cX4_run 2 = .ok (.getfield 18, 3) := by decide +kernel
theorem dX4_run_5 : decode cX4_run 5 = .ok (.ishl, 1) := by decide +kernel
theorem dX4_run_6 : decode cX4_run 6 = .ok (.iconst 1, 1) := by decide +kernel
theorem dX4_run_7 : decode cX4_run 7 = .ok (.isub, 1) := by decide +kernel
theorem dX4_run_8 : decode cX4_run 8 = .ok (.istore 4, 2) := by decide +kernel
theorem dX4_run_10 : decode cX4_run 10 = .ok (.iload 4, 2) := by decide +kernel
theorem dX4_run_12 : decode cX4_run 12 = .ok (.ifCond .lt 45, 3) := by decide +kernel
theorem dX4_run_15 : decode cX4_run 15 = .ok (.aload_n 1, 1) := by decide +kernel
theorem dX4_run_16 : decode cX4_run 16 = .ok (.iload 4, 2) := by decide +kernel
theorem dX4_run_18 : decode cX4_run 18 = .ok (.invokestatic 24, 3) := by decide +kernel
theorem dX4_run_21 : decode cX4_run 21 = .ok (.istore 5, 2) := by decide +kernel
theorem dX4_run_23 : decode cX4_run 23 = .ok (.aload_n 0, 1) := by decide +kernel
theorem dX4_run_24 : decode cX4_run 24 = .ok (.getfield 9, 3) := by decide +kernel
theorem dX4_run_27 : decode cX4_run 27 = .ok (.iload 4, 2) := by decide +kernel
theorem dX4_run_29 : decode cX4_run 29 = .ok (.iload 5, 2) := by decide +kernel
theorem dX4_run_31 : decode cX4_run 31 = .ok (.iload_n 3, 1) := by decide +kernel
theorem dX4_run_32 : decode cX4_run 32 = .ok (.if_icmp .ne 7, 3) := by decide +kernel
theorem dX4_run_35 : decode cX4_run 35 = .ok (.iconst 1, 1) := by decide +kernel
theorem dX4_run_36 : decode cX4_run 36 = .ok (.goto 14, 3) := by decide +kernel
theorem dX4_run_39 : decode cX4_run 39 = .ok (.aload_n 0, 1) := by decide +kernel
theorem dX4_run_40 : decode cX4_run 40 = .ok (.aload_n 1, 1) := by decide +kernel
theorem dX4_run_41 : decode cX4_run 41 = .ok (.aload_n 2, 1) := by decide +kernel
theorem dX4_run_42 : decode cX4_run 42 = .ok (.iload_n 3, 1) := by decide +kernel
theorem dX4_run_43 : decode cX4_run 43 = .ok (.iload 4, 2) := by decide +kernel
theorem dX4_run_45 : decode cX4_run 45 = .ok (.iload 5, 2) := by decide +kernel
theorem dX4_run_47 : decode cX4_run 47 = .ok (.invokevirtual 28, 3) := by decide +kernel
theorem dX4_run_50 : decode cX4_run 50 = .ok (.iastore, 1) := by decide +kernel
theorem dX4_run_51 : decode cX4_run 51 = .ok (.iinc 4 (-1), 3) := by decide +kernel
theorem dX4_run_54 : decode cX4_run 54 = .ok (.goto (-44), 3) := by decide +kernel
theorem dX4_run_57 : decode cX4_run 57 = .ok (.aload_n 0, 1) := by decide +kernel
theorem dX4_run_58 : decode cX4_run 58 = .ok (.aload_n 0, 1) := by decide +kernel
theorem dX4_run_59 : decode cX4_run 59 = .ok (.getfield 9, 3) := by decide +kernel
theorem dX4_run_62 : decode cX4_run 62 = .ok (.iconst 0, 1) := by decide +kernel
theorem dX4_run_63 : decode cX4_run 63 = .ok (.iaload, 1) := by decide +kernel
theorem dX4_run_64 : decode cX4_run 64 = .ok (.putfield 32, 3) := by decide +kernel
theorem dX4_run_67 : decode cX4_run 67 = .ok (.aload_n 0, 1) := by decide +kernel
theorem dX4_run_68 : decode cX4_run 68 = .ok (.iconst 0, 1) := by decide +kernel
theorem dX4_run_69 : decode cX4_run 69 = .ok (.putfield 35, 3) := by decide +kernel
theorem dX4_run_72 : decode cX4_run 72 = .ok (.aload_n 0, 1) := by decide +kernel
theorem dX4_run_73 : decode cX4_run 73 = .ok (.getfield 32, 3) := by decide +kernel
theorem dX4_run_76 : decode cX4_run 76 = .ok (.ifCond .le 10, 3) := by decide +kernel
theorem dX4_run_79 : decode cX4_run 79 = .ok (.aload_n 0, 1) := by decide +kernel
theorem dX4_run_80 : decode cX4_run 80 = .ok (.aload_n 1, 1) := by decide +kernel
theorem dX4_run_81 : decode cX4_run 81 = .ok (.aload_n 2, 1) := by decide +kernel
theorem dX4_run_82 : decode cX4_run 82 = .ok (.iload_n 3, 1) := by decide +kernel
theorem dX4_run_83 : decode cX4_run 83 = .ok (.invokevirtual 38, 3) := by decide +kernel
theorem dX4_run_86 : decode cX4_run 86 = .ok (.return_, 1) := by decide +kernel
theorem dX4_sentencesOf_0 : decode cX4_sentencesOf 0 = .ok (.iconst 0, 1) := by decide +kernel
theorem dX4_sentencesOf_1 : decode cX4_sentencesOf 1 = .ok (.istore_n 2, 1) := by decide +kernel
theorem dX4_sentencesOf_2 : decode cX4_sentencesOf 2 = .ok (.iconst 0, 1) := by decide +kernel
theorem dX4_sentencesOf_3 : decode cX4_sentencesOf 3 = .ok (.istore_n 3, 1) := by decide +kernel
theorem dX4_sentencesOf_4 : decode cX4_sentencesOf 4 = .ok (.iload_n 3, 1) := by decide +kernel
theorem dX4_sentencesOf_5 : decode cX4_sentencesOf 5 = .ok (.aload_n 0, 1) := by decide +kernel
theorem dX4_sentencesOf_6 : decode cX4_sentencesOf 6 = .ok (.getfield 18, 3) := by decide +kernel
theorem dX4_sentencesOf_9 : decode cX4_sentencesOf 9 = .ok (.if_icmp .ge 26, 3) := by decide +kernel
theorem dX4_sentencesOf_12 : decode cX4_sentencesOf 12 = .ok (.iload_n 1, 1) := by decide +kernel
theorem dX4_sentencesOf_13 : decode cX4_sentencesOf 13 = .ok (.iload_n 3, 1) := by decide +kernel
theorem dX4_sentencesOf_14 : decode cX4_sentencesOf 14 = .ok (.ishr, 1) := by decide +kernel
theorem dX4_sentencesOf_15 : decode cX4_sentencesOf 15 = .ok (.iconst 1, 1) := by decide +kernel
theorem dX4_sentencesOf_16 : decode cX4_sentencesOf 16 = .ok (.iand, 1) := by decide +kernel
theorem dX4_sentencesOf_17 : decode cX4_sentencesOf 17 = .ok (.ifCond .eq 12, 3) := by decide +kernel
theorem dX4_sentencesOf_20 : decode cX4_sentencesOf 20 = .ok (.iload_n 2, 1) := by decide +kernel
theorem dX4_sentencesOf_21 : decode cX4_sentencesOf 21 = .ok (.aload_n 0, 1) := by decide +kernel
theorem dX4_sentencesOf_22 : decode cX4_sentencesOf 22 = .ok (.getfield 42, 3) := by decide +kernel
theorem dX4_sentencesOf_25 : decode cX4_sentencesOf 25 = .ok (.iload_n 3, 1) := by decide +kernel
theorem dX4_sentencesOf_26 : decode cX4_sentencesOf 26 = .ok (.iaload, 1) := by decide +kernel
theorem dX4_sentencesOf_27 : decode cX4_sentencesOf 27 = .ok (.iadd, 1) := by decide +kernel
theorem dX4_sentencesOf_28 : decode cX4_sentencesOf 28 = .ok (.istore_n 2, 1) := by decide +kernel
theorem dX4_sentencesOf_29 : decode cX4_sentencesOf 29 = .ok (.iinc 3 1, 3) := by decide +kernel
theorem dX4_sentencesOf_32 : decode cX4_sentencesOf 32 = .ok (.goto (-28), 3) := by decide +kernel
theorem dX4_sentencesOf_35 : decode cX4_sentencesOf 35 = .ok (.iload_n 2, 1) := by decide +kernel
theorem dX4_sentencesOf_36 : decode cX4_sentencesOf 36 = .ok (.ireturn, 1) := by decide +kernel
theorem dX4_waysOn_0 : decode cX4_waysOn 0 = .ok (.iconst 0, 1) := by decide +kernel
theorem dX4_waysOn_1 : decode cX4_waysOn 1 = .ok (.istore 6, 2) := by decide +kernel
theorem dX4_waysOn_3 : decode cX4_waysOn 3 = .ok (.iconst 0, 1) := by decide +kernel
theorem dX4_waysOn_4 : decode cX4_waysOn 4 = .ok (.istore 7, 2) := by decide +kernel
theorem dX4_waysOn_6 : decode cX4_waysOn 6 = .ok (.iload 7, 2) := by decide +kernel
theorem dX4_waysOn_8 : decode cX4_waysOn 8 = .ok (.aload_n 1, 1) := by decide +kernel
theorem dX4_waysOn_9 : decode cX4_waysOn 9 = .ok (.getfield 18, 3) := by decide +kernel
theorem dX4_waysOn_12 : decode cX4_waysOn 12 = .ok (.if_icmp .ge 49, 3) := by decide +kernel
theorem dX4_waysOn_15 : decode cX4_waysOn 15 = .ok (.iload 4, 2) := by decide +kernel
theorem dX4_waysOn_17 : decode cX4_waysOn 17 = .ok (.iload 7, 2) := by decide +kernel
theorem dX4_waysOn_19 : decode cX4_waysOn 19 = .ok (.ishr, 1) := by decide +kernel
theorem dX4_waysOn_20 : decode cX4_waysOn 20 = .ok (.iconst 1, 1) := by decide +kernel
theorem dX4_waysOn_21 : decode cX4_waysOn 21 = .ok (.iand, 1) := by decide +kernel
theorem dX4_waysOn_22 : decode cX4_waysOn 22 = .ok (.ifCond .ne 33, 3) := by decide +kernel
theorem dX4_waysOn_25 : decode cX4_waysOn 25 = .ok (.aload_n 1, 1) := by decide +kernel
theorem dX4_waysOn_26 : decode cX4_waysOn 26 = .ok (.iload 7, 2) := by decide +kernel
theorem dX4_waysOn_28 : decode cX4_waysOn 28 = .ok (.aload_n 2, 1) := by decide +kernel
theorem dX4_waysOn_29 : decode cX4_waysOn 29 = .ok (.iload_n 3, 1) := by decide +kernel
theorem dX4_waysOn_30 : decode cX4_waysOn 30 = .ok (.iload 5, 2) := by decide +kernel
theorem dX4_waysOn_32 : decode cX4_waysOn 32 = .ok (.invokestatic 45, 3) := by decide +kernel
theorem dX4_waysOn_35 : decode cX4_waysOn 35 = .ok (.ifCond .eq 20, 3) := by decide +kernel
theorem dX4_waysOn_38 : decode cX4_waysOn 38 = .ok (.iload 6, 2) := by decide +kernel
theorem dX4_waysOn_40 : decode cX4_waysOn 40 = .ok (.aload_n 0, 1) := by decide +kernel
theorem dX4_waysOn_41 : decode cX4_waysOn 41 = .ok (.getfield 9, 3) := by decide +kernel
theorem dX4_waysOn_44 : decode cX4_waysOn 44 = .ok (.iload 4, 2) := by decide +kernel
theorem dX4_waysOn_46 : decode cX4_waysOn 46 = .ok (.iconst 1, 1) := by decide +kernel
theorem dX4_waysOn_47 : decode cX4_waysOn 47 = .ok (.iload 7, 2) := by decide +kernel
theorem dX4_waysOn_49 : decode cX4_waysOn 49 = .ok (.ishl, 1) := by decide +kernel
theorem dX4_waysOn_50 : decode cX4_waysOn 50 = .ok (.ior, 1) := by decide +kernel
theorem dX4_waysOn_51 : decode cX4_waysOn 51 = .ok (.iaload, 1) := by decide +kernel
theorem dX4_waysOn_52 : decode cX4_waysOn 52 = .ok (.iadd, 1) := by decide +kernel
theorem dX4_waysOn_53 : decode cX4_waysOn 53 = .ok (.istore 6, 2) := by decide +kernel
theorem dX4_waysOn_55 : decode cX4_waysOn 55 = .ok (.iinc 7 1, 3) := by decide +kernel
theorem dX4_waysOn_58 : decode cX4_waysOn 58 = .ok (.goto (-52), 3) := by decide +kernel
theorem dX4_waysOn_61 : decode cX4_waysOn 61 = .ok (.iload 6, 2) := by decide +kernel
theorem dX4_waysOn_63 : decode cX4_waysOn 63 = .ok (.ireturn, 1) := by decide +kernel
theorem dX4_fits_0 : decode cX4_fits 0 = .ok (.aload_n 0, 1) := by decide +kernel
theorem dX4_fits_1 : decode cX4_fits 1 = .ok (.getfield 42, 3) := by decide +kernel
theorem dX4_fits_4 : decode cX4_fits 4 = .ok (.iload_n 1, 1) := by decide +kernel
theorem dX4_fits_5 : decode cX4_fits 5 = .ok (.iaload, 1) := by decide +kernel
theorem dX4_fits_6 : decode cX4_fits 6 = .ok (.istore 5, 2) := by decide +kernel
theorem dX4_fits_8 : decode cX4_fits 8 = .ok (.iload 4, 2) := by decide +kernel
theorem dX4_fits_10 : decode cX4_fits 10 = .ok (.iload 5, 2) := by decide +kernel
theorem dX4_fits_12 : decode cX4_fits 12 = .ok (.iadd, 1) := by decide +kernel
theorem dX4_fits_13 : decode cX4_fits 13 = .ok (.iload_n 3, 1) := by decide +kernel
theorem dX4_fits_14 : decode cX4_fits 14 = .ok (.if_icmp .le 5, 3) := by decide +kernel
theorem dX4_fits_17 : decode cX4_fits 17 = .ok (.iconst 0, 1) := by decide +kernel
theorem dX4_fits_18 : decode cX4_fits 18 = .ok (.ireturn, 1) := by decide +kernel
theorem dX4_fits_19 : decode cX4_fits 19 = .ok (.iconst 0, 1) := by decide +kernel
theorem dX4_fits_20 : decode cX4_fits 20 = .ok (.istore 6, 2) := by decide +kernel
theorem dX4_fits_22 : decode cX4_fits 22 = .ok (.iload 6, 2) := by decide +kernel
theorem dX4_fits_24 : decode cX4_fits 24 = .ok (.iload 5, 2) := by decide +kernel
theorem dX4_fits_26 : decode cX4_fits 26 = .ok (.if_icmp .ge 33, 3) := by decide +kernel
theorem dX4_fits_29 : decode cX4_fits 29 = .ok (.aload_n 0, 1) := by decide +kernel
theorem dX4_fits_30 : decode cX4_fits 30 = .ok (.getfield 49, 3) := by decide +kernel
theorem dX4_fits_33 : decode cX4_fits 33 = .ok (.iload_n 1, 1) := by decide +kernel
theorem dX4_fits_34 : decode cX4_fits 34 = .ok (.aaload, 1) := by decide +kernel
theorem dX4_fits_35 : decode cX4_fits 35 = .ok (.iload 6, 2) := by decide +kernel
theorem dX4_fits_37 : decode cX4_fits 37 = .ok (.iaload, 1) := by decide +kernel
theorem dX4_fits_38 : decode cX4_fits 38 = .ok (.invokestatic 53, 3) := by decide +kernel
theorem dX4_fits_41 : decode cX4_fits 41 = .ok (.aload_n 2, 1) := by decide +kernel
theorem dX4_fits_42 : decode cX4_fits 42 = .ok (.iload 4, 2) := by decide +kernel
theorem dX4_fits_44 : decode cX4_fits 44 = .ok (.iload 6, 2) := by decide +kernel
theorem dX4_fits_46 : decode cX4_fits 46 = .ok (.iadd, 1) := by decide +kernel
theorem dX4_fits_47 : decode cX4_fits 47 = .ok (.iaload, 1) := by decide +kernel
theorem dX4_fits_48 : decode cX4_fits 48 = .ok (.if_icmp .eq 5, 3) := by decide +kernel
theorem dX4_fits_51 : decode cX4_fits 51 = .ok (.iconst 0, 1) := by decide +kernel
theorem dX4_fits_52 : decode cX4_fits 52 = .ok (.ireturn, 1) := by decide +kernel
theorem dX4_fits_53 : decode cX4_fits 53 = .ok (.iinc 6 1, 3) := by decide +kernel
theorem dX4_fits_56 : decode cX4_fits 56 = .ok (.goto (-34), 3) := by decide +kernel
theorem dX4_fits_59 : decode cX4_fits 59 = .ok (.iconst 1, 1) := by decide +kernel
theorem dX4_fits_60 : decode cX4_fits 60 = .ok (.ireturn, 1) := by decide +kernel
theorem dX4_followFirst_0 : decode cX4_followFirst 0 = .ok (.iconst 0, 1) := by decide +kernel
theorem dX4_followFirst_1 : decode cX4_followFirst 1 = .ok (.istore 4, 2) := by decide +kernel
theorem dX4_followFirst_3 : decode cX4_followFirst 3 = .ok (.iconst 0, 1) := by decide +kernel
theorem dX4_followFirst_4 : decode cX4_followFirst 4 = .ok (.istore 5, 2) := by decide +kernel
theorem dX4_followFirst_6 : decode cX4_followFirst 6 = .ok (.iload 5, 2) := by decide +kernel
theorem dX4_followFirst_8 : decode cX4_followFirst 8 = .ok (.iload_n 3, 1) := by decide +kernel
theorem dX4_followFirst_9 : decode cX4_followFirst 9 = .ok (.if_icmp .ge 74, 3) := by decide +kernel
theorem dX4_followFirst_12 : decode cX4_followFirst 12 = .ok (.aload_n 0, 1) := by decide +kernel
theorem dX4_followFirst_13 : decode cX4_followFirst 13 = .ok (.getfield 35, 3) := by decide +kernel
theorem dX4_followFirst_16 : decode cX4_followFirst 16 = .ok (.bipush 8, 2) := by decide +kernel
theorem dX4_followFirst_18 : decode cX4_followFirst 18 = .ok (.if_icmp .ge 65, 3) := by decide +kernel
theorem dX4_followFirst_21 : decode cX4_followFirst 21 = .ok (.aload_n 0, 1) := by decide +kernel
theorem dX4_followFirst_22 : decode cX4_followFirst 22 = .ok (.aload_n 1, 1) := by decide +kernel
theorem dX4_followFirst_23 : decode cX4_followFirst 23 = .ok (.aload_n 2, 1) := by decide +kernel
theorem dX4_followFirst_24 : decode cX4_followFirst 24 = .ok (.iload_n 3, 1) := by decide +kernel
theorem dX4_followFirst_25 : decode cX4_followFirst 25 = .ok (.iload 4, 2) := by decide +kernel
theorem dX4_followFirst_27 : decode cX4_followFirst 27 = .ok (.iload 5, 2) := by decide +kernel
theorem dX4_followFirst_29 : decode cX4_followFirst 29 = .ok (.invokevirtual 57, 3) := by decide +kernel
theorem dX4_followFirst_32 : decode cX4_followFirst 32 = .ok (.istore 6, 2) := by decide +kernel
theorem dX4_followFirst_34 : decode cX4_followFirst 34 = .ok (.iload 6, 2) := by decide +kernel
theorem dX4_followFirst_36 : decode cX4_followFirst 36 = .ok (.iconst (-1), 1) := by decide +kernel
theorem dX4_followFirst_37 : decode cX4_followFirst 37 = .ok (.if_icmp .ne 4, 3) := by decide +kernel
theorem dX4_followFirst_40 : decode cX4_followFirst 40 = .ok (.return_, 1) := by decide +kernel
theorem dX4_followFirst_41 : decode cX4_followFirst 41 = .ok (.aload_n 0, 1) := by decide +kernel
theorem dX4_followFirst_42 : decode cX4_followFirst 42 = .ok (.getfield 15, 3) := by decide +kernel
theorem dX4_followFirst_45 : decode cX4_followFirst 45 = .ok (.aload_n 0, 1) := by decide +kernel
theorem dX4_followFirst_46 : decode cX4_followFirst 46 = .ok (.dup, 1) := by decide +kernel
theorem dX4_followFirst_47 : decode cX4_followFirst 47 = .ok (.getfield 35, 3) := by decide +kernel
theorem dX4_followFirst_50 : decode cX4_followFirst 50 = .ok (.dup_x1, 1) := by decide +kernel
theorem dX4_followFirst_51 : decode cX4_followFirst 51 = .ok (.iconst 1, 1) := by decide +kernel
theorem dX4_followFirst_52 : decode cX4_followFirst 52 = .ok (.iadd, 1) := by decide +kernel
theorem dX4_followFirst_53 : decode cX4_followFirst 53 = .ok (.putfield 35, 3) := by decide +kernel
theorem dX4_followFirst_56 : decode cX4_followFirst 56 = .ok (.iload 6, 2) := by decide +kernel
theorem dX4_followFirst_58 : decode cX4_followFirst 58 = .ok (.iastore, 1) := by decide +kernel
theorem dX4_followFirst_59 : decode cX4_followFirst 59 = .ok (.iload 4, 2) := by decide +kernel
theorem dX4_followFirst_61 : decode cX4_followFirst 61 = .ok (.iconst 1, 1) := by decide +kernel
theorem dX4_followFirst_62 : decode cX4_followFirst 62 = .ok (.iload 6, 2) := by decide +kernel
theorem dX4_followFirst_64 : decode cX4_followFirst 64 = .ok (.ishl, 1) := by decide +kernel
theorem dX4_followFirst_65 : decode cX4_followFirst 65 = .ok (.ior, 1) := by decide +kernel
theorem dX4_followFirst_66 : decode cX4_followFirst 66 = .ok (.istore 4, 2) := by decide +kernel
theorem dX4_followFirst_68 : decode cX4_followFirst 68 = .ok (.iload 5, 2) := by decide +kernel
theorem dX4_followFirst_70 : decode cX4_followFirst 70 = .ok (.aload_n 1, 1) := by decide +kernel
theorem dX4_followFirst_71 : decode cX4_followFirst 71 = .ok (.getfield 42, 3) := by decide +kernel
theorem dX4_followFirst_74 : decode cX4_followFirst 74 = .ok (.iload 6, 2) := by decide +kernel
theorem dX4_followFirst_76 : decode cX4_followFirst 76 = .ok (.iaload, 1) := by decide +kernel
theorem dX4_followFirst_77 : decode cX4_followFirst 77 = .ok (.iadd, 1) := by decide +kernel
theorem dX4_followFirst_78 : decode cX4_followFirst 78 = .ok (.istore 5, 2) := by decide +kernel
theorem dX4_followFirst_80 : decode cX4_followFirst 80 = .ok (.goto (-74), 3) := by decide +kernel
theorem dX4_followFirst_83 : decode cX4_followFirst 83 = .ok (.return_, 1) := by decide +kernel
theorem dX4_firstOn_0 : decode cX4_firstOn 0 = .ok (.iconst 0, 1) := by decide +kernel
theorem dX4_firstOn_1 : decode cX4_firstOn 1 = .ok (.istore 6, 2) := by decide +kernel
theorem dX4_firstOn_3 : decode cX4_firstOn 3 = .ok (.iload 6, 2) := by decide +kernel
theorem dX4_firstOn_5 : decode cX4_firstOn 5 = .ok (.aload_n 1, 1) := by decide +kernel
theorem dX4_firstOn_6 : decode cX4_firstOn 6 = .ok (.getfield 18, 3) := by decide +kernel
theorem dX4_firstOn_9 : decode cX4_firstOn 9 = .ok (.if_icmp .ge 50, 3) := by decide +kernel
theorem dX4_firstOn_12 : decode cX4_firstOn 12 = .ok (.iload 4, 2) := by decide +kernel
theorem dX4_firstOn_14 : decode cX4_firstOn 14 = .ok (.iload 6, 2) := by decide +kernel
theorem dX4_firstOn_16 : decode cX4_firstOn 16 = .ok (.ishr, 1) := by decide +kernel
theorem dX4_firstOn_17 : decode cX4_firstOn 17 = .ok (.iconst 1, 1) := by decide +kernel
theorem dX4_firstOn_18 : decode cX4_firstOn 18 = .ok (.iand, 1) := by decide +kernel
theorem dX4_firstOn_19 : decode cX4_firstOn 19 = .ok (.ifCond .ne 34, 3) := by decide +kernel
theorem dX4_firstOn_22 : decode cX4_firstOn 22 = .ok (.aload_n 1, 1) := by decide +kernel
theorem dX4_firstOn_23 : decode cX4_firstOn 23 = .ok (.iload 6, 2) := by decide +kernel
theorem dX4_firstOn_25 : decode cX4_firstOn 25 = .ok (.aload_n 2, 1) := by decide +kernel
theorem dX4_firstOn_26 : decode cX4_firstOn 26 = .ok (.iload_n 3, 1) := by decide +kernel
theorem dX4_firstOn_27 : decode cX4_firstOn 27 = .ok (.iload 5, 2) := by decide +kernel
theorem dX4_firstOn_29 : decode cX4_firstOn 29 = .ok (.invokestatic 45, 3) := by decide +kernel
theorem dX4_firstOn_32 : decode cX4_firstOn 32 = .ok (.ifCond .eq 21, 3) := by decide +kernel
theorem dX4_firstOn_35 : decode cX4_firstOn 35 = .ok (.aload_n 0, 1) := by decide +kernel
theorem dX4_firstOn_36 : decode cX4_firstOn 36 = .ok (.getfield 9, 3) := by decide +kernel
theorem dX4_firstOn_39 : decode cX4_firstOn 39 = .ok (.iload 4, 2) := by decide +kernel
theorem dX4_firstOn_41 : decode cX4_firstOn 41 = .ok (.iconst 1, 1) := by decide +kernel
theorem dX4_firstOn_42 : decode cX4_firstOn 42 = .ok (.iload 6, 2) := by decide +kernel
theorem dX4_firstOn_44 : decode cX4_firstOn 44 = .ok (.ishl, 1) := by decide +kernel
theorem dX4_firstOn_45 : decode cX4_firstOn 45 = .ok (.ior, 1) := by decide +kernel
theorem dX4_firstOn_46 : decode cX4_firstOn 46 = .ok (.iaload, 1) := by decide +kernel
theorem dX4_firstOn_47 : decode cX4_firstOn 47 = .ok (.ifCond .le 6, 3) := by decide +kernel
theorem dX4_firstOn_50 : decode cX4_firstOn 50 = .ok (.iload 6, 2) := by decide +kernel
theorem dX4_firstOn_52 : decode cX4_firstOn 52 = .ok (.ireturn, 1) := by decide +kernel
theorem dX4_firstOn_53 : decode cX4_firstOn 53 = .ok (.iinc 6 1, 3) := by decide +kernel
theorem dX4_firstOn_56 : decode cX4_firstOn 56 = .ok (.goto (-53), 3) := by decide +kernel
theorem dX4_firstOn_59 : decode cX4_firstOn 59 = .ok (.iconst (-1), 1) := by decide +kernel
theorem dX4_firstOn_60 : decode cX4_firstOn 60 = .ok (.ireturn, 1) := by decide +kernel
theorem dX5_init_0 : decode cX5_init 0 = .ok (.aload_n 0, 1) := by decide +kernel
theorem dX5_init_1 : decode cX5_init 1 = .ok (.invokespecial 3, 3) := by decide +kernel
theorem dX5_init_4 : decode cX5_init 4 = .ok (.aload_n 0, 1) := by decide +kernel
theorem dX5_init_5 : decode cX5_init 5 = .ok (.iconst (-1), 1) := by decide +kernel
theorem dX5_init_6 : decode cX5_init 6 = .ok (.putfield 9, 3) := by decide +kernel
theorem dX5_init_9 : decode cX5_init 9 = .ok (.aload_n 0, 1) := by decide +kernel
theorem dX5_init_10 : decode cX5_init 10 = .ok (.bipush 24, 2) := by decide +kernel
theorem dX5_init_12 : decode cX5_init 12 = .ok (.newarray .int, 2) := by decide +kernel
theorem dX5_init_14 : decode cX5_init 14 = .ok (.putfield 15, 3) := by decide +kernel
theorem dX5_init_17 : decode cX5_init 17 = .ok (.return_, 1) := by decide +kernel
theorem dX5_begin_0 : decode cX5_begin 0 = .ok (.aload_n 0, 1) := by decide +kernel
theorem dX5_begin_1 : decode cX5_begin 1 = .ok (.iload_n 1, 1) := by decide +kernel
theorem dX5_begin_2 : decode cX5_begin 2 = .ok (.putfield 9, 3) := by decide +kernel
theorem dX5_begin_5 : decode cX5_begin 5 = .ok (.aload_n 0, 1) := by decide +kernel
theorem dX5_begin_6 : decode cX5_begin 6 = .ok (.iload_n 2, 1) := by decide +kernel
theorem dX5_begin_7 : decode cX5_begin 7 = .ok (.putfield 19, 3) := by decide +kernel
theorem dX5_begin_10 : decode cX5_begin 10 = .ok (.iconst 0, 1) := by decide +kernel
theorem dX5_begin_11 : decode cX5_begin 11 = .ok (.istore_n 3, 1) := by decide +kernel
theorem dX5_begin_12 : decode cX5_begin 12 = .ok (.iload_n 3, 1) := by decide +kernel
theorem dX5_begin_13 : decode cX5_begin 13 = .ok (.bipush 24, 2) := by decide +kernel
theorem dX5_begin_15 : decode cX5_begin 15 = .ok (.if_icmp .ge 16, 3) := by decide +kernel
theorem dX5_begin_18 : decode cX5_begin 18 = .ok (.aload_n 0, 1) := by decide +kernel
theorem dX5_begin_19 : decode cX5_begin 19 = .ok (.getfield 15, 3) := by decide +kernel
theorem dX5_begin_22 : decode cX5_begin 22 = .ok (.iload_n 3, 1) := by decide +kernel
theorem dX5_begin_23 : decode cX5_begin 23 = .ok (.iconst 0, 1) := by decide +kernel
theorem dX5_begin_24 : decode cX5_begin 24 = .ok (.iastore, 1) := by decide +kernel
theorem dX5_begin_25 : decode cX5_begin 25 = .ok (.iinc 3 1, 3) := by decide +kernel
theorem dX5_begin_28 : decode cX5_begin 28 = .ok (.goto (-16), 3) := by decide +kernel
theorem dX5_begin_31 : decode cX5_begin 31 = .ok (.return_, 1) := by decide +kernel
theorem dX5_hasItems_0 : decode cX5_hasItems 0 = .ok (.iload_n 1, 1) := by decide +kernel
theorem dX5_hasItems_1 : decode cX5_hasItems 1 = .ok (.ifCond .lt 21, 3) := by decide +kernel
theorem dX5_hasItems_4 : decode cX5_hasItems 4 = .ok (.iload_n 2, 1) := by decide +kernel
theorem dX5_hasItems_5 : decode cX5_hasItems 5 = .ok (.ifCond .lt 17, 3) := by decide +kernel
theorem dX5_hasItems_8 : decode cX5_hasItems 8 = .ok (.iload_n 1, 1) := by decide +kernel
theorem dX5_hasItems_9 : decode cX5_hasItems 9 = .ok (.aload_n 0, 1) := by decide +kernel
theorem dX5_hasItems_10 : decode cX5_hasItems 10 = .ok (.getfield 19, 3) := by decide +kernel
theorem dX5_hasItems_13 : decode cX5_hasItems 13 = .ok (.iload_n 2, 1) := by decide +kernel
theorem dX5_hasItems_14 : decode cX5_hasItems 14 = .ok (.isub, 1) := by decide +kernel
theorem dX5_hasItems_15 : decode cX5_hasItems 15 = .ok (.if_icmp .gt 7, 3) := by decide +kernel
theorem dX5_hasItems_18 : decode cX5_hasItems 18 = .ok (.iconst 1, 1) := by decide +kernel
theorem dX5_hasItems_19 : decode cX5_hasItems 19 = .ok (.goto 4, 3) := by decide +kernel
theorem dX5_hasItems_22 : decode cX5_hasItems 22 = .ok (.iconst 0, 1) := by decide +kernel
theorem dX5_hasItems_23 : decode cX5_hasItems 23 = .ok (.ireturn, 1) := by decide +kernel
theorem dX5_refusal_0 : decode cX5_refusal 0 = .ok (.aload_n 0, 1) := by decide +kernel
theorem dX5_refusal_1 : decode cX5_refusal 1 = .ok (.getfield 9, 3) := by decide +kernel
theorem dX5_refusal_4 : decode cX5_refusal 4 = .ok (.iconst (-1), 1) := by decide +kernel
theorem dX5_refusal_5 : decode cX5_refusal 5 = .ok (.if_icmp .ne 6, 3) := by decide +kernel
theorem dX5_refusal_8 : decode cX5_refusal 8 = .ok (.bipush (-11), 2) := by decide +kernel
theorem dX5_refusal_10 : decode cX5_refusal 10 = .ok (.ireturn, 1) := by decide +kernel
theorem dX5_refusal_11 : decode cX5_refusal 11 = .ok (.aload_n 0, 1) := by decide +kernel
theorem dX5_refusal_12 : decode cX5_refusal 12 = .ok (.getfield 9, 3) := by decide +kernel
theorem dX5_refusal_15 : decode cX5_refusal 15 = .ok (.iload_n 1, 1) := by decide +kernel
theorem dX5_refusal_16 : decode cX5_refusal 16 = .ok (.if_icmp .eq 6, 3) := by decide +kernel
theorem dX5_refusal_19 : decode cX5_refusal 19 = .ok (.bipush (-12), 2) := by decide +kernel
theorem dX5_refusal_21 : decode cX5_refusal 21 = .ok (.ireturn, 1) := by decide +kernel
theorem dX5_refusal_22 : decode cX5_refusal 22 = .ok (.aload_n 0, 1) := by decide +kernel
theorem dX5_refusal_23 : decode cX5_refusal 23 = .ok (.iload_n 2, 1) := by decide +kernel
theorem dX5_refusal_24 : decode cX5_refusal 24 = .ok (.iload_n 3, 1) := by decide +kernel
theorem dX5_refusal_25 : decode cX5_refusal 25 = .ok (.invokevirtual 22, 3) := by decide +kernel
theorem dX5_refusal_28 : decode cX5_refusal 28 = .ok (.ifCond .eq 7, 3) := by decide +kernel
theorem dX5_refusal_31 : decode cX5_refusal 31 = .ok (.iconst 0, 1) := by decide +kernel
theorem dX5_refusal_32 : decode cX5_refusal 32 = .ok (.goto 5, 3) := by decide +kernel
theorem dX5_refusal_35 : decode cX5_refusal 35 = .ok (.bipush (-13), 2) := by decide +kernel
theorem dX5_refusal_37 : decode cX5_refusal 37 = .ok (.ireturn, 1) := by decide +kernel
theorem dX5_put_0 : decode cX5_put 0 = .ok (.aload_n 0, 1) := by decide +kernel
theorem dX5_put_1 : decode cX5_put 1 = .ok (.getfield 9, 3) := by decide +kernel
theorem dX5_put_4 : decode cX5_put 4 = .ok (.ifCond .ne 15, 3) := by decide +kernel
theorem dX5_put_7 : decode cX5_put 7 = .ok (.aload_n 0, 1) := by decide +kernel
theorem dX5_put_8 : decode cX5_put 8 = .ok (.getfield 15, 3) := by decide +kernel
theorem dX5_put_11 : decode cX5_put 11 = .ok (.iload_n 1, 1) := by decide +kernel
theorem dX5_put_12 : decode cX5_put 12 = .ok (.lload_n 2, 1) := by decide +kernel
theorem dX5_put_13 : decode cX5_put 13 = .ok (.l2i, 1) := by decide +kernel
theorem dX5_put_14 : decode cX5_put 14 = .ok (.i2b, 1) := by decide +kernel
theorem dX5_put_15 : decode cX5_put 15 = .ok (.iastore, 1) := by decide +kernel
theorem dX5_put_16 : decode cX5_put 16 = .ok (.goto 31, 3) := by decide +kernel
theorem dX5_put_19 : decode cX5_put 19 = .ok (.aload_n 0, 1) := by decide +kernel
theorem dX5_put_20 : decode cX5_put 20 = .ok (.getfield 9, 3) := by decide +kernel
theorem dX5_put_23 : decode cX5_put 23 = .ok (.iconst 1, 1) := by decide +kernel
theorem dX5_put_24 : decode cX5_put 24 = .ok (.if_icmp .ne 15, 3) := by decide +kernel
theorem dX5_put_27 : decode cX5_put 27 = .ok (.aload_n 0, 1) := by decide +kernel
theorem dX5_put_28 : decode cX5_put 28 = .ok (.getfield 15, 3) := by decide +kernel
theorem dX5_put_31 : decode cX5_put 31 = .ok (.iload_n 1, 1) := by decide +kernel
theorem dX5_put_32 : decode cX5_put 32 = .ok (.lload_n 2, 1) := by decide +kernel
theorem dX5_put_33 : decode cX5_put 33 = .ok (.l2i, 1) := by decide +kernel
theorem dX5_put_34 : decode cX5_put 34 = .ok (.i2s, 1) := by decide +kernel
theorem dX5_put_35 : decode cX5_put 35 = .ok (.iastore, 1) := by decide +kernel
theorem dX5_put_36 : decode cX5_put 36 = .ok (.goto 11, 3) := by decide +kernel
theorem dX5_put_39 : decode cX5_put 39 = .ok (.aload_n 0, 1) := by decide +kernel
theorem dX5_put_40 : decode cX5_put 40 = .ok (.getfield 15, 3) := by decide +kernel
theorem dX5_put_43 : decode cX5_put 43 = .ok (.iload_n 1, 1) := by decide +kernel
theorem dX5_put_44 : decode cX5_put 44 = .ok (.lload_n 2, 1) := by decide +kernel
theorem dX5_put_45 : decode cX5_put 45 = .ok (.l2i, 1) := by decide +kernel
theorem dX5_put_46 : decode cX5_put 46 = .ok (.iastore, 1) := by decide +kernel
theorem dX5_put_47 : decode cX5_put 47 = .ok (.return_, 1) := by decide +kernel
theorem dX6_init_0 : decode cX6_init 0 = .ok (.aload_n 0, 1) := by decide +kernel
theorem dX6_init_1 : decode cX6_init 1 = .ok (.invokespecial 3, 3) := by decide +kernel
theorem dX6_init_4 : decode cX6_init 4 = .ok (.aload_n 0, 1) := by decide +kernel
theorem dX6_init_5 : decode cX6_init 5 = .ok (.bipush 8, 2) := by decide +kernel
theorem dX6_init_7 : decode cX6_init 7 = .ok (.newarray .int, 2) := by decide +kernel
theorem dX6_init_9 : decode cX6_init 9 = .ok (.putfield 9, 3) := by decide +kernel
theorem dX6_init_12 : decode cX6_init 12 = .ok (.aload_n 0, 1) := by decide +kernel
theorem dX6_init_13 : decode cX6_init 13 = .ok (.bipush 8, 2) := by decide +kernel
theorem dX6_init_15 : decode cX6_init 15 = .ok (.newarray .int, 2) := by decide +kernel
theorem dX6_init_17 : decode cX6_init 17 = .ok (.putfield 15, 3) := by decide +kernel
theorem dX6_init_20 : decode cX6_init 20 = .ok (.aload_n 0, 1) := by decide +kernel
theorem dX6_init_21 : decode cX6_init 21 = .ok (.bipush 8, 2) := by decide +kernel
theorem dX6_init_23 : decode cX6_init 23 = .ok (.newarray .int, 2) := by decide +kernel
theorem dX6_init_25 : decode cX6_init 25 = .ok (.putfield 18, 3) := by decide +kernel
theorem dX6_init_28 : decode cX6_init 28 = .ok (.aload_n 0, 1) := by decide +kernel
theorem dX6_init_29 : decode cX6_init 29 = .ok (.iconst 5, 1) := by decide +kernel
theorem dX6_init_30 : decode cX6_init 30 = .ok (.newarray .int, 2) := by decide +kernel
theorem dX6_init_32 : decode cX6_init 32 = .ok (.putfield 21, 3) := by decide +kernel
theorem dX6_init_35 : decode cX6_init 35 = .ok (.aload_n 0, 1) := by decide +kernel
theorem dX6_init_36 : decode cX6_init 36 = .ok (.iconst 5, 1) := by decide +kernel
theorem dX6_init_37 : decode cX6_init 37 = .ok (.newarray .int, 2) := by decide +kernel
theorem dX6_init_39 : decode cX6_init 39 = .ok (.putfield 24, 3) := by decide +kernel
theorem dX6_init_42 : decode cX6_init 42 = .ok (.return_, 1) := by decide +kernel
theorem dX6_run_0 : decode cX6_run 0 = .ok (.aload_n 0, 1) := by decide +kernel
theorem dX6_run_1 : decode cX6_run 1 = .ok (.aload_n 1, 1) := by decide +kernel
theorem dX6_run_2 : decode cX6_run 2 = .ok (.getfield 27, 3) := by decide +kernel
theorem dX6_run_5 : decode cX6_run 5 = .ok (.putfield 33, 3) := by decide +kernel
theorem dX6_run_8 : decode cX6_run 8 = .ok (.aload_n 0, 1) := by decide +kernel
theorem dX6_run_9 : decode cX6_run 9 = .ok (.iload_n 3, 1) := by decide +kernel
theorem dX6_run_10 : decode cX6_run 10 = .ok (.putfield 34, 3) := by decide +kernel
theorem dX6_run_13 : decode cX6_run 13 = .ok (.aload_n 0, 1) := by decide +kernel
theorem dX6_run_14 : decode cX6_run 14 = .ok (.aload_n 1, 1) := by decide +kernel
theorem dX6_run_15 : decode cX6_run 15 = .ok (.getfield 37, 3) := by decide +kernel
theorem dX6_run_18 : decode cX6_run 18 = .ok (.iconst 1, 1) := by decide +kernel
theorem dX6_run_19 : decode cX6_run 19 = .ok (.iadd, 1) := by decide +kernel
theorem dX6_run_20 : decode cX6_run 20 = .ok (.putfield 38, 3) := by decide +kernel
theorem dX6_run_23 : decode cX6_run 23 = .ok (.aload_n 0, 1) := by decide +kernel
theorem dX6_run_24 : decode cX6_run 24 = .ok (.aload_n 1, 1) := by decide +kernel
theorem dX6_run_25 : decode cX6_run 25 = .ok (.getfield 41, 3) := by decide +kernel
theorem dX6_run_28 : decode cX6_run 28 = .ok (.putfield 44, 3) := by decide +kernel
theorem dX6_run_31 : decode cX6_run 31 = .ok (.aload_n 0, 1) := by decide +kernel
theorem dX6_run_32 : decode cX6_run 32 = .ok (.iconst 0, 1) := by decide +kernel
theorem dX6_run_33 : decode cX6_run 33 = .ok (.putfield 45, 3) := by decide +kernel
theorem dX6_run_36 : decode cX6_run 36 = .ok (.aload_n 0, 1) := by decide +kernel
theorem dX6_run_37 : decode cX6_run 37 = .ok (.iconst (-1), 1) := by decide +kernel
theorem dX6_run_38 : decode cX6_run 38 = .ok (.putfield 48, 3) := by decide +kernel
theorem dX6_run_41 : decode cX6_run 41 = .ok (.iconst 0, 1) := by decide +kernel
theorem dX6_run_42 : decode cX6_run 42 = .ok (.istore 4, 2) := by decide +kernel
theorem dX6_run_44 : decode cX6_run 44 = .ok (.iload 4, 2) := by decide +kernel
theorem dX6_run_46 : decode cX6_run 46 = .ok (.aload_n 0, 1) := by decide +kernel
theorem dX6_run_47 : decode cX6_run 47 = .ok (.getfield 33, 3) := by decide +kernel
theorem dX6_run_50 : decode cX6_run 50 = .ok (.if_icmp .ge 50, 3) := by decide +kernel
theorem dX6_run_53 : decode cX6_run 53 = .ok (.aload_n 0, 1) := by decide +kernel
theorem dX6_run_54 : decode cX6_run 54 = .ok (.getfield 18, 3) := by decide +kernel
theorem dX6_run_57 : decode cX6_run 57 = .ok (.iload 4, 2) := by decide +kernel
theorem dX6_run_59 : decode cX6_run 59 = .ok (.aload_n 1, 1) := by decide +kernel
theorem dX6_run_60 : decode cX6_run 60 = .ok (.getfield 51, 3) := by decide +kernel
theorem dX6_run_63 : decode cX6_run 63 = .ok (.iload_n 2, 1) := by decide +kernel
theorem dX6_run_64 : decode cX6_run 64 = .ok (.aaload, 1) := by decide +kernel
theorem dX6_run_65 : decode cX6_run 65 = .ok (.iload 4, 2) := by decide +kernel
theorem dX6_run_67 : decode cX6_run 67 = .ok (.iaload, 1) := by decide +kernel
theorem dX6_run_68 : decode cX6_run 68 = .ok (.iastore, 1) := by decide +kernel
theorem dX6_run_69 : decode cX6_run 69 = .ok (.aload_n 0, 1) := by decide +kernel
theorem dX6_run_70 : decode cX6_run 70 = .ok (.aload_n 1, 1) := by decide +kernel
theorem dX6_run_71 : decode cX6_run 71 = .ok (.iload 4, 2) := by decide +kernel
theorem dX6_run_73 : decode cX6_run 73 = .ok (.invokevirtual 54, 3) := by decide +kernel
theorem dX6_run_76 : decode cX6_run 76 = .ok (.aload_n 0, 1) := by decide +kernel
theorem dX6_run_77 : decode cX6_run 77 = .ok (.aload_n 0, 1) := by decide +kernel
theorem dX6_run_78 : decode cX6_run 78 = .ok (.getfield 45, 3) := by decide +kernel
theorem dX6_run_81 : decode cX6_run 81 = .ok (.aload_n 0, 1) := by decide +kernel
theorem dX6_run_82 : decode cX6_run 82 = .ok (.getfield 9, 3) := by decide +kernel
theorem dX6_run_85 : decode cX6_run 85 = .ok (.iload 4, 2) := by decide +kernel
theorem dX6_run_87 : decode cX6_run 87 = .ok (.iaload, 1) := by decide +kernel
theorem dX6_run_88 : decode cX6_run 88 = .ok (.invokestatic 58, 3) := by decide +kernel
theorem dX6_run_91 : decode cX6_run 91 = .ok (.putfield 45, 3) := by decide +kernel
theorem dX6_run_94 : decode cX6_run 94 = .ok (.iinc 4 1, 3) := by decide +kernel
theorem dX6_run_97 : decode cX6_run 97 = .ok (.goto (-53), 3) := by decide +kernel
theorem dX6_run_100 : decode cX6_run 100 = .ok (.aload_n 0, 1) := by decide +kernel
theorem dX6_run_101 : decode cX6_run 101 = .ok (.iconst 0, 1) := by decide +kernel
theorem dX6_run_102 : decode cX6_run 102 = .ok (.iconst 0, 1) := by decide +kernel
theorem dX6_run_103 : decode cX6_run 103 = .ok (.invokevirtual 64, 3) := by decide +kernel
theorem dX6_run_106 : decode cX6_run 106 = .ok (.return_, 1) := by decide +kernel
theorem dX6_weigh_0 : decode cX6_weigh 0 = .ok (.aload_n 0, 1) := by decide +kernel
theorem dX6_weigh_1 : decode cX6_weigh 1 = .ok (.getfield 9, 3) := by decide +kernel
theorem dX6_weigh_4 : decode cX6_weigh 4 = .ok (.iload_n 2, 1) := by decide +kernel
theorem dX6_weigh_5 : decode cX6_weigh 5 = .ok (.iconst 0, 1) := by decide +kernel
theorem dX6_weigh_6 : decode cX6_weigh 6 = .ok (.iastore, 1) := by decide +kernel
theorem dX6_weigh_7 : decode cX6_weigh 7 = .ok (.aload_n 0, 1) := by decide +kernel
theorem dX6_weigh_8 : decode cX6_weigh 8 = .ok (.getfield 15, 3) := by decide +kernel
theorem dX6_weigh_11 : decode cX6_weigh 11 = .ok (.iload_n 2, 1) := by decide +kernel
theorem dX6_weigh_12 : decode cX6_weigh 12 = .ok (.iconst 0, 1) := by decide +kernel
theorem dX6_weigh_13 : decode cX6_weigh 13 = .ok (.iastore, 1) := by decide +kernel
theorem dX6_weigh_14 : decode cX6_weigh 14 = .ok (.iconst 0, 1) := by decide +kernel
theorem dX6_weigh_15 : decode cX6_weigh 15 = .ok (.istore_n 3, 1) := by decide +kernel
theorem dX6_weigh_16 : decode cX6_weigh 16 = .ok (.iload_n 3, 1) := by decide +kernel
theorem dX6_weigh_17 : decode cX6_weigh 17 = .ok (.aload_n 1, 1) := by decide +kernel
theorem dX6_weigh_18 : decode cX6_weigh 18 = .ok (.getfield 68, 3) := by decide +kernel
theorem dX6_weigh_21 : decode cX6_weigh 21 = .ok (.iload_n 2, 1) := by decide +kernel
theorem dX6_weigh_22 : decode cX6_weigh 22 = .ok (.iaload, 1) := by decide +kernel
theorem dX6_weigh_23 : decode cX6_weigh 23 = .ok (.if_icmp .ge 47, 3) := by decide +kernel
theorem dX6_weigh_26 : decode cX6_weigh 26 = .ok (.aload_n 1, 1) := by decide +kernel
theorem dX6_weigh_27 : decode cX6_weigh 27 = .ok (.getfield 71, 3) := by decide +kernel
theorem dX6_weigh_30 : decode cX6_weigh 30 = .ok (.iload_n 2, 1) := by decide +kernel
theorem dX6_weigh_31 : decode cX6_weigh 31 = .ok (.aaload, 1) := by decide +kernel
theorem dX6_weigh_32 : decode cX6_weigh 32 = .ok (.iload_n 3, 1) := by decide +kernel
theorem dX6_weigh_33 : decode cX6_weigh 33 = .ok (.iaload, 1) := by decide +kernel
theorem dX6_weigh_34 : decode cX6_weigh 34 = .ok (.invokestatic 74, 3) := by decide +kernel
theorem dX6_weigh_37 : decode cX6_weigh 37 = .ok (.istore 4, 2) := by decide +kernel
theorem dX6_weigh_39 : decode cX6_weigh 39 = .ok (.aload_n 0, 1) := by decide +kernel
theorem dX6_weigh_40 : decode cX6_weigh 40 = .ok (.getfield 9, 3) := by decide +kernel
theorem dX6_weigh_43 : decode cX6_weigh 43 = .ok (.iload_n 2, 1) := by decide +kernel
theorem dX6_weigh_44 : decode cX6_weigh 44 = .ok (.dup2, 1) := by decide +kernel
theorem dX6_weigh_45 : decode cX6_weigh 45 = .ok (.iaload, 1) := by decide +kernel
theorem dX6_weigh_46 : decode cX6_weigh 46 = .ok (.iload 4, 2) := by decide +kernel
theorem dX6_weigh_48 : decode cX6_weigh 48 = .ok (.iadd, 1) := by decide +kernel
theorem dX6_weigh_49 : decode cX6_weigh 49 = .ok (.iastore, 1) := by decide +kernel
theorem dX6_weigh_50 : decode cX6_weigh 50 = .ok (.aload_n 0, 1) := by decide +kernel
theorem dX6_weigh_51 : decode cX6_weigh 51 = .ok (.getfield 15, 3) := by decide +kernel
theorem dX6_weigh_54 : decode cX6_weigh 54 = .ok (.iload_n 2, 1) := by decide +kernel
theorem dX6_weigh_55 : decode cX6_weigh 55 = .ok (.dup2, 1) := by decide +kernel
theorem dX6_weigh_56 : decode cX6_weigh 56 = .ok (.iaload, 1) := by decide +kernel
theorem dX6_weigh_57 : decode cX6_weigh 57 = .ok (.iload 4, 2) := by decide +kernel
theorem dX6_weigh_59 : decode cX6_weigh 59 = .ok (.invokestatic 78, 3) := by decide +kernel
theorem dX6_weigh_62 : decode cX6_weigh 62 = .ok (.iadd, 1) := by decide +kernel
theorem dX6_weigh_63 : decode cX6_weigh 63 = .ok (.iastore, 1) := by decide +kernel
theorem dX6_weigh_64 : decode cX6_weigh 64 = .ok (.iinc 3 1, 3) := by decide +kernel
theorem dX6_weigh_67 : decode cX6_weigh 67 = .ok (.goto (-51), 3) := by decide +kernel
theorem dX6_weigh_70 : decode cX6_weigh 70 = .ok (.return_, 1) := by decide +kernel
theorem dX6_search_0 : decode cX6_search 0 = .ok (.iload_n 2, 1) := by decide +kernel
theorem dX6_search_1 : decode cX6_search 1 = .ok (.aload_n 0, 1) := by decide +kernel
theorem dX6_search_2 : decode cX6_search 2 = .ok (.getfield 34, 3) := by decide +kernel
theorem dX6_search_5 : decode cX6_search 5 = .ok (.iload_n 1, 1) := by decide +kernel
theorem dX6_search_6 : decode cX6_search 6 = .ok (.isub, 1) := by decide +kernel
theorem dX6_search_7 : decode cX6_search 7 = .ok (.aload_n 0, 1) := by decide +kernel
theorem dX6_search_8 : decode cX6_search 8 = .ok (.getfield 45, 3) := by decide +kernel
theorem dX6_search_11 : decode cX6_search 11 = .ok (.imul, 1) := by decide +kernel
theorem dX6_search_12 : decode cX6_search 12 = .ok (.iadd, 1) := by decide +kernel
theorem dX6_search_13 : decode cX6_search 13 = .ok (.aload_n 0, 1) := by decide +kernel
theorem dX6_search_14 : decode cX6_search 14 = .ok (.getfield 48, 3) := by decide +kernel
theorem dX6_search_17 : decode cX6_search 17 = .ok (.if_icmp .gt 4, 3) := by decide +kernel
theorem dX6_search_20 : decode cX6_search 20 = .ok (.return_, 1) := by decide +kernel
theorem dX6_search_21 : decode cX6_search 21 = .ok (.iload_n 1, 1) := by decide +kernel
theorem dX6_search_22 : decode cX6_search 22 = .ok (.aload_n 0, 1) := by decide +kernel
theorem dX6_search_23 : decode cX6_search 23 = .ok (.getfield 34, 3) := by decide +kernel
theorem dX6_search_26 : decode cX6_search 26 = .ok (.if_icmp .lt 26, 3) := by decide +kernel
theorem dX6_search_29 : decode cX6_search 29 = .ok (.aload_n 0, 1) := by decide +kernel
theorem dX6_search_30 : decode cX6_search 30 = .ok (.iload_n 2, 1) := by decide +kernel
theorem dX6_search_31 : decode cX6_search 31 = .ok (.putfield 48, 3) := by decide +kernel
theorem dX6_search_34 : decode cX6_search 34 = .ok (.aload_n 0, 1) := by decide +kernel
theorem dX6_search_35 : decode cX6_search 35 = .ok (.getfield 21, 3) := by decide +kernel
theorem dX6_search_38 : decode cX6_search 38 = .ok (.iconst 0, 1) := by decide +kernel
theorem dX6_search_39 : decode cX6_search 39 = .ok (.aload_n 0, 1) := by decide +kernel
theorem dX6_search_40 : decode cX6_search 40 = .ok (.getfield 24, 3) := by decide +kernel
theorem dX6_search_43 : decode cX6_search 43 = .ok (.iconst 0, 1) := by decide +kernel
theorem dX6_search_44 : decode cX6_search 44 = .ok (.aload_n 0, 1) := by decide +kernel
theorem dX6_search_45 : decode cX6_search 45 = .ok (.getfield 34, 3) := by decide +kernel
theorem dX6_search_48 : decode cX6_search 48 = .ok (.invokestatic 81, 3) := by decide +kernel
theorem dX6_search_51 : decode cX6_search 51 = .ok (.return_, 1) := by decide +kernel
theorem dX6_search_52 : decode cX6_search 52 = .ok (.aload_n 0, 1) := by decide +kernel
theorem dX6_search_53 : decode cX6_search 53 = .ok (.getfield 38, 3) := by decide +kernel
theorem dX6_search_56 : decode cX6_search 56 = .ok (.iload_n 1, 1) := by decide +kernel
theorem dX6_search_57 : decode cX6_search 57 = .ok (.iadd, 1) := by decide +kernel
theorem dX6_search_58 : decode cX6_search 58 = .ok (.istore_n 3, 1) := by decide +kernel
theorem dX6_search_59 : decode cX6_search 59 = .ok (.iconst 0, 1) := by decide +kernel
theorem dX6_search_60 : decode cX6_search 60 = .ok (.istore 4, 2) := by decide +kernel
theorem dX6_search_62 : decode cX6_search 62 = .ok (.iload 4, 2) := by decide +kernel
theorem dX6_search_64 : decode cX6_search 64 = .ok (.aload_n 0, 1) := by decide +kernel
theorem dX6_search_65 : decode cX6_search 65 = .ok (.getfield 33, 3) := by decide +kernel
theorem dX6_search_68 : decode cX6_search 68 = .ok (.if_icmp .ge 86, 3) := by decide +kernel
theorem dX6_search_71 : decode cX6_search 71 = .ok (.aload_n 0, 1) := by decide +kernel
theorem dX6_search_72 : decode cX6_search 72 = .ok (.getfield 18, 3) := by decide +kernel
theorem dX6_search_75 : decode cX6_search 75 = .ok (.iload 4, 2) := by decide +kernel
theorem dX6_search_77 : decode cX6_search 77 = .ok (.iaload, 1) := by decide +kernel
theorem dX6_search_78 : decode cX6_search 78 = .ok (.istore 5, 2) := by decide +kernel
theorem dX6_search_80 : decode cX6_search 80 = .ok (.iload 5, 2) := by decide +kernel
theorem dX6_search_82 : decode cX6_search 82 = .ok (.iload_n 3, 1) := by decide +kernel
theorem dX6_search_83 : decode cX6_search 83 = .ok (.aload_n 0, 1) := by decide +kernel
theorem dX6_search_84 : decode cX6_search 84 = .ok (.getfield 44, 3) := by decide +kernel
theorem dX6_search_87 : decode cX6_search 87 = .ok (.invokestatic 87, 3) := by decide +kernel
theorem dX6_search_90 : decode cX6_search 90 = .ok (.istore 6, 2) := by decide +kernel
theorem dX6_search_92 : decode cX6_search 92 = .ok (.aload_n 0, 1) := by decide +kernel
theorem dX6_search_93 : decode cX6_search 93 = .ok (.getfield 21, 3) := by decide +kernel
theorem dX6_search_96 : decode cX6_search 96 = .ok (.iload_n 1, 1) := by decide +kernel
theorem dX6_search_97 : decode cX6_search 97 = .ok (.iload 4, 2) := by decide +kernel
theorem dX6_search_99 : decode cX6_search 99 = .ok (.iastore, 1) := by decide +kernel
theorem dX6_search_100 : decode cX6_search 100 = .ok (.aload_n 0, 1) := by decide +kernel
theorem dX6_search_101 : decode cX6_search 101 = .ok (.getfield 18, 3) := by decide +kernel
theorem dX6_search_104 : decode cX6_search 104 = .ok (.iload 4, 2) := by decide +kernel
theorem dX6_search_106 : decode cX6_search 106 = .ok (.iload_n 3, 1) := by decide +kernel
theorem dX6_search_107 : decode cX6_search 107 = .ok (.iastore, 1) := by decide +kernel
theorem dX6_search_108 : decode cX6_search 108 = .ok (.aload_n 0, 1) := by decide +kernel
theorem dX6_search_109 : decode cX6_search 109 = .ok (.iload_n 1, 1) := by decide +kernel
theorem dX6_search_110 : decode cX6_search 110 = .ok (.iconst 1, 1) := by decide +kernel
theorem dX6_search_111 : decode cX6_search 111 = .ok (.iadd, 1) := by decide +kernel
theorem dX6_search_112 : decode cX6_search 112 = .ok (.iload_n 2, 1) := by decide +kernel
theorem dX6_search_113 : decode cX6_search 113 = .ok (.iload 6, 2) := by decide +kernel
theorem dX6_search_115 : decode cX6_search 115 = .ok (.ifCond .eq 13, 3) := by decide +kernel
theorem dX6_search_118 : decode cX6_search 118 = .ok (.aload_n 0, 1) := by decide +kernel
theorem dX6_search_119 : decode cX6_search 119 = .ok (.getfield 15, 3) := by decide +kernel
theorem dX6_search_122 : decode cX6_search 122 = .ok (.iload 4, 2) := by decide +kernel
theorem dX6_search_124 : decode cX6_search 124 = .ok (.iaload, 1) := by decide +kernel
theorem dX6_search_125 : decode cX6_search 125 = .ok (.goto 10, 3) := by decide +kernel
theorem dX6_search_128 : decode cX6_search 128 = .ok (.aload_n 0, 1) := by decide +kernel
theorem dX6_search_129 : decode cX6_search 129 = .ok (.getfield 9, 3) := by decide +kernel
theorem dX6_search_132 : decode cX6_search 132 = .ok (.iload 4, 2) := by decide +kernel
theorem dX6_search_134 : decode cX6_search 134 = .ok (.iaload, 1) := by decide +kernel
theorem dX6_search_135 : decode cX6_search 135 = .ok (.iadd, 1) := by decide +kernel
theorem dX6_search_136 : decode cX6_search 136 = .ok (.invokevirtual 64, 3) := by decide +kernel
theorem dX6_search_139 : decode cX6_search 139 = .ok (.aload_n 0, 1) := by decide +kernel
theorem dX6_search_140 : decode cX6_search 140 = .ok (.getfield 18, 3) := by decide +kernel
theorem dX6_search_143 : decode cX6_search 143 = .ok (.iload 4, 2) := by decide +kernel
theorem dX6_search_145 : decode cX6_search 145 = .ok (.iload 5, 2) := by decide +kernel
theorem dX6_search_147 : decode cX6_search 147 = .ok (.iastore, 1) := by decide +kernel
theorem dX6_search_148 : decode cX6_search 148 = .ok (.iinc 4 1, 3) := by decide +kernel
theorem dX6_search_151 : decode cX6_search 151 = .ok (.goto (-89), 3) := by decide +kernel
theorem dX6_search_154 : decode cX6_search 154 = .ok (.return_, 1) := by decide +kernel
theorem dX7_init_0 : decode cX7_init 0 = .ok (.aload_n 0, 1) := by decide +kernel
theorem dX7_init_1 : decode cX7_init 1 = .ok (.invokespecial 3, 3) := by decide +kernel
theorem dX7_init_4 : decode cX7_init 4 = .ok (.aload_n 0, 1) := by decide +kernel
theorem dX7_init_5 : decode cX7_init 5 = .ok (.bipush 24, 2) := by decide +kernel
theorem dX7_init_7 : decode cX7_init 7 = .ok (.newarray .int, 2) := by decide +kernel
theorem dX7_init_9 : decode cX7_init 9 = .ok (.putfield 9, 3) := by decide +kernel
theorem dX7_init_12 : decode cX7_init 12 = .ok (.return_, 1) := by decide +kernel
theorem dX7_append_0 : decode cX7_append 0 = .ok (.aload_n 0, 1) := by decide +kernel
theorem dX7_append_1 : decode cX7_append 1 = .ok (.getfield 15, 3) := by decide +kernel
theorem dX7_append_4 : decode cX7_append 4 = .ok (.bipush 24, 2) := by decide +kernel
theorem dX7_append_6 : decode cX7_append 6 = .ok (.if_icmp .ge 20, 3) := by decide +kernel
theorem dX7_append_9 : decode cX7_append 9 = .ok (.aload_n 0, 1) := by decide +kernel
theorem dX7_append_10 : decode cX7_append 10 = .ok (.getfield 9, 3) := by decide +kernel
theorem dX7_append_13 : decode cX7_append 13 = .ok (.aload_n 0, 1) := by decide +kernel
theorem dX7_append_14 : decode cX7_append 14 = .ok (.dup, 1) := by decide +kernel
theorem dX7_append_15 : decode cX7_append 15 = .ok (.getfield 15, 3) := by decide +kernel
theorem dX7_append_18 : decode cX7_append 18 = .ok (.dup_x1, 1) := by decide +kernel
theorem dX7_append_19 : decode cX7_append 19 = .ok (.iconst 1, 1) := by decide +kernel
theorem dX7_append_20 : decode cX7_append 20 = .ok (.iadd, 1) := by decide +kernel
theorem dX7_append_21 : decode cX7_append 21 = .ok (.putfield 15, 3) := by decide +kernel
theorem dX7_append_24 : decode cX7_append 24 = .ok (.iload_n 1, 1) := by decide +kernel
theorem dX7_append_25 : decode cX7_append 25 = .ok (.iastore, 1) := by decide +kernel
theorem dX7_append_26 : decode cX7_append 26 = .ok (.return_, 1) := by decide +kernel
theorem dX7_parseInto_0 : decode cX7_parseInto 0 = .ok (.iconst 0, 1) := by decide +kernel
theorem dX7_parseInto_1 : decode cX7_parseInto 1 = .ok (.istore_n 2, 1) := by decide +kernel
theorem dX7_parseInto_2 : decode cX7_parseInto 2 = .ok (.iconst 0, 1) := by decide +kernel
theorem dX7_parseInto_3 : decode cX7_parseInto 3 = .ok (.istore_n 3, 1) := by decide +kernel
theorem dX7_parseInto_4 : decode cX7_parseInto 4 = .ok (.iload_n 3, 1) := by decide +kernel
theorem dX7_parseInto_5 : decode cX7_parseInto 5 = .ok (.aload_n 0, 1) := by decide +kernel
theorem dX7_parseInto_6 : decode cX7_parseInto 6 = .ok (.getfield 15, 3) := by decide +kernel
theorem dX7_parseInto_9 : decode cX7_parseInto 9 = .ok (.if_icmp .ge 65, 3) := by decide +kernel
theorem dX7_parseInto_12 : decode cX7_parseInto 12 = .ok (.aload_n 0, 1) := by decide +kernel
theorem dX7_parseInto_13 : decode cX7_parseInto 13 = .ok (.getfield 9, 3) := by decide +kernel
theorem dX7_parseInto_16 : decode cX7_parseInto 16 = .ok (.iload_n 3, 1) := by decide +kernel
theorem dX7_parseInto_17 : decode cX7_parseInto 17 = .ok (.iaload, 1) := by decide +kernel
theorem dX7_parseInto_18 : decode cX7_parseInto 18 = .ok (.bipush 32, 2) := by decide +kernel
theorem dX7_parseInto_20 : decode cX7_parseInto 20 = .ok (.if_icmp .ne 6, 3) := by decide +kernel
theorem dX7_parseInto_23 : decode cX7_parseInto 23 = .ok (.goto 45, 3) := by decide +kernel
theorem dX7_parseInto_26 : decode cX7_parseInto 26 = .ok (.aload_n 0, 1) := by decide +kernel
theorem dX7_parseInto_27 : decode cX7_parseInto 27 = .ok (.getfield 9, 3) := by decide +kernel
theorem dX7_parseInto_30 : decode cX7_parseInto 30 = .ok (.iload_n 3, 1) := by decide +kernel
theorem dX7_parseInto_31 : decode cX7_parseInto 31 = .ok (.iaload, 1) := by decide +kernel
theorem dX7_parseInto_32 : decode cX7_parseInto 32 = .ok (.bipush 48, 2) := by decide +kernel
theorem dX7_parseInto_34 : decode cX7_parseInto 34 = .ok (.bipush 57, 2) := by decide +kernel
theorem dX7_parseInto_36 : decode cX7_parseInto 36 = .ok (.invokestatic 19, 3) := by decide +kernel
theorem dX7_parseInto_39 : decode cX7_parseInto 39 = .ok (.ifCond .eq 9, 3) := by decide +kernel
theorem dX7_parseInto_42 : decode cX7_parseInto 42 = .ok (.iload_n 2, 1) := by decide +kernel
theorem dX7_parseInto_43 : decode cX7_parseInto 43 = .ok (.bipush 9, 2) := by decide +kernel
theorem dX7_parseInto_45 : decode cX7_parseInto 45 = .ok (.if_icmp .lt 8, 3) := by decide +kernel
theorem dX7_parseInto_48 : decode cX7_parseInto 48 = .ok (.bipush (-20), 2) := by decide +kernel
theorem dX7_parseInto_50 : decode cX7_parseInto 50 = .ok (.iload_n 3, 1) := by decide +kernel
theorem dX7_parseInto_51 : decode cX7_parseInto 51 = .ok (.isub, 1) := by decide +kernel
theorem dX7_parseInto_52 : decode cX7_parseInto 52 = .ok (.ireturn, 1) := by decide +kernel
theorem dX7_parseInto_53 : decode cX7_parseInto 53 = .ok (.aload_n 1, 1) := by decide +kernel
theorem dX7_parseInto_54 : decode cX7_parseInto 54 = .ok (.iload_n 2, 1) := by decide +kernel
theorem dX7_parseInto_55 : decode cX7_parseInto 55 = .ok (.iinc 2 1, 3) := by decide +kernel
theorem dX7_parseInto_58 : decode cX7_parseInto 58 = .ok (.aload_n 0, 1) := by decide +kernel
theorem dX7_parseInto_59 : decode cX7_parseInto 59 = .ok (.getfield 9, 3) := by decide +kernel
theorem dX7_parseInto_62 : decode cX7_parseInto 62 = .ok (.iload_n 3, 1) := by decide +kernel
theorem dX7_parseInto_63 : decode cX7_parseInto 63 = .ok (.iaload, 1) := by decide +kernel
theorem dX7_parseInto_64 : decode cX7_parseInto 64 = .ok (.bipush 48, 2) := by decide +kernel
theorem dX7_parseInto_66 : decode cX7_parseInto 66 = .ok (.isub, 1) := by decide +kernel
theorem dX7_parseInto_67 : decode cX7_parseInto 67 = .ok (.iastore, 1) := by decide +kernel
theorem dX7_parseInto_68 : decode cX7_parseInto 68 = .ok (.iinc 3 1, 3) := by decide +kernel
theorem dX7_parseInto_71 : decode cX7_parseInto 71 = .ok (.goto (-67), 3) := by decide +kernel
theorem dX7_parseInto_74 : decode cX7_parseInto 74 = .ok (.iload_n 2, 1) := by decide +kernel
theorem dX7_parseInto_75 : decode cX7_parseInto 75 = .ok (.ifCond .le 7, 3) := by decide +kernel
theorem dX7_parseInto_78 : decode cX7_parseInto 78 = .ok (.iload_n 2, 1) := by decide +kernel
theorem dX7_parseInto_79 : decode cX7_parseInto 79 = .ok (.goto 10, 3) := by decide +kernel
theorem dX7_parseInto_82 : decode cX7_parseInto 82 = .ok (.bipush (-20), 2) := by decide +kernel
theorem dX7_parseInto_84 : decode cX7_parseInto 84 = .ok (.aload_n 0, 1) := by decide +kernel
theorem dX7_parseInto_85 : decode cX7_parseInto 85 = .ok (.getfield 15, 3) := by decide +kernel
theorem dX7_parseInto_88 : decode cX7_parseInto 88 = .ok (.isub, 1) := by decide +kernel
theorem dX7_parseInto_89 : decode cX7_parseInto 89 = .ok (.ireturn, 1) := by decide +kernel
theorem dJ6_bitCount_0f7a4_0 : decode cJ6_bitCount_0f7a4 0 = .ok (.iload_n 0, 1) := by decide +kernel
theorem dJ6_bitCount_0f7a4_1 : decode cJ6_bitCount_0f7a4 1 = .ok (.iload_n 0, 1) := by decide +kernel
theorem dJ6_bitCount_0f7a4_2 : decode cJ6_bitCount_0f7a4 2 = .ok (.iconst 1, 1) := by decide +kernel
theorem dJ6_bitCount_0f7a4_3 : decode cJ6_bitCount_0f7a4 3 = .ok (.iushr, 1) := by decide +kernel
theorem dJ6_bitCount_0f7a4_4 : decode cJ6_bitCount_0f7a4 4 = .ok (.ldc_w 265, 3) := by decide +kernel
theorem dJ6_bitCount_0f7a4_7 : decode cJ6_bitCount_0f7a4 7 = .ok (.iand, 1) := by decide +kernel
theorem dJ6_bitCount_0f7a4_8 : decode cJ6_bitCount_0f7a4 8 = .ok (.isub, 1) := by decide +kernel
theorem dJ6_bitCount_0f7a4_9 : decode cJ6_bitCount_0f7a4 9 = .ok (.istore_n 0, 1) := by decide +kernel
theorem dJ6_bitCount_0f7a4_10 : decode cJ6_bitCount_0f7a4 10 = .ok (.iload_n 0, 1) := by decide +kernel
theorem dJ6_bitCount_0f7a4_11 : decode cJ6_bitCount_0f7a4 11 = .ok (.ldc_w 266, 3) := by decide +kernel
theorem dJ6_bitCount_0f7a4_14 : decode cJ6_bitCount_0f7a4 14 = .ok (.iand, 1) := by decide +kernel
theorem dJ6_bitCount_0f7a4_15 : decode cJ6_bitCount_0f7a4 15 = .ok (.iload_n 0, 1) := by decide +kernel
theorem dJ6_bitCount_0f7a4_16 : decode cJ6_bitCount_0f7a4 16 = .ok (.iconst 2, 1) := by decide +kernel
theorem dJ6_bitCount_0f7a4_17 : decode cJ6_bitCount_0f7a4 17 = .ok (.iushr, 1) := by decide +kernel
theorem dJ6_bitCount_0f7a4_18 : decode cJ6_bitCount_0f7a4 18 = .ok (.ldc_w 266, 3) := by decide +kernel
theorem dJ6_bitCount_0f7a4_21 : decode cJ6_bitCount_0f7a4 21 = .ok (.iand, 1) := by decide +kernel
theorem dJ6_bitCount_0f7a4_22 : decode cJ6_bitCount_0f7a4 22 = .ok (.iadd, 1) := by decide +kernel
theorem dJ6_bitCount_0f7a4_23 : decode cJ6_bitCount_0f7a4 23 = .ok (.istore_n 0, 1) := by decide +kernel
theorem dJ6_bitCount_0f7a4_24 : decode cJ6_bitCount_0f7a4 24 = .ok (.iload_n 0, 1) := by decide +kernel
theorem dJ6_bitCount_0f7a4_25 : decode cJ6_bitCount_0f7a4 25 = .ok (.iload_n 0, 1) := by decide +kernel
theorem dJ6_bitCount_0f7a4_26 : decode cJ6_bitCount_0f7a4 26 = .ok (.iconst 4, 1) := by decide +kernel
theorem dJ6_bitCount_0f7a4_27 : decode cJ6_bitCount_0f7a4 27 = .ok (.iushr, 1) := by decide +kernel
theorem dJ6_bitCount_0f7a4_28 : decode cJ6_bitCount_0f7a4 28 = .ok (.iadd, 1) := by decide +kernel
theorem dJ6_bitCount_0f7a4_29 : decode cJ6_bitCount_0f7a4 29 = .ok (.ldc_w 267, 3) := by decide +kernel
theorem dJ6_bitCount_0f7a4_32 : decode cJ6_bitCount_0f7a4 32 = .ok (.iand, 1) := by decide +kernel
theorem dJ6_bitCount_0f7a4_33 : decode cJ6_bitCount_0f7a4 33 = .ok (.istore_n 0, 1) := by decide +kernel
theorem dJ6_bitCount_0f7a4_34 : decode cJ6_bitCount_0f7a4 34 = .ok (.iload_n 0, 1) := by decide +kernel
theorem dJ6_bitCount_0f7a4_35 : decode cJ6_bitCount_0f7a4 35 = .ok (.iload_n 0, 1) := by decide +kernel
theorem dJ6_bitCount_0f7a4_36 : decode cJ6_bitCount_0f7a4 36 = .ok (.bipush 8, 2) := by decide +kernel
theorem dJ6_bitCount_0f7a4_38 : decode cJ6_bitCount_0f7a4 38 = .ok (.iushr, 1) := by decide +kernel
theorem dJ6_bitCount_0f7a4_39 : decode cJ6_bitCount_0f7a4 39 = .ok (.iadd, 1) := by decide +kernel
theorem dJ6_bitCount_0f7a4_40 : decode cJ6_bitCount_0f7a4 40 = .ok (.istore_n 0, 1) := by decide +kernel
theorem dJ6_bitCount_0f7a4_41 : decode cJ6_bitCount_0f7a4 41 = .ok (.iload_n 0, 1) := by decide +kernel
theorem dJ6_bitCount_0f7a4_42 : decode cJ6_bitCount_0f7a4 42 = .ok (.iload_n 0, 1) := by decide +kernel
theorem dJ6_bitCount_0f7a4_43 : decode cJ6_bitCount_0f7a4 43 = .ok (.bipush 16, 2) := by decide +kernel
theorem dJ6_bitCount_0f7a4_45 : decode cJ6_bitCount_0f7a4 45 = .ok (.iushr, 1) := by decide +kernel
theorem dJ6_bitCount_0f7a4_46 : decode cJ6_bitCount_0f7a4 46 = .ok (.iadd, 1) := by decide +kernel
theorem dJ6_bitCount_0f7a4_47 : decode cJ6_bitCount_0f7a4 47 = .ok (.istore_n 0, 1) := by decide +kernel
theorem dJ6_bitCount_0f7a4_48 : decode cJ6_bitCount_0f7a4 48 = .ok (.iload_n 0, 1) := by decide +kernel
theorem dJ6_bitCount_0f7a4_49 : decode cJ6_bitCount_0f7a4 49 = .ok (.bipush 63, 2) := by decide +kernel
theorem dJ6_bitCount_0f7a4_51 : decode cJ6_bitCount_0f7a4 51 = .ok (.iand, 1) := by decide +kernel
theorem dJ6_bitCount_0f7a4_52 : decode cJ6_bitCount_0f7a4 52 = .ok (.ireturn, 1) := by decide +kernel
theorem dJ9_max_7cf53_0 : decode cJ9_max_7cf53 0 = .ok (.iload_n 0, 1) := by decide +kernel
theorem dJ9_max_7cf53_1 : decode cJ9_max_7cf53 1 = .ok (.iload_n 1, 1) := by decide +kernel
theorem dJ9_max_7cf53_2 : decode cJ9_max_7cf53 2 = .ok (.if_icmp .lt 7, 3) := by decide +kernel
theorem dJ9_max_7cf53_5 : decode cJ9_max_7cf53 5 = .ok (.iload_n 0, 1) := by decide +kernel
theorem dJ9_max_7cf53_6 : decode cJ9_max_7cf53 6 = .ok (.goto 4, 3) := by decide +kernel
theorem dJ9_max_7cf53_9 : decode cJ9_max_7cf53 9 = .ok (.iload_n 1, 1) := by decide +kernel
theorem dJ9_max_7cf53_10 : decode cJ9_max_7cf53 10 = .ok (.ireturn, 1) := by decide +kernel
theorem dJ9_min_7cf53_0 : decode cJ9_min_7cf53 0 = .ok (.iload_n 0, 1) := by decide +kernel
theorem dJ9_min_7cf53_1 : decode cJ9_min_7cf53 1 = .ok (.iload_n 1, 1) := by decide +kernel
theorem dJ9_min_7cf53_2 : decode cJ9_min_7cf53 2 = .ok (.if_icmp .gt 7, 3) := by decide +kernel
theorem dJ9_min_7cf53_5 : decode cJ9_min_7cf53 5 = .ok (.iload_n 0, 1) := by decide +kernel
theorem dJ9_min_7cf53_6 : decode cJ9_min_7cf53 6 = .ok (.goto 4, 3) := by decide +kernel
theorem dJ9_min_7cf53_9 : decode cJ9_min_7cf53 9 = .ok (.iload_n 1, 1) := by decide +kernel
theorem dJ9_min_7cf53_10 : decode cJ9_min_7cf53 10 = .ok (.ireturn, 1) := by decide +kernel
