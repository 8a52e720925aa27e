theorem dX8_init_0 : decode cX8_init 0 = .ok (.aload_n 0, 1) := by decide +kernel
theorem dX8_init_1 : decode cX8_init 1 = .ok (.invokespecial 1, 3) := by decide +kernel
theorem dX8_init_4 : decode cX8_init 4 = .ok (.aload_n 0, 1) := by decide +kernel
theorem dX8_init_5 : decode cX8_init 5 = .ok (.new 7, 3) := by decide +kernel
theorem dX8_init_8 : decode cX8_init 8 = .ok (.dup, 1) := by decide +kernel
theorem dX8_init_9 : decode cX8_init 9 = .ok (.invokespecial 9, 3) := by decide +kernel
theorem dX8_init_12 : decode cX8_init 12 = .ok (.putfield 10, 3) := by decide +kernel
theorem dX8_init_15 : decode cX8_init 15 = .ok (.aload_n 0, 1) := by decide +kernel
theorem dX8_init_16 : decode cX8_init 16 = .ok (.new 7, 3) := by decide +kernel
theorem dX8_init_19 : decode cX8_init 19 = .ok (.dup, 1) := by decide +kernel
theorem dX8_init_20 : decode cX8_init 20 = .ok (.invokespecial 9, 3) := by decide +kernel
theorem dX8_init_23 : decode cX8_init 23 = .ok (.putfield 16, 3) := by decide +kernel
theorem dX8_init_26 : decode cX8_init 26 = .ok (.aload_n 0, 1) := by decide +kernel
theorem dX8_init_27 : decode cX8_init 27 = .ok (.new 19, 3) := by decide +kernel
theorem dX8_init_30 : decode cX8_init 30 = .ok (.dup, 1) := by decide +kernel
theorem dX8_init_31 : decode cX8_init 31 = .ok (.invokespecial 21, 3) := by decide +kernel
theorem dX8_init_34 : decode cX8_init 34 = .ok (.putfield 22, 3) := by decide +kernel
theorem dX8_init_37 : decode cX8_init 37 = .ok (.aload_n 0, 1) := by decide +kernel
theorem dX8_init_38 : decode cX8_init 38 = .ok (.iconst 4, 1) := by decide +kernel
theorem dX8_init_39 : decode cX8_init 39 = .ok (.anewarray 26, 3) := by decide +kernel
theorem dX8_init_42 : decode cX8_init 42 = .ok (.putfield 28, 3) := by decide +kernel
theorem dX8_init_45 : decode cX8_init 45 = .ok (.aload_n 0, 1) := by decide +kernel
theorem dX8_init_46 : decode cX8_init 46 = .ok (.bipush 16, 2) := by decide +kernel
theorem dX8_init_48 : decode cX8_init 48 = .ok (.newarray .int, 2) := by decide +kernel
theorem dX8_init_50 : decode cX8_init 50 = .ok (.putfield 32, 3) := by decide +kernel
theorem dX8_init_53 : decode cX8_init 53 = .ok (.aload_n 0, 1) := by decide +kernel
theorem dX8_init_54 : decode cX8_init 54 = .ok (.bipush 18, 2) := by decide +kernel
theorem dX8_init_56 : decode cX8_init 56 = .ok (.newarray .int, 2) := by decide +kernel
theorem dX8_init_58 : decode cX8_init 58 = .ok (.putfield 36, 3) := by decide +kernel
theorem dX8_init_61 : decode cX8_init 61 = .ok (.aload_n 0, 1) := by decide +kernel
theorem dX8_init_62 : decode cX8_init 62 = .ok (.new 39, 3) := by decide +kernel
theorem dX8_init_65 : decode cX8_init 65 = .ok (.dup, 1) := by decide +kernel
theorem dX8_init_66 : decode cX8_init 66 = .ok (.invokespecial 41, 3) := by decide +kernel
theorem dX8_init_69 : decode cX8_init 69 = .ok (.putfield 42, 3) := by decide +kernel
theorem dX8_init_72 : decode cX8_init 72 = .ok (.aload_n 0, 1) := by decide +kernel
theorem dX8_init_73 : decode cX8_init 73 = .ok (.new 46, 3) := by decide +kernel
theorem dX8_init_76 : decode cX8_init 76 = .ok (.dup, 1) := by decide +kernel
theorem dX8_init_77 : decode cX8_init 77 = .ok (.invokespecial 48, 3) := by decide +kernel
theorem dX8_init_80 : decode cX8_init 80 = .ok (.putfield 49, 3) := by decide +kernel
theorem dX8_init_83 : decode cX8_init 83 = .ok (.aload_n 0, 1) := by decide +kernel
theorem dX8_init_84 : decode cX8_init 84 = .ok (.new 53, 3) := by decide +kernel
theorem dX8_init_87 : decode cX8_init 87 = .ok (.dup, 1) := by decide +kernel
theorem dX8_init_88 : decode cX8_init 88 = .ok (.invokespecial 55, 3) := by decide +kernel
theorem dX8_init_91 : decode cX8_init 91 = .ok (.putfield 56, 3) := by decide +kernel
theorem dX8_init_94 : decode cX8_init 94 = .ok (.aload_n 0, 1) := by decide +kernel
theorem dX8_init_95 : decode cX8_init 95 = .ok (.new 60, 3) := by decide +kernel
theorem dX8_init_98 : decode cX8_init 98 = .ok (.dup, 1) := by decide +kernel
theorem dX8_init_99 : decode cX8_init 99 = .ok (.invokespecial 62, 3) := by decide +kernel
theorem dX8_init_102 : decode cX8_init 102 = .ok (.putfield 63, 3) := by decide +kernel
theorem dX8_init_105 : decode cX8_init 105 = .ok (.aload_n 0, 1) := by decide +kernel
theorem dX8_init_106 : decode cX8_init 106 = .ok (.new 67, 3) := by decide +kernel
theorem dX8_init_109 : decode cX8_init 109 = .ok (.dup, 1) := by decide +kernel
theorem dX8_init_110 : decode cX8_init 110 = .ok (.invokespecial 69, 3) := by decide +kernel
theorem dX8_init_113 : decode cX8_init 113 = .ok (.putfield 70, 3) := by decide +kernel
theorem dX8_init_116 : decode cX8_init 116 = .ok (.iconst 0, 1) := by decide +kernel
theorem dX8_init_117 : decode cX8_init 117 = .ok (.istore_n 1, 1) := by decide +kernel
theorem dX8_init_118 : decode cX8_init 118 = .ok (.iload_n 1, 1) := by decide +kernel
theorem dX8_init_119 : decode cX8_init 119 = .ok (.iconst 4, 1) := by decide +kernel
theorem dX8_init_120 : decode cX8_init 120 = .ok (.if_icmp .ge 22, 3) := by decide +kernel
theorem dX8_init_123 : decode cX8_init 123 = .ok (.aload_n 0, 1) := by decide +kernel
theorem dX8_init_124 : decode cX8_init 124 = .ok (.getfield 28, 3) := by decide +kernel
theorem dX8_init_127 : decode cX8_init 127 = .ok (.iload_n 1, 1) := by decide +kernel
theorem dX8_init_128 : decode cX8_init 128 = .ok (.new 26, 3) := by decide +kernel
theorem dX8_init_131 : decode cX8_init 131 = .ok (.dup, 1) := by decide +kernel
theorem dX8_init_132 : decode cX8_init 132 = .ok (.invokespecial 74, 3) := by decide +kernel
theorem dX8_init_135 : decode cX8_init 135 = .ok (.aastore, 1) := by decide +kernel
theorem dX8_init_136 : decode cX8_init 136 = .ok (.iinc 1 1, 3) := by decide +kernel
theorem dX8_init_139 : decode cX8_init 139 = .ok (.goto (-21), 3) := by decide +kernel
theorem dX8_init_142 : decode cX8_init 142 = .ok (.return_, 1) := by decide +kernel
theorem dX8_type_0 : decode cX8_type 0 = .ok (.iload_n 3, 1) := by decide +kernel
theorem dX8_type_1 : decode cX8_type 1 = .ok (.iconst 1, 1) := by decide +kernel
theorem dX8_type_2 : decode cX8_type 2 = .ok (.bipush 8, 2) := by decide +kernel
theorem dX8_type_4 : decode cX8_type 4 = .ok (.invokestatic 75, 3) := by decide +kernel
theorem dX8_type_7 : decode cX8_type 7 = .ok (.ifCond .ne 5, 3) := by decide +kernel
theorem dX8_type_10 : decode cX8_type 10 = .ok (.iconst (-1), 1) := by decide +kernel
theorem dX8_type_11 : decode cX8_type 11 = .ok (.ireturn, 1) := by decide +kernel
theorem dX8_type_12 : decode cX8_type 12 = .ok (.iconst 0, 1) := by decide +kernel
theorem dX8_type_13 : decode cX8_type 13 = .ok (.istore 4, 2) := by decide +kernel
theorem dX8_type_15 : decode cX8_type 15 = .ok (.iload 4, 2) := by decide +kernel
theorem dX8_type_17 : decode cX8_type 17 = .ok (.iload_n 3, 1) := by decide +kernel
theorem dX8_type_18 : decode cX8_type 18 = .ok (.if_icmp .ge 27, 3) := by decide +kernel
theorem dX8_type_21 : decode cX8_type 21 = .ok (.lload_n 1, 1) := by decide +kernel
theorem dX8_type_22 : decode cX8_type 22 = .ok (.iload 4, 2) := by decide +kernel
theorem dX8_type_24 : decode cX8_type 24 = .ok (.invokestatic 79, 3) := by decide +kernel
theorem dX8_type_27 : decode cX8_type 27 = .ok (.bipush 32, 2) := by decide +kernel
theorem dX8_type_29 : decode cX8_type 29 = .ok (.bipush 126, 2) := by decide +kernel
theorem dX8_type_31 : decode cX8_type 31 = .ok (.invokestatic 75, 3) := by decide +kernel
theorem dX8_type_34 : decode cX8_type 34 = .ok (.ifCond .ne 5, 3) := by decide +kernel
theorem dX8_type_37 : decode cX8_type 37 = .ok (.iconst (-1), 1) := by decide +kernel
theorem dX8_type_38 : decode cX8_type 38 = .ok (.ireturn, 1) := by decide +kernel
theorem dX8_type_39 : decode cX8_type 39 = .ok (.iinc 4 1, 3) := by decide +kernel
theorem dX8_type_42 : decode cX8_type 42 = .ok (.goto (-27), 3) := by decide +kernel
theorem dX8_type_45 : decode cX8_type 45 = .ok (.aload_n 0, 1) := by decide +kernel
theorem dX8_type_46 : decode cX8_type 46 = .ok (.getfield 22, 3) := by decide +kernel
theorem dX8_type_49 : decode cX8_type 49 = .ok (.getfield 83, 3) := by decide +kernel
theorem dX8_type_52 : decode cX8_type 52 = .ok (.iload_n 3, 1) := by decide +kernel
theorem dX8_type_53 : decode cX8_type 53 = .ok (.iadd, 1) := by decide +kernel
theorem dX8_type_54 : decode cX8_type 54 = .ok (.bipush 24, 2) := by decide +kernel
theorem dX8_type_56 : decode cX8_type 56 = .ok (.if_icmp .le 6, 3) := by decide +kernel
theorem dX8_type_59 : decode cX8_type 59 = .ok (.bipush (-3), 2) := by decide +kernel
theorem dX8_type_61 : decode cX8_type 61 = .ok (.ireturn, 1) := by decide +kernel
theorem dX8_type_62 : decode cX8_type 62 = .ok (.iload_n 3, 1) := by decide +kernel
theorem dX8_type_63 : decode cX8_type 63 = .ok (.iconst 1, 1) := by decide +kernel
theorem dX8_type_64 : decode cX8_type 64 = .ok (.isub, 1) := by decide +kernel
theorem dX8_type_65 : decode cX8_type 65 = .ok (.istore 4, 2) := by decide +kernel
theorem dX8_type_67 : decode cX8_type 67 = .ok (.iload 4, 2) := by decide +kernel
theorem dX8_type_69 : decode cX8_type 69 = .ok (.ifCond .lt 22, 3) := by decide +kernel
theorem dX8_type_72 : decode cX8_type 72 = .ok (.aload_n 0, 1) := by decide +kernel
theorem dX8_type_73 : decode cX8_type 73 = .ok (.getfield 22, 3) := by decide +kernel
theorem dX8_type_76 : decode cX8_type 76 = .ok (.lload_n 1, 1) := by decide +kernel
theorem dX8_type_77 : decode cX8_type 77 = .ok (.iload 4, 2) := by decide +kernel
theorem dX8_type_79 : decode cX8_type 79 = .ok (.invokestatic 79, 3) := by decide +kernel
theorem dX8_type_82 : decode cX8_type 82 = .ok (.invokevirtual 87, 3) := by decide +kernel
theorem dX8_type_85 : decode cX8_type 85 = .ok (.iinc 4 (-1), 3) := by decide +kernel
theorem dX8_type_88 : decode cX8_type 88 = .ok (.goto (-21), 3) := by decide +kernel
theorem dX8_type_91 : decode cX8_type 91 = .ok (.aload_n 0, 1) := by decide +kernel
theorem dX8_type_92 : decode cX8_type 92 = .ok (.getfield 22, 3) := by decide +kernel
theorem dX8_type_95 : decode cX8_type 95 = .ok (.getfield 83, 3) := by decide +kernel
theorem dX8_type_98 : decode cX8_type 98 = .ok (.ireturn, 1) := by decide +kernel
theorem dX8_tale_0 : decode cX8_tale 0 = .ok (.aload_n 0, 1) := by decide +kernel
theorem dX8_tale_1 : decode cX8_tale 1 = .ok (.getfield 22, 3) := by decide +kernel
theorem dX8_tale_4 : decode cX8_tale 4 = .ok (.aload_n 0, 1) := by decide +kernel
theorem dX8_tale_5 : decode cX8_tale 5 = .ok (.getfield 32, 3) := by decide +kernel
theorem dX8_tale_8 : decode cX8_tale 8 = .ok (.invokevirtual 91, 3) := by decide +kernel
theorem dX8_tale_11 : decode cX8_tale 11 = .ok (.istore_n 1, 1) := by decide +kernel
theorem dX8_tale_12 : decode cX8_tale 12 = .ok (.aload_n 0, 1) := by decide +kernel
theorem dX8_tale_13 : decode cX8_tale 13 = .ok (.getfield 22, 3) := by decide +kernel
theorem dX8_tale_16 : decode cX8_tale 16 = .ok (.iconst 0, 1) := by decide +kernel
theorem dX8_tale_17 : decode cX8_tale 17 = .ok (.putfield 83, 3) := by decide +kernel
theorem dX8_tale_20 : decode cX8_tale 20 = .ok (.iload_n 1, 1) := by decide +kernel
theorem dX8_tale_21 : decode cX8_tale 21 = .ok (.ifCond .ge 5, 3) := by decide +kernel
theorem dX8_tale_24 : decode cX8_tale 24 = .ok (.iload_n 1, 1) := by decide +kernel
theorem dX8_tale_25 : decode cX8_tale 25 = .ok (.ireturn, 1) := by decide +kernel
theorem dX8_tale_26 : decode cX8_tale 26 = .ok (.aload_n 0, 1) := by decide +kernel
theorem dX8_tale_27 : decode cX8_tale 27 = .ok (.getfield 10, 3) := by decide +kernel
theorem dX8_tale_30 : decode cX8_tale 30 = .ok (.getfield 95, 3) := by decide +kernel
theorem dX8_tale_33 : decode cX8_tale 33 = .ok (.bipush 8, 2) := by decide +kernel
theorem dX8_tale_35 : decode cX8_tale 35 = .ok (.if_icmp .lt 8, 3) := by decide +kernel
theorem dX8_tale_38 : decode cX8_tale 38 = .ok (.bipush (-3), 2) := by decide +kernel
theorem dX8_tale_40 : decode cX8_tale 40 = .ok (.goto 15, 3) := by decide +kernel
theorem dX8_tale_43 : decode cX8_tale 43 = .ok (.aload_n 0, 1) := by decide +kernel
theorem dX8_tale_44 : decode cX8_tale 44 = .ok (.getfield 10, 3) := by decide +kernel
theorem dX8_tale_47 : decode cX8_tale 47 = .ok (.aload_n 0, 1) := by decide +kernel
theorem dX8_tale_48 : decode cX8_tale 48 = .ok (.getfield 32, 3) := by decide +kernel
theorem dX8_tale_51 : decode cX8_tale 51 = .ok (.iload_n 1, 1) := by decide +kernel
theorem dX8_tale_52 : decode cX8_tale 52 = .ok (.invokevirtual 98, 3) := by decide +kernel
theorem dX8_tale_55 : decode cX8_tale 55 = .ok (.ireturn, 1) := by decide +kernel
theorem dX8_change_0 : decode cX8_change 0 = .ok (.aload_n 0, 1) := by decide +kernel
theorem dX8_change_1 : decode cX8_change 1 = .ok (.getfield 10, 3) := by decide +kernel
theorem dX8_change_4 : decode cX8_change 4 = .ok (.iload_n 1, 1) := by decide +kernel
theorem dX8_change_5 : decode cX8_change 5 = .ok (.iload_n 2, 1) := by decide +kernel
theorem dX8_change_6 : decode cX8_change 6 = .ok (.invokevirtual 102, 3) := by decide +kernel
theorem dX8_change_9 : decode cX8_change 9 = .ok (.ifCond .eq 13, 3) := by decide +kernel
theorem dX8_change_12 : decode cX8_change 12 = .ok (.iload_n 3, 1) := by decide +kernel
theorem dX8_change_13 : decode cX8_change 13 = .ok (.iconst 0, 1) := by decide +kernel
theorem dX8_change_14 : decode cX8_change 14 = .ok (.bipush 9, 2) := by decide +kernel
theorem dX8_change_16 : decode cX8_change 16 = .ok (.invokestatic 75, 3) := by decide +kernel
theorem dX8_change_19 : decode cX8_change 19 = .ok (.ifCond .ne 5, 3) := by decide +kernel
theorem dX8_change_22 : decode cX8_change 22 = .ok (.iconst (-1), 1) := by decide +kernel
theorem dX8_change_23 : decode cX8_change 23 = .ok (.ireturn, 1) := by decide +kernel
theorem dX8_change_24 : decode cX8_change 24 = .ok (.aload_n 0, 1) := by decide +kernel
theorem dX8_change_25 : decode cX8_change 25 = .ok (.getfield 10, 3) := by decide +kernel
theorem dX8_change_28 : decode cX8_change 28 = .ok (.getfield 106, 3) := by decide +kernel
theorem dX8_change_31 : decode cX8_change 31 = .ok (.iload_n 1, 1) := by decide +kernel
theorem dX8_change_32 : decode cX8_change 32 = .ok (.if_icmp .ne 6, 3) := by decide +kernel
theorem dX8_change_35 : decode cX8_change 35 = .ok (.bipush (-2), 2) := by decide +kernel
theorem dX8_change_37 : decode cX8_change 37 = .ok (.ireturn, 1) := by decide +kernel
theorem dX8_change_38 : decode cX8_change 38 = .ok (.aload_n 0, 1) := by decide +kernel
theorem dX8_change_39 : decode cX8_change 39 = .ok (.getfield 10, 3) := by decide +kernel
theorem dX8_change_42 : decode cX8_change 42 = .ok (.getfield 109, 3) := by decide +kernel
theorem dX8_change_45 : decode cX8_change 45 = .ok (.iload_n 1, 1) := by decide +kernel
theorem dX8_change_46 : decode cX8_change 46 = .ok (.aaload, 1) := by decide +kernel
theorem dX8_change_47 : decode cX8_change 47 = .ok (.iload_n 2, 1) := by decide +kernel
theorem dX8_change_48 : decode cX8_change 48 = .ok (.iaload, 1) := by decide +kernel
theorem dX8_change_49 : decode cX8_change 49 = .ok (.istore 4, 2) := by decide +kernel
theorem dX8_change_51 : decode cX8_change 51 = .ok (.aload_n 0, 1) := by decide +kernel
theorem dX8_change_52 : decode cX8_change 52 = .ok (.getfield 10, 3) := by decide +kernel
theorem dX8_change_55 : decode cX8_change 55 = .ok (.getfield 109, 3) := by decide +kernel
theorem dX8_change_58 : decode cX8_change 58 = .ok (.iload_n 1, 1) := by decide +kernel
theorem dX8_change_59 : decode cX8_change 59 = .ok (.aaload, 1) := by decide +kernel
theorem dX8_change_60 : decode cX8_change 60 = .ok (.iload_n 2, 1) := by decide +kernel
theorem dX8_change_61 : decode cX8_change 61 = .ok (.iload_n 3, 1) := by decide +kernel
theorem dX8_change_62 : decode cX8_change 62 = .ok (.iastore, 1) := by decide +kernel
theorem dX8_change_63 : decode cX8_change 63 = .ok (.iload 4, 2) := by decide +kernel
theorem dX8_change_65 : decode cX8_change 65 = .ok (.ireturn, 1) := by decide +kernel
theorem dX8_teller_0 : decode cX8_teller 0 = .ok (.iload_n 1, 1) := by decide +kernel
theorem dX8_teller_1 : decode cX8_teller 1 = .ok (.iconst 0, 1) := by decide +kernel
theorem dX8_teller_2 : decode cX8_teller 2 = .ok (.iconst 3, 1) := by decide +kernel
theorem dX8_teller_3 : decode cX8_teller 3 = .ok (.invokestatic 75, 3) := by decide +kernel
theorem dX8_teller_6 : decode cX8_teller 6 = .ok (.ifCond .ne 5, 3) := by decide +kernel
theorem dX8_teller_9 : decode cX8_teller 9 = .ok (.iconst (-1), 1) := by decide +kernel
theorem dX8_teller_10 : decode cX8_teller 10 = .ok (.ireturn, 1) := by decide +kernel
theorem dX8_teller_11 : decode cX8_teller 11 = .ok (.aload_n 0, 1) := by decide +kernel
theorem dX8_teller_12 : decode cX8_teller 12 = .ok (.getfield 10, 3) := by decide +kernel
theorem dX8_teller_15 : decode cX8_teller 15 = .ok (.getfield 113, 3) := by decide +kernel
theorem dX8_teller_18 : decode cX8_teller 18 = .ok (.iconst 4, 1) := by decide +kernel
theorem dX8_teller_19 : decode cX8_teller 19 = .ok (.if_icmp .lt 6, 3) := by decide +kernel
theorem dX8_teller_22 : decode cX8_teller 22 = .ok (.bipush (-3), 2) := by decide +kernel
theorem dX8_teller_24 : decode cX8_teller 24 = .ok (.ireturn, 1) := by decide +kernel
theorem dX8_teller_25 : decode cX8_teller 25 = .ok (.aload_n 0, 1) := by decide +kernel
theorem dX8_teller_26 : decode cX8_teller 26 = .ok (.getfield 10, 3) := by decide +kernel
theorem dX8_teller_29 : decode cX8_teller 29 = .ok (.getfield 116, 3) := by decide +kernel
theorem dX8_teller_32 : decode cX8_teller 32 = .ok (.aload_n 0, 1) := by decide +kernel
theorem dX8_teller_33 : decode cX8_teller 33 = .ok (.getfield 10, 3) := by decide +kernel
theorem dX8_teller_36 : decode cX8_teller 36 = .ok (.getfield 113, 3) := by decide +kernel
theorem dX8_teller_39 : decode cX8_teller 39 = .ok (.iload_n 1, 1) := by decide +kernel
theorem dX8_teller_40 : decode cX8_teller 40 = .ok (.iastore, 1) := by decide +kernel
theorem dX8_teller_41 : decode cX8_teller 41 = .ok (.aload_n 0, 1) := by decide +kernel
theorem dX8_teller_42 : decode cX8_teller 42 = .ok (.getfield 10, 3) := by decide +kernel
theorem dX8_teller_45 : decode cX8_teller 45 = .ok (.dup, 1) := by decide +kernel
theorem dX8_teller_46 : decode cX8_teller 46 = .ok (.getfield 113, 3) := by decide +kernel
theorem dX8_teller_49 : decode cX8_teller 49 = .ok (.dup_x1, 1) := by decide +kernel
theorem dX8_teller_50 : decode cX8_teller 50 = .ok (.iconst 1, 1) := by decide +kernel
theorem dX8_teller_51 : decode cX8_teller 51 = .ok (.iadd, 1) := by decide +kernel
theorem dX8_teller_52 : decode cX8_teller 52 = .ok (.putfield 113, 3) := by decide +kernel
theorem dX8_teller_55 : decode cX8_teller 55 = .ok (.ireturn, 1) := by decide +kernel
theorem dX8_spinner_0 : decode cX8_spinner 0 = .ok (.aload_n 0, 1) := by decide +kernel
theorem dX8_spinner_1 : decode cX8_spinner 1 = .ok (.getfield 10, 3) := by decide +kernel
theorem dX8_spinner_4 : decode cX8_spinner 4 = .ok (.getfield 119, 3) := by decide +kernel
theorem dX8_spinner_7 : decode cX8_spinner 7 = .ok (.iconst 4, 1) := by decide +kernel
theorem dX8_spinner_8 : decode cX8_spinner 8 = .ok (.if_icmp .lt 8, 3) := by decide +kernel
theorem dX8_spinner_11 : decode cX8_spinner 11 = .ok (.bipush (-3), 2) := by decide +kernel
theorem dX8_spinner_13 : decode cX8_spinner 13 = .ok (.goto 17, 3) := by decide +kernel
theorem dX8_spinner_16 : decode cX8_spinner 16 = .ok (.aload_n 0, 1) := by decide +kernel
theorem dX8_spinner_17 : decode cX8_spinner 17 = .ok (.getfield 10, 3) := by decide +kernel
theorem dX8_spinner_20 : decode cX8_spinner 20 = .ok (.dup, 1) := by decide +kernel
theorem dX8_spinner_21 : decode cX8_spinner 21 = .ok (.getfield 119, 3) := by decide +kernel
theorem dX8_spinner_24 : decode cX8_spinner 24 = .ok (.dup_x1, 1) := by decide +kernel
theorem dX8_spinner_25 : decode cX8_spinner 25 = .ok (.iconst 1, 1) := by decide +kernel
theorem dX8_spinner_26 : decode cX8_spinner 26 = .ok (.iadd, 1) := by decide +kernel
theorem dX8_spinner_27 : decode cX8_spinner 27 = .ok (.putfield 119, 3) := by decide +kernel
theorem dX8_spinner_30 : decode cX8_spinner 30 = .ok (.ireturn, 1) := by decide +kernel
theorem dX8_memory_0 : decode cX8_memory 0 = .ok (.iload_n 1, 1) := by decide +kernel
theorem dX8_memory_1 : decode cX8_memory 1 = .ok (.iconst 1, 1) := by decide +kernel
theorem dX8_memory_2 : decode cX8_memory 2 = .ok (.bipush 99, 2) := by decide +kernel
theorem dX8_memory_4 : decode cX8_memory 4 = .ok (.invokestatic 75, 3) := by decide +kernel
theorem dX8_memory_7 : decode cX8_memory 7 = .ok (.ifCond .ne 5, 3) := by decide +kernel
theorem dX8_memory_10 : decode cX8_memory 10 = .ok (.iconst (-1), 1) := by decide +kernel
theorem dX8_memory_11 : decode cX8_memory 11 = .ok (.ireturn, 1) := by decide +kernel
theorem dX8_memory_12 : decode cX8_memory 12 = .ok (.aload_n 0, 1) := by decide +kernel
theorem dX8_memory_13 : decode cX8_memory 13 = .ok (.getfield 10, 3) := by decide +kernel
theorem dX8_memory_16 : decode cX8_memory 16 = .ok (.getfield 122, 3) := by decide +kernel
theorem dX8_memory_19 : decode cX8_memory 19 = .ok (.istore_n 2, 1) := by decide +kernel
theorem dX8_memory_20 : decode cX8_memory 20 = .ok (.aload_n 0, 1) := by decide +kernel
theorem dX8_memory_21 : decode cX8_memory 21 = .ok (.getfield 10, 3) := by decide +kernel
theorem dX8_memory_24 : decode cX8_memory 24 = .ok (.iload_n 1, 1) := by decide +kernel
theorem dX8_memory_25 : decode cX8_memory 25 = .ok (.putfield 122, 3) := by decide +kernel
theorem dX8_memory_28 : decode cX8_memory 28 = .ok (.iload_n 2, 1) := by decide +kernel
theorem dX8_memory_29 : decode cX8_memory 29 = .ok (.ireturn, 1) := by decide +kernel
theorem dX8_told_0 : decode cX8_told 0 = .ok (.iload_n 2, 1) := by decide +kernel
theorem dX8_told_1 : decode cX8_told 1 = .ok (.iconst (-1), 1) := by decide +kernel
theorem dX8_told_2 : decode cX8_told 2 = .ok (.if_icmp .ne 24, 3) := by decide +kernel
theorem dX8_told_5 : decode cX8_told 5 = .ok (.aload_n 0, 1) := by decide +kernel
theorem dX8_told_6 : decode cX8_told 6 = .ok (.getfield 10, 3) := by decide +kernel
theorem dX8_told_9 : decode cX8_told 9 = .ok (.iload_n 1, 1) := by decide +kernel
theorem dX8_told_10 : decode cX8_told 10 = .ok (.invokevirtual 125, 3) := by decide +kernel
theorem dX8_told_13 : decode cX8_told 13 = .ok (.ifCond .eq 13, 3) := by decide +kernel
theorem dX8_told_16 : decode cX8_told 16 = .ok (.aload_n 0, 1) := by decide +kernel
theorem dX8_told_17 : decode cX8_told 17 = .ok (.getfield 10, 3) := by decide +kernel
theorem dX8_told_20 : decode cX8_told 20 = .ok (.getfield 129, 3) := by decide +kernel
theorem dX8_told_23 : decode cX8_told 23 = .ok (.iload_n 1, 1) := by decide +kernel
theorem dX8_told_24 : decode cX8_told 24 = .ok (.iaload, 1) := by decide +kernel
theorem dX8_told_25 : decode cX8_told 25 = .ok (.ireturn, 1) := by decide +kernel
theorem dX8_told_26 : decode cX8_told 26 = .ok (.aload_n 0, 1) := by decide +kernel
theorem dX8_told_27 : decode cX8_told 27 = .ok (.getfield 10, 3) := by decide +kernel
theorem dX8_told_30 : decode cX8_told 30 = .ok (.iload_n 1, 1) := by decide +kernel
theorem dX8_told_31 : decode cX8_told 31 = .ok (.iload_n 2, 1) := by decide +kernel
theorem dX8_told_32 : decode cX8_told 32 = .ok (.invokevirtual 102, 3) := by decide +kernel
theorem dX8_told_35 : decode cX8_told 35 = .ok (.ifCond .eq 17, 3) := by decide +kernel
theorem dX8_told_38 : decode cX8_told 38 = .ok (.aload_n 0, 1) := by decide +kernel
theorem dX8_told_39 : decode cX8_told 39 = .ok (.getfield 10, 3) := by decide +kernel
theorem dX8_told_42 : decode cX8_told 42 = .ok (.getfield 109, 3) := by decide +kernel
theorem dX8_told_45 : decode cX8_told 45 = .ok (.iload_n 1, 1) := by decide +kernel
theorem dX8_told_46 : decode cX8_told 46 = .ok (.aaload, 1) := by decide +kernel
theorem dX8_told_47 : decode cX8_told 47 = .ok (.iload_n 2, 1) := by decide +kernel
theorem dX8_told_48 : decode cX8_told 48 = .ok (.iaload, 1) := by decide +kernel
theorem dX8_told_49 : decode cX8_told 49 = .ok (.goto 4, 3) := by decide +kernel
theorem dX8_told_52 : decode cX8_told 52 = .ok (.iconst (-1), 1) := by decide +kernel
theorem dX8_told_53 : decode cX8_told 53 = .ok (.ireturn, 1) := by decide +kernel
theorem dX8_tells_0 : decode cX8_tells 0 = .ok (.aload_n 0, 1) := by decide +kernel
theorem dX8_tells_1 : decode cX8_tells 1 = .ok (.getfield 10, 3) := by decide +kernel
theorem dX8_tells_4 : decode cX8_tells 4 = .ok (.iload_n 1, 1) := by decide +kernel
theorem dX8_tells_5 : decode cX8_tells 5 = .ok (.invokevirtual 132, 3) := by decide +kernel
theorem dX8_tells_8 : decode cX8_tells 8 = .ok (.ifCond .eq 15, 3) := by decide +kernel
theorem dX8_tells_11 : decode cX8_tells 11 = .ok (.aload_n 0, 1) := by decide +kernel
theorem dX8_tells_12 : decode cX8_tells 12 = .ok (.getfield 10, 3) := by decide +kernel
theorem dX8_tells_15 : decode cX8_tells 15 = .ok (.iload_n 2, 1) := by decide +kernel
theorem dX8_tells_16 : decode cX8_tells 16 = .ok (.iload_n 3, 1) := by decide +kernel
theorem dX8_tells_17 : decode cX8_tells 17 = .ok (.invokevirtual 102, 3) := by decide +kernel
theorem dX8_tells_20 : decode cX8_tells 20 = .ok (.ifCond .ne 5, 3) := by decide +kernel
theorem dX8_tells_23 : decode cX8_tells 23 = .ok (.iconst (-1), 1) := by decide +kernel
theorem dX8_tells_24 : decode cX8_tells 24 = .ok (.ireturn, 1) := by decide +kernel
theorem dX8_tells_25 : decode cX8_tells 25 = .ok (.aload_n 0, 1) := by decide +kernel
theorem dX8_tells_26 : decode cX8_tells 26 = .ok (.getfield 10, 3) := by decide +kernel
theorem dX8_tells_29 : decode cX8_tells 29 = .ok (.iload_n 1, 1) := by decide +kernel
theorem dX8_tells_30 : decode cX8_tells 30 = .ok (.iload_n 2, 1) := by decide +kernel
theorem dX8_tells_31 : decode cX8_tells 31 = .ok (.iload_n 3, 1) := by decide +kernel
theorem dX8_tells_32 : decode cX8_tells 32 = .ok (.invokevirtual 135, 3) := by decide +kernel
theorem dX8_tells_35 : decode cX8_tells 35 = .ok (.ireturn, 1) := by decide +kernel
theorem dX8_yards_0 : decode cX8_yards 0 = .ok (.aload_n 0, 1) := by decide +kernel
theorem dX8_yards_1 : decode cX8_yards 1 = .ok (.getfield 10, 3) := by decide +kernel
theorem dX8_yards_4 : decode cX8_yards 4 = .ok (.iload_n 1, 1) := by decide +kernel
theorem dX8_yards_5 : decode cX8_yards 5 = .ok (.invokevirtual 139, 3) := by decide +kernel
theorem dX8_yards_8 : decode cX8_yards 8 = .ok (.ifCond .eq 24, 3) := by decide +kernel
theorem dX8_yards_11 : decode cX8_yards 11 = .ok (.iload_n 2, 1) := by decide +kernel
theorem dX8_yards_12 : decode cX8_yards 12 = .ok (.invokestatic 142, 3) := by decide +kernel
theorem dX8_yards_15 : decode cX8_yards 15 = .ok (.ifCond .eq 17, 3) := by decide +kernel
theorem dX8_yards_18 : decode cX8_yards 18 = .ok (.aload_n 0, 1) := by decide +kernel
theorem dX8_yards_19 : decode cX8_yards 19 = .ok (.getfield 10, 3) := by decide +kernel
theorem dX8_yards_22 : decode cX8_yards 22 = .ok (.getfield 145, 3) := by decide +kernel
theorem dX8_yards_25 : decode cX8_yards 25 = .ok (.iload_n 1, 1) := by decide +kernel
theorem dX8_yards_26 : decode cX8_yards 26 = .ok (.aaload, 1) := by decide +kernel
theorem dX8_yards_27 : decode cX8_yards 27 = .ok (.iload_n 2, 1) := by decide +kernel
theorem dX8_yards_28 : decode cX8_yards 28 = .ok (.iaload, 1) := by decide +kernel
theorem dX8_yards_29 : decode cX8_yards 29 = .ok (.goto 4, 3) := by decide +kernel
theorem dX8_yards_32 : decode cX8_yards 32 = .ok (.iconst (-1), 1) := by decide +kernel
theorem dX8_yards_33 : decode cX8_yards 33 = .ok (.ireturn, 1) := by decide +kernel
theorem dX8_use_0 : decode cX8_use 0 = .ok (.aload_n 0, 1) := by decide +kernel
theorem dX8_use_1 : decode cX8_use 1 = .ok (.getfield 10, 3) := by decide +kernel
theorem dX8_use_4 : decode cX8_use 4 = .ok (.iload_n 1, 1) := by decide +kernel
theorem dX8_use_5 : decode cX8_use 5 = .ok (.invokevirtual 139, 3) := by decide +kernel
theorem dX8_use_8 : decode cX8_use 8 = .ok (.ifCond .eq 21, 3) := by decide +kernel
theorem dX8_use_11 : decode cX8_use 11 = .ok (.iload_n 2, 1) := by decide +kernel
theorem dX8_use_12 : decode cX8_use 12 = .ok (.invokestatic 142, 3) := by decide +kernel
theorem dX8_use_15 : decode cX8_use 15 = .ok (.ifCond .eq 14, 3) := by decide +kernel
theorem dX8_use_18 : decode cX8_use 18 = .ok (.iload_n 3, 1) := by decide +kernel
theorem dX8_use_19 : decode cX8_use 19 = .ok (.iconst 1, 1) := by decide +kernel
theorem dX8_use_20 : decode cX8_use 20 = .ok (.sipush 999, 3) := by decide +kernel
theorem dX8_use_23 : decode cX8_use 23 = .ok (.invokestatic 75, 3) := by decide +kernel
theorem dX8_use_26 : decode cX8_use 26 = .ok (.ifCond .ne 5, 3) := by decide +kernel
theorem dX8_use_29 : decode cX8_use 29 = .ok (.iconst (-1), 1) := by decide +kernel
theorem dX8_use_30 : decode cX8_use 30 = .ok (.ireturn, 1) := by decide +kernel
theorem dX8_use_31 : decode cX8_use 31 = .ok (.aload_n 0, 1) := by decide +kernel
theorem dX8_use_32 : decode cX8_use 32 = .ok (.getfield 10, 3) := by decide +kernel
theorem dX8_use_35 : decode cX8_use 35 = .ok (.getfield 145, 3) := by decide +kernel
theorem dX8_use_38 : decode cX8_use 38 = .ok (.iload_n 1, 1) := by decide +kernel
theorem dX8_use_39 : decode cX8_use 39 = .ok (.aaload, 1) := by decide +kernel
theorem dX8_use_40 : decode cX8_use 40 = .ok (.iload_n 2, 1) := by decide +kernel
theorem dX8_use_41 : decode cX8_use 41 = .ok (.iaload, 1) := by decide +kernel
theorem dX8_use_42 : decode cX8_use 42 = .ok (.iload_n 3, 1) := by decide +kernel
theorem dX8_use_43 : decode cX8_use 43 = .ok (.if_icmp .ge 6, 3) := by decide +kernel
theorem dX8_use_46 : decode cX8_use 46 = .ok (.bipush (-2), 2) := by decide +kernel
theorem dX8_use_48 : decode cX8_use 48 = .ok (.ireturn, 1) := by decide +kernel
theorem dX8_use_49 : decode cX8_use 49 = .ok (.aload_n 0, 1) := by decide +kernel
theorem dX8_use_50 : decode cX8_use 50 = .ok (.getfield 10, 3) := by decide +kernel
theorem dX8_use_53 : decode cX8_use 53 = .ok (.getfield 145, 3) := by decide +kernel
theorem dX8_use_56 : decode cX8_use 56 = .ok (.iload_n 1, 1) := by decide +kernel
theorem dX8_use_57 : decode cX8_use 57 = .ok (.aaload, 1) := by decide +kernel
theorem dX8_use_58 : decode cX8_use 58 = .ok (.iload_n 2, 1) := by decide +kernel
theorem dX8_use_59 : decode cX8_use 59 = .ok (.dup2, 1) := by decide +kernel
theorem dX8_use_60 : decode cX8_use 60 = .ok (.iaload, 1) := by decide +kernel
theorem dX8_use_61 : decode cX8_use 61 = .ok (.iload_n 3, 1) := by decide +kernel
theorem dX8_use_62 : decode cX8_use 62 = .ok (.isub, 1) := by decide +kernel
theorem dX8_use_63 : decode cX8_use 63 = .ok (.iastore, 1) := by decide +kernel
theorem dX8_use_64 : decode cX8_use 64 = .ok (.aload_n 0, 1) := by decide +kernel
theorem dX8_use_65 : decode cX8_use 65 = .ok (.getfield 10, 3) := by decide +kernel
theorem dX8_use_68 : decode cX8_use 68 = .ok (.getfield 145, 3) := by decide +kernel
theorem dX8_use_71 : decode cX8_use 71 = .ok (.iload_n 1, 1) := by decide +kernel
theorem dX8_use_72 : decode cX8_use 72 = .ok (.aaload, 1) := by decide +kernel
theorem dX8_use_73 : decode cX8_use 73 = .ok (.iload_n 2, 1) := by decide +kernel
theorem dX8_use_74 : decode cX8_use 74 = .ok (.iaload, 1) := by decide +kernel
theorem dX8_use_75 : decode cX8_use 75 = .ok (.ireturn, 1) := by decide +kernel
theorem dX8_mind_0 : decode cX8_mind 0 = .ok (.aload_n 0, 1) := by decide +kernel
theorem dX8_mind_1 : decode cX8_mind 1 = .ok (.getfield 10, 3) := by decide +kernel
theorem dX8_mind_4 : decode cX8_mind 4 = .ok (.iload_n 1, 1) := by decide +kernel
theorem dX8_mind_5 : decode cX8_mind 5 = .ok (.invokevirtual 139, 3) := by decide +kernel
theorem dX8_mind_8 : decode cX8_mind 8 = .ok (.ifCond .ne 5, 3) := by decide +kernel
theorem dX8_mind_11 : decode cX8_mind 11 = .ok (.iconst (-1), 1) := by decide +kernel
theorem dX8_mind_12 : decode cX8_mind 12 = .ok (.ireturn, 1) := by decide +kernel
theorem dX8_mind_13 : decode cX8_mind 13 = .ok (.iconst 0, 1) := by decide +kernel
theorem dX8_mind_14 : decode cX8_mind 14 = .ok (.istore_n 2, 1) := by decide +kernel
theorem dX8_mind_15 : decode cX8_mind 15 = .ok (.iconst 0, 1) := by decide +kernel
theorem dX8_mind_16 : decode cX8_mind 16 = .ok (.istore_n 3, 1) := by decide +kernel
theorem dX8_mind_17 : decode cX8_mind 17 = .ok (.iload_n 3, 1) := by decide +kernel
theorem dX8_mind_18 : decode cX8_mind 18 = .ok (.aload_n 0, 1) := by decide +kernel
theorem dX8_mind_19 : decode cX8_mind 19 = .ok (.getfield 10, 3) := by decide +kernel
theorem dX8_mind_22 : decode cX8_mind 22 = .ok (.getfield 95, 3) := by decide +kernel
theorem dX8_mind_25 : decode cX8_mind 25 = .ok (.if_icmp .ge 36, 3) := by decide +kernel
theorem dX8_mind_28 : decode cX8_mind 28 = .ok (.aload_n 0, 1) := by decide +kernel
theorem dX8_mind_29 : decode cX8_mind 29 = .ok (.getfield 10, 3) := by decide +kernel
theorem dX8_mind_32 : decode cX8_mind 32 = .ok (.iload_n 1, 1) := by decide +kernel
theorem dX8_mind_33 : decode cX8_mind 33 = .ok (.iload_n 3, 1) := by decide +kernel
theorem dX8_mind_34 : decode cX8_mind 34 = .ok (.aload_n 0, 1) := by decide +kernel
theorem dX8_mind_35 : decode cX8_mind 35 = .ok (.getfield 10, 3) := by decide +kernel
theorem dX8_mind_38 : decode cX8_mind 38 = .ok (.getfield 148, 3) := by decide +kernel
theorem dX8_mind_41 : decode cX8_mind 41 = .ok (.iconst 1, 1) := by decide +kernel
theorem dX8_mind_42 : decode cX8_mind 42 = .ok (.iadd, 1) := by decide +kernel
theorem dX8_mind_43 : decode cX8_mind 43 = .ok (.invokevirtual 151, 3) := by decide +kernel
theorem dX8_mind_46 : decode cX8_mind 46 = .ok (.ifCond .eq 9, 3) := by decide +kernel
theorem dX8_mind_49 : decode cX8_mind 49 = .ok (.iload_n 2, 1) := by decide +kernel
theorem dX8_mind_50 : decode cX8_mind 50 = .ok (.iconst 1, 1) := by decide +kernel
theorem dX8_mind_51 : decode cX8_mind 51 = .ok (.iload_n 3, 1) := by decide +kernel
theorem dX8_mind_52 : decode cX8_mind 52 = .ok (.ishl, 1) := by decide +kernel
theorem dX8_mind_53 : decode cX8_mind 53 = .ok (.ior, 1) := by decide +kernel
theorem dX8_mind_54 : decode cX8_mind 54 = .ok (.istore_n 2, 1) := by decide +kernel
theorem dX8_mind_55 : decode cX8_mind 55 = .ok (.iinc 3 1, 3) := by decide +kernel
theorem dX8_mind_58 : decode cX8_mind 58 = .ok (.goto (-41), 3) := by decide +kernel
theorem dX8_mind_61 : decode cX8_mind 61 = .ok (.iload_n 2, 1) := by decide +kernel
theorem dX8_mind_62 : decode cX8_mind 62 = .ok (.ireturn, 1) := by decide +kernel
theorem dX8_count_0 : decode cX8_count 0 = .ok (.iload_n 1, 1) := by decide +kernel
theorem dX8_count_1 : decode cX8_count 1 = .ok (.iconst 0, 1) := by decide +kernel
theorem dX8_count_2 : decode cX8_count 2 = .ok (.bipush 6, 2) := by decide +kernel
theorem dX8_count_4 : decode cX8_count 4 = .ok (.invokestatic 75, 3) := by decide +kernel
theorem dX8_count_7 : decode cX8_count 7 = .ok (.ifCond .ne 5, 3) := by decide +kernel
theorem dX8_count_10 : decode cX8_count 10 = .ok (.iconst (-1), 1) := by decide +kernel
theorem dX8_count_11 : decode cX8_count 11 = .ok (.ireturn, 1) := by decide +kernel
theorem dX8_count_12 : decode cX8_count 12 = .ok (.iload_n 1, 1) := by decide +kernel
theorem dX8_count_13 : decode cX8_count 13 = .ok (.iconst 4, 1) := by decide +kernel
theorem dX8_count_14 : decode cX8_count 14 = .ok (.if_icmp .lt 17, 3) := by decide +kernel
theorem dX8_count_17 : decode cX8_count 17 = .ok (.aload_n 0, 1) := by decide +kernel
theorem dX8_count_18 : decode cX8_count 18 = .ok (.getfield 10, 3) := by decide +kernel
theorem dX8_count_21 : decode cX8_count 21 = .ok (.getfield 106, 3) := by decide +kernel
theorem dX8_count_24 : decode cX8_count 24 = .ok (.iconst (-1), 1) := by decide +kernel
theorem dX8_count_25 : decode cX8_count 25 = .ok (.if_icmp .ne 6, 3) := by decide +kernel
theorem dX8_count_28 : decode cX8_count 28 = .ok (.bipush (-4), 2) := by decide +kernel
theorem dX8_count_30 : decode cX8_count 30 = .ok (.ireturn, 1) := by decide +kernel
theorem dX8_count_31 : decode cX8_count 31 = .ok (.iload_n 1, 1) := by decide +kernel
theorem dX8_count_32 : decode cX8_count 32 = .ok (.tableswitch 88 0 5 #[40, 48, 56, 64, 72, 80], 40) := by decide +kernel
theorem dX8_count_72 : decode cX8_count 72 = .ok (.aload_n 0, 1) := by decide +kernel
theorem dX8_count_73 : decode cX8_count 73 = .ok (.getfield 10, 3) := by decide +kernel
theorem dX8_count_76 : decode cX8_count 76 = .ok (.getfield 95, 3) := by decide +kernel
theorem dX8_count_79 : decode cX8_count 79 = .ok (.ireturn, 1) := by decide +kernel
theorem dX8_count_80 : decode cX8_count 80 = .ok (.aload_n 0, 1) := by decide +kernel
theorem dX8_count_81 : decode cX8_count 81 = .ok (.getfield 10, 3) := by decide +kernel
theorem dX8_count_84 : decode cX8_count 84 = .ok (.getfield 113, 3) := by decide +kernel
theorem dX8_count_87 : decode cX8_count 87 = .ok (.ireturn, 1) := by decide +kernel
theorem dX8_count_88 : decode cX8_count 88 = .ok (.aload_n 0, 1) := by decide +kernel
theorem dX8_count_89 : decode cX8_count 89 = .ok (.getfield 10, 3) := by decide +kernel
theorem dX8_count_92 : decode cX8_count 92 = .ok (.getfield 119, 3) := by decide +kernel
theorem dX8_count_95 : decode cX8_count 95 = .ok (.ireturn, 1) := by decide +kernel
theorem dX8_count_96 : decode cX8_count 96 = .ok (.aload_n 0, 1) := by decide +kernel
theorem dX8_count_97 : decode cX8_count 97 = .ok (.getfield 10, 3) := by decide +kernel
theorem dX8_count_100 : decode cX8_count 100 = .ok (.getfield 148, 3) := by decide +kernel
theorem dX8_count_103 : decode cX8_count 103 = .ok (.ireturn, 1) := by decide +kernel
theorem dX8_count_104 : decode cX8_count 104 = .ok (.aload_n 0, 1) := by decide +kernel
theorem dX8_count_105 : decode cX8_count 105 = .ok (.getfield 10, 3) := by decide +kernel
theorem dX8_count_108 : decode cX8_count 108 = .ok (.getfield 106, 3) := by decide +kernel
theorem dX8_count_111 : decode cX8_count 111 = .ok (.ireturn, 1) := by decide +kernel
theorem dX8_count_112 : decode cX8_count 112 = .ok (.aload_n 0, 1) := by decide +kernel
theorem dX8_count_113 : decode cX8_count 113 = .ok (.getfield 10, 3) := by decide +kernel
theorem dX8_count_116 : decode cX8_count 116 = .ok (.getfield 154, 3) := by decide +kernel
theorem dX8_count_119 : decode cX8_count 119 = .ok (.ireturn, 1) := by decide +kernel
theorem dX8_count_120 : decode cX8_count 120 = .ok (.aload_n 0, 1) := by decide +kernel
theorem dX8_count_121 : decode cX8_count 121 = .ok (.getfield 10, 3) := by decide +kernel
theorem dX8_count_124 : decode cX8_count 124 = .ok (.getfield 157, 3) := by decide +kernel
theorem dX8_count_127 : decode cX8_count 127 = .ok (.ireturn, 1) := by decide +kernel
theorem dX8_evening_0 : decode cX8_evening 0 = .ok (.aload_n 0, 1) := by decide +kernel
theorem dX8_evening_1 : decode cX8_evening 1 = .ok (.getfield 10, 3) := by decide +kernel
theorem dX8_evening_4 : decode cX8_evening 4 = .ok (.iload_n 1, 1) := by decide +kernel
theorem dX8_evening_5 : decode cX8_evening 5 = .ok (.invokevirtual 132, 3) := by decide +kernel
theorem dX8_evening_8 : decode cX8_evening 8 = .ok (.ifCond .eq 36, 3) := by decide +kernel
theorem dX8_evening_11 : decode cX8_evening 11 = .ok (.aload_n 0, 1) := by decide +kernel
theorem dX8_evening_12 : decode cX8_evening 12 = .ok (.getfield 10, 3) := by decide +kernel
theorem dX8_evening_15 : decode cX8_evening 15 = .ok (.iload_n 2, 1) := by decide +kernel
theorem dX8_evening_16 : decode cX8_evening 16 = .ok (.invokevirtual 125, 3) := by decide +kernel
theorem dX8_evening_19 : decode cX8_evening 19 = .ok (.ifCond .eq 25, 3) := by decide +kernel
theorem dX8_evening_22 : decode cX8_evening 22 = .ok (.iload_n 3, 1) := by decide +kernel
theorem dX8_evening_23 : decode cX8_evening 23 = .ok (.iconst 1, 1) := by decide +kernel
theorem dX8_evening_24 : decode cX8_evening 24 = .ok (.bipush 9, 2) := by decide +kernel
theorem dX8_evening_26 : decode cX8_evening 26 = .ok (.invokestatic 75, 3) := by decide +kernel
theorem dX8_evening_29 : decode cX8_evening 29 = .ok (.ifCond .eq 15, 3) := by decide +kernel
theorem dX8_evening_32 : decode cX8_evening 32 = .ok (.aload_n 0, 1) := by decide +kernel
theorem dX8_evening_33 : decode cX8_evening 33 = .ok (.getfield 10, 3) := by decide +kernel
theorem dX8_evening_36 : decode cX8_evening 36 = .ok (.iload 4, 2) := by decide +kernel
theorem dX8_evening_38 : decode cX8_evening 38 = .ok (.invokevirtual 160, 3) := by decide +kernel
theorem dX8_evening_41 : decode cX8_evening 41 = .ok (.ifCond .ne 5, 3) := by decide +kernel
theorem dX8_evening_44 : decode cX8_evening 44 = .ok (.iconst (-1), 1) := by decide +kernel
theorem dX8_evening_45 : decode cX8_evening 45 = .ok (.ireturn, 1) := by decide +kernel
theorem dX8_evening_46 : decode cX8_evening 46 = .ok (.aload_n 0, 1) := by decide +kernel
theorem dX8_evening_47 : decode cX8_evening 47 = .ok (.getfield 10, 3) := by decide +kernel
theorem dX8_evening_50 : decode cX8_evening 50 = .ok (.getfield 148, 3) := by decide +kernel
theorem dX8_evening_53 : decode cX8_evening 53 = .ok (.sipush 9999, 3) := by decide +kernel
theorem dX8_evening_56 : decode cX8_evening 56 = .ok (.if_icmp .lt 8, 3) := by decide +kernel
theorem dX8_evening_59 : decode cX8_evening 59 = .ok (.bipush (-3), 2) := by decide +kernel
theorem dX8_evening_61 : decode cX8_evening 61 = .ok (.goto 15, 3) := by decide +kernel
theorem dX8_evening_64 : decode cX8_evening 64 = .ok (.aload_n 0, 1) := by decide +kernel
theorem dX8_evening_65 : decode cX8_evening 65 = .ok (.getfield 10, 3) := by decide +kernel
theorem dX8_evening_68 : decode cX8_evening 68 = .ok (.iload_n 1, 1) := by decide +kernel
theorem dX8_evening_69 : decode cX8_evening 69 = .ok (.iload_n 2, 1) := by decide +kernel
theorem dX8_evening_70 : decode cX8_evening 70 = .ok (.iload_n 3, 1) := by decide +kernel
theorem dX8_evening_71 : decode cX8_evening 71 = .ok (.iload 4, 2) := by decide +kernel
theorem dX8_evening_73 : decode cX8_evening 73 = .ok (.invokevirtual 163, 3) := by decide +kernel
theorem dX8_evening_76 : decode cX8_evening 76 = .ok (.ireturn, 1) := by decide +kernel
theorem dX8_store_0 : decode cX8_store 0 = .ok (.aload_n 0, 1) := by decide +kernel
theorem dX8_store_1 : decode cX8_store 1 = .ok (.getfield 10, 3) := by decide +kernel
theorem dX8_store_4 : decode cX8_store 4 = .ok (.iload_n 1, 1) := by decide +kernel
theorem dX8_store_5 : decode cX8_store 5 = .ok (.invokevirtual 139, 3) := by decide +kernel
theorem dX8_store_8 : decode cX8_store 8 = .ok (.ifCond .eq 23, 3) := by decide +kernel
theorem dX8_store_11 : decode cX8_store 11 = .ok (.iload_n 2, 1) := by decide +kernel
theorem dX8_store_12 : decode cX8_store 12 = .ok (.iconst 1, 1) := by decide +kernel
theorem dX8_store_13 : decode cX8_store 13 = .ok (.iconst 5, 1) := by decide +kernel
theorem dX8_store_14 : decode cX8_store 14 = .ok (.invokestatic 75, 3) := by decide +kernel
theorem dX8_store_17 : decode cX8_store 17 = .ok (.ifCond .eq 14, 3) := by decide +kernel
theorem dX8_store_20 : decode cX8_store 20 = .ok (.iload_n 3, 1) := by decide +kernel
theorem dX8_store_21 : decode cX8_store 21 = .ok (.iconst (-1), 1) := by decide +kernel
theorem dX8_store_22 : decode cX8_store 22 = .ok (.iload_n 2, 1) := by decide +kernel
theorem dX8_store_23 : decode cX8_store 23 = .ok (.iconst 1, 1) := by decide +kernel
theorem dX8_store_24 : decode cX8_store 24 = .ok (.isub, 1) := by decide +kernel
theorem dX8_store_25 : decode cX8_store 25 = .ok (.invokestatic 75, 3) := by decide +kernel
theorem dX8_store_28 : decode cX8_store 28 = .ok (.ifCond .ne 5, 3) := by decide +kernel
theorem dX8_store_31 : decode cX8_store 31 = .ok (.iconst (-1), 1) := by decide +kernel
theorem dX8_store_32 : decode cX8_store 32 = .ok (.ireturn, 1) := by decide +kernel
theorem dX8_store_33 : decode cX8_store 33 = .ok (.aload_n 0, 1) := by decide +kernel
theorem dX8_store_34 : decode cX8_store 34 = .ok (.getfield 10, 3) := by decide +kernel
theorem dX8_store_37 : decode cX8_store 37 = .ok (.getfield 95, 3) := by decide +kernel
theorem dX8_store_40 : decode cX8_store 40 = .ok (.ifCond .ne 6, 3) := by decide +kernel
theorem dX8_store_43 : decode cX8_store 43 = .ok (.bipush (-4), 2) := by decide +kernel
theorem dX8_store_45 : decode cX8_store 45 = .ok (.ireturn, 1) := by decide +kernel
theorem dX8_store_46 : decode cX8_store 46 = .ok (.aload_n 0, 1) := by decide +kernel
theorem dX8_store_47 : decode cX8_store 47 = .ok (.getfield 42, 3) := by decide +kernel
theorem dX8_store_50 : decode cX8_store 50 = .ok (.aload_n 0, 1) := by decide +kernel
theorem dX8_store_51 : decode cX8_store 51 = .ok (.getfield 10, 3) := by decide +kernel
theorem dX8_store_54 : decode cX8_store 54 = .ok (.iload_n 1, 1) := by decide +kernel
theorem dX8_store_55 : decode cX8_store 55 = .ok (.iload_n 2, 1) := by decide +kernel
theorem dX8_store_56 : decode cX8_store 56 = .ok (.invokevirtual 167, 3) := by decide +kernel
theorem dX8_store_59 : decode cX8_store 59 = .ok (.iload_n 3, 1) := by decide +kernel
theorem dX8_store_60 : decode cX8_store 60 = .ok (.iconst (-1), 1) := by decide +kernel
theorem dX8_store_61 : decode cX8_store 61 = .ok (.if_icmp .ne 13, 3) := by decide +kernel
theorem dX8_store_64 : decode cX8_store 64 = .ok (.aload_n 0, 1) := by decide +kernel
theorem dX8_store_65 : decode cX8_store 65 = .ok (.getfield 42, 3) := by decide +kernel
theorem dX8_store_68 : decode cX8_store 68 = .ok (.getfield 171, 3) := by decide +kernel
theorem dX8_store_71 : decode cX8_store 71 = .ok (.goto 12, 3) := by decide +kernel
theorem dX8_store_74 : decode cX8_store 74 = .ok (.aload_n 0, 1) := by decide +kernel
theorem dX8_store_75 : decode cX8_store 75 = .ok (.getfield 42, 3) := by decide +kernel
theorem dX8_store_78 : decode cX8_store 78 = .ok (.getfield 174, 3) := by decide +kernel
theorem dX8_store_81 : decode cX8_store 81 = .ok (.iload_n 3, 1) := by decide +kernel
theorem dX8_store_82 : decode cX8_store 82 = .ok (.iaload, 1) := by decide +kernel
theorem dX8_store_83 : decode cX8_store 83 = .ok (.ireturn, 1) := by decide +kernel
theorem dX8_play_0 : decode cX8_play 0 = .ok (.aload_n 0, 1) := by decide +kernel
theorem dX8_play_1 : decode cX8_play 1 = .ok (.getfield 10, 3) := by decide +kernel
theorem dX8_play_4 : decode cX8_play 4 = .ok (.iload_n 1, 1) := by decide +kernel
theorem dX8_play_5 : decode cX8_play 5 = .ok (.invokevirtual 132, 3) := by decide +kernel
theorem dX8_play_8 : decode cX8_play 8 = .ok (.ifCond .eq 38, 3) := by decide +kernel
theorem dX8_play_11 : decode cX8_play 11 = .ok (.aload_n 0, 1) := by decide +kernel
theorem dX8_play_12 : decode cX8_play 12 = .ok (.getfield 10, 3) := by decide +kernel
theorem dX8_play_15 : decode cX8_play 15 = .ok (.iload_n 2, 1) := by decide +kernel
theorem dX8_play_16 : decode cX8_play 16 = .ok (.iload_n 3, 1) := by decide +kernel
theorem dX8_play_17 : decode cX8_play 17 = .ok (.iconst 1, 1) := by decide +kernel
theorem dX8_play_18 : decode cX8_play 18 = .ok (.isub, 1) := by decide +kernel
theorem dX8_play_19 : decode cX8_play 19 = .ok (.invokevirtual 102, 3) := by decide +kernel
theorem dX8_play_22 : decode cX8_play 22 = .ok (.ifCond .eq 24, 3) := by decide +kernel
theorem dX8_play_25 : decode cX8_play 25 = .ok (.iload 4, 2) := by decide +kernel
theorem dX8_play_27 : decode cX8_play 27 = .ok (.iconst 0, 1) := by decide +kernel
theorem dX8_play_28 : decode cX8_play 28 = .ok (.bipush 9, 2) := by decide +kernel
theorem dX8_play_30 : decode cX8_play 30 = .ok (.invokestatic 75, 3) := by decide +kernel
theorem dX8_play_33 : decode cX8_play 33 = .ok (.ifCond .eq 13, 3) := by decide +kernel
theorem dX8_play_36 : decode cX8_play 36 = .ok (.iload 5, 2) := by decide +kernel
theorem dX8_play_38 : decode cX8_play 38 = .ok (.iconst 0, 1) := by decide +kernel
theorem dX8_play_39 : decode cX8_play 39 = .ok (.iconst 1, 1) := by decide +kernel
theorem dX8_play_40 : decode cX8_play 40 = .ok (.invokestatic 75, 3) := by decide +kernel
theorem dX8_play_43 : decode cX8_play 43 = .ok (.ifCond .ne 6, 3) := by decide +kernel
theorem dX8_play_46 : decode cX8_play 46 = .ok (.ldc 177, 2) := by decide +kernel
theorem dX8_play_48 : decode cX8_play 48 = .ok (.ireturn, 1) := by decide +kernel
theorem dX8_play_49 : decode cX8_play 49 = .ok (.aload_n 0, 1) := by decide +kernel
theorem dX8_play_50 : decode cX8_play 50 = .ok (.getfield 70, 3) := by decide +kernel
theorem dX8_play_53 : decode cX8_play 53 = .ok (.aload_n 0, 1) := by decide +kernel
theorem dX8_play_54 : decode cX8_play 54 = .ok (.getfield 10, 3) := by decide +kernel
theorem dX8_play_57 : decode cX8_play 57 = .ok (.iload_n 1, 1) := by decide +kernel
theorem dX8_play_58 : decode cX8_play 58 = .ok (.iload_n 2, 1) := by decide +kernel
theorem dX8_play_59 : decode cX8_play 59 = .ok (.invokevirtual 178, 3) := by decide +kernel
theorem dX8_play_62 : decode cX8_play 62 = .ok (.iload 5, 2) := by decide +kernel
theorem dX8_play_64 : decode cX8_play 64 = .ok (.ifCond .ne 16, 3) := by decide +kernel
theorem dX8_play_67 : decode cX8_play 67 = .ok (.aload_n 0, 1) := by decide +kernel
theorem dX8_play_68 : decode cX8_play 68 = .ok (.getfield 70, 3) := by decide +kernel
theorem dX8_play_71 : decode cX8_play 71 = .ok (.iload_n 3, 1) := by decide +kernel
theorem dX8_play_72 : decode cX8_play 72 = .ok (.iload 4, 2) := by decide +kernel
theorem dX8_play_74 : decode cX8_play 74 = .ok (.invokevirtual 181, 3) := by decide +kernel
theorem dX8_play_77 : decode cX8_play 77 = .ok (.goto 13, 3) := by decide +kernel
theorem dX8_play_80 : decode cX8_play 80 = .ok (.aload_n 0, 1) := by decide +kernel
theorem dX8_play_81 : decode cX8_play 81 = .ok (.getfield 70, 3) := by decide +kernel
theorem dX8_play_84 : decode cX8_play 84 = .ok (.iload_n 3, 1) := by decide +kernel
theorem dX8_play_85 : decode cX8_play 85 = .ok (.iload 4, 2) := by decide +kernel
theorem dX8_play_87 : decode cX8_play 87 = .ok (.invokevirtual 185, 3) := by decide +kernel
theorem dX8_play_90 : decode cX8_play 90 = .ok (.ireturn, 1) := by decide +kernel
theorem dX8_rests_0 : decode cX8_rests 0 = .ok (.aload_n 0, 1) := by decide +kernel
theorem dX8_rests_1 : decode cX8_rests 1 = .ok (.getfield 10, 3) := by decide +kernel
theorem dX8_rests_4 : decode cX8_rests 4 = .ok (.iload_n 1, 1) := by decide +kernel
theorem dX8_rests_5 : decode cX8_rests 5 = .ok (.invokevirtual 132, 3) := by decide +kernel
theorem dX8_rests_8 : decode cX8_rests 8 = .ok (.ifCond .eq 23, 3) := by decide +kernel
theorem dX8_rests_11 : decode cX8_rests 11 = .ok (.aload_n 0, 1) := by decide +kernel
theorem dX8_rests_12 : decode cX8_rests 12 = .ok (.getfield 10, 3) := by decide +kernel
theorem dX8_rests_15 : decode cX8_rests 15 = .ok (.iload_n 2, 1) := by decide +kernel
theorem dX8_rests_16 : decode cX8_rests 16 = .ok (.invokevirtual 125, 3) := by decide +kernel
theorem dX8_rests_19 : decode cX8_rests 19 = .ok (.ifCond .eq 12, 3) := by decide +kernel
theorem dX8_rests_22 : decode cX8_rests 22 = .ok (.iload_n 3, 1) := by decide +kernel
theorem dX8_rests_23 : decode cX8_rests 23 = .ok (.iconst 0, 1) := by decide +kernel
theorem dX8_rests_24 : decode cX8_rests 24 = .ok (.iconst 1, 1) := by decide +kernel
theorem dX8_rests_25 : decode cX8_rests 25 = .ok (.invokestatic 75, 3) := by decide +kernel
theorem dX8_rests_28 : decode cX8_rests 28 = .ok (.ifCond .ne 5, 3) := by decide +kernel
theorem dX8_rests_31 : decode cX8_rests 31 = .ok (.iconst (-1), 1) := by decide +kernel
theorem dX8_rests_32 : decode cX8_rests 32 = .ok (.ireturn, 1) := by decide +kernel
theorem dX8_rests_33 : decode cX8_rests 33 = .ok (.aload_n 0, 1) := by decide +kernel
theorem dX8_rests_34 : decode cX8_rests 34 = .ok (.getfield 70, 3) := by decide +kernel
theorem dX8_rests_37 : decode cX8_rests 37 = .ok (.aload_n 0, 1) := by decide +kernel
theorem dX8_rests_38 : decode cX8_rests 38 = .ok (.getfield 10, 3) := by decide +kernel
theorem dX8_rests_41 : decode cX8_rests 41 = .ok (.iload_n 1, 1) := by decide +kernel
theorem dX8_rests_42 : decode cX8_rests 42 = .ok (.iload_n 2, 1) := by decide +kernel
theorem dX8_rests_43 : decode cX8_rests 43 = .ok (.invokevirtual 178, 3) := by decide +kernel
theorem dX8_rests_46 : decode cX8_rests 46 = .ok (.aload_n 0, 1) := by decide +kernel
theorem dX8_rests_47 : decode cX8_rests 47 = .ok (.getfield 70, 3) := by decide +kernel
theorem dX8_rests_50 : decode cX8_rests 50 = .ok (.invokevirtual 188, 3) := by decide +kernel
theorem dX8_rests_53 : decode cX8_rests 53 = .ok (.aload_n 0, 1) := by decide +kernel
theorem dX8_rests_54 : decode cX8_rests 54 = .ok (.getfield 70, 3) := by decide +kernel
theorem dX8_rests_57 : decode cX8_rests 57 = .ok (.getfield 191, 3) := by decide +kernel
theorem dX8_rests_60 : decode cX8_rests 60 = .ok (.aload_n 0, 1) := by decide +kernel
theorem dX8_rests_61 : decode cX8_rests 61 = .ok (.getfield 70, 3) := by decide +kernel
theorem dX8_rests_64 : decode cX8_rests 64 = .ok (.getfield 194, 3) := by decide +kernel
theorem dX8_rests_67 : decode cX8_rests 67 = .ok (.iload_n 3, 1) := by decide +kernel
theorem dX8_rests_68 : decode cX8_rests 68 = .ok (.invokestatic 197, 3) := by decide +kernel
theorem dX8_rests_71 : decode cX8_rests 71 = .ok (.ireturn, 1) := by decide +kernel
theorem dX8_image_0 : decode cX8_image 0 = .ok (.aload_n 0, 1) := by decide +kernel
theorem dX8_image_1 : decode cX8_image 1 = .ok (.getfield 16, 3) := by decide +kernel
theorem dX8_image_4 : decode cX8_image 4 = .ok (.aload_n 0, 1) := by decide +kernel
theorem dX8_image_5 : decode cX8_image 5 = .ok (.getfield 10, 3) := by decide +kernel
theorem dX8_image_8 : decode cX8_image 8 = .ok (.invokevirtual 200, 3) := by decide +kernel
theorem dX8_image_11 : decode cX8_image 11 = .ok (.aload_n 0, 1) := by decide +kernel
theorem dX8_image_12 : decode cX8_image 12 = .ok (.iconst 1, 1) := by decide +kernel
theorem dX8_image_13 : decode cX8_image 13 = .ok (.putfield 204, 3) := by decide +kernel
theorem dX8_image_16 : decode cX8_image 16 = .ok (.iconst 1, 1) := by decide +kernel
theorem dX8_image_17 : decode cX8_image 17 = .ok (.ireturn, 1) := by decide +kernel
theorem dX8_restore_0 : decode cX8_restore 0 = .ok (.aload_n 0, 1) := by decide +kernel
theorem dX8_restore_1 : decode cX8_restore 1 = .ok (.getfield 204, 3) := by decide +kernel
theorem dX8_restore_4 : decode cX8_restore 4 = .ok (.ifCond .ne 6, 3) := by decide +kernel
theorem dX8_restore_7 : decode cX8_restore 7 = .ok (.bipush (-4), 2) := by decide +kernel
theorem dX8_restore_9 : decode cX8_restore 9 = .ok (.ireturn, 1) := by decide +kernel
theorem dX8_restore_10 : decode cX8_restore 10 = .ok (.aload_n 0, 1) := by decide +kernel
theorem dX8_restore_11 : decode cX8_restore 11 = .ok (.getfield 10, 3) := by decide +kernel
theorem dX8_restore_14 : decode cX8_restore 14 = .ok (.aload_n 0, 1) := by decide +kernel
theorem dX8_restore_15 : decode cX8_restore 15 = .ok (.getfield 16, 3) := by decide +kernel
theorem dX8_restore_18 : decode cX8_restore 18 = .ok (.invokevirtual 200, 3) := by decide +kernel
theorem dX8_restore_21 : decode cX8_restore 21 = .ok (.iconst 1, 1) := by decide +kernel
theorem dX8_restore_22 : decode cX8_restore 22 = .ok (.ireturn, 1) := by decide +kernel
theorem dX8_coat_0 : decode cX8_coat 0 = .ok (.aload_n 0, 1) := by decide +kernel
theorem dX8_coat_1 : decode cX8_coat 1 = .ok (.getfield 10, 3) := by decide +kernel
theorem dX8_coat_4 : decode cX8_coat 4 = .ok (.iload_n 1, 1) := by decide +kernel
theorem dX8_coat_5 : decode cX8_coat 5 = .ok (.invokevirtual 139, 3) := by decide +kernel
theorem dX8_coat_8 : decode cX8_coat 8 = .ok (.ifCond .eq 22, 3) := by decide +kernel
theorem dX8_coat_11 : decode cX8_coat 11 = .ok (.iload_n 2, 1) := by decide +kernel
theorem dX8_coat_12 : decode cX8_coat 12 = .ok (.iload_n 3, 1) := by decide +kernel
theorem dX8_coat_13 : decode cX8_coat 13 = .ok (.invokestatic 208, 3) := by decide +kernel
theorem dX8_coat_16 : decode cX8_coat 16 = .ok (.ifCond .eq 14, 3) := by decide +kernel
theorem dX8_coat_19 : decode cX8_coat 19 = .ok (.iload 5, 2) := by decide +kernel
theorem dX8_coat_21 : decode cX8_coat 21 = .ok (.iconst (-1), 1) := by decide +kernel
theorem dX8_coat_22 : decode cX8_coat 22 = .ok (.bipush 7, 2) := by decide +kernel
theorem dX8_coat_24 : decode cX8_coat 24 = .ok (.invokestatic 75, 3) := by decide +kernel
theorem dX8_coat_27 : decode cX8_coat 27 = .ok (.ifCond .ne 5, 3) := by decide +kernel
theorem dX8_coat_30 : decode cX8_coat 30 = .ok (.iconst (-1), 1) := by decide +kernel
theorem dX8_coat_31 : decode cX8_coat 31 = .ok (.ireturn, 1) := by decide +kernel
theorem dX8_coat_32 : decode cX8_coat 32 = .ok (.aload_n 0, 1) := by decide +kernel
theorem dX8_coat_33 : decode cX8_coat 33 = .ok (.iload_n 2, 1) := by decide +kernel
theorem dX8_coat_34 : decode cX8_coat 34 = .ok (.iload_n 3, 1) := by decide +kernel
theorem dX8_coat_35 : decode cX8_coat 35 = .ok (.iload 4, 2) := by decide +kernel
theorem dX8_coat_37 : decode cX8_coat 37 = .ok (.iconst 4, 1) := by decide +kernel
theorem dX8_coat_38 : decode cX8_coat 38 = .ok (.bipush 99, 2) := by decide +kernel
theorem dX8_coat_40 : decode cX8_coat 40 = .ok (.invokevirtual 211, 3) := by decide +kernel
theorem dX8_coat_43 : decode cX8_coat 43 = .ok (.istore 6, 2) := by decide +kernel
theorem dX8_coat_45 : decode cX8_coat 45 = .ok (.iload 6, 2) := by decide +kernel
theorem dX8_coat_47 : decode cX8_coat 47 = .ok (.ifCond .eq 6, 3) := by decide +kernel
theorem dX8_coat_50 : decode cX8_coat 50 = .ok (.iload 6, 2) := by decide +kernel
theorem dX8_coat_52 : decode cX8_coat 52 = .ok (.ireturn, 1) := by decide +kernel
theorem dX8_coat_53 : decode cX8_coat 53 = .ok (.aload_n 0, 1) := by decide +kernel
theorem dX8_coat_54 : decode cX8_coat 54 = .ok (.getfield 49, 3) := by decide +kernel
theorem dX8_coat_57 : decode cX8_coat 57 = .ok (.aload_n 0, 1) := by decide +kernel
theorem dX8_coat_58 : decode cX8_coat 58 = .ok (.getfield 10, 3) := by decide +kernel
theorem dX8_coat_61 : decode cX8_coat 61 = .ok (.iload_n 1, 1) := by decide +kernel
theorem dX8_coat_62 : decode cX8_coat 62 = .ok (.aload_n 0, 1) := by decide +kernel
theorem dX8_coat_63 : decode cX8_coat 63 = .ok (.getfield 32, 3) := by decide +kernel
theorem dX8_coat_66 : decode cX8_coat 66 = .ok (.invokevirtual 215, 3) := by decide +kernel
theorem dX8_coat_69 : decode cX8_coat 69 = .ok (.aload_n 0, 1) := by decide +kernel
theorem dX8_coat_70 : decode cX8_coat 70 = .ok (.getfield 49, 3) := by decide +kernel
theorem dX8_coat_73 : decode cX8_coat 73 = .ok (.invokevirtual 218, 3) := by decide +kernel
theorem dX8_coat_76 : decode cX8_coat 76 = .ok (.ifCond .ne 6, 3) := by decide +kernel
theorem dX8_coat_79 : decode cX8_coat 79 = .ok (.bipush (-4), 2) := by decide +kernel
theorem dX8_coat_81 : decode cX8_coat 81 = .ok (.ireturn, 1) := by decide +kernel
theorem dX8_coat_82 : decode cX8_coat 82 = .ok (.iload 5, 2) := by decide +kernel
theorem dX8_coat_84 : decode cX8_coat 84 = .ok (.iconst (-1), 1) := by decide +kernel
theorem dX8_coat_85 : decode cX8_coat 85 = .ok (.if_icmp .ne 11, 3) := by decide +kernel
theorem dX8_coat_88 : decode cX8_coat 88 = .ok (.aload_n 0, 1) := by decide +kernel
theorem dX8_coat_89 : decode cX8_coat 89 = .ok (.getfield 49, 3) := by decide +kernel
theorem dX8_coat_92 : decode cX8_coat 92 = .ok (.getfield 222, 3) := by decide +kernel
theorem dX8_coat_95 : decode cX8_coat 95 = .ok (.ireturn, 1) := by decide +kernel
theorem dX8_coat_96 : decode cX8_coat 96 = .ok (.iload 5, 2) := by decide +kernel
theorem dX8_coat_98 : decode cX8_coat 98 = .ok (.aload_n 0, 1) := by decide +kernel
theorem dX8_coat_99 : decode cX8_coat 99 = .ok (.getfield 49, 3) := by decide +kernel
theorem dX8_coat_102 : decode cX8_coat 102 = .ok (.getfield 222, 3) := by decide +kernel
theorem dX8_coat_105 : decode cX8_coat 105 = .ok (.if_icmp .ge 16, 3) := by decide +kernel
theorem dX8_coat_108 : decode cX8_coat 108 = .ok (.aload_n 0, 1) := by decide +kernel
theorem dX8_coat_109 : decode cX8_coat 109 = .ok (.getfield 49, 3) := by decide +kernel
theorem dX8_coat_112 : decode cX8_coat 112 = .ok (.getfield 225, 3) := by decide +kernel
theorem dX8_coat_115 : decode cX8_coat 115 = .ok (.iload 5, 2) := by decide +kernel
theorem dX8_coat_117 : decode cX8_coat 117 = .ok (.iaload, 1) := by decide +kernel
theorem dX8_coat_118 : decode cX8_coat 118 = .ok (.goto 5, 3) := by decide +kernel
theorem dX8_coat_121 : decode cX8_coat 121 = .ok (.bipush (-4), 2) := by decide +kernel
theorem dX8_coat_123 : decode cX8_coat 123 = .ok (.ireturn, 1) := by decide +kernel
theorem dX8_read_0 : decode cX8_read 0 = .ok (.iload_n 1, 1) := by decide +kernel
theorem dX8_read_1 : decode cX8_read 1 = .ok (.iload_n 2, 1) := by decide +kernel
theorem dX8_read_2 : decode cX8_read 2 = .ok (.invokestatic 208, 3) := by decide +kernel
theorem dX8_read_5 : decode cX8_read 5 = .ok (.ifCond .eq 25, 3) := by decide +kernel
theorem dX8_read_8 : decode cX8_read 8 = .ok (.iload 4, 2) := by decide +kernel
theorem dX8_read_10 : decode cX8_read 10 = .ok (.iconst 1, 1) := by decide +kernel
theorem dX8_read_11 : decode cX8_read 11 = .ok (.bipush 16, 2) := by decide +kernel
theorem dX8_read_13 : decode cX8_read 13 = .ok (.invokestatic 75, 3) := by decide +kernel
theorem dX8_read_16 : decode cX8_read 16 = .ok (.ifCond .eq 14, 3) := by decide +kernel
theorem dX8_read_19 : decode cX8_read 19 = .ok (.iload 5, 2) := by decide +kernel
theorem dX8_read_21 : decode cX8_read 21 = .ok (.iconst (-1), 1) := by decide +kernel
theorem dX8_read_22 : decode cX8_read 22 = .ok (.bipush 7, 2) := by decide +kernel
theorem dX8_read_24 : decode cX8_read 24 = .ok (.invokestatic 75, 3) := by decide +kernel
theorem dX8_read_27 : decode cX8_read 27 = .ok (.ifCond .ne 5, 3) := by decide +kernel
theorem dX8_read_30 : decode cX8_read 30 = .ok (.iconst (-1), 1) := by decide +kernel
theorem dX8_read_31 : decode cX8_read 31 = .ok (.ireturn, 1) := by decide +kernel
theorem dX8_read_32 : decode cX8_read 32 = .ok (.aload_n 0, 1) := by decide +kernel
theorem dX8_read_33 : decode cX8_read 33 = .ok (.iload_n 1, 1) := by decide +kernel
theorem dX8_read_34 : decode cX8_read 34 = .ok (.iload_n 2, 1) := by decide +kernel
theorem dX8_read_35 : decode cX8_read 35 = .ok (.iload_n 3, 1) := by decide +kernel
theorem dX8_read_36 : decode cX8_read 36 = .ok (.iload 4, 2) := by decide +kernel
theorem dX8_read_38 : decode cX8_read 38 = .ok (.iconst 3, 1) := by decide +kernel
theorem dX8_read_39 : decode cX8_read 39 = .ok (.invokevirtual 211, 3) := by decide +kernel
theorem dX8_read_42 : decode cX8_read 42 = .ok (.istore 6, 2) := by decide +kernel
theorem dX8_read_44 : decode cX8_read 44 = .ok (.iload 6, 2) := by decide +kernel
theorem dX8_read_46 : decode cX8_read 46 = .ok (.ifCond .eq 6, 3) := by decide +kernel
theorem dX8_read_49 : decode cX8_read 49 = .ok (.iload 6, 2) := by decide +kernel
theorem dX8_read_51 : decode cX8_read 51 = .ok (.ireturn, 1) := by decide +kernel
theorem dX8_read_52 : decode cX8_read 52 = .ok (.aload_n 0, 1) := by decide +kernel
theorem dX8_read_53 : decode cX8_read 53 = .ok (.getfield 56, 3) := by decide +kernel
theorem dX8_read_56 : decode cX8_read 56 = .ok (.aload_n 0, 1) := by decide +kernel
theorem dX8_read_57 : decode cX8_read 57 = .ok (.getfield 10, 3) := by decide +kernel
theorem dX8_read_60 : decode cX8_read 60 = .ok (.aload_n 0, 1) := by decide +kernel
theorem dX8_read_61 : decode cX8_read 61 = .ok (.getfield 32, 3) := by decide +kernel
theorem dX8_read_64 : decode cX8_read 64 = .ok (.iload 4, 2) := by decide +kernel
theorem dX8_read_66 : decode cX8_read 66 = .ok (.invokevirtual 226, 3) := by decide +kernel
theorem dX8_read_69 : decode cX8_read 69 = .ok (.iload 5, 2) := by decide +kernel
theorem dX8_read_71 : decode cX8_read 71 = .ok (.iconst (-1), 1) := by decide +kernel
theorem dX8_read_72 : decode cX8_read 72 = .ok (.if_icmp .ne 11, 3) := by decide +kernel
theorem dX8_read_75 : decode cX8_read 75 = .ok (.aload_n 0, 1) := by decide +kernel
theorem dX8_read_76 : decode cX8_read 76 = .ok (.getfield 56, 3) := by decide +kernel
theorem dX8_read_79 : decode cX8_read 79 = .ok (.getfield 229, 3) := by decide +kernel
theorem dX8_read_82 : decode cX8_read 82 = .ok (.ireturn, 1) := by decide +kernel
theorem dX8_read_83 : decode cX8_read 83 = .ok (.iload 5, 2) := by decide +kernel
theorem dX8_read_85 : decode cX8_read 85 = .ok (.aload_n 0, 1) := by decide +kernel
theorem dX8_read_86 : decode cX8_read 86 = .ok (.getfield 56, 3) := by decide +kernel
theorem dX8_read_89 : decode cX8_read 89 = .ok (.getfield 232, 3) := by decide +kernel
theorem dX8_read_92 : decode cX8_read 92 = .ok (.if_icmp .ge 16, 3) := by decide +kernel
theorem dX8_read_95 : decode cX8_read 95 = .ok (.aload_n 0, 1) := by decide +kernel
theorem dX8_read_96 : decode cX8_read 96 = .ok (.getfield 56, 3) := by decide +kernel
theorem dX8_read_99 : decode cX8_read 99 = .ok (.getfield 235, 3) := by decide +kernel
theorem dX8_read_102 : decode cX8_read 102 = .ok (.iload 5, 2) := by decide +kernel
theorem dX8_read_104 : decode cX8_read 104 = .ok (.iaload, 1) := by decide +kernel
theorem dX8_read_105 : decode cX8_read 105 = .ok (.goto 5, 3) := by decide +kernel
theorem dX8_read_108 : decode cX8_read 108 = .ok (.bipush (-4), 2) := by decide +kernel
theorem dX8_read_110 : decode cX8_read 110 = .ok (.ireturn, 1) := by decide +kernel
theorem dX8_untangle_0 : decode cX8_untangle 0 = .ok (.iload_n 1, 1) := by decide +kernel
theorem dX8_untangle_1 : decode cX8_untangle 1 = .ok (.iload_n 2, 1) := by decide +kernel
theorem dX8_untangle_2 : decode cX8_untangle 2 = .ok (.invokestatic 208, 3) := by decide +kernel
theorem dX8_untangle_5 : decode cX8_untangle 5 = .ok (.ifCond .eq 24, 3) := by decide +kernel
theorem dX8_untangle_8 : decode cX8_untangle 8 = .ok (.iload 4, 2) := by decide +kernel
theorem dX8_untangle_10 : decode cX8_untangle 10 = .ok (.iconst 1, 1) := by decide +kernel
theorem dX8_untangle_11 : decode cX8_untangle 11 = .ok (.bipush 16, 2) := by decide +kernel
theorem dX8_untangle_13 : decode cX8_untangle 13 = .ok (.invokestatic 75, 3) := by decide +kernel
theorem dX8_untangle_16 : decode cX8_untangle 16 = .ok (.ifCond .eq 13, 3) := by decide +kernel
theorem dX8_untangle_19 : decode cX8_untangle 19 = .ok (.iload 5, 2) := by decide +kernel
theorem dX8_untangle_21 : decode cX8_untangle 21 = .ok (.iconst 0, 1) := by decide +kernel
theorem dX8_untangle_22 : decode cX8_untangle 22 = .ok (.iconst 1, 1) := by decide +kernel
theorem dX8_untangle_23 : decode cX8_untangle 23 = .ok (.invokestatic 75, 3) := by decide +kernel
theorem dX8_untangle_26 : decode cX8_untangle 26 = .ok (.ifCond .ne 5, 3) := by decide +kernel
theorem dX8_untangle_29 : decode cX8_untangle 29 = .ok (.iconst (-1), 1) := by decide +kernel
theorem dX8_untangle_30 : decode cX8_untangle 30 = .ok (.ireturn, 1) := by decide +kernel
theorem dX8_untangle_31 : decode cX8_untangle 31 = .ok (.aload_n 0, 1) := by decide +kernel
theorem dX8_untangle_32 : decode cX8_untangle 32 = .ok (.iload_n 1, 1) := by decide +kernel
theorem dX8_untangle_33 : decode cX8_untangle 33 = .ok (.iload_n 2, 1) := by decide +kernel
theorem dX8_untangle_34 : decode cX8_untangle 34 = .ok (.iload_n 3, 1) := by decide +kernel
theorem dX8_untangle_35 : decode cX8_untangle 35 = .ok (.iload 4, 2) := by decide +kernel
theorem dX8_untangle_37 : decode cX8_untangle 37 = .ok (.bipush 9, 2) := by decide +kernel
theorem dX8_untangle_39 : decode cX8_untangle 39 = .ok (.invokevirtual 211, 3) := by decide +kernel
theorem dX8_untangle_42 : decode cX8_untangle 42 = .ok (.istore 6, 2) := by decide +kernel
theorem dX8_untangle_44 : decode cX8_untangle 44 = .ok (.iload 6, 2) := by decide +kernel
theorem dX8_untangle_46 : decode cX8_untangle 46 = .ok (.ifCond .eq 6, 3) := by decide +kernel
theorem dX8_untangle_49 : decode cX8_untangle 49 = .ok (.iload 6, 2) := by decide +kernel
theorem dX8_untangle_51 : decode cX8_untangle 51 = .ok (.ireturn, 1) := by decide +kernel
theorem dX8_untangle_52 : decode cX8_untangle 52 = .ok (.iconst 0, 1) := by decide +kernel
theorem dX8_untangle_53 : decode cX8_untangle 53 = .ok (.istore 7, 2) := by decide +kernel
theorem dX8_untangle_55 : decode cX8_untangle 55 = .ok (.bipush (-4), 2) := by decide +kernel
theorem dX8_untangle_57 : decode cX8_untangle 57 = .ok (.istore 8, 2) := by decide +kernel
theorem dX8_untangle_59 : decode cX8_untangle 59 = .ok (.iconst 0, 1) := by decide +kernel
theorem dX8_untangle_60 : decode cX8_untangle 60 = .ok (.istore 9, 2) := by decide +kernel
theorem dX8_untangle_62 : decode cX8_untangle 62 = .ok (.iload 9, 2) := by decide +kernel
theorem dX8_untangle_64 : decode cX8_untangle 64 = .ok (.aload_n 0, 1) := by decide +kernel
theorem dX8_untangle_65 : decode cX8_untangle 65 = .ok (.getfield 10, 3) := by decide +kernel
theorem dX8_untangle_68 : decode cX8_untangle 68 = .ok (.getfield 95, 3) := by decide +kernel
theorem dX8_untangle_71 : decode cX8_untangle 71 = .ok (.if_icmp .ge 73, 3) := by decide +kernel
theorem dX8_untangle_74 : decode cX8_untangle 74 = .ok (.iconst 0, 1) := by decide +kernel
theorem dX8_untangle_75 : decode cX8_untangle 75 = .ok (.istore 10, 2) := by decide +kernel
theorem dX8_untangle_77 : decode cX8_untangle 77 = .ok (.iload 10, 2) := by decide +kernel
theorem dX8_untangle_79 : decode cX8_untangle 79 = .ok (.aload_n 0, 1) := by decide +kernel
theorem dX8_untangle_80 : decode cX8_untangle 80 = .ok (.getfield 10, 3) := by decide +kernel
theorem dX8_untangle_83 : decode cX8_untangle 83 = .ok (.getfield 95, 3) := by decide +kernel
theorem dX8_untangle_86 : decode cX8_untangle 86 = .ok (.if_icmp .ge 52, 3) := by decide +kernel
theorem dX8_untangle_89 : decode cX8_untangle 89 = .ok (.iload 9, 2) := by decide +kernel
theorem dX8_untangle_91 : decode cX8_untangle 91 = .ok (.iload 10, 2) := by decide +kernel
theorem dX8_untangle_93 : decode cX8_untangle 93 = .ok (.if_icmp .eq 39, 3) := by decide +kernel
theorem dX8_untangle_96 : decode cX8_untangle 96 = .ok (.aload_n 0, 1) := by decide +kernel
theorem dX8_untangle_97 : decode cX8_untangle 97 = .ok (.iload 9, 2) := by decide +kernel
theorem dX8_untangle_99 : decode cX8_untangle 99 = .ok (.iload 10, 2) := by decide +kernel
theorem dX8_untangle_101 : decode cX8_untangle 101 = .ok (.iload 4, 2) := by decide +kernel
theorem dX8_untangle_103 : decode cX8_untangle 103 = .ok (.invokevirtual 238, 3) := by decide +kernel
theorem dX8_untangle_106 : decode cX8_untangle 106 = .ok (.ifCond .eq 26, 3) := by decide +kernel
theorem dX8_untangle_109 : decode cX8_untangle 109 = .ok (.iload 7, 2) := by decide +kernel
theorem dX8_untangle_111 : decode cX8_untangle 111 = .ok (.ifCond .ne 14, 3) := by decide +kernel
theorem dX8_untangle_114 : decode cX8_untangle 114 = .ok (.bipush 10, 2) := by decide +kernel
theorem dX8_untangle_116 : decode cX8_untangle 116 = .ok (.iload 9, 2) := by decide +kernel
theorem dX8_untangle_118 : decode cX8_untangle 118 = .ok (.imul, 1) := by decide +kernel
theorem dX8_untangle_119 : decode cX8_untangle 119 = .ok (.iload 10, 2) := by decide +kernel
theorem dX8_untangle_121 : decode cX8_untangle 121 = .ok (.iadd, 1) := by decide +kernel
theorem dX8_untangle_122 : decode cX8_untangle 122 = .ok (.goto 5, 3) := by decide +kernel
theorem dX8_untangle_125 : decode cX8_untangle 125 = .ok (.iload 8, 2) := by decide +kernel
theorem dX8_untangle_127 : decode cX8_untangle 127 = .ok (.istore 8, 2) := by decide +kernel
theorem dX8_untangle_129 : decode cX8_untangle 129 = .ok (.iinc 7 1, 3) := by decide +kernel
theorem dX8_untangle_132 : decode cX8_untangle 132 = .ok (.iinc 10 1, 3) := by decide +kernel
theorem dX8_untangle_135 : decode cX8_untangle 135 = .ok (.goto (-58), 3) := by decide +kernel
theorem dX8_untangle_138 : decode cX8_untangle 138 = .ok (.iinc 9 1, 3) := by decide +kernel
theorem dX8_untangle_141 : decode cX8_untangle 141 = .ok (.goto (-79), 3) := by decide +kernel
theorem dX8_untangle_144 : decode cX8_untangle 144 = .ok (.iload 7, 2) := by decide +kernel
theorem dX8_untangle_146 : decode cX8_untangle 146 = .ok (.iload 8, 2) := by decide +kernel
theorem dX8_untangle_148 : decode cX8_untangle 148 = .ok (.iload 5, 2) := by decide +kernel
theorem dX8_untangle_150 : decode cX8_untangle 150 = .ok (.invokestatic 197, 3) := by decide +kernel
theorem dX8_untangle_153 : decode cX8_untangle 153 = .ok (.ireturn, 1) := by decide +kernel
theorem dX8_tangle_0 : decode cX8_tangle 0 = .ok (.aload_n 0, 1) := by decide +kernel
theorem dX8_tangle_1 : decode cX8_tangle 1 = .ok (.getfield 10, 3) := by decide +kernel
theorem dX8_tangle_4 : decode cX8_tangle 4 = .ok (.iload_n 1, 1) := by decide +kernel
theorem dX8_tangle_5 : decode cX8_tangle 5 = .ok (.invokevirtual 125, 3) := by decide +kernel
theorem dX8_tangle_8 : decode cX8_tangle 8 = .ok (.ifCond .eq 28, 3) := by decide +kernel
theorem dX8_tangle_11 : decode cX8_tangle 11 = .ok (.aload_n 0, 1) := by decide +kernel
theorem dX8_tangle_12 : decode cX8_tangle 12 = .ok (.getfield 10, 3) := by decide +kernel
theorem dX8_tangle_15 : decode cX8_tangle 15 = .ok (.iload_n 2, 1) := by decide +kernel
theorem dX8_tangle_16 : decode cX8_tangle 16 = .ok (.invokevirtual 125, 3) := by decide +kernel
theorem dX8_tangle_19 : decode cX8_tangle 19 = .ok (.ifCond .eq 17, 3) := by decide +kernel
theorem dX8_tangle_22 : decode cX8_tangle 22 = .ok (.iload_n 1, 1) := by decide +kernel
theorem dX8_tangle_23 : decode cX8_tangle 23 = .ok (.iload_n 2, 1) := by decide +kernel
theorem dX8_tangle_24 : decode cX8_tangle 24 = .ok (.if_icmp .eq 12, 3) := by decide +kernel
theorem dX8_tangle_27 : decode cX8_tangle 27 = .ok (.iload_n 3, 1) := by decide +kernel
theorem dX8_tangle_28 : decode cX8_tangle 28 = .ok (.iload 4, 2) := by decide +kernel
theorem dX8_tangle_30 : decode cX8_tangle 30 = .ok (.invokestatic 208, 3) := by decide +kernel
theorem dX8_tangle_33 : decode cX8_tangle 33 = .ok (.ifCond .ne 5, 3) := by decide +kernel
theorem dX8_tangle_36 : decode cX8_tangle 36 = .ok (.iconst (-1), 1) := by decide +kernel
theorem dX8_tangle_37 : decode cX8_tangle 37 = .ok (.ireturn, 1) := by decide +kernel
theorem dX8_tangle_38 : decode cX8_tangle 38 = .ok (.aload_n 0, 1) := by decide +kernel
theorem dX8_tangle_39 : decode cX8_tangle 39 = .ok (.getfield 10, 3) := by decide +kernel
theorem dX8_tangle_42 : decode cX8_tangle 42 = .ok (.aload_n 0, 1) := by decide +kernel
theorem dX8_tangle_43 : decode cX8_tangle 43 = .ok (.getfield 36, 3) := by decide +kernel
theorem dX8_tangle_46 : decode cX8_tangle 46 = .ok (.iload_n 1, 1) := by decide +kernel
theorem dX8_tangle_47 : decode cX8_tangle 47 = .ok (.iload_n 2, 1) := by decide +kernel
theorem dX8_tangle_48 : decode cX8_tangle 48 = .ok (.invokevirtual 241, 3) := by decide +kernel
theorem dX8_tangle_51 : decode cX8_tangle 51 = .ok (.istore 6, 2) := by decide +kernel
theorem dX8_tangle_53 : decode cX8_tangle 53 = .ok (.aload_n 0, 1) := by decide +kernel
theorem dX8_tangle_54 : decode cX8_tangle 54 = .ok (.getfield 28, 3) := by decide +kernel
theorem dX8_tangle_57 : decode cX8_tangle 57 = .ok (.iload_n 3, 1) := by decide +kernel
theorem dX8_tangle_58 : decode cX8_tangle 58 = .ok (.aaload, 1) := by decide +kernel
theorem dX8_tangle_59 : decode cX8_tangle 59 = .ok (.iload 4, 2) := by decide +kernel
theorem dX8_tangle_61 : decode cX8_tangle 61 = .ok (.iload 5, 2) := by decide +kernel
theorem dX8_tangle_63 : decode cX8_tangle 63 = .ok (.iload 6, 2) := by decide +kernel
theorem dX8_tangle_65 : decode cX8_tangle 65 = .ok (.invokevirtual 245, 3) := by decide +kernel
theorem dX8_tangle_68 : decode cX8_tangle 68 = .ok (.istore 7, 2) := by decide +kernel
theorem dX8_tangle_70 : decode cX8_tangle 70 = .ok (.iload 7, 2) := by decide +kernel
theorem dX8_tangle_72 : decode cX8_tangle 72 = .ok (.ifCond .eq 6, 3) := by decide +kernel
theorem dX8_tangle_75 : decode cX8_tangle 75 = .ok (.iload 7, 2) := by decide +kernel
theorem dX8_tangle_77 : decode cX8_tangle 77 = .ok (.ireturn, 1) := by decide +kernel
theorem dX8_tangle_78 : decode cX8_tangle 78 = .ok (.iconst 0, 1) := by decide +kernel
theorem dX8_tangle_79 : decode cX8_tangle 79 = .ok (.istore 8, 2) := by decide +kernel
theorem dX8_tangle_81 : decode cX8_tangle 81 = .ok (.iload 8, 2) := by decide +kernel
theorem dX8_tangle_83 : decode cX8_tangle 83 = .ok (.iload 6, 2) := by decide +kernel
theorem dX8_tangle_85 : decode cX8_tangle 85 = .ok (.if_icmp .ge 31, 3) := by decide +kernel
theorem dX8_tangle_88 : decode cX8_tangle 88 = .ok (.aload_n 0, 1) := by decide +kernel
theorem dX8_tangle_89 : decode cX8_tangle 89 = .ok (.getfield 28, 3) := by decide +kernel
theorem dX8_tangle_92 : decode cX8_tangle 92 = .ok (.iload_n 3, 1) := by decide +kernel
theorem dX8_tangle_93 : decode cX8_tangle 93 = .ok (.aaload, 1) := by decide +kernel
theorem dX8_tangle_94 : decode cX8_tangle 94 = .ok (.iload 5, 2) := by decide +kernel
theorem dX8_tangle_96 : decode cX8_tangle 96 = .ok (.iload 8, 2) := by decide +kernel
theorem dX8_tangle_98 : decode cX8_tangle 98 = .ok (.iadd, 1) := by decide +kernel
theorem dX8_tangle_99 : decode cX8_tangle 99 = .ok (.aload_n 0, 1) := by decide +kernel
theorem dX8_tangle_100 : decode cX8_tangle 100 = .ok (.getfield 36, 3) := by decide +kernel
theorem dX8_tangle_103 : decode cX8_tangle 103 = .ok (.iload 8, 2) := by decide +kernel
theorem dX8_tangle_105 : decode cX8_tangle 105 = .ok (.iaload, 1) := by decide +kernel
theorem dX8_tangle_106 : decode cX8_tangle 106 = .ok (.i2l, 1) := by decide +kernel
theorem dX8_tangle_107 : decode cX8_tangle 107 = .ok (.invokevirtual 248, 3) := by decide +kernel
theorem dX8_tangle_110 : decode cX8_tangle 110 = .ok (.iinc 8 1, 3) := by decide +kernel
theorem dX8_tangle_113 : decode cX8_tangle 113 = .ok (.goto (-32), 3) := by decide +kernel
theorem dX8_tangle_116 : decode cX8_tangle 116 = .ok (.iload 6, 2) := by decide +kernel
theorem dX8_tangle_118 : decode cX8_tangle 118 = .ok (.ireturn, 1) := by decide +kernel
theorem dX8_passed_0 : decode cX8_passed 0 = .ok (.aload_n 0, 1) := by decide +kernel
theorem dX8_passed_1 : decode cX8_passed 1 = .ok (.getfield 10, 3) := by decide +kernel
theorem dX8_passed_4 : decode cX8_passed 4 = .ok (.iload_n 1, 1) := by decide +kernel
theorem dX8_passed_5 : decode cX8_passed 5 = .ok (.invokevirtual 125, 3) := by decide +kernel
theorem dX8_passed_8 : decode cX8_passed 8 = .ok (.ifCond .eq 44, 3) := by decide +kernel
theorem dX8_passed_11 : decode cX8_passed 11 = .ok (.iload_n 2, 1) := by decide +kernel
theorem dX8_passed_12 : decode cX8_passed 12 = .ok (.iconst 1, 1) := by decide +kernel
theorem dX8_passed_13 : decode cX8_passed 13 = .ok (.iconst 3, 1) := by decide +kernel
theorem dX8_passed_14 : decode cX8_passed 14 = .ok (.invokestatic 75, 3) := by decide +kernel
theorem dX8_passed_17 : decode cX8_passed 17 = .ok (.ifCond .eq 35, 3) := by decide +kernel
theorem dX8_passed_20 : decode cX8_passed 20 = .ok (.iload_n 3, 1) := by decide +kernel
theorem dX8_passed_21 : decode cX8_passed 21 = .ok (.iload 4, 2) := by decide +kernel
theorem dX8_passed_23 : decode cX8_passed 23 = .ok (.invokestatic 208, 3) := by decide +kernel
theorem dX8_passed_26 : decode cX8_passed 26 = .ok (.ifCond .eq 26, 3) := by decide +kernel
theorem dX8_passed_29 : decode cX8_passed 29 = .ok (.iload 6, 2) := by decide +kernel
theorem dX8_passed_31 : decode cX8_passed 31 = .ok (.iconst 1, 1) := by decide +kernel
theorem dX8_passed_32 : decode cX8_passed 32 = .ok (.bipush 9, 2) := by decide +kernel
theorem dX8_passed_34 : decode cX8_passed 34 = .ok (.invokestatic 75, 3) := by decide +kernel
theorem dX8_passed_37 : decode cX8_passed 37 = .ok (.ifCond .eq 15, 3) := by decide +kernel
theorem dX8_passed_40 : decode cX8_passed 40 = .ok (.iload 7, 2) := by decide +kernel
theorem dX8_passed_42 : decode cX8_passed 42 = .ok (.iconst (-1), 1) := by decide +kernel
theorem dX8_passed_43 : decode cX8_passed 43 = .ok (.iload_n 2, 1) := by decide +kernel
theorem dX8_passed_44 : decode cX8_passed 44 = .ok (.iconst 1, 1) := by decide +kernel
theorem dX8_passed_45 : decode cX8_passed 45 = .ok (.isub, 1) := by decide +kernel
theorem dX8_passed_46 : decode cX8_passed 46 = .ok (.invokestatic 75, 3) := by decide +kernel
theorem dX8_passed_49 : decode cX8_passed 49 = .ok (.ifCond .ne 5, 3) := by decide +kernel
theorem dX8_passed_52 : decode cX8_passed 52 = .ok (.iconst (-1), 1) := by decide +kernel
theorem dX8_passed_53 : decode cX8_passed 53 = .ok (.ireturn, 1) := by decide +kernel
theorem dX8_passed_54 : decode cX8_passed 54 = .ok (.aload_n 0, 1) := by decide +kernel
theorem dX8_passed_55 : decode cX8_passed 55 = .ok (.iload_n 3, 1) := by decide +kernel
theorem dX8_passed_56 : decode cX8_passed 56 = .ok (.iload 4, 2) := by decide +kernel
theorem dX8_passed_58 : decode cX8_passed 58 = .ok (.iload 5, 2) := by decide +kernel
theorem dX8_passed_60 : decode cX8_passed 60 = .ok (.iload 6, 2) := by decide +kernel
theorem dX8_passed_62 : decode cX8_passed 62 = .ok (.bipush 9, 2) := by decide +kernel
theorem dX8_passed_64 : decode cX8_passed 64 = .ok (.invokevirtual 211, 3) := by decide +kernel
theorem dX8_passed_67 : decode cX8_passed 67 = .ok (.istore 8, 2) := by decide +kernel
theorem dX8_passed_69 : decode cX8_passed 69 = .ok (.iload 8, 2) := by decide +kernel
theorem dX8_passed_71 : decode cX8_passed 71 = .ok (.ifCond .eq 6, 3) := by decide +kernel
theorem dX8_passed_74 : decode cX8_passed 74 = .ok (.iload 8, 2) := by decide +kernel
theorem dX8_passed_76 : decode cX8_passed 76 = .ok (.ireturn, 1) := by decide +kernel
theorem dX8_passed_77 : decode cX8_passed 77 = .ok (.aload_n 0, 1) := by decide +kernel
theorem dX8_passed_78 : decode cX8_passed 78 = .ok (.getfield 63, 3) := by decide +kernel
theorem dX8_passed_81 : decode cX8_passed 81 = .ok (.aload_n 0, 1) := by decide +kernel
theorem dX8_passed_82 : decode cX8_passed 82 = .ok (.getfield 10, 3) := by decide +kernel
theorem dX8_passed_85 : decode cX8_passed 85 = .ok (.iload_n 1, 1) := by decide +kernel
theorem dX8_passed_86 : decode cX8_passed 86 = .ok (.iload_n 2, 1) := by decide +kernel
theorem dX8_passed_87 : decode cX8_passed 87 = .ok (.aload_n 0, 1) := by decide +kernel
theorem dX8_passed_88 : decode cX8_passed 88 = .ok (.getfield 32, 3) := by decide +kernel
theorem dX8_passed_91 : decode cX8_passed 91 = .ok (.iload 6, 2) := by decide +kernel
theorem dX8_passed_93 : decode cX8_passed 93 = .ok (.invokevirtual 252, 3) := by decide +kernel
theorem dX8_passed_96 : decode cX8_passed 96 = .ok (.iload 7, 2) := by decide +kernel
theorem dX8_passed_98 : decode cX8_passed 98 = .ok (.iconst (-1), 1) := by decide +kernel
theorem dX8_passed_99 : decode cX8_passed 99 = .ok (.if_icmp .ne 11, 3) := by decide +kernel
theorem dX8_passed_102 : decode cX8_passed 102 = .ok (.aload_n 0, 1) := by decide +kernel
theorem dX8_passed_103 : decode cX8_passed 103 = .ok (.getfield 63, 3) := by decide +kernel
theorem dX8_passed_106 : decode cX8_passed 106 = .ok (.getfield 255, 3) := by decide +kernel
theorem dX8_passed_109 : decode cX8_passed 109 = .ok (.ireturn, 1) := by decide +kernel
theorem dX8_passed_110 : decode cX8_passed 110 = .ok (.aload_n 0, 1) := by decide +kernel
theorem dX8_passed_111 : decode cX8_passed 111 = .ok (.getfield 63, 3) := by decide +kernel
theorem dX8_passed_114 : decode cX8_passed 114 = .ok (.getfield 255, 3) := by decide +kernel
theorem dX8_passed_117 : decode cX8_passed 117 = .ok (.ifCond .ne 8, 3) := by decide +kernel
theorem dX8_passed_120 : decode cX8_passed 120 = .ok (.bipush (-4), 2) := by decide +kernel
theorem dX8_passed_122 : decode cX8_passed 122 = .ok (.goto 13, 3) := by decide +kernel
theorem dX8_passed_125 : decode cX8_passed 125 = .ok (.aload_n 0, 1) := by decide +kernel
theorem dX8_passed_126 : decode cX8_passed 126 = .ok (.getfield 63, 3) := by decide +kernel
theorem dX8_passed_129 : decode cX8_passed 129 = .ok (.getfield 256, 3) := by decide +kernel
theorem dX8_passed_132 : decode cX8_passed 132 = .ok (.iload 7, 2) := by decide +kernel
theorem dX8_passed_134 : decode cX8_passed 134 = .ok (.iaload, 1) := by decide +kernel
theorem dX8_passed_135 : decode cX8_passed 135 = .ok (.ireturn, 1) := by decide +kernel
theorem dX8_sheet_0 : decode cX8_sheet 0 = .ok (.iload_n 1, 1) := by decide +kernel
theorem dX8_sheet_1 : decode cX8_sheet 1 = .ok (.iload_n 2, 1) := by decide +kernel
theorem dX8_sheet_2 : decode cX8_sheet 2 = .ok (.invokestatic 208, 3) := by decide +kernel
theorem dX8_sheet_5 : decode cX8_sheet 5 = .ok (.ifCond .eq 9, 3) := by decide +kernel
theorem dX8_sheet_8 : decode cX8_sheet 8 = .ok (.iload_n 3, 1) := by decide +kernel
theorem dX8_sheet_9 : decode cX8_sheet 9 = .ok (.bipush 24, 2) := by decide +kernel
theorem dX8_sheet_11 : decode cX8_sheet 11 = .ok (.if_icmp .le 5, 3) := by decide +kernel
theorem dX8_sheet_14 : decode cX8_sheet 14 = .ok (.iconst (-1), 1) := by decide +kernel
theorem dX8_sheet_15 : decode cX8_sheet 15 = .ok (.ireturn, 1) := by decide +kernel
theorem dX8_sheet_16 : decode cX8_sheet 16 = .ok (.iload_n 3, 1) := by decide +kernel
theorem dX8_sheet_17 : decode cX8_sheet 17 = .ok (.ifCond .ge 6, 3) := by decide +kernel
theorem dX8_sheet_20 : decode cX8_sheet 20 = .ok (.bipush (-14), 2) := by decide +kernel
theorem dX8_sheet_22 : decode cX8_sheet 22 = .ok (.ireturn, 1) := by decide +kernel
theorem dX8_sheet_23 : decode cX8_sheet 23 = .ok (.aload_n 0, 1) := by decide +kernel
theorem dX8_sheet_24 : decode cX8_sheet 24 = .ok (.getfield 28, 3) := by decide +kernel
theorem dX8_sheet_27 : decode cX8_sheet 27 = .ok (.iload_n 1, 1) := by decide +kernel
theorem dX8_sheet_28 : decode cX8_sheet 28 = .ok (.aaload, 1) := by decide +kernel
theorem dX8_sheet_29 : decode cX8_sheet 29 = .ok (.iload_n 2, 1) := by decide +kernel
theorem dX8_sheet_30 : decode cX8_sheet 30 = .ok (.iload_n 3, 1) := by decide +kernel
theorem dX8_sheet_31 : decode cX8_sheet 31 = .ok (.invokevirtual 257, 3) := by decide +kernel
theorem dX8_sheet_34 : decode cX8_sheet 34 = .ok (.iload_n 3, 1) := by decide +kernel
theorem dX8_sheet_35 : decode cX8_sheet 35 = .ok (.ireturn, 1) := by decide +kernel
theorem dX8_drop_0 : decode cX8_drop 0 = .ok (.iload_n 1, 1) := by decide +kernel
theorem dX8_drop_1 : decode cX8_drop 1 = .ok (.invokestatic 260, 3) := by decide +kernel
theorem dX8_drop_4 : decode cX8_drop 4 = .ok (.ifCond .ne 5, 3) := by decide +kernel
theorem dX8_drop_7 : decode cX8_drop 7 = .ok (.iconst (-1), 1) := by decide +kernel
theorem dX8_drop_8 : decode cX8_drop 8 = .ok (.ireturn, 1) := by decide +kernel
theorem dX8_drop_9 : decode cX8_drop 9 = .ok (.aload_n 0, 1) := by decide +kernel
theorem dX8_drop_10 : decode cX8_drop 10 = .ok (.getfield 28, 3) := by decide +kernel
theorem dX8_drop_13 : decode cX8_drop 13 = .ok (.iload_n 1, 1) := by decide +kernel
theorem dX8_drop_14 : decode cX8_drop 14 = .ok (.aaload, 1) := by decide +kernel
theorem dX8_drop_15 : decode cX8_drop 15 = .ok (.getfield 263, 3) := by decide +kernel
theorem dX8_drop_18 : decode cX8_drop 18 = .ok (.iconst (-1), 1) := by decide +kernel
theorem dX8_drop_19 : decode cX8_drop 19 = .ok (.if_icmp .ne 6, 3) := by decide +kernel
theorem dX8_drop_22 : decode cX8_drop 22 = .ok (.bipush (-11), 2) := by decide +kernel
theorem dX8_drop_24 : decode cX8_drop 24 = .ok (.ireturn, 1) := by decide +kernel
theorem dX8_drop_25 : decode cX8_drop 25 = .ok (.aload_n 0, 1) := by decide +kernel
theorem dX8_drop_26 : decode cX8_drop 26 = .ok (.getfield 28, 3) := by decide +kernel
theorem dX8_drop_29 : decode cX8_drop 29 = .ok (.iload_n 1, 1) := by decide +kernel
theorem dX8_drop_30 : decode cX8_drop 30 = .ok (.aaload, 1) := by decide +kernel
theorem dX8_drop_31 : decode cX8_drop 31 = .ok (.iconst (-1), 1) := by decide +kernel
theorem dX8_drop_32 : decode cX8_drop 32 = .ok (.putfield 263, 3) := by decide +kernel
theorem dX8_drop_35 : decode cX8_drop 35 = .ok (.aload_n 0, 1) := by decide +kernel
theorem dX8_drop_36 : decode cX8_drop 36 = .ok (.getfield 28, 3) := by decide +kernel
theorem dX8_drop_39 : decode cX8_drop 39 = .ok (.iload_n 1, 1) := by decide +kernel
theorem dX8_drop_40 : decode cX8_drop 40 = .ok (.aaload, 1) := by decide +kernel
theorem dX8_drop_41 : decode cX8_drop 41 = .ok (.getfield 266, 3) := by decide +kernel
theorem dX8_drop_44 : decode cX8_drop 44 = .ok (.ireturn, 1) := by decide +kernel
theorem dX8_item_0 : decode cX8_item 0 = .ok (.iload_n 1, 1) := by decide +kernel
theorem dX8_item_1 : decode cX8_item 1 = .ok (.iload_n 2, 1) := by decide +kernel
theorem dX8_item_2 : decode cX8_item 2 = .ok (.invokestatic 208, 3) := by decide +kernel
theorem dX8_item_5 : decode cX8_item 5 = .ok (.ifCond .ne 5, 3) := by decide +kernel
theorem dX8_item_8 : decode cX8_item 8 = .ok (.iconst (-1), 1) := by decide +kernel
theorem dX8_item_9 : decode cX8_item 9 = .ok (.ireturn, 1) := by decide +kernel
theorem dX8_item_10 : decode cX8_item 10 = .ok (.aload_n 0, 1) := by decide +kernel
theorem dX8_item_11 : decode cX8_item 11 = .ok (.getfield 28, 3) := by decide +kernel
theorem dX8_item_14 : decode cX8_item 14 = .ok (.iload_n 1, 1) := by decide +kernel
theorem dX8_item_15 : decode cX8_item 15 = .ok (.aaload, 1) := by decide +kernel
theorem dX8_item_16 : decode cX8_item 16 = .ok (.iload_n 2, 1) := by decide +kernel
theorem dX8_item_17 : decode cX8_item 17 = .ok (.iload_n 3, 1) := by decide +kernel
theorem dX8_item_18 : decode cX8_item 18 = .ok (.iconst 1, 1) := by decide +kernel
theorem dX8_item_19 : decode cX8_item 19 = .ok (.invokevirtual 245, 3) := by decide +kernel
theorem dX8_item_22 : decode cX8_item 22 = .ok (.istore 6, 2) := by decide +kernel
theorem dX8_item_24 : decode cX8_item 24 = .ok (.iload 6, 2) := by decide +kernel
theorem dX8_item_26 : decode cX8_item 26 = .ok (.ifCond .eq 6, 3) := by decide +kernel
theorem dX8_item_29 : decode cX8_item 29 = .ok (.iload 6, 2) := by decide +kernel
theorem dX8_item_31 : decode cX8_item 31 = .ok (.ireturn, 1) := by decide +kernel
theorem dX8_item_32 : decode cX8_item 32 = .ok (.aload_n 0, 1) := by decide +kernel
theorem dX8_item_33 : decode cX8_item 33 = .ok (.getfield 28, 3) := by decide +kernel
theorem dX8_item_36 : decode cX8_item 36 = .ok (.iload_n 1, 1) := by decide +kernel
theorem dX8_item_37 : decode cX8_item 37 = .ok (.aaload, 1) := by decide +kernel
theorem dX8_item_38 : decode cX8_item 38 = .ok (.iload_n 3, 1) := by decide +kernel
theorem dX8_item_39 : decode cX8_item 39 = .ok (.lload 4, 2) := by decide +kernel
theorem dX8_item_41 : decode cX8_item 41 = .ok (.invokevirtual 248, 3) := by decide +kernel
theorem dX8_item_44 : decode cX8_item 44 = .ok (.iconst 1, 1) := by decide +kernel
theorem dX8_item_45 : decode cX8_item 45 = .ok (.ireturn, 1) := by decide +kernel
theorem dX8_copy_0 : decode cX8_copy 0 = .ok (.iload_n 1, 1) := by decide +kernel
theorem dX8_copy_1 : decode cX8_copy 1 = .ok (.invokestatic 260, 3) := by decide +kernel
theorem dX8_copy_4 : decode cX8_copy 4 = .ok (.ifCond .eq 10, 3) := by decide +kernel
theorem dX8_copy_7 : decode cX8_copy 7 = .ok (.iload_n 3, 1) := by decide +kernel
theorem dX8_copy_8 : decode cX8_copy 8 = .ok (.invokestatic 260, 3) := by decide +kernel
theorem dX8_copy_11 : decode cX8_copy 11 = .ok (.ifCond .ne 5, 3) := by decide +kernel
theorem dX8_copy_14 : decode cX8_copy 14 = .ok (.iconst (-1), 1) := by decide +kernel
theorem dX8_copy_15 : decode cX8_copy 15 = .ok (.ireturn, 1) := by decide +kernel
theorem dX8_copy_16 : decode cX8_copy 16 = .ok (.aload_n 0, 1) := by decide +kernel
theorem dX8_copy_17 : decode cX8_copy 17 = .ok (.getfield 28, 3) := by decide +kernel
theorem dX8_copy_20 : decode cX8_copy 20 = .ok (.iload_n 1, 1) := by decide +kernel
theorem dX8_copy_21 : decode cX8_copy 21 = .ok (.aaload, 1) := by decide +kernel
theorem dX8_copy_22 : decode cX8_copy 22 = .ok (.astore 6, 2) := by decide +kernel
theorem dX8_copy_24 : decode cX8_copy 24 = .ok (.aload_n 0, 1) := by decide +kernel
theorem dX8_copy_25 : decode cX8_copy 25 = .ok (.getfield 28, 3) := by decide +kernel
theorem dX8_copy_28 : decode cX8_copy 28 = .ok (.iload_n 3, 1) := by decide +kernel
theorem dX8_copy_29 : decode cX8_copy 29 = .ok (.aaload, 1) := by decide +kernel
theorem dX8_copy_30 : decode cX8_copy 30 = .ok (.astore 7, 2) := by decide +kernel
theorem dX8_copy_32 : decode cX8_copy 32 = .ok (.aload 6, 2) := by decide +kernel
theorem dX8_copy_34 : decode cX8_copy 34 = .ok (.getfield 263, 3) := by decide +kernel
theorem dX8_copy_37 : decode cX8_copy 37 = .ok (.iconst (-1), 1) := by decide +kernel
theorem dX8_copy_38 : decode cX8_copy 38 = .ok (.if_icmp .eq 12, 3) := by decide +kernel
theorem dX8_copy_41 : decode cX8_copy 41 = .ok (.aload 7, 2) := by decide +kernel
theorem dX8_copy_43 : decode cX8_copy 43 = .ok (.getfield 263, 3) := by decide +kernel
theorem dX8_copy_46 : decode cX8_copy 46 = .ok (.iconst (-1), 1) := by decide +kernel
theorem dX8_copy_47 : decode cX8_copy 47 = .ok (.if_icmp .ne 6, 3) := by decide +kernel
theorem dX8_copy_50 : decode cX8_copy 50 = .ok (.bipush (-11), 2) := by decide +kernel
theorem dX8_copy_52 : decode cX8_copy 52 = .ok (.ireturn, 1) := by decide +kernel
theorem dX8_copy_53 : decode cX8_copy 53 = .ok (.aload 6, 2) := by decide +kernel
theorem dX8_copy_55 : decode cX8_copy 55 = .ok (.getfield 263, 3) := by decide +kernel
theorem dX8_copy_58 : decode cX8_copy 58 = .ok (.aload 7, 2) := by decide +kernel
theorem dX8_copy_60 : decode cX8_copy 60 = .ok (.getfield 263, 3) := by decide +kernel
theorem dX8_copy_63 : decode cX8_copy 63 = .ok (.if_icmp .eq 6, 3) := by decide +kernel
theorem dX8_copy_66 : decode cX8_copy 66 = .ok (.bipush (-12), 2) := by decide +kernel
theorem dX8_copy_68 : decode cX8_copy 68 = .ok (.ireturn, 1) := by decide +kernel
theorem dX8_copy_69 : decode cX8_copy 69 = .ok (.aload 6, 2) := by decide +kernel
theorem dX8_copy_71 : decode cX8_copy 71 = .ok (.iload_n 2, 1) := by decide +kernel
theorem dX8_copy_72 : decode cX8_copy 72 = .ok (.iload 5, 2) := by decide +kernel
theorem dX8_copy_74 : decode cX8_copy 74 = .ok (.invokevirtual 267, 3) := by decide +kernel
theorem dX8_copy_77 : decode cX8_copy 77 = .ok (.ifCond .eq 15, 3) := by decide +kernel
theorem dX8_copy_80 : decode cX8_copy 80 = .ok (.aload 7, 2) := by decide +kernel
theorem dX8_copy_82 : decode cX8_copy 82 = .ok (.iload 4, 2) := by decide +kernel
theorem dX8_copy_84 : decode cX8_copy 84 = .ok (.iload 5, 2) := by decide +kernel
theorem dX8_copy_86 : decode cX8_copy 86 = .ok (.invokevirtual 267, 3) := by decide +kernel
theorem dX8_copy_89 : decode cX8_copy 89 = .ok (.ifCond .ne 6, 3) := by decide +kernel
theorem dX8_copy_92 : decode cX8_copy 92 = .ok (.bipush (-13), 2) := by decide +kernel
theorem dX8_copy_94 : decode cX8_copy 94 = .ok (.ireturn, 1) := by decide +kernel
theorem dX8_copy_95 : decode cX8_copy 95 = .ok (.aload 6, 2) := by decide +kernel
theorem dX8_copy_97 : decode cX8_copy 97 = .ok (.getfield 270, 3) := by decide +kernel
theorem dX8_copy_100 : decode cX8_copy 100 = .ok (.iload_n 2, 1) := by decide +kernel
theorem dX8_copy_101 : decode cX8_copy 101 = .ok (.aload 7, 2) := by decide +kernel
theorem dX8_copy_103 : decode cX8_copy 103 = .ok (.getfield 270, 3) := by decide +kernel
theorem dX8_copy_106 : decode cX8_copy 106 = .ok (.iload 4, 2) := by decide +kernel
theorem dX8_copy_108 : decode cX8_copy 108 = .ok (.iload 5, 2) := by decide +kernel
theorem dX8_copy_110 : decode cX8_copy 110 = .ok (.invokestatic 273, 3) := by decide +kernel
theorem dX8_copy_113 : decode cX8_copy 113 = .ok (.iload 5, 2) := by decide +kernel
theorem dX8_copy_115 : decode cX8_copy 115 = .ok (.ireturn, 1) := by decide +kernel
theorem dX8_isWithin_0 : decode cX8_isWithin 0 = .ok (.iload_n 0, 1) := by decide +kernel
theorem dX8_isWithin_1 : decode cX8_isWithin 1 = .ok (.iload_n 1, 1) := by decide +kernel
theorem dX8_isWithin_2 : decode cX8_isWithin 2 = .ok (.if_icmp .lt 12, 3) := by decide +kernel
theorem dX8_isWithin_5 : decode cX8_isWithin 5 = .ok (.iload_n 0, 1) := by decide +kernel
theorem dX8_isWithin_6 : decode cX8_isWithin 6 = .ok (.iload_n 2, 1) := by decide +kernel
theorem dX8_isWithin_7 : decode cX8_isWithin 7 = .ok (.if_icmp .gt 7, 3) := by decide +kernel
theorem dX8_isWithin_10 : decode cX8_isWithin 10 = .ok (.iconst 1, 1) := by decide +kernel
theorem dX8_isWithin_11 : decode cX8_isWithin 11 = .ok (.goto 4, 3) := by decide +kernel
theorem dX8_isWithin_14 : decode cX8_isWithin 14 = .ok (.iconst 0, 1) := by decide +kernel
theorem dX8_isWithin_15 : decode cX8_isWithin 15 = .ok (.ireturn, 1) := by decide +kernel
theorem dX8_isSort_0 : decode cX8_isSort 0 = .ok (.iload_n 0, 1) := by decide +kernel
theorem dX8_isSort_1 : decode cX8_isSort 1 = .ok (.iconst 0, 1) := by decide +kernel
theorem dX8_isSort_2 : decode cX8_isSort 2 = .ok (.iconst 3, 1) := by decide +kernel
theorem dX8_isSort_3 : decode cX8_isSort 3 = .ok (.invokestatic 75, 3) := by decide +kernel
theorem dX8_isSort_6 : decode cX8_isSort 6 = .ok (.ireturn, 1) := by decide +kernel
theorem dX8_isSheet_0 : decode cX8_isSheet 0 = .ok (.iload_n 0, 1) := by decide +kernel
theorem dX8_isSheet_1 : decode cX8_isSheet 1 = .ok (.iconst 0, 1) := by decide +kernel
theorem dX8_isSheet_2 : decode cX8_isSheet 2 = .ok (.iconst 3, 1) := by decide +kernel
theorem dX8_isSheet_3 : decode cX8_isSheet 3 = .ok (.invokestatic 75, 3) := by decide +kernel
theorem dX8_isSheet_6 : decode cX8_isSheet 6 = .ok (.ireturn, 1) := by decide +kernel
theorem dX8_isSheetOfLane_0 : decode cX8_isSheetOfLane 0 = .ok (.iload_n 0, 1) := by decide +kernel
theorem dX8_isSheetOfLane_1 : decode cX8_isSheetOfLane 1 = .ok (.invokestatic 260, 3) := by decide +kernel
theorem dX8_isSheetOfLane_4 : decode cX8_isSheetOfLane 4 = .ok (.ifCond .eq 16, 3) := by decide +kernel
theorem dX8_isSheetOfLane_7 : decode cX8_isSheetOfLane 7 = .ok (.iload_n 1, 1) := by decide +kernel
theorem dX8_isSheetOfLane_8 : decode cX8_isSheetOfLane 8 = .ok (.iconst 0, 1) := by decide +kernel
theorem dX8_isSheetOfLane_9 : decode cX8_isSheetOfLane 9 = .ok (.iconst 2, 1) := by decide +kernel
theorem dX8_isSheetOfLane_10 : decode cX8_isSheetOfLane 10 = .ok (.invokestatic 75, 3) := by decide +kernel
theorem dX8_isSheetOfLane_13 : decode cX8_isSheetOfLane 13 = .ok (.ifCond .eq 7, 3) := by decide +kernel
theorem dX8_isSheetOfLane_16 : decode cX8_isSheetOfLane 16 = .ok (.iconst 1, 1) := by decide +kernel
theorem dX8_isSheetOfLane_17 : decode cX8_isSheetOfLane 17 = .ok (.goto 4, 3) := by decide +kernel
theorem dX8_isSheetOfLane_20 : decode cX8_isSheetOfLane 20 = .ok (.iconst 0, 1) := by decide +kernel
theorem dX8_isSheetOfLane_21 : decode cX8_isSheetOfLane 21 = .ok (.ireturn, 1) := by decide +kernel
theorem dX8_byteOf_0 : decode cX8_byteOf 0 = .ok (.lload_n 0, 1) := by decide +kernel
theorem dX8_byteOf_1 : decode cX8_byteOf 1 = .ok (.bipush 8, 2) := by decide +kernel
theorem dX8_byteOf_3 : decode cX8_byteOf 3 = .ok (.iload_n 2, 1) := by decide +kernel
theorem dX8_byteOf_4 : decode cX8_byteOf 4 = .ok (.imul, 1) := by decide +kernel
theorem dX8_byteOf_5 : decode cX8_byteOf 5 = .ok (.lushr, 1) := by decide +kernel
theorem dX8_byteOf_6 : decode cX8_byteOf 6 = .ok (.l2i, 1) := by decide +kernel
theorem dX8_byteOf_7 : decode cX8_byteOf 7 = .ok (.sipush 255, 3) := by decide +kernel
theorem dX8_byteOf_10 : decode cX8_byteOf 10 = .ok (.iand, 1) := by decide +kernel
theorem dX8_byteOf_11 : decode cX8_byteOf 11 = .ok (.ireturn, 1) := by decide +kernel
theorem dX8_sortOf_0 : decode cX8_sortOf 0 = .ok (.iload_n 0, 1) := by decide +kernel
theorem dX8_sortOf_1 : decode cX8_sortOf 1 = .ok (.iconst 3, 1) := by decide +kernel
theorem dX8_sortOf_2 : decode cX8_sortOf 2 = .ok (.idiv, 1) := by decide +kernel
theorem dX8_sortOf_3 : decode cX8_sortOf 3 = .ok (.ireturn, 1) := by decide +kernel
theorem dX8_duller_0 : decode cX8_duller 0 = .ok (.iload_n 0, 1) := by decide +kernel
theorem dX8_duller_1 : decode cX8_duller 1 = .ok (.ifCond .le 9, 3) := by decide +kernel
theorem dX8_duller_4 : decode cX8_duller 4 = .ok (.iload_n 0, 1) := by decide +kernel
theorem dX8_duller_5 : decode cX8_duller 5 = .ok (.iconst 1, 1) := by decide +kernel
theorem dX8_duller_6 : decode cX8_duller 6 = .ok (.isub, 1) := by decide +kernel
theorem dX8_duller_7 : decode cX8_duller 7 = .ok (.goto 4, 3) := by decide +kernel
theorem dX8_duller_10 : decode cX8_duller 10 = .ok (.iconst 0, 1) := by decide +kernel
theorem dX8_duller_11 : decode cX8_duller 11 = .ok (.ireturn, 1) := by decide +kernel
theorem dX8_isRemembered_0 : decode cX8_isRemembered 0 = .ok (.iload_n 0, 1) := by decide +kernel
theorem dX8_isRemembered_1 : decode cX8_isRemembered 1 = .ok (.ifCond .le 14, 3) := by decide +kernel
theorem dX8_isRemembered_4 : decode cX8_isRemembered 4 = .ok (.iload_n 1, 1) := by decide +kernel
theorem dX8_isRemembered_5 : decode cX8_isRemembered 5 = .ok (.iload_n 0, 1) := by decide +kernel
theorem dX8_isRemembered_6 : decode cX8_isRemembered 6 = .ok (.isub, 1) := by decide +kernel
theorem dX8_isRemembered_7 : decode cX8_isRemembered 7 = .ok (.iload_n 2, 1) := by decide +kernel
theorem dX8_isRemembered_8 : decode cX8_isRemembered 8 = .ok (.if_icmp .gt 7, 3) := by decide +kernel
theorem dX8_isRemembered_11 : decode cX8_isRemembered 11 = .ok (.iconst 1, 1) := by decide +kernel
theorem dX8_isRemembered_12 : decode cX8_isRemembered 12 = .ok (.goto 4, 3) := by decide +kernel
theorem dX8_isRemembered_15 : decode cX8_isRemembered 15 = .ok (.iconst 0, 1) := by decide +kernel
theorem dX8_isRemembered_16 : decode cX8_isRemembered 16 = .ok (.ireturn, 1) := by decide +kernel
theorem dX8_areSame_0 : decode cX8_areSame 0 = .ok (.iconst 0, 1) := by decide +kernel
theorem dX8_areSame_1 : decode cX8_areSame 1 = .ok (.istore_n 3, 1) := by decide +kernel
theorem dX8_areSame_2 : decode cX8_areSame 2 = .ok (.iload_n 3, 1) := by decide +kernel
theorem dX8_areSame_3 : decode cX8_areSame 3 = .ok (.iload_n 2, 1) := by decide +kernel
theorem dX8_areSame_4 : decode cX8_areSame 4 = .ok (.if_icmp .ge 20, 3) := by decide +kernel
theorem dX8_areSame_7 : decode cX8_areSame 7 = .ok (.aload_n 0, 1) := by decide +kernel
theorem dX8_areSame_8 : decode cX8_areSame 8 = .ok (.iload_n 3, 1) := by decide +kernel
theorem dX8_areSame_9 : decode cX8_areSame 9 = .ok (.iaload, 1) := by decide +kernel
theorem dX8_areSame_10 : decode cX8_areSame 10 = .ok (.aload_n 1, 1) := by decide +kernel
theorem dX8_areSame_11 : decode cX8_areSame 11 = .ok (.iload_n 3, 1) := by decide +kernel
theorem dX8_areSame_12 : decode cX8_areSame 12 = .ok (.iaload, 1) := by decide +kernel
theorem dX8_areSame_13 : decode cX8_areSame 13 = .ok (.if_icmp .eq 5, 3) := by decide +kernel
theorem dX8_areSame_16 : decode cX8_areSame 16 = .ok (.iconst 0, 1) := by decide +kernel
theorem dX8_areSame_17 : decode cX8_areSame 17 = .ok (.ireturn, 1) := by decide +kernel
theorem dX8_areSame_18 : decode cX8_areSame 18 = .ok (.iinc 3 1, 3) := by decide +kernel
theorem dX8_areSame_21 : decode cX8_areSame 21 = .ok (.goto (-19), 3) := by decide +kernel
theorem dX8_areSame_24 : decode cX8_areSame 24 = .ok (.iconst 1, 1) := by decide +kernel
theorem dX8_areSame_25 : decode cX8_areSame 25 = .ok (.ireturn, 1) := by decide +kernel
theorem dX8_asToldBy_0 : decode cX8_asToldBy 0 = .ok (.iload_n 0, 1) := by decide +kernel
theorem dX8_asToldBy_1 : decode cX8_asToldBy 1 = .ok (.ifCond .ne 5, 3) := by decide +kernel
theorem dX8_asToldBy_4 : decode cX8_asToldBy 4 = .ok (.iload_n 1, 1) := by decide +kernel
theorem dX8_asToldBy_5 : decode cX8_asToldBy 5 = .ok (.ireturn, 1) := by decide +kernel
theorem dX8_asToldBy_6 : decode cX8_asToldBy 6 = .ok (.iload_n 0, 1) := by decide +kernel
theorem dX8_asToldBy_7 : decode cX8_asToldBy 7 = .ok (.iconst 2, 1) := by decide +kernel
theorem dX8_asToldBy_8 : decode cX8_asToldBy 8 = .ok (.if_icmp .ne 14, 3) := by decide +kernel
theorem dX8_asToldBy_11 : decode cX8_asToldBy 11 = .ok (.bipush 9, 2) := by decide +kernel
theorem dX8_asToldBy_13 : decode cX8_asToldBy 13 = .ok (.iload_n 1, 1) := by decide +kernel
theorem dX8_asToldBy_14 : decode cX8_asToldBy 14 = .ok (.iconst 2, 1) := by decide +kernel
theorem dX8_asToldBy_15 : decode cX8_asToldBy 15 = .ok (.iadd, 1) := by decide +kernel
theorem dX8_asToldBy_16 : decode cX8_asToldBy 16 = .ok (.invokestatic 279, 3) := by decide +kernel
theorem dX8_asToldBy_19 : decode cX8_asToldBy 19 = .ok (.goto 10, 3) := by decide +kernel
theorem dX8_asToldBy_22 : decode cX8_asToldBy 22 = .ok (.iconst 0, 1) := by decide +kernel
theorem dX8_asToldBy_23 : decode cX8_asToldBy 23 = .ok (.iload_n 1, 1) := by decide +kernel
theorem dX8_asToldBy_24 : decode cX8_asToldBy 24 = .ok (.iconst 1, 1) := by decide +kernel
theorem dX8_asToldBy_25 : decode cX8_asToldBy 25 = .ok (.isub, 1) := by decide +kernel
theorem dX8_asToldBy_26 : decode cX8_asToldBy 26 = .ok (.invokestatic 284, 3) := by decide +kernel
theorem dX8_asToldBy_29 : decode cX8_asToldBy 29 = .ok (.ireturn, 1) := by decide +kernel
theorem dX8_retell_0 : decode cX8_retell 0 = .ok (.iconst 0, 1) := by decide +kernel
theorem dX8_retell_1 : decode cX8_retell 1 = .ok (.istore 4, 2) := by decide +kernel
theorem dX8_retell_3 : decode cX8_retell 3 = .ok (.iload 4, 2) := by decide +kernel
theorem dX8_retell_5 : decode cX8_retell 5 = .ok (.iload_n 3, 1) := by decide +kernel
theorem dX8_retell_6 : decode cX8_retell 6 = .ok (.if_icmp .ge 35, 3) := by decide +kernel
theorem dX8_retell_9 : decode cX8_retell 9 = .ok (.aload_n 2, 1) := by decide +kernel
theorem dX8_retell_10 : decode cX8_retell 10 = .ok (.iload 4, 2) := by decide +kernel
theorem dX8_retell_12 : decode cX8_retell 12 = .ok (.iload_n 0, 1) := by decide +kernel
theorem dX8_retell_13 : decode cX8_retell 13 = .ok (.aload_n 1, 1) := by decide +kernel
theorem dX8_retell_14 : decode cX8_retell 14 = .ok (.iload_n 0, 1) := by decide +kernel
theorem dX8_retell_15 : decode cX8_retell 15 = .ok (.iconst 3, 1) := by decide +kernel
theorem dX8_retell_16 : decode cX8_retell 16 = .ok (.if_icmp .ne 12, 3) := by decide +kernel
theorem dX8_retell_19 : decode cX8_retell 19 = .ok (.iload_n 3, 1) := by decide +kernel
theorem dX8_retell_20 : decode cX8_retell 20 = .ok (.iconst 1, 1) := by decide +kernel
theorem dX8_retell_21 : decode cX8_retell 21 = .ok (.isub, 1) := by decide +kernel
theorem dX8_retell_22 : decode cX8_retell 22 = .ok (.iload 4, 2) := by decide +kernel
theorem dX8_retell_24 : decode cX8_retell 24 = .ok (.isub, 1) := by decide +kernel
theorem dX8_retell_25 : decode cX8_retell 25 = .ok (.goto 5, 3) := by decide +kernel
theorem dX8_retell_28 : decode cX8_retell 28 = .ok (.iload 4, 2) := by decide +kernel
theorem dX8_retell_30 : decode cX8_retell 30 = .ok (.iaload, 1) := by decide +kernel
theorem dX8_retell_31 : decode cX8_retell 31 = .ok (.invokestatic 287, 3) := by decide +kernel
theorem dX8_retell_34 : decode cX8_retell 34 = .ok (.iastore, 1) := by decide +kernel
theorem dX8_retell_35 : decode cX8_retell 35 = .ok (.iinc 4 1, 3) := by decide +kernel
theorem dX8_retell_38 : decode cX8_retell 38 = .ok (.goto (-35), 3) := by decide +kernel
theorem dX8_retell_41 : decode cX8_retell 41 = .ok (.return_, 1) := by decide +kernel
theorem dX8_firstOrCount_0 : decode cX8_firstOrCount 0 = .ok (.iload_n 2, 1) := by decide +kernel
theorem dX8_firstOrCount_1 : decode cX8_firstOrCount 1 = .ok (.ifCond .ne 5, 3) := by decide +kernel
theorem dX8_firstOrCount_4 : decode cX8_firstOrCount 4 = .ok (.iload_n 0, 1) := by decide +kernel
theorem dX8_firstOrCount_5 : decode cX8_firstOrCount 5 = .ok (.ireturn, 1) := by decide +kernel
theorem dX8_firstOrCount_6 : decode cX8_firstOrCount 6 = .ok (.iload_n 0, 1) := by decide +kernel
theorem dX8_firstOrCount_7 : decode cX8_firstOrCount 7 = .ok (.ifCond .ne 8, 3) := by decide +kernel
theorem dX8_firstOrCount_10 : decode cX8_firstOrCount 10 = .ok (.bipush (-4), 2) := by decide +kernel
theorem dX8_firstOrCount_12 : decode cX8_firstOrCount 12 = .ok (.goto 4, 3) := by decide +kernel
theorem dX8_firstOrCount_15 : decode cX8_firstOrCount 15 = .ok (.iload_n 1, 1) := by decide +kernel
theorem dX8_firstOrCount_16 : decode cX8_firstOrCount 16 = .ok (.ireturn, 1) := by decide +kernel
theorem dX8_takeItems_0 : decode cX8_takeItems 0 = .ok (.aload_n 0, 1) := by decide +kernel
theorem dX8_takeItems_1 : decode cX8_takeItems 1 = .ok (.getfield 28, 3) := by decide +kernel
theorem dX8_takeItems_4 : decode cX8_takeItems 4 = .ok (.iload_n 1, 1) := by decide +kernel
theorem dX8_takeItems_5 : decode cX8_takeItems 5 = .ok (.aaload, 1) := by decide +kernel
theorem dX8_takeItems_6 : decode cX8_takeItems 6 = .ok (.iload_n 2, 1) := by decide +kernel
theorem dX8_takeItems_7 : decode cX8_takeItems 7 = .ok (.iload_n 3, 1) := by decide +kernel
theorem dX8_takeItems_8 : decode cX8_takeItems 8 = .ok (.iload 4, 2) := by decide +kernel
theorem dX8_takeItems_10 : decode cX8_takeItems 10 = .ok (.invokevirtual 245, 3) := by decide +kernel
theorem dX8_takeItems_13 : decode cX8_takeItems 13 = .ok (.istore 6, 2) := by decide +kernel
theorem dX8_takeItems_15 : decode cX8_takeItems 15 = .ok (.iload 6, 2) := by decide +kernel
theorem dX8_takeItems_17 : decode cX8_takeItems 17 = .ok (.ifCond .eq 6, 3) := by decide +kernel
theorem dX8_takeItems_20 : decode cX8_takeItems 20 = .ok (.iload 6, 2) := by decide +kernel
theorem dX8_takeItems_22 : decode cX8_takeItems 22 = .ok (.ireturn, 1) := by decide +kernel
theorem dX8_takeItems_23 : decode cX8_takeItems 23 = .ok (.iconst 0, 1) := by decide +kernel
theorem dX8_takeItems_24 : decode cX8_takeItems 24 = .ok (.istore 7, 2) := by decide +kernel
theorem dX8_takeItems_26 : decode cX8_takeItems 26 = .ok (.iload 7, 2) := by decide +kernel
theorem dX8_takeItems_28 : decode cX8_takeItems 28 = .ok (.iload 4, 2) := by decide +kernel
theorem dX8_takeItems_30 : decode cX8_takeItems 30 = .ok (.if_icmp .ge 49, 3) := by decide +kernel
theorem dX8_takeItems_33 : decode cX8_takeItems 33 = .ok (.aload_n 0, 1) := by decide +kernel
theorem dX8_takeItems_34 : decode cX8_takeItems 34 = .ok (.getfield 32, 3) := by decide +kernel
theorem dX8_takeItems_37 : decode cX8_takeItems 37 = .ok (.iload 7, 2) := by decide +kernel
theorem dX8_takeItems_39 : decode cX8_takeItems 39 = .ok (.aload_n 0, 1) := by decide +kernel
theorem dX8_takeItems_40 : decode cX8_takeItems 40 = .ok (.getfield 28, 3) := by decide +kernel
theorem dX8_takeItems_43 : decode cX8_takeItems 43 = .ok (.iload_n 1, 1) := by decide +kernel
theorem dX8_takeItems_44 : decode cX8_takeItems 44 = .ok (.aaload, 1) := by decide +kernel
theorem dX8_takeItems_45 : decode cX8_takeItems 45 = .ok (.getfield 270, 3) := by decide +kernel
theorem dX8_takeItems_48 : decode cX8_takeItems 48 = .ok (.iload_n 3, 1) := by decide +kernel
theorem dX8_takeItems_49 : decode cX8_takeItems 49 = .ok (.iload 7, 2) := by decide +kernel
theorem dX8_takeItems_51 : decode cX8_takeItems 51 = .ok (.iadd, 1) := by decide +kernel
theorem dX8_takeItems_52 : decode cX8_takeItems 52 = .ok (.iaload, 1) := by decide +kernel
theorem dX8_takeItems_53 : decode cX8_takeItems 53 = .ok (.iastore, 1) := by decide +kernel
theorem dX8_takeItems_54 : decode cX8_takeItems 54 = .ok (.aload_n 0, 1) := by decide +kernel
theorem dX8_takeItems_55 : decode cX8_takeItems 55 = .ok (.getfield 32, 3) := by decide +kernel
theorem dX8_takeItems_58 : decode cX8_takeItems 58 = .ok (.iload 7, 2) := by decide +kernel
theorem dX8_takeItems_60 : decode cX8_takeItems 60 = .ok (.iaload, 1) := by decide +kernel
theorem dX8_takeItems_61 : decode cX8_takeItems 61 = .ok (.iconst 0, 1) := by decide +kernel
theorem dX8_takeItems_62 : decode cX8_takeItems 62 = .ok (.iload 5, 2) := by decide +kernel
theorem dX8_takeItems_64 : decode cX8_takeItems 64 = .ok (.invokestatic 75, 3) := by decide +kernel
theorem dX8_takeItems_67 : decode cX8_takeItems 67 = .ok (.ifCond .ne 6, 3) := by decide +kernel
theorem dX8_takeItems_70 : decode cX8_takeItems 70 = .ok (.bipush (-2), 2) := by decide +kernel
theorem dX8_takeItems_72 : decode cX8_takeItems 72 = .ok (.ireturn, 1) := by decide +kernel
theorem dX8_takeItems_73 : decode cX8_takeItems 73 = .ok (.iinc 7 1, 3) := by decide +kernel
theorem dX8_takeItems_76 : decode cX8_takeItems 76 = .ok (.goto (-50), 3) := by decide +kernel
theorem dX8_takeItems_79 : decode cX8_takeItems 79 = .ok (.iconst 0, 1) := by decide +kernel
theorem dX8_takeItems_80 : decode cX8_takeItems 80 = .ok (.ireturn, 1) := by decide +kernel
theorem dX8_areTangledTo_0 : decode cX8_areTangledTo 0 = .ok (.aload_n 0, 1) := by decide +kernel
theorem dX8_areTangledTo_1 : decode cX8_areTangledTo 1 = .ok (.getfield 10, 3) := by decide +kernel
theorem dX8_areTangledTo_4 : decode cX8_areTangledTo 4 = .ok (.getfield 129, 3) := by decide +kernel
theorem dX8_areTangledTo_7 : decode cX8_areTangledTo 7 = .ok (.iload_n 1, 1) := by decide +kernel
theorem dX8_areTangledTo_8 : decode cX8_areTangledTo 8 = .ok (.iaload, 1) := by decide +kernel
theorem dX8_areTangledTo_9 : decode cX8_areTangledTo 9 = .ok (.aload_n 0, 1) := by decide +kernel
theorem dX8_areTangledTo_10 : decode cX8_areTangledTo 10 = .ok (.getfield 10, 3) := by decide +kernel
theorem dX8_areTangledTo_13 : decode cX8_areTangledTo 13 = .ok (.getfield 129, 3) := by decide +kernel
theorem dX8_areTangledTo_16 : decode cX8_areTangledTo 16 = .ok (.iload_n 2, 1) := by decide +kernel
theorem dX8_areTangledTo_17 : decode cX8_areTangledTo 17 = .ok (.iaload, 1) := by decide +kernel
theorem dX8_areTangledTo_18 : decode cX8_areTangledTo 18 = .ok (.iadd, 1) := by decide +kernel
theorem dX8_areTangledTo_19 : decode cX8_areTangledTo 19 = .ok (.iload_n 3, 1) := by decide +kernel
theorem dX8_areTangledTo_20 : decode cX8_areTangledTo 20 = .ok (.if_icmp .eq 5, 3) := by decide +kernel
theorem dX8_areTangledTo_23 : decode cX8_areTangledTo 23 = .ok (.iconst 0, 1) := by decide +kernel
theorem dX8_areTangledTo_24 : decode cX8_areTangledTo 24 = .ok (.ireturn, 1) := by decide +kernel
theorem dX8_areTangledTo_25 : decode cX8_areTangledTo 25 = .ok (.aload_n 0, 1) := by decide +kernel
theorem dX8_areTangledTo_26 : decode cX8_areTangledTo 26 = .ok (.getfield 10, 3) := by decide +kernel
theorem dX8_areTangledTo_29 : decode cX8_areTangledTo 29 = .ok (.aload_n 0, 1) := by decide +kernel
theorem dX8_areTangledTo_30 : decode cX8_areTangledTo 30 = .ok (.getfield 36, 3) := by decide +kernel
theorem dX8_areTangledTo_33 : decode cX8_areTangledTo 33 = .ok (.iload_n 1, 1) := by decide +kernel
theorem dX8_areTangledTo_34 : decode cX8_areTangledTo 34 = .ok (.iload_n 2, 1) := by decide +kernel
theorem dX8_areTangledTo_35 : decode cX8_areTangledTo 35 = .ok (.invokevirtual 241, 3) := by decide +kernel
theorem dX8_areTangledTo_38 : decode cX8_areTangledTo 38 = .ok (.pop, 1) := by decide +kernel
theorem dX8_areTangledTo_39 : decode cX8_areTangledTo 39 = .ok (.aload_n 0, 1) := by decide +kernel
theorem dX8_areTangledTo_40 : decode cX8_areTangledTo 40 = .ok (.getfield 36, 3) := by decide +kernel
theorem dX8_areTangledTo_43 : decode cX8_areTangledTo 43 = .ok (.aload_n 0, 1) := by decide +kernel
theorem dX8_areTangledTo_44 : decode cX8_areTangledTo 44 = .ok (.getfield 32, 3) := by decide +kernel
theorem dX8_areTangledTo_47 : decode cX8_areTangledTo 47 = .ok (.iload_n 3, 1) := by decide +kernel
theorem dX8_areTangledTo_48 : decode cX8_areTangledTo 48 = .ok (.invokestatic 290, 3) := by decide +kernel
theorem dX8_areTangledTo_51 : decode cX8_areTangledTo 51 = .ok (.ireturn, 1) := by decide +kernel
