theorem dX9_init_0 : decode cX9_init 0 = .ok (.aload_n 0, 1) := by decide +kernel
theorem dX9_init_1 : decode cX9_init 1 = .ok (.invokespecial 1, 3) := by decide +kernel
theorem dX9_init_4 : decode cX9_init 4 = .ok (.aload_n 0, 1) := by decide +kernel
theorem dX9_init_5 : decode cX9_init 5 = .ok (.sipush 141, 3) := by decide +kernel
theorem dX9_init_8 : decode cX9_init 8 = .ok (.newarray .int, 2) := by decide +kernel
theorem dX9_init_10 : decode cX9_init 10 = .ok (.putfield 7, 3) := by decide +kernel
theorem dX9_init_13 : decode cX9_init 13 = .ok (.aload_n 0, 1) := by decide +kernel
theorem dX9_init_14 : decode cX9_init 14 = .ok (.sipush 141, 3) := by decide +kernel
theorem dX9_init_17 : decode cX9_init 17 = .ok (.newarray .int, 2) := by decide +kernel
theorem dX9_init_19 : decode cX9_init 19 = .ok (.putfield 13, 3) := by decide +kernel
theorem dX9_init_22 : decode cX9_init 22 = .ok (.aload_n 0, 1) := by decide +kernel
theorem dX9_init_23 : decode cX9_init 23 = .ok (.bipush 24, 2) := by decide +kernel
theorem dX9_init_25 : decode cX9_init 25 = .ok (.newarray .int, 2) := by decide +kernel
theorem dX9_init_27 : decode cX9_init 27 = .ok (.putfield 16, 3) := by decide +kernel
theorem dX9_init_30 : decode cX9_init 30 = .ok (.aload_n 0, 1) := by decide +kernel
theorem dX9_init_31 : decode cX9_init 31 = .ok (.iconst 4, 1) := by decide +kernel
theorem dX9_init_32 : decode cX9_init 32 = .ok (.newarray .int, 2) := by decide +kernel
theorem dX9_init_34 : decode cX9_init 34 = .ok (.putfield 19, 3) := by decide +kernel
theorem dX9_init_37 : decode cX9_init 37 = .ok (.aload_n 0, 1) := by decide +kernel
theorem dX9_init_38 : decode cX9_init 38 = .ok (.iconst 4, 1) := by decide +kernel
theorem dX9_init_39 : decode cX9_init 39 = .ok (.newarray .int, 2) := by decide +kernel
theorem dX9_init_41 : decode cX9_init 41 = .ok (.putfield 22, 3) := by decide +kernel
theorem dX9_init_44 : decode cX9_init 44 = .ok (.aload_n 0, 1) := by decide +kernel
theorem dX9_init_45 : decode cX9_init 45 = .ok (.bipush 96, 2) := by decide +kernel
theorem dX9_init_47 : decode cX9_init 47 = .ok (.newarray .int, 2) := by decide +kernel
theorem dX9_init_49 : decode cX9_init 49 = .ok (.putfield 25, 3) := by decide +kernel
theorem dX9_init_52 : decode cX9_init 52 = .ok (.aload_n 0, 1) := by decide +kernel
theorem dX9_init_53 : decode cX9_init 53 = .ok (.bipush 8, 2) := by decide +kernel
theorem dX9_init_55 : decode cX9_init 55 = .ok (.newarray .int, 2) := by decide +kernel
theorem dX9_init_57 : decode cX9_init 57 = .ok (.putfield 28, 3) := by decide +kernel
theorem dX9_init_60 : decode cX9_init 60 = .ok (.aload_n 0, 1) := by decide +kernel
theorem dX9_init_61 : decode cX9_init 61 = .ok (.bipush 8, 2) := by decide +kernel
theorem dX9_init_63 : decode cX9_init 63 = .ok (.newarray .int, 2) := by decide +kernel
theorem dX9_init_65 : decode cX9_init 65 = .ok (.putfield 31, 3) := by decide +kernel
theorem dX9_init_68 : decode cX9_init 68 = .ok (.aload_n 0, 1) := by decide +kernel
theorem dX9_init_69 : decode cX9_init 69 = .ok (.bipush 8, 2) := by decide +kernel
theorem dX9_init_71 : decode cX9_init 71 = .ok (.newarray .int, 2) := by decide +kernel
theorem dX9_init_73 : decode cX9_init 73 = .ok (.putfield 34, 3) := by decide +kernel
theorem dX9_init_76 : decode cX9_init 76 = .ok (.aload_n 0, 1) := by decide +kernel
theorem dX9_init_77 : decode cX9_init 77 = .ok (.sipush 128, 3) := by decide +kernel
theorem dX9_init_80 : decode cX9_init 80 = .ok (.newarray .int, 2) := by decide +kernel
theorem dX9_init_82 : decode cX9_init 82 = .ok (.putfield 37, 3) := by decide +kernel
theorem dX9_init_85 : decode cX9_init 85 = .ok (.aload_n 0, 1) := by decide +kernel
theorem dX9_init_86 : decode cX9_init 86 = .ok (.iconst 4, 1) := by decide +kernel
theorem dX9_init_87 : decode cX9_init 87 = .ok (.newarray .int, 2) := by decide +kernel
theorem dX9_init_89 : decode cX9_init 89 = .ok (.putfield 40, 3) := by decide +kernel
theorem dX9_init_92 : decode cX9_init 92 = .ok (.aload_n 0, 1) := by decide +kernel
theorem dX9_init_93 : decode cX9_init 93 = .ok (.bipush 18, 2) := by decide +kernel
theorem dX9_init_95 : decode cX9_init 95 = .ok (.newarray .int, 2) := by decide +kernel
theorem dX9_init_97 : decode cX9_init 97 = .ok (.putfield 43, 3) := by decide +kernel
theorem dX9_init_100 : decode cX9_init 100 = .ok (.aload_n 0, 1) := by decide +kernel
theorem dX9_init_101 : decode cX9_init 101 = .ok (.bipush 9, 2) := by decide +kernel
theorem dX9_init_103 : decode cX9_init 103 = .ok (.newarray .int, 2) := by decide +kernel
theorem dX9_init_105 : decode cX9_init 105 = .ok (.putfield 46, 3) := by decide +kernel
theorem dX9_init_108 : decode cX9_init 108 = .ok (.aload_n 0, 1) := by decide +kernel
theorem dX9_init_109 : decode cX9_init 109 = .ok (.bipush 9, 2) := by decide +kernel
theorem dX9_init_111 : decode cX9_init 111 = .ok (.newarray .int, 2) := by decide +kernel
theorem dX9_init_113 : decode cX9_init 113 = .ok (.putfield 49, 3) := by decide +kernel
theorem dX9_init_116 : decode cX9_init 116 = .ok (.aload_n 0, 1) := by decide +kernel
theorem dX9_init_117 : decode cX9_init 117 = .ok (.getfield 7, 3) := by decide +kernel
theorem dX9_init_120 : decode cX9_init 120 = .ok (.iconst 4, 1) := by decide +kernel
theorem dX9_init_121 : decode cX9_init 121 = .ok (.bipush (-4), 2) := by decide +kernel
theorem dX9_init_123 : decode cX9_init 123 = .ok (.iastore, 1) := by decide +kernel
theorem dX9_init_124 : decode cX9_init 124 = .ok (.aload_n 0, 1) := by decide +kernel
theorem dX9_init_125 : decode cX9_init 125 = .ok (.getfield 7, 3) := by decide +kernel
theorem dX9_init_128 : decode cX9_init 128 = .ok (.iconst 5, 1) := by decide +kernel
theorem dX9_init_129 : decode cX9_init 129 = .ok (.bipush (-4), 2) := by decide +kernel
theorem dX9_init_131 : decode cX9_init 131 = .ok (.iastore, 1) := by decide +kernel
theorem dX9_init_132 : decode cX9_init 132 = .ok (.aload_n 0, 1) := by decide +kernel
theorem dX9_init_133 : decode cX9_init 133 = .ok (.getfield 7, 3) := by decide +kernel
theorem dX9_init_136 : decode cX9_init 136 = .ok (.bipush 6, 2) := by decide +kernel
theorem dX9_init_138 : decode cX9_init 138 = .ok (.bipush (-4), 2) := by decide +kernel
theorem dX9_init_140 : decode cX9_init 140 = .ok (.iastore, 1) := by decide +kernel
theorem dX9_init_141 : decode cX9_init 141 = .ok (.aload_n 0, 1) := by decide +kernel
theorem dX9_init_142 : decode cX9_init 142 = .ok (.getfield 7, 3) := by decide +kernel
theorem dX9_init_145 : decode cX9_init 145 = .ok (.bipush 8, 2) := by decide +kernel
theorem dX9_init_147 : decode cX9_init 147 = .ok (.bipush 20, 2) := by decide +kernel
theorem dX9_init_149 : decode cX9_init 149 = .ok (.iastore, 1) := by decide +kernel
theorem dX9_init_150 : decode cX9_init 150 = .ok (.iconst 0, 1) := by decide +kernel
theorem dX9_init_151 : decode cX9_init 151 = .ok (.istore_n 1, 1) := by decide +kernel
theorem dX9_init_152 : decode cX9_init 152 = .ok (.iload_n 1, 1) := by decide +kernel
theorem dX9_init_153 : decode cX9_init 153 = .ok (.iconst 4, 1) := by decide +kernel
theorem dX9_init_154 : decode cX9_init 154 = .ok (.if_icmp .ge 16, 3) := by decide +kernel
theorem dX9_init_157 : decode cX9_init 157 = .ok (.aload_n 0, 1) := by decide +kernel
theorem dX9_init_158 : decode cX9_init 158 = .ok (.getfield 19, 3) := by decide +kernel
theorem dX9_init_161 : decode cX9_init 161 = .ok (.iload_n 1, 1) := by decide +kernel
theorem dX9_init_162 : decode cX9_init 162 = .ok (.iconst (-1), 1) := by decide +kernel
theorem dX9_init_163 : decode cX9_init 163 = .ok (.iastore, 1) := by decide +kernel
theorem dX9_init_164 : decode cX9_init 164 = .ok (.iinc 1 1, 3) := by decide +kernel
theorem dX9_init_167 : decode cX9_init 167 = .ok (.goto (-15), 3) := by decide +kernel
theorem dX9_init_170 : decode cX9_init 170 = .ok (.return_, 1) := by decide +kernel
theorem dX9_in_0 : decode cX9_in 0 = .ok (.lload_n 0, 1) := by decide +kernel
theorem dX9_in_1 : decode cX9_in 1 = .ok (.lload_n 2, 1) := by decide +kernel
theorem dX9_in_2 : decode cX9_in 2 = .ok (.lcmp, 1) := by decide +kernel
theorem dX9_in_3 : decode cX9_in 3 = .ok (.ifCond .lt 14, 3) := by decide +kernel
theorem dX9_in_6 : decode cX9_in 6 = .ok (.lload_n 0, 1) := by decide +kernel
theorem dX9_in_7 : decode cX9_in 7 = .ok (.lload 4, 2) := by decide +kernel
theorem dX9_in_9 : decode cX9_in 9 = .ok (.lcmp, 1) := by decide +kernel
theorem dX9_in_10 : decode cX9_in 10 = .ok (.ifCond .gt 7, 3) := by decide +kernel
theorem dX9_in_13 : decode cX9_in 13 = .ok (.iconst 1, 1) := by decide +kernel
theorem dX9_in_14 : decode cX9_in 14 = .ok (.goto 4, 3) := by decide +kernel
theorem dX9_in_17 : decode cX9_in 17 = .ok (.iconst 0, 1) := by decide +kernel
theorem dX9_in_18 : decode cX9_in 18 = .ok (.ireturn, 1) := by decide +kernel
theorem dX9_isTale_0 : decode cX9_isTale 0 = .ok (.iload_n 1, 1) := by decide +kernel
theorem dX9_isTale_1 : decode cX9_isTale 1 = .ok (.i2l, 1) := by decide +kernel
theorem dX9_isTale_2 : decode cX9_isTale 2 = .ok (.lconst 0, 1) := by decide +kernel
theorem dX9_isTale_3 : decode cX9_isTale 3 = .ok (.aload_n 0, 1) := by decide +kernel
theorem dX9_isTale_4 : decode cX9_isTale 4 = .ok (.getfield 7, 3) := by decide +kernel
theorem dX9_isTale_7 : decode cX9_isTale 7 = .ok (.iconst 0, 1) := by decide +kernel
theorem dX9_isTale_8 : decode cX9_isTale 8 = .ok (.iaload, 1) := by decide +kernel
theorem dX9_isTale_9 : decode cX9_isTale 9 = .ok (.iconst 1, 1) := by decide +kernel
theorem dX9_isTale_10 : decode cX9_isTale 10 = .ok (.isub, 1) := by decide +kernel
theorem dX9_isTale_11 : decode cX9_isTale 11 = .ok (.i2l, 1) := by decide +kernel
theorem dX9_isTale_12 : decode cX9_isTale 12 = .ok (.invokestatic 52, 3) := by decide +kernel
theorem dX9_isTale_15 : decode cX9_isTale 15 = .ok (.ireturn, 1) := by decide +kernel
theorem dX9_isTeller_0 : decode cX9_isTeller 0 = .ok (.iload_n 1, 1) := by decide +kernel
theorem dX9_isTeller_1 : decode cX9_isTeller 1 = .ok (.i2l, 1) := by decide +kernel
theorem dX9_isTeller_2 : decode cX9_isTeller 2 = .ok (.lconst 0, 1) := by decide +kernel
theorem dX9_isTeller_3 : decode cX9_isTeller 3 = .ok (.aload_n 0, 1) := by decide +kernel
theorem dX9_isTeller_4 : decode cX9_isTeller 4 = .ok (.getfield 7, 3) := by decide +kernel
theorem dX9_isTeller_7 : decode cX9_isTeller 7 = .ok (.iconst 1, 1) := by decide +kernel
theorem dX9_isTeller_8 : decode cX9_isTeller 8 = .ok (.iaload, 1) := by decide +kernel
theorem dX9_isTeller_9 : decode cX9_isTeller 9 = .ok (.iconst 1, 1) := by decide +kernel
theorem dX9_isTeller_10 : decode cX9_isTeller 10 = .ok (.isub, 1) := by decide +kernel
theorem dX9_isTeller_11 : decode cX9_isTeller 11 = .ok (.i2l, 1) := by decide +kernel
theorem dX9_isTeller_12 : decode cX9_isTeller 12 = .ok (.invokestatic 52, 3) := by decide +kernel
theorem dX9_isTeller_15 : decode cX9_isTeller 15 = .ok (.ireturn, 1) := by decide +kernel
theorem dX9_isSpinner_0 : decode cX9_isSpinner 0 = .ok (.iload_n 1, 1) := by decide +kernel
theorem dX9_isSpinner_1 : decode cX9_isSpinner 1 = .ok (.i2l, 1) := by decide +kernel
theorem dX9_isSpinner_2 : decode cX9_isSpinner 2 = .ok (.lconst 0, 1) := by decide +kernel
theorem dX9_isSpinner_3 : decode cX9_isSpinner 3 = .ok (.aload_n 0, 1) := by decide +kernel
theorem dX9_isSpinner_4 : decode cX9_isSpinner 4 = .ok (.getfield 7, 3) := by decide +kernel
theorem dX9_isSpinner_7 : decode cX9_isSpinner 7 = .ok (.iconst 2, 1) := by decide +kernel
theorem dX9_isSpinner_8 : decode cX9_isSpinner 8 = .ok (.iaload, 1) := by decide +kernel
theorem dX9_isSpinner_9 : decode cX9_isSpinner 9 = .ok (.iconst 1, 1) := by decide +kernel
theorem dX9_isSpinner_10 : decode cX9_isSpinner 10 = .ok (.isub, 1) := by decide +kernel
theorem dX9_isSpinner_11 : decode cX9_isSpinner 11 = .ok (.i2l, 1) := by decide +kernel
theorem dX9_isSpinner_12 : decode cX9_isSpinner 12 = .ok (.invokestatic 52, 3) := by decide +kernel
theorem dX9_isSpinner_15 : decode cX9_isSpinner 15 = .ok (.ireturn, 1) := by decide +kernel
theorem dX9_type_0 : decode cX9_type 0 = .ok (.iload_n 3, 1) := by decide +kernel
theorem dX9_type_1 : decode cX9_type 1 = .ok (.i2l, 1) := by decide +kernel
theorem dX9_type_2 : decode cX9_type 2 = .ok (.lconst 1, 1) := by decide +kernel
theorem dX9_type_3 : decode cX9_type 3 = .ok (.ldc2_w 56, 3) := by decide +kernel
theorem dX9_type_6 : decode cX9_type 6 = .ok (.invokestatic 52, 3) := by decide +kernel
theorem dX9_type_9 : decode cX9_type 9 = .ok (.ifCond .ne 5, 3) := by decide +kernel
theorem dX9_type_12 : decode cX9_type 12 = .ok (.iconst (-1), 1) := by decide +kernel
theorem dX9_type_13 : decode cX9_type 13 = .ok (.ireturn, 1) := by decide +kernel
theorem dX9_type_14 : decode cX9_type 14 = .ok (.iconst 1, 1) := by decide +kernel
theorem dX9_type_15 : decode cX9_type 15 = .ok (.istore 4, 2) := by decide +kernel
theorem dX9_type_17 : decode cX9_type 17 = .ok (.iconst 0, 1) := by decide +kernel
theorem dX9_type_18 : decode cX9_type 18 = .ok (.istore 5, 2) := by decide +kernel
theorem dX9_type_20 : decode cX9_type 20 = .ok (.iload 5, 2) := by decide +kernel
theorem dX9_type_22 : decode cX9_type 22 = .ok (.iload_n 3, 1) := by decide +kernel
theorem dX9_type_23 : decode cX9_type 23 = .ok (.if_icmp .ge 44, 3) := by decide +kernel
theorem dX9_type_26 : decode cX9_type 26 = .ok (.iload 4, 2) := by decide +kernel
theorem dX9_type_28 : decode cX9_type 28 = .ok (.ifCond .eq 30, 3) := by decide +kernel
theorem dX9_type_31 : decode cX9_type 31 = .ok (.lload_n 1, 1) := by decide +kernel
theorem dX9_type_32 : decode cX9_type 32 = .ok (.bipush 8, 2) := by decide +kernel
theorem dX9_type_34 : decode cX9_type 34 = .ok (.iload 5, 2) := by decide +kernel
theorem dX9_type_36 : decode cX9_type 36 = .ok (.imul, 1) := by decide +kernel
theorem dX9_type_37 : decode cX9_type 37 = .ok (.lshr, 1) := by decide +kernel
theorem dX9_type_38 : decode cX9_type 38 = .ok (.ldc2_w 58, 3) := by decide +kernel
theorem dX9_type_41 : decode cX9_type 41 = .ok (.land, 1) := by decide +kernel
theorem dX9_type_42 : decode cX9_type 42 = .ok (.ldc2_w 60, 3) := by decide +kernel
theorem dX9_type_45 : decode cX9_type 45 = .ok (.ldc2_w 62, 3) := by decide +kernel
theorem dX9_type_48 : decode cX9_type 48 = .ok (.invokestatic 52, 3) := by decide +kernel
theorem dX9_type_51 : decode cX9_type 51 = .ok (.ifCond .eq 7, 3) := by decide +kernel
theorem dX9_type_54 : decode cX9_type 54 = .ok (.iconst 1, 1) := by decide +kernel
theorem dX9_type_55 : decode cX9_type 55 = .ok (.goto 4, 3) := by decide +kernel
theorem dX9_type_58 : decode cX9_type 58 = .ok (.iconst 0, 1) := by decide +kernel
theorem dX9_type_59 : decode cX9_type 59 = .ok (.istore 4, 2) := by decide +kernel
theorem dX9_type_61 : decode cX9_type 61 = .ok (.iinc 5 1, 3) := by decide +kernel
theorem dX9_type_64 : decode cX9_type 64 = .ok (.goto (-44), 3) := by decide +kernel
theorem dX9_type_67 : decode cX9_type 67 = .ok (.iload 4, 2) := by decide +kernel
theorem dX9_type_69 : decode cX9_type 69 = .ok (.ifCond .ne 5, 3) := by decide +kernel
theorem dX9_type_72 : decode cX9_type 72 = .ok (.iconst (-1), 1) := by decide +kernel
theorem dX9_type_73 : decode cX9_type 73 = .ok (.ireturn, 1) := by decide +kernel
theorem dX9_type_74 : decode cX9_type 74 = .ok (.aload_n 0, 1) := by decide +kernel
theorem dX9_type_75 : decode cX9_type 75 = .ok (.getfield 64, 3) := by decide +kernel
theorem dX9_type_78 : decode cX9_type 78 = .ok (.iload_n 3, 1) := by decide +kernel
theorem dX9_type_79 : decode cX9_type 79 = .ok (.iadd, 1) := by decide +kernel
theorem dX9_type_80 : decode cX9_type 80 = .ok (.bipush 24, 2) := by decide +kernel
theorem dX9_type_82 : decode cX9_type 82 = .ok (.if_icmp .le 6, 3) := by decide +kernel
theorem dX9_type_85 : decode cX9_type 85 = .ok (.bipush (-3), 2) := by decide +kernel
theorem dX9_type_87 : decode cX9_type 87 = .ok (.ireturn, 1) := by decide +kernel
theorem dX9_type_88 : decode cX9_type 88 = .ok (.iload_n 3, 1) := by decide +kernel
theorem dX9_type_89 : decode cX9_type 89 = .ok (.iconst 1, 1) := by decide +kernel
theorem dX9_type_90 : decode cX9_type 90 = .ok (.isub, 1) := by decide +kernel
theorem dX9_type_91 : decode cX9_type 91 = .ok (.istore 5, 2) := by decide +kernel
theorem dX9_type_93 : decode cX9_type 93 = .ok (.iload 5, 2) := by decide +kernel
theorem dX9_type_95 : decode cX9_type 95 = .ok (.ifCond .lt 40, 3) := by decide +kernel
theorem dX9_type_98 : decode cX9_type 98 = .ok (.aload_n 0, 1) := by decide +kernel
theorem dX9_type_99 : decode cX9_type 99 = .ok (.getfield 16, 3) := by decide +kernel
theorem dX9_type_102 : decode cX9_type 102 = .ok (.aload_n 0, 1) := by decide +kernel
theorem dX9_type_103 : decode cX9_type 103 = .ok (.getfield 64, 3) := by decide +kernel
theorem dX9_type_106 : decode cX9_type 106 = .ok (.lload_n 1, 1) := by decide +kernel
theorem dX9_type_107 : decode cX9_type 107 = .ok (.bipush 8, 2) := by decide +kernel
theorem dX9_type_109 : decode cX9_type 109 = .ok (.iload 5, 2) := by decide +kernel
theorem dX9_type_111 : decode cX9_type 111 = .ok (.imul, 1) := by decide +kernel
theorem dX9_type_112 : decode cX9_type 112 = .ok (.lshr, 1) := by decide +kernel
theorem dX9_type_113 : decode cX9_type 113 = .ok (.ldc2_w 58, 3) := by decide +kernel
theorem dX9_type_116 : decode cX9_type 116 = .ok (.land, 1) := by decide +kernel
theorem dX9_type_117 : decode cX9_type 117 = .ok (.l2i, 1) := by decide +kernel
theorem dX9_type_118 : decode cX9_type 118 = .ok (.iastore, 1) := by decide +kernel
theorem dX9_type_119 : decode cX9_type 119 = .ok (.aload_n 0, 1) := by decide +kernel
theorem dX9_type_120 : decode cX9_type 120 = .ok (.dup, 1) := by decide +kernel
theorem dX9_type_121 : decode cX9_type 121 = .ok (.getfield 64, 3) := by decide +kernel
theorem dX9_type_124 : decode cX9_type 124 = .ok (.iconst 1, 1) := by decide +kernel
theorem dX9_type_125 : decode cX9_type 125 = .ok (.iadd, 1) := by decide +kernel
theorem dX9_type_126 : decode cX9_type 126 = .ok (.putfield 64, 3) := by decide +kernel
theorem dX9_type_129 : decode cX9_type 129 = .ok (.iinc 5 (-1), 3) := by decide +kernel
theorem dX9_type_132 : decode cX9_type 132 = .ok (.goto (-39), 3) := by decide +kernel
theorem dX9_type_135 : decode cX9_type 135 = .ok (.aload_n 0, 1) := by decide +kernel
theorem dX9_type_136 : decode cX9_type 136 = .ok (.getfield 64, 3) := by decide +kernel
theorem dX9_type_139 : decode cX9_type 139 = .ok (.ireturn, 1) := by decide +kernel
theorem dX9_tale_0 : decode cX9_tale 0 = .ok (.aload_n 0, 1) := by decide +kernel
theorem dX9_tale_1 : decode cX9_tale 1 = .ok (.getfield 64, 3) := by decide +kernel
theorem dX9_tale_4 : decode cX9_tale 4 = .ok (.istore_n 1, 1) := by decide +kernel
theorem dX9_tale_5 : decode cX9_tale 5 = .ok (.aload_n 0, 1) := by decide +kernel
theorem dX9_tale_6 : decode cX9_tale 6 = .ok (.iconst 0, 1) := by decide +kernel
theorem dX9_tale_7 : decode cX9_tale 7 = .ok (.putfield 64, 3) := by decide +kernel
theorem dX9_tale_10 : decode cX9_tale 10 = .ok (.iconst 0, 1) := by decide +kernel
theorem dX9_tale_11 : decode cX9_tale 11 = .ok (.istore_n 2, 1) := by decide +kernel
theorem dX9_tale_12 : decode cX9_tale 12 = .ok (.bipush (-4), 2) := by decide +kernel
theorem dX9_tale_14 : decode cX9_tale 14 = .ok (.istore_n 3, 1) := by decide +kernel
theorem dX9_tale_15 : decode cX9_tale 15 = .ok (.iconst 0, 1) := by decide +kernel
theorem dX9_tale_16 : decode cX9_tale 16 = .ok (.istore 4, 2) := by decide +kernel
theorem dX9_tale_18 : decode cX9_tale 18 = .ok (.iload 4, 2) := by decide +kernel
theorem dX9_tale_20 : decode cX9_tale 20 = .ok (.iload_n 1, 1) := by decide +kernel
theorem dX9_tale_21 : decode cX9_tale 21 = .ok (.if_icmp .ge 62, 3) := by decide +kernel
theorem dX9_tale_24 : decode cX9_tale 24 = .ok (.iload_n 3, 1) := by decide +kernel
theorem dX9_tale_25 : decode cX9_tale 25 = .ok (.bipush (-4), 2) := by decide +kernel
theorem dX9_tale_27 : decode cX9_tale 27 = .ok (.if_icmp .ne 56, 3) := by decide +kernel
theorem dX9_tale_30 : decode cX9_tale 30 = .ok (.aload_n 0, 1) := by decide +kernel
theorem dX9_tale_31 : decode cX9_tale 31 = .ok (.getfield 16, 3) := by decide +kernel
theorem dX9_tale_34 : decode cX9_tale 34 = .ok (.iload 4, 2) := by decide +kernel
theorem dX9_tale_36 : decode cX9_tale 36 = .ok (.iaload, 1) := by decide +kernel
theorem dX9_tale_37 : decode cX9_tale 37 = .ok (.bipush 32, 2) := by decide +kernel
theorem dX9_tale_39 : decode cX9_tale 39 = .ok (.if_icmp .ne 6, 3) := by decide +kernel
theorem dX9_tale_42 : decode cX9_tale 42 = .ok (.goto 35, 3) := by decide +kernel
theorem dX9_tale_45 : decode cX9_tale 45 = .ok (.iload_n 2, 1) := by decide +kernel
theorem dX9_tale_46 : decode cX9_tale 46 = .ok (.bipush 9, 2) := by decide +kernel
theorem dX9_tale_48 : decode cX9_tale 48 = .ok (.if_icmp .eq 23, 3) := by decide +kernel
theorem dX9_tale_51 : decode cX9_tale 51 = .ok (.aload_n 0, 1) := by decide +kernel
theorem dX9_tale_52 : decode cX9_tale 52 = .ok (.getfield 16, 3) := by decide +kernel
theorem dX9_tale_55 : decode cX9_tale 55 = .ok (.iload 4, 2) := by decide +kernel
theorem dX9_tale_57 : decode cX9_tale 57 = .ok (.iaload, 1) := by decide +kernel
theorem dX9_tale_58 : decode cX9_tale 58 = .ok (.i2l, 1) := by decide +kernel
theorem dX9_tale_59 : decode cX9_tale 59 = .ok (.ldc2_w 68, 3) := by decide +kernel
theorem dX9_tale_62 : decode cX9_tale 62 = .ok (.ldc2_w 70, 3) := by decide +kernel
theorem dX9_tale_65 : decode cX9_tale 65 = .ok (.invokestatic 52, 3) := by decide +kernel
theorem dX9_tale_68 : decode cX9_tale 68 = .ok (.ifCond .ne 6, 3) := by decide +kernel
theorem dX9_tale_71 : decode cX9_tale 71 = .ok (.iload 4, 2) := by decide +kernel
theorem dX9_tale_73 : decode cX9_tale 73 = .ok (.istore_n 3, 1) := by decide +kernel
theorem dX9_tale_74 : decode cX9_tale 74 = .ok (.iinc 2 1, 3) := by decide +kernel
theorem dX9_tale_77 : decode cX9_tale 77 = .ok (.iinc 4 1, 3) := by decide +kernel
theorem dX9_tale_80 : decode cX9_tale 80 = .ok (.goto (-62), 3) := by decide +kernel
theorem dX9_tale_83 : decode cX9_tale 83 = .ok (.iload_n 3, 1) := by decide +kernel
theorem dX9_tale_84 : decode cX9_tale 84 = .ok (.bipush (-4), 2) := by decide +kernel
theorem dX9_tale_86 : decode cX9_tale 86 = .ok (.if_icmp .ne 11, 3) := by decide +kernel
theorem dX9_tale_89 : decode cX9_tale 89 = .ok (.iload_n 2, 1) := by decide +kernel
theorem dX9_tale_90 : decode cX9_tale 90 = .ok (.ifCond .ne 7, 3) := by decide +kernel
theorem dX9_tale_93 : decode cX9_tale 93 = .ok (.iload_n 1, 1) := by decide +kernel
theorem dX9_tale_94 : decode cX9_tale 94 = .ok (.goto 4, 3) := by decide +kernel
theorem dX9_tale_97 : decode cX9_tale 97 = .ok (.iload_n 3, 1) := by decide +kernel
theorem dX9_tale_98 : decode cX9_tale 98 = .ok (.istore_n 3, 1) := by decide +kernel
theorem dX9_tale_99 : decode cX9_tale 99 = .ok (.iload_n 3, 1) := by decide +kernel
theorem dX9_tale_100 : decode cX9_tale 100 = .ok (.bipush (-4), 2) := by decide +kernel
theorem dX9_tale_102 : decode cX9_tale 102 = .ok (.if_icmp .eq 8, 3) := by decide +kernel
theorem dX9_tale_105 : decode cX9_tale 105 = .ok (.bipush (-20), 2) := by decide +kernel
theorem dX9_tale_107 : decode cX9_tale 107 = .ok (.iload_n 3, 1) := by decide +kernel
theorem dX9_tale_108 : decode cX9_tale 108 = .ok (.isub, 1) := by decide +kernel
theorem dX9_tale_109 : decode cX9_tale 109 = .ok (.ireturn, 1) := by decide +kernel
theorem dX9_tale_110 : decode cX9_tale 110 = .ok (.aload_n 0, 1) := by decide +kernel
theorem dX9_tale_111 : decode cX9_tale 111 = .ok (.getfield 7, 3) := by decide +kernel
theorem dX9_tale_114 : decode cX9_tale 114 = .ok (.iconst 0, 1) := by decide +kernel
theorem dX9_tale_115 : decode cX9_tale 115 = .ok (.iaload, 1) := by decide +kernel
theorem dX9_tale_116 : decode cX9_tale 116 = .ok (.istore 4, 2) := by decide +kernel
theorem dX9_tale_118 : decode cX9_tale 118 = .ok (.iload 4, 2) := by decide +kernel
theorem dX9_tale_120 : decode cX9_tale 120 = .ok (.bipush 8, 2) := by decide +kernel
theorem dX9_tale_122 : decode cX9_tale 122 = .ok (.if_icmp .ne 6, 3) := by decide +kernel
theorem dX9_tale_125 : decode cX9_tale 125 = .ok (.bipush (-3), 2) := by decide +kernel
theorem dX9_tale_127 : decode cX9_tale 127 = .ok (.ireturn, 1) := by decide +kernel
theorem dX9_tale_128 : decode cX9_tale 128 = .ok (.aload_n 0, 1) := by decide +kernel
theorem dX9_tale_129 : decode cX9_tale 129 = .ok (.getfield 7, 3) := by decide +kernel
theorem dX9_tale_132 : decode cX9_tale 132 = .ok (.bipush 81, 2) := by decide +kernel
theorem dX9_tale_134 : decode cX9_tale 134 = .ok (.iload 4, 2) := by decide +kernel
theorem dX9_tale_136 : decode cX9_tale 136 = .ok (.iadd, 1) := by decide +kernel
theorem dX9_tale_137 : decode cX9_tale 137 = .ok (.iload_n 2, 1) := by decide +kernel
theorem dX9_tale_138 : decode cX9_tale 138 = .ok (.iastore, 1) := by decide +kernel
theorem dX9_tale_139 : decode cX9_tale 139 = .ok (.iconst 0, 1) := by decide +kernel
theorem dX9_tale_140 : decode cX9_tale 140 = .ok (.istore 5, 2) := by decide +kernel
theorem dX9_tale_142 : decode cX9_tale 142 = .ok (.iconst 0, 1) := by decide +kernel
theorem dX9_tale_143 : decode cX9_tale 143 = .ok (.istore 6, 2) := by decide +kernel
theorem dX9_tale_145 : decode cX9_tale 145 = .ok (.iload 6, 2) := by decide +kernel
theorem dX9_tale_147 : decode cX9_tale 147 = .ok (.iload_n 1, 1) := by decide +kernel
theorem dX9_tale_148 : decode cX9_tale 148 = .ok (.if_icmp .ge 50, 3) := by decide +kernel
theorem dX9_tale_151 : decode cX9_tale 151 = .ok (.aload_n 0, 1) := by decide +kernel
theorem dX9_tale_152 : decode cX9_tale 152 = .ok (.getfield 16, 3) := by decide +kernel
theorem dX9_tale_155 : decode cX9_tale 155 = .ok (.iload 6, 2) := by decide +kernel
theorem dX9_tale_157 : decode cX9_tale 157 = .ok (.iaload, 1) := by decide +kernel
theorem dX9_tale_158 : decode cX9_tale 158 = .ok (.bipush 32, 2) := by decide +kernel
theorem dX9_tale_160 : decode cX9_tale 160 = .ok (.if_icmp .eq 32, 3) := by decide +kernel
theorem dX9_tale_163 : decode cX9_tale 163 = .ok (.aload_n 0, 1) := by decide +kernel
theorem dX9_tale_164 : decode cX9_tale 164 = .ok (.getfield 7, 3) := by decide +kernel
theorem dX9_tale_167 : decode cX9_tale 167 = .ok (.bipush 9, 2) := by decide +kernel
theorem dX9_tale_169 : decode cX9_tale 169 = .ok (.bipush 9, 2) := by decide +kernel
theorem dX9_tale_171 : decode cX9_tale 171 = .ok (.iload 4, 2) := by decide +kernel
theorem dX9_tale_173 : decode cX9_tale 173 = .ok (.imul, 1) := by decide +kernel
theorem dX9_tale_174 : decode cX9_tale 174 = .ok (.iadd, 1) := by decide +kernel
theorem dX9_tale_175 : decode cX9_tale 175 = .ok (.iload 5, 2) := by decide +kernel
theorem dX9_tale_177 : decode cX9_tale 177 = .ok (.iadd, 1) := by decide +kernel
theorem dX9_tale_178 : decode cX9_tale 178 = .ok (.aload_n 0, 1) := by decide +kernel
theorem dX9_tale_179 : decode cX9_tale 179 = .ok (.getfield 16, 3) := by decide +kernel
theorem dX9_tale_182 : decode cX9_tale 182 = .ok (.iload 6, 2) := by decide +kernel
theorem dX9_tale_184 : decode cX9_tale 184 = .ok (.iaload, 1) := by decide +kernel
theorem dX9_tale_185 : decode cX9_tale 185 = .ok (.bipush 48, 2) := by decide +kernel
theorem dX9_tale_187 : decode cX9_tale 187 = .ok (.isub, 1) := by decide +kernel
theorem dX9_tale_188 : decode cX9_tale 188 = .ok (.iastore, 1) := by decide +kernel
theorem dX9_tale_189 : decode cX9_tale 189 = .ok (.iinc 5 1, 3) := by decide +kernel
theorem dX9_tale_192 : decode cX9_tale 192 = .ok (.iinc 6 1, 3) := by decide +kernel
theorem dX9_tale_195 : decode cX9_tale 195 = .ok (.goto (-50), 3) := by decide +kernel
theorem dX9_tale_198 : decode cX9_tale 198 = .ok (.aload_n 0, 1) := by decide +kernel
theorem dX9_tale_199 : decode cX9_tale 199 = .ok (.getfield 7, 3) := by decide +kernel
theorem dX9_tale_202 : decode cX9_tale 202 = .ok (.iconst 0, 1) := by decide +kernel
theorem dX9_tale_203 : decode cX9_tale 203 = .ok (.iload 4, 2) := by decide +kernel
theorem dX9_tale_205 : decode cX9_tale 205 = .ok (.iconst 1, 1) := by decide +kernel
theorem dX9_tale_206 : decode cX9_tale 206 = .ok (.iadd, 1) := by decide +kernel
theorem dX9_tale_207 : decode cX9_tale 207 = .ok (.iastore, 1) := by decide +kernel
theorem dX9_tale_208 : decode cX9_tale 208 = .ok (.iload 4, 2) := by decide +kernel
theorem dX9_tale_210 : decode cX9_tale 210 = .ok (.ireturn, 1) := by decide +kernel
theorem dX9_isSentence_0 : decode cX9_isSentence 0 = .ok (.aload_n 0, 1) := by decide +kernel
theorem dX9_isSentence_1 : decode cX9_isSentence 1 = .ok (.iload_n 1, 1) := by decide +kernel
theorem dX9_isSentence_2 : decode cX9_isSentence 2 = .ok (.invokevirtual 72, 3) := by decide +kernel
theorem dX9_isSentence_5 : decode cX9_isSentence 5 = .ok (.ifCond .eq 28, 3) := by decide +kernel
theorem dX9_isSentence_8 : decode cX9_isSentence 8 = .ok (.iload_n 2, 1) := by decide +kernel
theorem dX9_isSentence_9 : decode cX9_isSentence 9 = .ok (.i2l, 1) := by decide +kernel
theorem dX9_isSentence_10 : decode cX9_isSentence 10 = .ok (.lconst 0, 1) := by decide +kernel
theorem dX9_isSentence_11 : decode cX9_isSentence 11 = .ok (.aload_n 0, 1) := by decide +kernel
theorem dX9_isSentence_12 : decode cX9_isSentence 12 = .ok (.getfield 7, 3) := by decide +kernel
theorem dX9_isSentence_15 : decode cX9_isSentence 15 = .ok (.bipush 81, 2) := by decide +kernel
theorem dX9_isSentence_17 : decode cX9_isSentence 17 = .ok (.iload_n 1, 1) := by decide +kernel
theorem dX9_isSentence_18 : decode cX9_isSentence 18 = .ok (.iadd, 1) := by decide +kernel
theorem dX9_isSentence_19 : decode cX9_isSentence 19 = .ok (.iaload, 1) := by decide +kernel
theorem dX9_isSentence_20 : decode cX9_isSentence 20 = .ok (.iconst 1, 1) := by decide +kernel
theorem dX9_isSentence_21 : decode cX9_isSentence 21 = .ok (.isub, 1) := by decide +kernel
theorem dX9_isSentence_22 : decode cX9_isSentence 22 = .ok (.i2l, 1) := by decide +kernel
theorem dX9_isSentence_23 : decode cX9_isSentence 23 = .ok (.invokestatic 52, 3) := by decide +kernel
theorem dX9_isSentence_26 : decode cX9_isSentence 26 = .ok (.ifCond .eq 7, 3) := by decide +kernel
theorem dX9_isSentence_29 : decode cX9_isSentence 29 = .ok (.iconst 1, 1) := by decide +kernel
theorem dX9_isSentence_30 : decode cX9_isSentence 30 = .ok (.goto 4, 3) := by decide +kernel
theorem dX9_isSentence_33 : decode cX9_isSentence 33 = .ok (.iconst 0, 1) := by decide +kernel
theorem dX9_isSentence_34 : decode cX9_isSentence 34 = .ok (.ireturn, 1) := by decide +kernel
theorem dX9_change_0 : decode cX9_change 0 = .ok (.aload_n 0, 1) := by decide +kernel
theorem dX9_change_1 : decode cX9_change 1 = .ok (.iload_n 1, 1) := by decide +kernel
theorem dX9_change_2 : decode cX9_change 2 = .ok (.iload_n 2, 1) := by decide +kernel
theorem dX9_change_3 : decode cX9_change 3 = .ok (.invokevirtual 76, 3) := by decide +kernel
theorem dX9_change_6 : decode cX9_change 6 = .ok (.ifCond .eq 15, 3) := by decide +kernel
theorem dX9_change_9 : decode cX9_change 9 = .ok (.iload_n 3, 1) := by decide +kernel
theorem dX9_change_10 : decode cX9_change 10 = .ok (.i2l, 1) := by decide +kernel
theorem dX9_change_11 : decode cX9_change 11 = .ok (.lconst 0, 1) := by decide +kernel
theorem dX9_change_12 : decode cX9_change 12 = .ok (.ldc2_w 80, 3) := by decide +kernel
theorem dX9_change_15 : decode cX9_change 15 = .ok (.invokestatic 52, 3) := by decide +kernel
theorem dX9_change_18 : decode cX9_change 18 = .ok (.ifCond .ne 5, 3) := by decide +kernel
theorem dX9_change_21 : decode cX9_change 21 = .ok (.iconst (-1), 1) := by decide +kernel
theorem dX9_change_22 : decode cX9_change 22 = .ok (.ireturn, 1) := by decide +kernel
theorem dX9_change_23 : decode cX9_change 23 = .ok (.aload_n 0, 1) := by decide +kernel
theorem dX9_change_24 : decode cX9_change 24 = .ok (.getfield 7, 3) := by decide +kernel
theorem dX9_change_27 : decode cX9_change 27 = .ok (.iconst 4, 1) := by decide +kernel
theorem dX9_change_28 : decode cX9_change 28 = .ok (.iaload, 1) := by decide +kernel
theorem dX9_change_29 : decode cX9_change 29 = .ok (.iload_n 1, 1) := by decide +kernel
theorem dX9_change_30 : decode cX9_change 30 = .ok (.if_icmp .ne 6, 3) := by decide +kernel
theorem dX9_change_33 : decode cX9_change 33 = .ok (.bipush (-2), 2) := by decide +kernel
theorem dX9_change_35 : decode cX9_change 35 = .ok (.ireturn, 1) := by decide +kernel
theorem dX9_change_36 : decode cX9_change 36 = .ok (.aload_n 0, 1) := by decide +kernel
theorem dX9_change_37 : decode cX9_change 37 = .ok (.getfield 7, 3) := by decide +kernel
theorem dX9_change_40 : decode cX9_change 40 = .ok (.bipush 9, 2) := by decide +kernel
theorem dX9_change_42 : decode cX9_change 42 = .ok (.bipush 9, 2) := by decide +kernel
theorem dX9_change_44 : decode cX9_change 44 = .ok (.iload_n 1, 1) := by decide +kernel
theorem dX9_change_45 : decode cX9_change 45 = .ok (.imul, 1) := by decide +kernel
theorem dX9_change_46 : decode cX9_change 46 = .ok (.iadd, 1) := by decide +kernel
theorem dX9_change_47 : decode cX9_change 47 = .ok (.iload_n 2, 1) := by decide +kernel
theorem dX9_change_48 : decode cX9_change 48 = .ok (.iadd, 1) := by decide +kernel
theorem dX9_change_49 : decode cX9_change 49 = .ok (.iaload, 1) := by decide +kernel
theorem dX9_change_50 : decode cX9_change 50 = .ok (.istore 4, 2) := by decide +kernel
theorem dX9_change_52 : decode cX9_change 52 = .ok (.aload_n 0, 1) := by decide +kernel
theorem dX9_change_53 : decode cX9_change 53 = .ok (.getfield 7, 3) := by decide +kernel
theorem dX9_change_56 : decode cX9_change 56 = .ok (.bipush 9, 2) := by decide +kernel
theorem dX9_change_58 : decode cX9_change 58 = .ok (.bipush 9, 2) := by decide +kernel
theorem dX9_change_60 : decode cX9_change 60 = .ok (.iload_n 1, 1) := by decide +kernel
theorem dX9_change_61 : decode cX9_change 61 = .ok (.imul, 1) := by decide +kernel
theorem dX9_change_62 : decode cX9_change 62 = .ok (.iadd, 1) := by decide +kernel
theorem dX9_change_63 : decode cX9_change 63 = .ok (.iload_n 2, 1) := by decide +kernel
theorem dX9_change_64 : decode cX9_change 64 = .ok (.iadd, 1) := by decide +kernel
theorem dX9_change_65 : decode cX9_change 65 = .ok (.iload_n 3, 1) := by decide +kernel
theorem dX9_change_66 : decode cX9_change 66 = .ok (.iastore, 1) := by decide +kernel
theorem dX9_change_67 : decode cX9_change 67 = .ok (.iload 4, 2) := by decide +kernel
theorem dX9_change_69 : decode cX9_change 69 = .ok (.ireturn, 1) := by decide +kernel
theorem dX9_teller_0 : decode cX9_teller 0 = .ok (.iload_n 1, 1) := by decide +kernel
theorem dX9_teller_1 : decode cX9_teller 1 = .ok (.i2l, 1) := by decide +kernel
theorem dX9_teller_2 : decode cX9_teller 2 = .ok (.lconst 0, 1) := by decide +kernel
theorem dX9_teller_3 : decode cX9_teller 3 = .ok (.ldc2_w 82, 3) := by decide +kernel
theorem dX9_teller_6 : decode cX9_teller 6 = .ok (.invokestatic 52, 3) := by decide +kernel
theorem dX9_teller_9 : decode cX9_teller 9 = .ok (.ifCond .ne 5, 3) := by decide +kernel
theorem dX9_teller_12 : decode cX9_teller 12 = .ok (.iconst (-1), 1) := by decide +kernel
theorem dX9_teller_13 : decode cX9_teller 13 = .ok (.ireturn, 1) := by decide +kernel
theorem dX9_teller_14 : decode cX9_teller 14 = .ok (.aload_n 0, 1) := by decide +kernel
theorem dX9_teller_15 : decode cX9_teller 15 = .ok (.getfield 7, 3) := by decide +kernel
theorem dX9_teller_18 : decode cX9_teller 18 = .ok (.iconst 1, 1) := by decide +kernel
theorem dX9_teller_19 : decode cX9_teller 19 = .ok (.iaload, 1) := by decide +kernel
theorem dX9_teller_20 : decode cX9_teller 20 = .ok (.istore_n 2, 1) := by decide +kernel
theorem dX9_teller_21 : decode cX9_teller 21 = .ok (.iload_n 2, 1) := by decide +kernel
theorem dX9_teller_22 : decode cX9_teller 22 = .ok (.iconst 4, 1) := by decide +kernel
theorem dX9_teller_23 : decode cX9_teller 23 = .ok (.if_icmp .ne 6, 3) := by decide +kernel
theorem dX9_teller_26 : decode cX9_teller 26 = .ok (.bipush (-3), 2) := by decide +kernel
theorem dX9_teller_28 : decode cX9_teller 28 = .ok (.ireturn, 1) := by decide +kernel
theorem dX9_teller_29 : decode cX9_teller 29 = .ok (.aload_n 0, 1) := by decide +kernel
theorem dX9_teller_30 : decode cX9_teller 30 = .ok (.getfield 7, 3) := by decide +kernel
theorem dX9_teller_33 : decode cX9_teller 33 = .ok (.bipush 89, 2) := by decide +kernel
theorem dX9_teller_35 : decode cX9_teller 35 = .ok (.iload_n 2, 1) := by decide +kernel
theorem dX9_teller_36 : decode cX9_teller 36 = .ok (.iadd, 1) := by decide +kernel
theorem dX9_teller_37 : decode cX9_teller 37 = .ok (.iload_n 1, 1) := by decide +kernel
theorem dX9_teller_38 : decode cX9_teller 38 = .ok (.iastore, 1) := by decide +kernel
theorem dX9_teller_39 : decode cX9_teller 39 = .ok (.aload_n 0, 1) := by decide +kernel
theorem dX9_teller_40 : decode cX9_teller 40 = .ok (.getfield 7, 3) := by decide +kernel
theorem dX9_teller_43 : decode cX9_teller 43 = .ok (.iconst 1, 1) := by decide +kernel
theorem dX9_teller_44 : decode cX9_teller 44 = .ok (.iload_n 2, 1) := by decide +kernel
theorem dX9_teller_45 : decode cX9_teller 45 = .ok (.iconst 1, 1) := by decide +kernel
theorem dX9_teller_46 : decode cX9_teller 46 = .ok (.iadd, 1) := by decide +kernel
theorem dX9_teller_47 : decode cX9_teller 47 = .ok (.iastore, 1) := by decide +kernel
theorem dX9_teller_48 : decode cX9_teller 48 = .ok (.iload_n 2, 1) := by decide +kernel
theorem dX9_teller_49 : decode cX9_teller 49 = .ok (.ireturn, 1) := by decide +kernel
theorem dX9_spinner_0 : decode cX9_spinner 0 = .ok (.aload_n 0, 1) := by decide +kernel
theorem dX9_spinner_1 : decode cX9_spinner 1 = .ok (.getfield 7, 3) := by decide +kernel
theorem dX9_spinner_4 : decode cX9_spinner 4 = .ok (.iconst 2, 1) := by decide +kernel
theorem dX9_spinner_5 : decode cX9_spinner 5 = .ok (.iaload, 1) := by decide +kernel
theorem dX9_spinner_6 : decode cX9_spinner 6 = .ok (.istore_n 1, 1) := by decide +kernel
theorem dX9_spinner_7 : decode cX9_spinner 7 = .ok (.iload_n 1, 1) := by decide +kernel
theorem dX9_spinner_8 : decode cX9_spinner 8 = .ok (.iconst 4, 1) := by decide +kernel
theorem dX9_spinner_9 : decode cX9_spinner 9 = .ok (.if_icmp .ne 6, 3) := by decide +kernel
theorem dX9_spinner_12 : decode cX9_spinner 12 = .ok (.bipush (-3), 2) := by decide +kernel
theorem dX9_spinner_14 : decode cX9_spinner 14 = .ok (.ireturn, 1) := by decide +kernel
theorem dX9_spinner_15 : decode cX9_spinner 15 = .ok (.iconst 0, 1) := by decide +kernel
theorem dX9_spinner_16 : decode cX9_spinner 16 = .ok (.istore_n 2, 1) := by decide +kernel
theorem dX9_spinner_17 : decode cX9_spinner 17 = .ok (.iload_n 2, 1) := by decide +kernel
theorem dX9_spinner_18 : decode cX9_spinner 18 = .ok (.iconst 4, 1) := by decide +kernel
theorem dX9_spinner_19 : decode cX9_spinner 19 = .ok (.if_icmp .ge 23, 3) := by decide +kernel
theorem dX9_spinner_22 : decode cX9_spinner 22 = .ok (.aload_n 0, 1) := by decide +kernel
theorem dX9_spinner_23 : decode cX9_spinner 23 = .ok (.getfield 7, 3) := by decide +kernel
theorem dX9_spinner_26 : decode cX9_spinner 26 = .ok (.bipush 93, 2) := by decide +kernel
theorem dX9_spinner_28 : decode cX9_spinner 28 = .ok (.iconst 4, 1) := by decide +kernel
theorem dX9_spinner_29 : decode cX9_spinner 29 = .ok (.iload_n 1, 1) := by decide +kernel
theorem dX9_spinner_30 : decode cX9_spinner 30 = .ok (.imul, 1) := by decide +kernel
theorem dX9_spinner_31 : decode cX9_spinner 31 = .ok (.iadd, 1) := by decide +kernel
theorem dX9_spinner_32 : decode cX9_spinner 32 = .ok (.iload_n 2, 1) := by decide +kernel
theorem dX9_spinner_33 : decode cX9_spinner 33 = .ok (.iadd, 1) := by decide +kernel
theorem dX9_spinner_34 : decode cX9_spinner 34 = .ok (.iconst 0, 1) := by decide +kernel
theorem dX9_spinner_35 : decode cX9_spinner 35 = .ok (.iastore, 1) := by decide +kernel
theorem dX9_spinner_36 : decode cX9_spinner 36 = .ok (.iinc 2 1, 3) := by decide +kernel
theorem dX9_spinner_39 : decode cX9_spinner 39 = .ok (.goto (-22), 3) := by decide +kernel
theorem dX9_spinner_42 : decode cX9_spinner 42 = .ok (.iconst 0, 1) := by decide +kernel
theorem dX9_spinner_43 : decode cX9_spinner 43 = .ok (.istore_n 2, 1) := by decide +kernel
theorem dX9_spinner_44 : decode cX9_spinner 44 = .ok (.iload_n 2, 1) := by decide +kernel
theorem dX9_spinner_45 : decode cX9_spinner 45 = .ok (.bipush 8, 2) := by decide +kernel
theorem dX9_spinner_47 : decode cX9_spinner 47 = .ok (.if_icmp .ge 24, 3) := by decide +kernel
theorem dX9_spinner_50 : decode cX9_spinner 50 = .ok (.aload_n 0, 1) := by decide +kernel
theorem dX9_spinner_51 : decode cX9_spinner 51 = .ok (.getfield 7, 3) := by decide +kernel
theorem dX9_spinner_54 : decode cX9_spinner 54 = .ok (.bipush 109, 2) := by decide +kernel
theorem dX9_spinner_56 : decode cX9_spinner 56 = .ok (.bipush 8, 2) := by decide +kernel
theorem dX9_spinner_58 : decode cX9_spinner 58 = .ok (.iload_n 1, 1) := by decide +kernel
theorem dX9_spinner_59 : decode cX9_spinner 59 = .ok (.imul, 1) := by decide +kernel
theorem dX9_spinner_60 : decode cX9_spinner 60 = .ok (.iadd, 1) := by decide +kernel
theorem dX9_spinner_61 : decode cX9_spinner 61 = .ok (.iload_n 2, 1) := by decide +kernel
theorem dX9_spinner_62 : decode cX9_spinner 62 = .ok (.iadd, 1) := by decide +kernel
theorem dX9_spinner_63 : decode cX9_spinner 63 = .ok (.iconst 0, 1) := by decide +kernel
theorem dX9_spinner_64 : decode cX9_spinner 64 = .ok (.iastore, 1) := by decide +kernel
theorem dX9_spinner_65 : decode cX9_spinner 65 = .ok (.iinc 2 1, 3) := by decide +kernel
theorem dX9_spinner_68 : decode cX9_spinner 68 = .ok (.goto (-24), 3) := by decide +kernel
theorem dX9_spinner_71 : decode cX9_spinner 71 = .ok (.aload_n 0, 1) := by decide +kernel
theorem dX9_spinner_72 : decode cX9_spinner 72 = .ok (.getfield 7, 3) := by decide +kernel
theorem dX9_spinner_75 : decode cX9_spinner 75 = .ok (.iconst 2, 1) := by decide +kernel
theorem dX9_spinner_76 : decode cX9_spinner 76 = .ok (.iload_n 1, 1) := by decide +kernel
theorem dX9_spinner_77 : decode cX9_spinner 77 = .ok (.iconst 1, 1) := by decide +kernel
theorem dX9_spinner_78 : decode cX9_spinner 78 = .ok (.iadd, 1) := by decide +kernel
theorem dX9_spinner_79 : decode cX9_spinner 79 = .ok (.iastore, 1) := by decide +kernel
theorem dX9_spinner_80 : decode cX9_spinner 80 = .ok (.iload_n 1, 1) := by decide +kernel
theorem dX9_spinner_81 : decode cX9_spinner 81 = .ok (.ireturn, 1) := by decide +kernel
theorem dX9_memory_0 : decode cX9_memory 0 = .ok (.iload_n 1, 1) := by decide +kernel
theorem dX9_memory_1 : decode cX9_memory 1 = .ok (.i2l, 1) := by decide +kernel
theorem dX9_memory_2 : decode cX9_memory 2 = .ok (.lconst 1, 1) := by decide +kernel
theorem dX9_memory_3 : decode cX9_memory 3 = .ok (.ldc2_w 84, 3) := by decide +kernel
theorem dX9_memory_6 : decode cX9_memory 6 = .ok (.invokestatic 52, 3) := by decide +kernel
theorem dX9_memory_9 : decode cX9_memory 9 = .ok (.ifCond .ne 5, 3) := by decide +kernel
theorem dX9_memory_12 : decode cX9_memory 12 = .ok (.iconst (-1), 1) := by decide +kernel
theorem dX9_memory_13 : decode cX9_memory 13 = .ok (.ireturn, 1) := by decide +kernel
theorem dX9_memory_14 : decode cX9_memory 14 = .ok (.aload_n 0, 1) := by decide +kernel
theorem dX9_memory_15 : decode cX9_memory 15 = .ok (.getfield 7, 3) := by decide +kernel
theorem dX9_memory_18 : decode cX9_memory 18 = .ok (.bipush 8, 2) := by decide +kernel
theorem dX9_memory_20 : decode cX9_memory 20 = .ok (.iaload, 1) := by decide +kernel
theorem dX9_memory_21 : decode cX9_memory 21 = .ok (.istore_n 2, 1) := by decide +kernel
theorem dX9_memory_22 : decode cX9_memory 22 = .ok (.aload_n 0, 1) := by decide +kernel
theorem dX9_memory_23 : decode cX9_memory 23 = .ok (.getfield 7, 3) := by decide +kernel
theorem dX9_memory_26 : decode cX9_memory 26 = .ok (.bipush 8, 2) := by decide +kernel
theorem dX9_memory_28 : decode cX9_memory 28 = .ok (.iload_n 1, 1) := by decide +kernel
theorem dX9_memory_29 : decode cX9_memory 29 = .ok (.iastore, 1) := by decide +kernel
theorem dX9_memory_30 : decode cX9_memory 30 = .ok (.iload_n 2, 1) := by decide +kernel
theorem dX9_memory_31 : decode cX9_memory 31 = .ok (.ireturn, 1) := by decide +kernel
theorem dX9_told_0 : decode cX9_told 0 = .ok (.iload_n 2, 1) := by decide +kernel
theorem dX9_told_1 : decode cX9_told 1 = .ok (.iconst (-1), 1) := by decide +kernel
theorem dX9_told_2 : decode cX9_told 2 = .ok (.if_icmp .ne 21, 3) := by decide +kernel
theorem dX9_told_5 : decode cX9_told 5 = .ok (.aload_n 0, 1) := by decide +kernel
theorem dX9_told_6 : decode cX9_told 6 = .ok (.iload_n 1, 1) := by decide +kernel
theorem dX9_told_7 : decode cX9_told 7 = .ok (.invokevirtual 72, 3) := by decide +kernel
theorem dX9_told_10 : decode cX9_told 10 = .ok (.ifCond .eq 13, 3) := by decide +kernel
theorem dX9_told_13 : decode cX9_told 13 = .ok (.aload_n 0, 1) := by decide +kernel
theorem dX9_told_14 : decode cX9_told 14 = .ok (.getfield 7, 3) := by decide +kernel
theorem dX9_told_17 : decode cX9_told 17 = .ok (.bipush 81, 2) := by decide +kernel
theorem dX9_told_19 : decode cX9_told 19 = .ok (.iload_n 1, 1) := by decide +kernel
theorem dX9_told_20 : decode cX9_told 20 = .ok (.iadd, 1) := by decide +kernel
theorem dX9_told_21 : decode cX9_told 21 = .ok (.iaload, 1) := by decide +kernel
theorem dX9_told_22 : decode cX9_told 22 = .ok (.ireturn, 1) := by decide +kernel
theorem dX9_told_23 : decode cX9_told 23 = .ok (.aload_n 0, 1) := by decide +kernel
theorem dX9_told_24 : decode cX9_told 24 = .ok (.iload_n 1, 1) := by decide +kernel
theorem dX9_told_25 : decode cX9_told 25 = .ok (.iload_n 2, 1) := by decide +kernel
theorem dX9_told_26 : decode cX9_told 26 = .ok (.invokevirtual 76, 3) := by decide +kernel
theorem dX9_told_29 : decode cX9_told 29 = .ok (.ifCond .eq 20, 3) := by decide +kernel
theorem dX9_told_32 : decode cX9_told 32 = .ok (.aload_n 0, 1) := by decide +kernel
theorem dX9_told_33 : decode cX9_told 33 = .ok (.getfield 7, 3) := by decide +kernel
theorem dX9_told_36 : decode cX9_told 36 = .ok (.bipush 9, 2) := by decide +kernel
theorem dX9_told_38 : decode cX9_told 38 = .ok (.bipush 9, 2) := by decide +kernel
theorem dX9_told_40 : decode cX9_told 40 = .ok (.iload_n 1, 1) := by decide +kernel
theorem dX9_told_41 : decode cX9_told 41 = .ok (.imul, 1) := by decide +kernel
theorem dX9_told_42 : decode cX9_told 42 = .ok (.iadd, 1) := by decide +kernel
theorem dX9_told_43 : decode cX9_told 43 = .ok (.iload_n 2, 1) := by decide +kernel
theorem dX9_told_44 : decode cX9_told 44 = .ok (.iadd, 1) := by decide +kernel
theorem dX9_told_45 : decode cX9_told 45 = .ok (.iaload, 1) := by decide +kernel
theorem dX9_told_46 : decode cX9_told 46 = .ok (.goto 4, 3) := by decide +kernel
theorem dX9_told_49 : decode cX9_told 49 = .ok (.iconst (-1), 1) := by decide +kernel
theorem dX9_told_50 : decode cX9_told 50 = .ok (.ireturn, 1) := by decide +kernel
theorem dX9_by_0 : decode cX9_by 0 = .ok (.iload_n 0, 1) := by decide +kernel
theorem dX9_by_1 : decode cX9_by 1 = .ok (.iconst 2, 1) := by decide +kernel
theorem dX9_by_2 : decode cX9_by 2 = .ok (.if_icmp .ne 20, 3) := by decide +kernel
theorem dX9_by_5 : decode cX9_by 5 = .ok (.iload_n 1, 1) := by decide +kernel
theorem dX9_by_6 : decode cX9_by 6 = .ok (.bipush 7, 2) := by decide +kernel
theorem dX9_by_8 : decode cX9_by 8 = .ok (.if_icmp .le 8, 3) := by decide +kernel
theorem dX9_by_11 : decode cX9_by 11 = .ok (.bipush 9, 2) := by decide +kernel
theorem dX9_by_13 : decode cX9_by 13 = .ok (.goto 34, 3) := by decide +kernel
theorem dX9_by_16 : decode cX9_by 16 = .ok (.iload_n 1, 1) := by decide +kernel
theorem dX9_by_17 : decode cX9_by 17 = .ok (.iconst 2, 1) := by decide +kernel
theorem dX9_by_18 : decode cX9_by 18 = .ok (.iadd, 1) := by decide +kernel
theorem dX9_by_19 : decode cX9_by 19 = .ok (.goto 28, 3) := by decide +kernel
theorem dX9_by_22 : decode cX9_by 22 = .ok (.iload_n 0, 1) := by decide +kernel
theorem dX9_by_23 : decode cX9_by 23 = .ok (.iconst 1, 1) := by decide +kernel
theorem dX9_by_24 : decode cX9_by 24 = .ok (.if_icmp .eq 8, 3) := by decide +kernel
theorem dX9_by_27 : decode cX9_by 27 = .ok (.iload_n 0, 1) := by decide +kernel
theorem dX9_by_28 : decode cX9_by 28 = .ok (.iconst 3, 1) := by decide +kernel
theorem dX9_by_29 : decode cX9_by 29 = .ok (.if_icmp .ne 17, 3) := by decide +kernel
theorem dX9_by_32 : decode cX9_by 32 = .ok (.iload_n 1, 1) := by decide +kernel
theorem dX9_by_33 : decode cX9_by 33 = .ok (.ifCond .le 9, 3) := by decide +kernel
theorem dX9_by_36 : decode cX9_by 36 = .ok (.iload_n 1, 1) := by decide +kernel
theorem dX9_by_37 : decode cX9_by 37 = .ok (.iconst 1, 1) := by decide +kernel
theorem dX9_by_38 : decode cX9_by 38 = .ok (.isub, 1) := by decide +kernel
theorem dX9_by_39 : decode cX9_by 39 = .ok (.goto 8, 3) := by decide +kernel
theorem dX9_by_42 : decode cX9_by 42 = .ok (.iconst 0, 1) := by decide +kernel
theorem dX9_by_43 : decode cX9_by 43 = .ok (.goto 4, 3) := by decide +kernel
theorem dX9_by_46 : decode cX9_by 46 = .ok (.iload_n 1, 1) := by decide +kernel
theorem dX9_by_47 : decode cX9_by 47 = .ok (.ireturn, 1) := by decide +kernel
theorem dX9_tellsIt_0 : decode cX9_tellsIt 0 = .ok (.aload_n 0, 1) := by decide +kernel
theorem dX9_tellsIt_1 : decode cX9_tellsIt 1 = .ok (.getfield 7, 3) := by decide +kernel
theorem dX9_tellsIt_4 : decode cX9_tellsIt 4 = .ok (.bipush 89, 2) := by decide +kernel
theorem dX9_tellsIt_6 : decode cX9_tellsIt 6 = .ok (.iload_n 1, 1) := by decide +kernel
theorem dX9_tellsIt_7 : decode cX9_tellsIt 7 = .ok (.iadd, 1) := by decide +kernel
theorem dX9_tellsIt_8 : decode cX9_tellsIt 8 = .ok (.iaload, 1) := by decide +kernel
theorem dX9_tellsIt_9 : decode cX9_tellsIt 9 = .ok (.istore 4, 2) := by decide +kernel
theorem dX9_tellsIt_11 : decode cX9_tellsIt 11 = .ok (.iload 4, 2) := by decide +kernel
theorem dX9_tellsIt_13 : decode cX9_tellsIt 13 = .ok (.iconst 3, 1) := by decide +kernel
theorem dX9_tellsIt_14 : decode cX9_tellsIt 14 = .ok (.if_icmp .ne 19, 3) := by decide +kernel
theorem dX9_tellsIt_17 : decode cX9_tellsIt 17 = .ok (.aload_n 0, 1) := by decide +kernel
theorem dX9_tellsIt_18 : decode cX9_tellsIt 18 = .ok (.getfield 7, 3) := by decide +kernel
theorem dX9_tellsIt_21 : decode cX9_tellsIt 21 = .ok (.bipush 81, 2) := by decide +kernel
theorem dX9_tellsIt_23 : decode cX9_tellsIt 23 = .ok (.iload_n 2, 1) := by decide +kernel
theorem dX9_tellsIt_24 : decode cX9_tellsIt 24 = .ok (.iadd, 1) := by decide +kernel
theorem dX9_tellsIt_25 : decode cX9_tellsIt 25 = .ok (.iaload, 1) := by decide +kernel
theorem dX9_tellsIt_26 : decode cX9_tellsIt 26 = .ok (.iconst 1, 1) := by decide +kernel
theorem dX9_tellsIt_27 : decode cX9_tellsIt 27 = .ok (.isub, 1) := by decide +kernel
theorem dX9_tellsIt_28 : decode cX9_tellsIt 28 = .ok (.iload_n 3, 1) := by decide +kernel
theorem dX9_tellsIt_29 : decode cX9_tellsIt 29 = .ok (.isub, 1) := by decide +kernel
theorem dX9_tellsIt_30 : decode cX9_tellsIt 30 = .ok (.goto 4, 3) := by decide +kernel
theorem dX9_tellsIt_33 : decode cX9_tellsIt 33 = .ok (.iload_n 3, 1) := by decide +kernel
theorem dX9_tellsIt_34 : decode cX9_tellsIt 34 = .ok (.istore 5, 2) := by decide +kernel
theorem dX9_tellsIt_36 : decode cX9_tellsIt 36 = .ok (.iload 4, 2) := by decide +kernel
theorem dX9_tellsIt_38 : decode cX9_tellsIt 38 = .ok (.aload_n 0, 1) := by decide +kernel
theorem dX9_tellsIt_39 : decode cX9_tellsIt 39 = .ok (.getfield 7, 3) := by decide +kernel
theorem dX9_tellsIt_42 : decode cX9_tellsIt 42 = .ok (.bipush 9, 2) := by decide +kernel
theorem dX9_tellsIt_44 : decode cX9_tellsIt 44 = .ok (.bipush 9, 2) := by decide +kernel
theorem dX9_tellsIt_46 : decode cX9_tellsIt 46 = .ok (.iload_n 2, 1) := by decide +kernel
theorem dX9_tellsIt_47 : decode cX9_tellsIt 47 = .ok (.imul, 1) := by decide +kernel
theorem dX9_tellsIt_48 : decode cX9_tellsIt 48 = .ok (.iadd, 1) := by decide +kernel
theorem dX9_tellsIt_49 : decode cX9_tellsIt 49 = .ok (.iload 5, 2) := by decide +kernel
theorem dX9_tellsIt_51 : decode cX9_tellsIt 51 = .ok (.iadd, 1) := by decide +kernel
theorem dX9_tellsIt_52 : decode cX9_tellsIt 52 = .ok (.iaload, 1) := by decide +kernel
theorem dX9_tellsIt_53 : decode cX9_tellsIt 53 = .ok (.invokestatic 86, 3) := by decide +kernel
theorem dX9_tellsIt_56 : decode cX9_tellsIt 56 = .ok (.ireturn, 1) := by decide +kernel
theorem dX9_tells_0 : decode cX9_tells 0 = .ok (.aload_n 0, 1) := by decide +kernel
theorem dX9_tells_1 : decode cX9_tells 1 = .ok (.iload_n 1, 1) := by decide +kernel
theorem dX9_tells_2 : decode cX9_tells 2 = .ok (.invokevirtual 90, 3) := by decide +kernel
theorem dX9_tells_5 : decode cX9_tells 5 = .ok (.ifCond .eq 22, 3) := by decide +kernel
theorem dX9_tells_8 : decode cX9_tells 8 = .ok (.aload_n 0, 1) := by decide +kernel
theorem dX9_tells_9 : decode cX9_tells 9 = .ok (.iload_n 2, 1) := by decide +kernel
theorem dX9_tells_10 : decode cX9_tells 10 = .ok (.iload_n 3, 1) := by decide +kernel
theorem dX9_tells_11 : decode cX9_tells 11 = .ok (.invokevirtual 76, 3) := by decide +kernel
theorem dX9_tells_14 : decode cX9_tells 14 = .ok (.ifCond .eq 13, 3) := by decide +kernel
theorem dX9_tells_17 : decode cX9_tells 17 = .ok (.aload_n 0, 1) := by decide +kernel
theorem dX9_tells_18 : decode cX9_tells 18 = .ok (.iload_n 1, 1) := by decide +kernel
theorem dX9_tells_19 : decode cX9_tells 19 = .ok (.iload_n 2, 1) := by decide +kernel
theorem dX9_tells_20 : decode cX9_tells 20 = .ok (.iload_n 3, 1) := by decide +kernel
theorem dX9_tells_21 : decode cX9_tells 21 = .ok (.invokevirtual 93, 3) := by decide +kernel
theorem dX9_tells_24 : decode cX9_tells 24 = .ok (.goto 4, 3) := by decide +kernel
theorem dX9_tells_27 : decode cX9_tells 27 = .ok (.iconst (-1), 1) := by decide +kernel
theorem dX9_tells_28 : decode cX9_tells 28 = .ok (.ireturn, 1) := by decide +kernel
theorem dX9_yards_0 : decode cX9_yards 0 = .ok (.aload_n 0, 1) := by decide +kernel
theorem dX9_yards_1 : decode cX9_yards 1 = .ok (.iload_n 1, 1) := by decide +kernel
theorem dX9_yards_2 : decode cX9_yards 2 = .ok (.invokevirtual 97, 3) := by decide +kernel
theorem dX9_yards_5 : decode cX9_yards 5 = .ok (.ifCond .eq 31, 3) := by decide +kernel
theorem dX9_yards_8 : decode cX9_yards 8 = .ok (.iload_n 2, 1) := by decide +kernel
theorem dX9_yards_9 : decode cX9_yards 9 = .ok (.i2l, 1) := by decide +kernel
theorem dX9_yards_10 : decode cX9_yards 10 = .ok (.lconst 0, 1) := by decide +kernel
theorem dX9_yards_11 : decode cX9_yards 11 = .ok (.ldc2_w 82, 3) := by decide +kernel
theorem dX9_yards_14 : decode cX9_yards 14 = .ok (.invokestatic 52, 3) := by decide +kernel
theorem dX9_yards_17 : decode cX9_yards 17 = .ok (.ifCond .eq 19, 3) := by decide +kernel
theorem dX9_yards_20 : decode cX9_yards 20 = .ok (.aload_n 0, 1) := by decide +kernel
theorem dX9_yards_21 : decode cX9_yards 21 = .ok (.getfield 7, 3) := by decide +kernel
theorem dX9_yards_24 : decode cX9_yards 24 = .ok (.bipush 93, 2) := by decide +kernel
theorem dX9_yards_26 : decode cX9_yards 26 = .ok (.iconst 4, 1) := by decide +kernel
theorem dX9_yards_27 : decode cX9_yards 27 = .ok (.iload_n 1, 1) := by decide +kernel
theorem dX9_yards_28 : decode cX9_yards 28 = .ok (.imul, 1) := by decide +kernel
theorem dX9_yards_29 : decode cX9_yards 29 = .ok (.iadd, 1) := by decide +kernel
theorem dX9_yards_30 : decode cX9_yards 30 = .ok (.iload_n 2, 1) := by decide +kernel
theorem dX9_yards_31 : decode cX9_yards 31 = .ok (.iadd, 1) := by decide +kernel
theorem dX9_yards_32 : decode cX9_yards 32 = .ok (.iaload, 1) := by decide +kernel
theorem dX9_yards_33 : decode cX9_yards 33 = .ok (.goto 4, 3) := by decide +kernel
theorem dX9_yards_36 : decode cX9_yards 36 = .ok (.iconst (-1), 1) := by decide +kernel
theorem dX9_yards_37 : decode cX9_yards 37 = .ok (.ireturn, 1) := by decide +kernel
theorem dX9_use_0 : decode cX9_use 0 = .ok (.aload_n 0, 1) := by decide +kernel
theorem dX9_use_1 : decode cX9_use 1 = .ok (.iload_n 1, 1) := by decide +kernel
theorem dX9_use_2 : decode cX9_use 2 = .ok (.invokevirtual 97, 3) := by decide +kernel
theorem dX9_use_5 : decode cX9_use 5 = .ok (.ifCond .eq 27, 3) := by decide +kernel
theorem dX9_use_8 : decode cX9_use 8 = .ok (.iload_n 2, 1) := by decide +kernel
theorem dX9_use_9 : decode cX9_use 9 = .ok (.i2l, 1) := by decide +kernel
theorem dX9_use_10 : decode cX9_use 10 = .ok (.lconst 0, 1) := by decide +kernel
theorem dX9_use_11 : decode cX9_use 11 = .ok (.ldc2_w 82, 3) := by decide +kernel
theorem dX9_use_14 : decode cX9_use 14 = .ok (.invokestatic 52, 3) := by decide +kernel
theorem dX9_use_17 : decode cX9_use 17 = .ok (.ifCond .eq 15, 3) := by decide +kernel
theorem dX9_use_20 : decode cX9_use 20 = .ok (.iload_n 3, 1) := by decide +kernel
theorem dX9_use_21 : decode cX9_use 21 = .ok (.i2l, 1) := by decide +kernel
theorem dX9_use_22 : decode cX9_use 22 = .ok (.lconst 1, 1) := by decide +kernel
theorem dX9_use_23 : decode cX9_use 23 = .ok (.ldc2_w 100, 3) := by decide +kernel
theorem dX9_use_26 : decode cX9_use 26 = .ok (.invokestatic 52, 3) := by decide +kernel
theorem dX9_use_29 : decode cX9_use 29 = .ok (.ifCond .ne 5, 3) := by decide +kernel
theorem dX9_use_32 : decode cX9_use 32 = .ok (.iconst (-1), 1) := by decide +kernel
theorem dX9_use_33 : decode cX9_use 33 = .ok (.ireturn, 1) := by decide +kernel
theorem dX9_use_34 : decode cX9_use 34 = .ok (.bipush 93, 2) := by decide +kernel
theorem dX9_use_36 : decode cX9_use 36 = .ok (.iconst 4, 1) := by decide +kernel
theorem dX9_use_37 : decode cX9_use 37 = .ok (.iload_n 1, 1) := by decide +kernel
theorem dX9_use_38 : decode cX9_use 38 = .ok (.imul, 1) := by decide +kernel
theorem dX9_use_39 : decode cX9_use 39 = .ok (.iadd, 1) := by decide +kernel
theorem dX9_use_40 : decode cX9_use 40 = .ok (.iload_n 2, 1) := by decide +kernel
theorem dX9_use_41 : decode cX9_use 41 = .ok (.iadd, 1) := by decide +kernel
theorem dX9_use_42 : decode cX9_use 42 = .ok (.istore 4, 2) := by decide +kernel
theorem dX9_use_44 : decode cX9_use 44 = .ok (.aload_n 0, 1) := by decide +kernel
theorem dX9_use_45 : decode cX9_use 45 = .ok (.getfield 7, 3) := by decide +kernel
theorem dX9_use_48 : decode cX9_use 48 = .ok (.iload 4, 2) := by decide +kernel
theorem dX9_use_50 : decode cX9_use 50 = .ok (.iaload, 1) := by decide +kernel
theorem dX9_use_51 : decode cX9_use 51 = .ok (.iload_n 3, 1) := by decide +kernel
theorem dX9_use_52 : decode cX9_use 52 = .ok (.if_icmp .ge 6, 3) := by decide +kernel
theorem dX9_use_55 : decode cX9_use 55 = .ok (.bipush (-2), 2) := by decide +kernel
theorem dX9_use_57 : decode cX9_use 57 = .ok (.ireturn, 1) := by decide +kernel
theorem dX9_use_58 : decode cX9_use 58 = .ok (.aload_n 0, 1) := by decide +kernel
theorem dX9_use_59 : decode cX9_use 59 = .ok (.getfield 7, 3) := by decide +kernel
theorem dX9_use_62 : decode cX9_use 62 = .ok (.iload 4, 2) := by decide +kernel
theorem dX9_use_64 : decode cX9_use 64 = .ok (.dup2, 1) := by decide +kernel
theorem dX9_use_65 : decode cX9_use 65 = .ok (.iaload, 1) := by decide +kernel
theorem dX9_use_66 : decode cX9_use 66 = .ok (.iload_n 3, 1) := by decide +kernel
theorem dX9_use_67 : decode cX9_use 67 = .ok (.isub, 1) := by decide +kernel
theorem dX9_use_68 : decode cX9_use 68 = .ok (.iastore, 1) := by decide +kernel
theorem dX9_use_69 : decode cX9_use 69 = .ok (.aload_n 0, 1) := by decide +kernel
theorem dX9_use_70 : decode cX9_use 70 = .ok (.getfield 7, 3) := by decide +kernel
theorem dX9_use_73 : decode cX9_use 73 = .ok (.iload 4, 2) := by decide +kernel
theorem dX9_use_75 : decode cX9_use 75 = .ok (.iaload, 1) := by decide +kernel
theorem dX9_use_76 : decode cX9_use 76 = .ok (.ireturn, 1) := by decide +kernel
theorem dX9_sortOf_0 : decode cX9_sortOf 0 = .ok (.iload_n 0, 1) := by decide +kernel
theorem dX9_sortOf_1 : decode cX9_sortOf 1 = .ok (.iconst 3, 1) := by decide +kernel
theorem dX9_sortOf_2 : decode cX9_sortOf 2 = .ok (.idiv, 1) := by decide +kernel
theorem dX9_sortOf_3 : decode cX9_sortOf 3 = .ok (.ireturn, 1) := by decide +kernel
theorem dX9_isMind_0 : decode cX9_isMind 0 = .ok (.iload_n 1, 1) := by decide +kernel
theorem dX9_isMind_1 : decode cX9_isMind 1 = .ok (.ifCond .le 25, 3) := by decide +kernel
theorem dX9_isMind_4 : decode cX9_isMind 4 = .ok (.iload_n 2, 1) := by decide +kernel
theorem dX9_isMind_5 : decode cX9_isMind 5 = .ok (.iload_n 1, 1) := by decide +kernel
theorem dX9_isMind_6 : decode cX9_isMind 6 = .ok (.if_icmp .le 20, 3) := by decide +kernel
theorem dX9_isMind_9 : decode cX9_isMind 9 = .ok (.iload_n 2, 1) := by decide +kernel
theorem dX9_isMind_10 : decode cX9_isMind 10 = .ok (.iload_n 1, 1) := by decide +kernel
theorem dX9_isMind_11 : decode cX9_isMind 11 = .ok (.aload_n 0, 1) := by decide +kernel
theorem dX9_isMind_12 : decode cX9_isMind 12 = .ok (.getfield 7, 3) := by decide +kernel
theorem dX9_isMind_15 : decode cX9_isMind 15 = .ok (.bipush 8, 2) := by decide +kernel
theorem dX9_isMind_17 : decode cX9_isMind 17 = .ok (.iaload, 1) := by decide +kernel
theorem dX9_isMind_18 : decode cX9_isMind 18 = .ok (.iadd, 1) := by decide +kernel
theorem dX9_isMind_19 : decode cX9_isMind 19 = .ok (.if_icmp .gt 7, 3) := by decide +kernel
theorem dX9_isMind_22 : decode cX9_isMind 22 = .ok (.iconst 1, 1) := by decide +kernel
theorem dX9_isMind_23 : decode cX9_isMind 23 = .ok (.goto 4, 3) := by decide +kernel
theorem dX9_isMind_26 : decode cX9_isMind 26 = .ok (.iconst 0, 1) := by decide +kernel
theorem dX9_isMind_27 : decode cX9_isMind 27 = .ok (.ireturn, 1) := by decide +kernel
theorem dX9_hasMind_0 : decode cX9_hasMind 0 = .ok (.aload_n 0, 1) := by decide +kernel
theorem dX9_hasMind_1 : decode cX9_hasMind 1 = .ok (.aload_n 0, 1) := by decide +kernel
theorem dX9_hasMind_2 : decode cX9_hasMind 2 = .ok (.getfield 7, 3) := by decide +kernel
theorem dX9_hasMind_5 : decode cX9_hasMind 5 = .ok (.bipush 109, 2) := by decide +kernel
theorem dX9_hasMind_7 : decode cX9_hasMind 7 = .ok (.bipush 8, 2) := by decide +kernel
theorem dX9_hasMind_9 : decode cX9_hasMind 9 = .ok (.iload_n 1, 1) := by decide +kernel
theorem dX9_hasMind_10 : decode cX9_hasMind 10 = .ok (.imul, 1) := by decide +kernel
theorem dX9_hasMind_11 : decode cX9_hasMind 11 = .ok (.iadd, 1) := by decide +kernel
theorem dX9_hasMind_12 : decode cX9_hasMind 12 = .ok (.iload_n 2, 1) := by decide +kernel
theorem dX9_hasMind_13 : decode cX9_hasMind 13 = .ok (.iadd, 1) := by decide +kernel
theorem dX9_hasMind_14 : decode cX9_hasMind 14 = .ok (.iaload, 1) := by decide +kernel
theorem dX9_hasMind_15 : decode cX9_hasMind 15 = .ok (.iload_n 3, 1) := by decide +kernel
theorem dX9_hasMind_16 : decode cX9_hasMind 16 = .ok (.invokevirtual 102, 3) := by decide +kernel
theorem dX9_hasMind_19 : decode cX9_hasMind 19 = .ok (.ireturn, 1) := by decide +kernel
theorem dX9_mind_0 : decode cX9_mind 0 = .ok (.aload_n 0, 1) := by decide +kernel
theorem dX9_mind_1 : decode cX9_mind 1 = .ok (.iload_n 1, 1) := by decide +kernel
theorem dX9_mind_2 : decode cX9_mind 2 = .ok (.invokevirtual 97, 3) := by decide +kernel
theorem dX9_mind_5 : decode cX9_mind 5 = .ok (.ifCond .ne 5, 3) := by decide +kernel
theorem dX9_mind_8 : decode cX9_mind 8 = .ok (.iconst (-1), 1) := by decide +kernel
theorem dX9_mind_9 : decode cX9_mind 9 = .ok (.ireturn, 1) := by decide +kernel
theorem dX9_mind_10 : decode cX9_mind 10 = .ok (.iconst 0, 1) := by decide +kernel
theorem dX9_mind_11 : decode cX9_mind 11 = .ok (.istore_n 2, 1) := by decide +kernel
theorem dX9_mind_12 : decode cX9_mind 12 = .ok (.iconst 0, 1) := by decide +kernel
theorem dX9_mind_13 : decode cX9_mind 13 = .ok (.istore_n 3, 1) := by decide +kernel
theorem dX9_mind_14 : decode cX9_mind 14 = .ok (.iload_n 3, 1) := by decide +kernel
theorem dX9_mind_15 : decode cX9_mind 15 = .ok (.aload_n 0, 1) := by decide +kernel
theorem dX9_mind_16 : decode cX9_mind 16 = .ok (.getfield 7, 3) := by decide +kernel
theorem dX9_mind_19 : decode cX9_mind 19 = .ok (.iconst 0, 1) := by decide +kernel
theorem dX9_mind_20 : decode cX9_mind 20 = .ok (.iaload, 1) := by decide +kernel
theorem dX9_mind_21 : decode cX9_mind 21 = .ok (.if_icmp .ge 36, 3) := by decide +kernel
theorem dX9_mind_24 : decode cX9_mind 24 = .ok (.iload_n 2, 1) := by decide +kernel
theorem dX9_mind_25 : decode cX9_mind 25 = .ok (.aload_n 0, 1) := by decide +kernel
theorem dX9_mind_26 : decode cX9_mind 26 = .ok (.iload_n 1, 1) := by decide +kernel
theorem dX9_mind_27 : decode cX9_mind 27 = .ok (.iload_n 3, 1) := by decide +kernel
theorem dX9_mind_28 : decode cX9_mind 28 = .ok (.aload_n 0, 1) := by decide +kernel
theorem dX9_mind_29 : decode cX9_mind 29 = .ok (.getfield 7, 3) := by decide +kernel
theorem dX9_mind_32 : decode cX9_mind 32 = .ok (.iconst 3, 1) := by decide +kernel
theorem dX9_mind_33 : decode cX9_mind 33 = .ok (.iaload, 1) := by decide +kernel
theorem dX9_mind_34 : decode cX9_mind 34 = .ok (.iconst 1, 1) := by decide +kernel
theorem dX9_mind_35 : decode cX9_mind 35 = .ok (.iadd, 1) := by decide +kernel
theorem dX9_mind_36 : decode cX9_mind 36 = .ok (.invokevirtual 105, 3) := by decide +kernel
theorem dX9_mind_39 : decode cX9_mind 39 = .ok (.ifCond .eq 9, 3) := by decide +kernel
theorem dX9_mind_42 : decode cX9_mind 42 = .ok (.iconst 1, 1) := by decide +kernel
theorem dX9_mind_43 : decode cX9_mind 43 = .ok (.iload_n 3, 1) := by decide +kernel
theorem dX9_mind_44 : decode cX9_mind 44 = .ok (.ishl, 1) := by decide +kernel
theorem dX9_mind_45 : decode cX9_mind 45 = .ok (.goto 4, 3) := by decide +kernel
theorem dX9_mind_48 : decode cX9_mind 48 = .ok (.iconst 0, 1) := by decide +kernel
theorem dX9_mind_49 : decode cX9_mind 49 = .ok (.ior, 1) := by decide +kernel
theorem dX9_mind_50 : decode cX9_mind 50 = .ok (.istore_n 2, 1) := by decide +kernel
theorem dX9_mind_51 : decode cX9_mind 51 = .ok (.iinc 3 1, 3) := by decide +kernel
theorem dX9_mind_54 : decode cX9_mind 54 = .ok (.goto (-40), 3) := by decide +kernel
theorem dX9_mind_57 : decode cX9_mind 57 = .ok (.iload_n 2, 1) := by decide +kernel
theorem dX9_mind_58 : decode cX9_mind 58 = .ok (.ireturn, 1) := by decide +kernel
theorem dX9_count_0 : decode cX9_count 0 = .ok (.iload_n 1, 1) := by decide +kernel
theorem dX9_count_1 : decode cX9_count 1 = .ok (.i2l, 1) := by decide +kernel
theorem dX9_count_2 : decode cX9_count 2 = .ok (.lconst 0, 1) := by decide +kernel
theorem dX9_count_3 : decode cX9_count 3 = .ok (.ldc2_w 109, 3) := by decide +kernel
theorem dX9_count_6 : decode cX9_count 6 = .ok (.invokestatic 52, 3) := by decide +kernel
theorem dX9_count_9 : decode cX9_count 9 = .ok (.ifCond .eq 12, 3) := by decide +kernel
theorem dX9_count_12 : decode cX9_count 12 = .ok (.aload_n 0, 1) := by decide +kernel
theorem dX9_count_13 : decode cX9_count 13 = .ok (.getfield 7, 3) := by decide +kernel
theorem dX9_count_16 : decode cX9_count 16 = .ok (.iload_n 1, 1) := by decide +kernel
theorem dX9_count_17 : decode cX9_count 17 = .ok (.iaload, 1) := by decide +kernel
theorem dX9_count_18 : decode cX9_count 18 = .ok (.goto 4, 3) := by decide +kernel
theorem dX9_count_21 : decode cX9_count 21 = .ok (.iconst (-1), 1) := by decide +kernel
theorem dX9_count_22 : decode cX9_count 22 = .ok (.ireturn, 1) := by decide +kernel
theorem dX9_evening_0 : decode cX9_evening 0 = .ok (.aload_n 0, 1) := by decide +kernel
theorem dX9_evening_1 : decode cX9_evening 1 = .ok (.iload_n 1, 1) := by decide +kernel
theorem dX9_evening_2 : decode cX9_evening 2 = .ok (.invokevirtual 90, 3) := by decide +kernel
theorem dX9_evening_5 : decode cX9_evening 5 = .ok (.ifCond .eq 44, 3) := by decide +kernel
theorem dX9_evening_8 : decode cX9_evening 8 = .ok (.aload_n 0, 1) := by decide +kernel
theorem dX9_evening_9 : decode cX9_evening 9 = .ok (.iload_n 2, 1) := by decide +kernel
theorem dX9_evening_10 : decode cX9_evening 10 = .ok (.invokevirtual 72, 3) := by decide +kernel
theorem dX9_evening_13 : decode cX9_evening 13 = .ok (.ifCond .eq 36, 3) := by decide +kernel
theorem dX9_evening_16 : decode cX9_evening 16 = .ok (.iload_n 3, 1) := by decide +kernel
theorem dX9_evening_17 : decode cX9_evening 17 = .ok (.i2l, 1) := by decide +kernel
theorem dX9_evening_18 : decode cX9_evening 18 = .ok (.lconst 1, 1) := by decide +kernel
theorem dX9_evening_19 : decode cX9_evening 19 = .ok (.ldc2_w 80, 3) := by decide +kernel
theorem dX9_evening_22 : decode cX9_evening 22 = .ok (.invokestatic 52, 3) := by decide +kernel
theorem dX9_evening_25 : decode cX9_evening 25 = .ok (.ifCond .eq 24, 3) := by decide +kernel
theorem dX9_evening_28 : decode cX9_evening 28 = .ok (.iload 4, 2) := by decide +kernel
theorem dX9_evening_30 : decode cX9_evening 30 = .ok (.i2l, 1) := by decide +kernel
theorem dX9_evening_31 : decode cX9_evening 31 = .ok (.lconst 0, 1) := by decide +kernel
theorem dX9_evening_32 : decode cX9_evening 32 = .ok (.iconst 1, 1) := by decide +kernel
theorem dX9_evening_33 : decode cX9_evening 33 = .ok (.aload_n 0, 1) := by decide +kernel
theorem dX9_evening_34 : decode cX9_evening 34 = .ok (.getfield 7, 3) := by decide +kernel
theorem dX9_evening_37 : decode cX9_evening 37 = .ok (.iconst 2, 1) := by decide +kernel
theorem dX9_evening_38 : decode cX9_evening 38 = .ok (.iaload, 1) := by decide +kernel
theorem dX9_evening_39 : decode cX9_evening 39 = .ok (.ishl, 1) := by decide +kernel
theorem dX9_evening_40 : decode cX9_evening 40 = .ok (.iconst 1, 1) := by decide +kernel
theorem dX9_evening_41 : decode cX9_evening 41 = .ok (.isub, 1) := by decide +kernel
theorem dX9_evening_42 : decode cX9_evening 42 = .ok (.i2l, 1) := by decide +kernel
theorem dX9_evening_43 : decode cX9_evening 43 = .ok (.invokestatic 52, 3) := by decide +kernel
theorem dX9_evening_46 : decode cX9_evening 46 = .ok (.ifCond .ne 5, 3) := by decide +kernel
theorem dX9_evening_49 : decode cX9_evening 49 = .ok (.iconst (-1), 1) := by decide +kernel
theorem dX9_evening_50 : decode cX9_evening 50 = .ok (.ireturn, 1) := by decide +kernel
theorem dX9_evening_51 : decode cX9_evening 51 = .ok (.aload_n 0, 1) := by decide +kernel
theorem dX9_evening_52 : decode cX9_evening 52 = .ok (.getfield 7, 3) := by decide +kernel
theorem dX9_evening_55 : decode cX9_evening 55 = .ok (.iconst 3, 1) := by decide +kernel
theorem dX9_evening_56 : decode cX9_evening 56 = .ok (.iaload, 1) := by decide +kernel
theorem dX9_evening_57 : decode cX9_evening 57 = .ok (.sipush 9999, 3) := by decide +kernel
theorem dX9_evening_60 : decode cX9_evening 60 = .ok (.if_icmp .ne 6, 3) := by decide +kernel
theorem dX9_evening_63 : decode cX9_evening 63 = .ok (.bipush (-3), 2) := by decide +kernel
theorem dX9_evening_65 : decode cX9_evening 65 = .ok (.ireturn, 1) := by decide +kernel
theorem dX9_evening_66 : decode cX9_evening 66 = .ok (.aload_n 0, 1) := by decide +kernel
theorem dX9_evening_67 : decode cX9_evening 67 = .ok (.getfield 7, 3) := by decide +kernel
theorem dX9_evening_70 : decode cX9_evening 70 = .ok (.iconst 3, 1) := by decide +kernel
theorem dX9_evening_71 : decode cX9_evening 71 = .ok (.dup2, 1) := by decide +kernel
theorem dX9_evening_72 : decode cX9_evening 72 = .ok (.iaload, 1) := by decide +kernel
theorem dX9_evening_73 : decode cX9_evening 73 = .ok (.iconst 1, 1) := by decide +kernel
theorem dX9_evening_74 : decode cX9_evening 74 = .ok (.iadd, 1) := by decide +kernel
theorem dX9_evening_75 : decode cX9_evening 75 = .ok (.iastore, 1) := by decide +kernel
theorem dX9_evening_76 : decode cX9_evening 76 = .ok (.aload_n 0, 1) := by decide +kernel
theorem dX9_evening_77 : decode cX9_evening 77 = .ok (.getfield 7, 3) := by decide +kernel
theorem dX9_evening_80 : decode cX9_evening 80 = .ok (.iconst 4, 1) := by decide +kernel
theorem dX9_evening_81 : decode cX9_evening 81 = .ok (.iaload, 1) := by decide +kernel
theorem dX9_evening_82 : decode cX9_evening 82 = .ok (.iload_n 2, 1) := by decide +kernel
theorem dX9_evening_83 : decode cX9_evening 83 = .ok (.if_icmp .ne 17, 3) := by decide +kernel
theorem dX9_evening_86 : decode cX9_evening 86 = .ok (.aload_n 0, 1) := by decide +kernel
theorem dX9_evening_87 : decode cX9_evening 87 = .ok (.getfield 7, 3) := by decide +kernel
theorem dX9_evening_90 : decode cX9_evening 90 = .ok (.iconst 5, 1) := by decide +kernel
theorem dX9_evening_91 : decode cX9_evening 91 = .ok (.iaload, 1) := by decide +kernel
theorem dX9_evening_92 : decode cX9_evening 92 = .ok (.iload_n 1, 1) := by decide +kernel
theorem dX9_evening_93 : decode cX9_evening 93 = .ok (.if_icmp .ne 7, 3) := by decide +kernel
theorem dX9_evening_96 : decode cX9_evening 96 = .ok (.iconst 1, 1) := by decide +kernel
theorem dX9_evening_97 : decode cX9_evening 97 = .ok (.goto 4, 3) := by decide +kernel
theorem dX9_evening_100 : decode cX9_evening 100 = .ok (.iconst 0, 1) := by decide +kernel
theorem dX9_evening_101 : decode cX9_evening 101 = .ok (.istore 5, 2) := by decide +kernel
theorem dX9_evening_103 : decode cX9_evening 103 = .ok (.iload 5, 2) := by decide +kernel
theorem dX9_evening_105 : decode cX9_evening 105 = .ok (.ifCond .eq 13, 3) := by decide +kernel
theorem dX9_evening_108 : decode cX9_evening 108 = .ok (.aload_n 0, 1) := by decide +kernel
theorem dX9_evening_109 : decode cX9_evening 109 = .ok (.getfield 7, 3) := by decide +kernel
theorem dX9_evening_112 : decode cX9_evening 112 = .ok (.bipush 6, 2) := by decide +kernel
theorem dX9_evening_114 : decode cX9_evening 114 = .ok (.iaload, 1) := by decide +kernel
theorem dX9_evening_115 : decode cX9_evening 115 = .ok (.goto 4, 3) := by decide +kernel
theorem dX9_evening_118 : decode cX9_evening 118 = .ok (.iconst 0, 1) := by decide +kernel
theorem dX9_evening_119 : decode cX9_evening 119 = .ok (.istore 6, 2) := by decide +kernel
theorem dX9_evening_121 : decode cX9_evening 121 = .ok (.iload 5, 2) := by decide +kernel
theorem dX9_evening_123 : decode cX9_evening 123 = .ok (.ifCond .eq 16, 3) := by decide +kernel
theorem dX9_evening_126 : decode cX9_evening 126 = .ok (.aload_n 0, 1) := by decide +kernel
theorem dX9_evening_127 : decode cX9_evening 127 = .ok (.getfield 7, 3) := by decide +kernel
theorem dX9_evening_130 : decode cX9_evening 130 = .ok (.bipush 7, 2) := by decide +kernel
theorem dX9_evening_132 : decode cX9_evening 132 = .ok (.iaload, 1) := by decide +kernel
theorem dX9_evening_133 : decode cX9_evening 133 = .ok (.iload 4, 2) := by decide +kernel
theorem dX9_evening_135 : decode cX9_evening 135 = .ok (.iand, 1) := by decide +kernel
theorem dX9_evening_136 : decode cX9_evening 136 = .ok (.goto 5, 3) := by decide +kernel
theorem dX9_evening_139 : decode cX9_evening 139 = .ok (.iload 4, 2) := by decide +kernel
theorem dX9_evening_141 : decode cX9_evening 141 = .ok (.istore 7, 2) := by decide +kernel
theorem dX9_evening_143 : decode cX9_evening 143 = .ok (.iload 6, 2) := by decide +kernel
theorem dX9_evening_145 : decode cX9_evening 145 = .ok (.iload_n 3, 1) := by decide +kernel
theorem dX9_evening_146 : decode cX9_evening 146 = .ok (.iadd, 1) := by decide +kernel
theorem dX9_evening_147 : decode cX9_evening 147 = .ok (.aload_n 0, 1) := by decide +kernel
theorem dX9_evening_148 : decode cX9_evening 148 = .ok (.getfield 7, 3) := by decide +kernel
theorem dX9_evening_151 : decode cX9_evening 151 = .ok (.bipush 81, 2) := by decide +kernel
theorem dX9_evening_153 : decode cX9_evening 153 = .ok (.iload_n 2, 1) := by decide +kernel
theorem dX9_evening_154 : decode cX9_evening 154 = .ok (.iadd, 1) := by decide +kernel
theorem dX9_evening_155 : decode cX9_evening 155 = .ok (.iaload, 1) := by decide +kernel
theorem dX9_evening_156 : decode cX9_evening 156 = .ok (.if_icmp .ge 10, 3) := by decide +kernel
theorem dX9_evening_159 : decode cX9_evening 159 = .ok (.iload 6, 2) := by decide +kernel
theorem dX9_evening_161 : decode cX9_evening 161 = .ok (.iload_n 3, 1) := by decide +kernel
theorem dX9_evening_162 : decode cX9_evening 162 = .ok (.iadd, 1) := by decide +kernel
theorem dX9_evening_163 : decode cX9_evening 163 = .ok (.goto 12, 3) := by decide +kernel
theorem dX9_evening_166 : decode cX9_evening 166 = .ok (.aload_n 0, 1) := by decide +kernel
theorem dX9_evening_167 : decode cX9_evening 167 = .ok (.getfield 7, 3) := by decide +kernel
theorem dX9_evening_170 : decode cX9_evening 170 = .ok (.bipush 81, 2) := by decide +kernel
theorem dX9_evening_172 : decode cX9_evening 172 = .ok (.iload_n 2, 1) := by decide +kernel
theorem dX9_evening_173 : decode cX9_evening 173 = .ok (.iadd, 1) := by decide +kernel
theorem dX9_evening_174 : decode cX9_evening 174 = .ok (.iaload, 1) := by decide +kernel
theorem dX9_evening_175 : decode cX9_evening 175 = .ok (.istore 8, 2) := by decide +kernel
theorem dX9_evening_177 : decode cX9_evening 177 = .ok (.iconst 0, 1) := by decide +kernel
theorem dX9_evening_178 : decode cX9_evening 178 = .ok (.istore 9, 2) := by decide +kernel
theorem dX9_evening_180 : decode cX9_evening 180 = .ok (.iconst 0, 1) := by decide +kernel
theorem dX9_evening_181 : decode cX9_evening 181 = .ok (.istore 10, 2) := by decide +kernel
theorem dX9_evening_183 : decode cX9_evening 183 = .ok (.iload 10, 2) := by decide +kernel
theorem dX9_evening_185 : decode cX9_evening 185 = .ok (.aload_n 0, 1) := by decide +kernel
theorem dX9_evening_186 : decode cX9_evening 186 = .ok (.getfield 7, 3) := by decide +kernel
theorem dX9_evening_189 : decode cX9_evening 189 = .ok (.iconst 2, 1) := by decide +kernel
theorem dX9_evening_190 : decode cX9_evening 190 = .ok (.iaload, 1) := by decide +kernel
theorem dX9_evening_191 : decode cX9_evening 191 = .ok (.if_icmp .ge 152, 3) := by decide +kernel
theorem dX9_evening_194 : decode cX9_evening 194 = .ok (.iload 4, 2) := by decide +kernel
theorem dX9_evening_196 : decode cX9_evening 196 = .ok (.iload 10, 2) := by decide +kernel
theorem dX9_evening_198 : decode cX9_evening 198 = .ok (.ishr, 1) := by decide +kernel
theorem dX9_evening_199 : decode cX9_evening 199 = .ok (.iconst 1, 1) := by decide +kernel
theorem dX9_evening_200 : decode cX9_evening 200 = .ok (.iand, 1) := by decide +kernel
theorem dX9_evening_201 : decode cX9_evening 201 = .ok (.ifCond .ne 6, 3) := by decide +kernel
theorem dX9_evening_204 : decode cX9_evening 204 = .ok (.goto 133, 3) := by decide +kernel
theorem dX9_evening_207 : decode cX9_evening 207 = .ok (.aload_n 0, 1) := by decide +kernel
theorem dX9_evening_208 : decode cX9_evening 208 = .ok (.iload 10, 2) := by decide +kernel
theorem dX9_evening_210 : decode cX9_evening 210 = .ok (.iload_n 2, 1) := by decide +kernel
theorem dX9_evening_211 : decode cX9_evening 211 = .ok (.aload_n 0, 1) := by decide +kernel
theorem dX9_evening_212 : decode cX9_evening 212 = .ok (.getfield 7, 3) := by decide +kernel
theorem dX9_evening_215 : decode cX9_evening 215 = .ok (.iconst 3, 1) := by decide +kernel
theorem dX9_evening_216 : decode cX9_evening 216 = .ok (.iaload, 1) := by decide +kernel
theorem dX9_evening_217 : decode cX9_evening 217 = .ok (.invokevirtual 105, 3) := by decide +kernel
theorem dX9_evening_220 : decode cX9_evening 220 = .ok (.istore 11, 2) := by decide +kernel
theorem dX9_evening_222 : decode cX9_evening 222 = .ok (.iload 6, 2) := by decide +kernel
theorem dX9_evening_224 : decode cX9_evening 224 = .ok (.istore 12, 2) := by decide +kernel
theorem dX9_evening_226 : decode cX9_evening 226 = .ok (.iload 12, 2) := by decide +kernel
theorem dX9_evening_228 : decode cX9_evening 228 = .ok (.iload 8, 2) := by decide +kernel
theorem dX9_evening_230 : decode cX9_evening 230 = .ok (.if_icmp .ge 61, 3) := by decide +kernel
theorem dX9_evening_233 : decode cX9_evening 233 = .ok (.aload_n 0, 1) := by decide +kernel
theorem dX9_evening_234 : decode cX9_evening 234 = .ok (.iload_n 1, 1) := by decide +kernel
theorem dX9_evening_235 : decode cX9_evening 235 = .ok (.iload_n 2, 1) := by decide +kernel
theorem dX9_evening_236 : decode cX9_evening 236 = .ok (.iload 12, 2) := by decide +kernel
theorem dX9_evening_238 : decode cX9_evening 238 = .ok (.invokevirtual 93, 3) := by decide +kernel
theorem dX9_evening_241 : decode cX9_evening 241 = .ok (.invokestatic 111, 3) := by decide +kernel
theorem dX9_evening_244 : decode cX9_evening 244 = .ok (.istore 13, 2) := by decide +kernel
theorem dX9_evening_246 : decode cX9_evening 246 = .ok (.aload_n 0, 1) := by decide +kernel
theorem dX9_evening_247 : decode cX9_evening 247 = .ok (.getfield 7, 3) := by decide +kernel
theorem dX9_evening_250 : decode cX9_evening 250 = .ok (.bipush 93, 2) := by decide +kernel
theorem dX9_evening_252 : decode cX9_evening 252 = .ok (.iconst 4, 1) := by decide +kernel
theorem dX9_evening_253 : decode cX9_evening 253 = .ok (.iload 10, 2) := by decide +kernel
theorem dX9_evening_255 : decode cX9_evening 255 = .ok (.imul, 1) := by decide +kernel
theorem dX9_evening_256 : decode cX9_evening 256 = .ok (.iadd, 1) := by decide +kernel
theorem dX9_evening_257 : decode cX9_evening 257 = .ok (.iload 11, 2) := by decide +kernel
theorem dX9_evening_259 : decode cX9_evening 259 = .ok (.ifCond .eq 15, 3) := by decide +kernel
theorem dX9_evening_262 : decode cX9_evening 262 = .ok (.iload 13, 2) := by decide +kernel
theorem dX9_evening_264 : decode cX9_evening 264 = .ok (.ifCond .le 10, 3) := by decide +kernel
theorem dX9_evening_267 : decode cX9_evening 267 = .ok (.iload 13, 2) := by decide +kernel
theorem dX9_evening_269 : decode cX9_evening 269 = .ok (.iconst 1, 1) := by decide +kernel
theorem dX9_evening_270 : decode cX9_evening 270 = .ok (.isub, 1) := by decide +kernel
theorem dX9_evening_271 : decode cX9_evening 271 = .ok (.goto 5, 3) := by decide +kernel
theorem dX9_evening_274 : decode cX9_evening 274 = .ok (.iload 13, 2) := by decide +kernel
theorem dX9_evening_276 : decode cX9_evening 276 = .ok (.iadd, 1) := by decide +kernel
theorem dX9_evening_277 : decode cX9_evening 277 = .ok (.dup2, 1) := by decide +kernel
theorem dX9_evening_278 : decode cX9_evening 278 = .ok (.iaload, 1) := by decide +kernel
theorem dX9_evening_279 : decode cX9_evening 279 = .ok (.iconst 1, 1) := by decide +kernel
theorem dX9_evening_280 : decode cX9_evening 280 = .ok (.iadd, 1) := by decide +kernel
theorem dX9_evening_281 : decode cX9_evening 281 = .ok (.iastore, 1) := by decide +kernel
theorem dX9_evening_282 : decode cX9_evening 282 = .ok (.iinc 9 1, 3) := by decide +kernel
theorem dX9_evening_285 : decode cX9_evening 285 = .ok (.iinc 12 1, 3) := by decide +kernel
theorem dX9_evening_288 : decode cX9_evening 288 = .ok (.goto (-62), 3) := by decide +kernel
theorem dX9_evening_291 : decode cX9_evening 291 = .ok (.iload 8, 2) := by decide +kernel
theorem dX9_evening_293 : decode cX9_evening 293 = .ok (.aload_n 0, 1) := by decide +kernel
theorem dX9_evening_294 : decode cX9_evening 294 = .ok (.getfield 7, 3) := by decide +kernel
theorem dX9_evening_297 : decode cX9_evening 297 = .ok (.bipush 81, 2) := by decide +kernel
theorem dX9_evening_299 : decode cX9_evening 299 = .ok (.iload_n 2, 1) := by decide +kernel
theorem dX9_evening_300 : decode cX9_evening 300 = .ok (.iadd, 1) := by decide +kernel
theorem dX9_evening_301 : decode cX9_evening 301 = .ok (.iaload, 1) := by decide +kernel
theorem dX9_evening_302 : decode cX9_evening 302 = .ok (.if_icmp .ne 35, 3) := by decide +kernel
theorem dX9_evening_305 : decode cX9_evening 305 = .ok (.iload 7, 2) := by decide +kernel
theorem dX9_evening_307 : decode cX9_evening 307 = .ok (.iload 10, 2) := by decide +kernel
theorem dX9_evening_309 : decode cX9_evening 309 = .ok (.ishr, 1) := by decide +kernel
theorem dX9_evening_310 : decode cX9_evening 310 = .ok (.iconst 1, 1) := by decide +kernel
theorem dX9_evening_311 : decode cX9_evening 311 = .ok (.iand, 1) := by decide +kernel
theorem dX9_evening_312 : decode cX9_evening 312 = .ok (.iconst 1, 1) := by decide +kernel
theorem dX9_evening_313 : decode cX9_evening 313 = .ok (.if_icmp .ne 24, 3) := by decide +kernel
theorem dX9_evening_316 : decode cX9_evening 316 = .ok (.aload_n 0, 1) := by decide +kernel
theorem dX9_evening_317 : decode cX9_evening 317 = .ok (.getfield 7, 3) := by decide +kernel
theorem dX9_evening_320 : decode cX9_evening 320 = .ok (.bipush 109, 2) := by decide +kernel
theorem dX9_evening_322 : decode cX9_evening 322 = .ok (.bipush 8, 2) := by decide +kernel
theorem dX9_evening_324 : decode cX9_evening 324 = .ok (.iload 10, 2) := by decide +kernel
theorem dX9_evening_326 : decode cX9_evening 326 = .ok (.imul, 1) := by decide +kernel
theorem dX9_evening_327 : decode cX9_evening 327 = .ok (.iadd, 1) := by decide +kernel
theorem dX9_evening_328 : decode cX9_evening 328 = .ok (.iload_n 2, 1) := by decide +kernel
theorem dX9_evening_329 : decode cX9_evening 329 = .ok (.iadd, 1) := by decide +kernel
theorem dX9_evening_330 : decode cX9_evening 330 = .ok (.aload_n 0, 1) := by decide +kernel
theorem dX9_evening_331 : decode cX9_evening 331 = .ok (.getfield 7, 3) := by decide +kernel
theorem dX9_evening_334 : decode cX9_evening 334 = .ok (.iconst 3, 1) := by decide +kernel
theorem dX9_evening_335 : decode cX9_evening 335 = .ok (.iaload, 1) := by decide +kernel
theorem dX9_evening_336 : decode cX9_evening 336 = .ok (.iastore, 1) := by decide +kernel
theorem dX9_evening_337 : decode cX9_evening 337 = .ok (.iinc 10 1, 3) := by decide +kernel
theorem dX9_evening_340 : decode cX9_evening 340 = .ok (.goto (-157), 3) := by decide +kernel
theorem dX9_evening_343 : decode cX9_evening 343 = .ok (.iload 8, 2) := by decide +kernel
theorem dX9_evening_345 : decode cX9_evening 345 = .ok (.aload_n 0, 1) := by decide +kernel
theorem dX9_evening_346 : decode cX9_evening 346 = .ok (.getfield 7, 3) := by decide +kernel
theorem dX9_evening_349 : decode cX9_evening 349 = .ok (.bipush 81, 2) := by decide +kernel
theorem dX9_evening_351 : decode cX9_evening 351 = .ok (.iload_n 2, 1) := by decide +kernel
theorem dX9_evening_352 : decode cX9_evening 352 = .ok (.iadd, 1) := by decide +kernel
theorem dX9_evening_353 : decode cX9_evening 353 = .ok (.iaload, 1) := by decide +kernel
theorem dX9_evening_354 : decode cX9_evening 354 = .ok (.if_icmp .ne 7, 3) := by decide +kernel
theorem dX9_evening_357 : decode cX9_evening 357 = .ok (.iconst 1, 1) := by decide +kernel
theorem dX9_evening_358 : decode cX9_evening 358 = .ok (.goto 4, 3) := by decide +kernel
theorem dX9_evening_361 : decode cX9_evening 361 = .ok (.iconst 0, 1) := by decide +kernel
theorem dX9_evening_362 : decode cX9_evening 362 = .ok (.istore 10, 2) := by decide +kernel
theorem dX9_evening_364 : decode cX9_evening 364 = .ok (.aload_n 0, 1) := by decide +kernel
theorem dX9_evening_365 : decode cX9_evening 365 = .ok (.getfield 7, 3) := by decide +kernel
theorem dX9_evening_368 : decode cX9_evening 368 = .ok (.iconst 4, 1) := by decide +kernel
theorem dX9_evening_369 : decode cX9_evening 369 = .ok (.iload 10, 2) := by decide +kernel
theorem dX9_evening_371 : decode cX9_evening 371 = .ok (.ifCond .eq 8, 3) := by decide +kernel
theorem dX9_evening_374 : decode cX9_evening 374 = .ok (.bipush (-4), 2) := by decide +kernel
theorem dX9_evening_376 : decode cX9_evening 376 = .ok (.goto 4, 3) := by decide +kernel
theorem dX9_evening_379 : decode cX9_evening 379 = .ok (.iload_n 2, 1) := by decide +kernel
theorem dX9_evening_380 : decode cX9_evening 380 = .ok (.iastore, 1) := by decide +kernel
theorem dX9_evening_381 : decode cX9_evening 381 = .ok (.aload_n 0, 1) := by decide +kernel
theorem dX9_evening_382 : decode cX9_evening 382 = .ok (.getfield 7, 3) := by decide +kernel
theorem dX9_evening_385 : decode cX9_evening 385 = .ok (.iconst 5, 1) := by decide +kernel
theorem dX9_evening_386 : decode cX9_evening 386 = .ok (.iload 10, 2) := by decide +kernel
theorem dX9_evening_388 : decode cX9_evening 388 = .ok (.ifCond .eq 8, 3) := by decide +kernel
theorem dX9_evening_391 : decode cX9_evening 391 = .ok (.bipush (-4), 2) := by decide +kernel
theorem dX9_evening_393 : decode cX9_evening 393 = .ok (.goto 4, 3) := by decide +kernel
theorem dX9_evening_396 : decode cX9_evening 396 = .ok (.iload_n 1, 1) := by decide +kernel
theorem dX9_evening_397 : decode cX9_evening 397 = .ok (.iastore, 1) := by decide +kernel
theorem dX9_evening_398 : decode cX9_evening 398 = .ok (.aload_n 0, 1) := by decide +kernel
theorem dX9_evening_399 : decode cX9_evening 399 = .ok (.getfield 7, 3) := by decide +kernel
theorem dX9_evening_402 : decode cX9_evening 402 = .ok (.bipush 6, 2) := by decide +kernel
theorem dX9_evening_404 : decode cX9_evening 404 = .ok (.iload 10, 2) := by decide +kernel
theorem dX9_evening_406 : decode cX9_evening 406 = .ok (.ifCond .eq 8, 3) := by decide +kernel
theorem dX9_evening_409 : decode cX9_evening 409 = .ok (.bipush (-4), 2) := by decide +kernel
theorem dX9_evening_411 : decode cX9_evening 411 = .ok (.goto 5, 3) := by decide +kernel
theorem dX9_evening_414 : decode cX9_evening 414 = .ok (.iload 8, 2) := by decide +kernel
theorem dX9_evening_416 : decode cX9_evening 416 = .ok (.iastore, 1) := by decide +kernel
theorem dX9_evening_417 : decode cX9_evening 417 = .ok (.aload_n 0, 1) := by decide +kernel
theorem dX9_evening_418 : decode cX9_evening 418 = .ok (.getfield 7, 3) := by decide +kernel
theorem dX9_evening_421 : decode cX9_evening 421 = .ok (.bipush 7, 2) := by decide +kernel
theorem dX9_evening_423 : decode cX9_evening 423 = .ok (.iload 10, 2) := by decide +kernel
theorem dX9_evening_425 : decode cX9_evening 425 = .ok (.ifCond .eq 7, 3) := by decide +kernel
theorem dX9_evening_428 : decode cX9_evening 428 = .ok (.iconst 0, 1) := by decide +kernel
theorem dX9_evening_429 : decode cX9_evening 429 = .ok (.goto 5, 3) := by decide +kernel
theorem dX9_evening_432 : decode cX9_evening 432 = .ok (.iload 7, 2) := by decide +kernel
theorem dX9_evening_434 : decode cX9_evening 434 = .ok (.iastore, 1) := by decide +kernel
theorem dX9_evening_435 : decode cX9_evening 435 = .ok (.iload 9, 2) := by decide +kernel
theorem dX9_evening_437 : decode cX9_evening 437 = .ok (.ireturn, 1) := by decide +kernel
theorem dX9_sortsBy_0 : decode cX9_sortsBy 0 = .ok (.iconst 0, 1) := by decide +kernel
theorem dX9_sortsBy_1 : decode cX9_sortsBy 1 = .ok (.istore_n 3, 1) := by decide +kernel
theorem dX9_sortsBy_2 : decode cX9_sortsBy 2 = .ok (.iload_n 3, 1) := by decide +kernel
theorem dX9_sortsBy_3 : decode cX9_sortsBy 3 = .ok (.bipush 8, 2) := by decide +kernel
theorem dX9_sortsBy_5 : decode cX9_sortsBy 5 = .ok (.if_icmp .ge 29, 3) := by decide +kernel
theorem dX9_sortsBy_8 : decode cX9_sortsBy 8 = .ok (.aload_n 0, 1) := by decide +kernel
theorem dX9_sortsBy_9 : decode cX9_sortsBy 9 = .ok (.getfield 34, 3) := by decide +kernel
theorem dX9_sortsBy_12 : decode cX9_sortsBy 12 = .ok (.iload_n 3, 1) := by decide +kernel
theorem dX9_sortsBy_13 : decode cX9_sortsBy 13 = .ok (.aload_n 0, 1) := by decide +kernel
theorem dX9_sortsBy_14 : decode cX9_sortsBy 14 = .ok (.getfield 7, 3) := by decide +kernel
theorem dX9_sortsBy_17 : decode cX9_sortsBy 17 = .ok (.bipush 109, 2) := by decide +kernel
theorem dX9_sortsBy_19 : decode cX9_sortsBy 19 = .ok (.bipush 8, 2) := by decide +kernel
theorem dX9_sortsBy_21 : decode cX9_sortsBy 21 = .ok (.iload_n 1, 1) := by decide +kernel
theorem dX9_sortsBy_22 : decode cX9_sortsBy 22 = .ok (.imul, 1) := by decide +kernel
theorem dX9_sortsBy_23 : decode cX9_sortsBy 23 = .ok (.iadd, 1) := by decide +kernel
theorem dX9_sortsBy_24 : decode cX9_sortsBy 24 = .ok (.iload_n 3, 1) := by decide +kernel
theorem dX9_sortsBy_25 : decode cX9_sortsBy 25 = .ok (.iadd, 1) := by decide +kernel
theorem dX9_sortsBy_26 : decode cX9_sortsBy 26 = .ok (.iaload, 1) := by decide +kernel
theorem dX9_sortsBy_27 : decode cX9_sortsBy 27 = .ok (.iastore, 1) := by decide +kernel
theorem dX9_sortsBy_28 : decode cX9_sortsBy 28 = .ok (.iinc 3 1, 3) := by decide +kernel
theorem dX9_sortsBy_31 : decode cX9_sortsBy 31 = .ok (.goto (-29), 3) := by decide +kernel
theorem dX9_sortsBy_34 : decode cX9_sortsBy 34 = .ok (.iconst 0, 1) := by decide +kernel
theorem dX9_sortsBy_35 : decode cX9_sortsBy 35 = .ok (.istore_n 3, 1) := by decide +kernel
theorem dX9_sortsBy_36 : decode cX9_sortsBy 36 = .ok (.iconst 0, 1) := by decide +kernel
theorem dX9_sortsBy_37 : decode cX9_sortsBy 37 = .ok (.istore 4, 2) := by decide +kernel
theorem dX9_sortsBy_39 : decode cX9_sortsBy 39 = .ok (.iload 4, 2) := by decide +kernel
theorem dX9_sortsBy_41 : decode cX9_sortsBy 41 = .ok (.iload_n 2, 1) := by decide +kernel
theorem dX9_sortsBy_42 : decode cX9_sortsBy 42 = .ok (.if_icmp .ge 122, 3) := by decide +kernel
theorem dX9_sortsBy_45 : decode cX9_sortsBy 45 = .ok (.aload_n 0, 1) := by decide +kernel
theorem dX9_sortsBy_46 : decode cX9_sortsBy 46 = .ok (.getfield 28, 3) := by decide +kernel
theorem dX9_sortsBy_49 : decode cX9_sortsBy 49 = .ok (.iload 4, 2) := by decide +kernel
theorem dX9_sortsBy_51 : decode cX9_sortsBy 51 = .ok (.iaload, 1) := by decide +kernel
theorem dX9_sortsBy_52 : decode cX9_sortsBy 52 = .ok (.istore 5, 2) := by decide +kernel
theorem dX9_sortsBy_54 : decode cX9_sortsBy 54 = .ok (.aload_n 0, 1) := by decide +kernel
theorem dX9_sortsBy_55 : decode cX9_sortsBy 55 = .ok (.getfield 7, 3) := by decide +kernel
theorem dX9_sortsBy_58 : decode cX9_sortsBy 58 = .ok (.iconst 3, 1) := by decide +kernel
theorem dX9_sortsBy_59 : decode cX9_sortsBy 59 = .ok (.iaload, 1) := by decide +kernel
theorem dX9_sortsBy_60 : decode cX9_sortsBy 60 = .ok (.iconst 1, 1) := by decide +kernel
theorem dX9_sortsBy_61 : decode cX9_sortsBy 61 = .ok (.iadd, 1) := by decide +kernel
theorem dX9_sortsBy_62 : decode cX9_sortsBy 62 = .ok (.iload 4, 2) := by decide +kernel
theorem dX9_sortsBy_64 : decode cX9_sortsBy 64 = .ok (.iadd, 1) := by decide +kernel
theorem dX9_sortsBy_65 : decode cX9_sortsBy 65 = .ok (.istore 6, 2) := by decide +kernel
theorem dX9_sortsBy_67 : decode cX9_sortsBy 67 = .ok (.aload_n 0, 1) := by decide +kernel
theorem dX9_sortsBy_68 : decode cX9_sortsBy 68 = .ok (.aload_n 0, 1) := by decide +kernel
theorem dX9_sortsBy_69 : decode cX9_sortsBy 69 = .ok (.getfield 34, 3) := by decide +kernel
theorem dX9_sortsBy_72 : decode cX9_sortsBy 72 = .ok (.iload 5, 2) := by decide +kernel
theorem dX9_sortsBy_74 : decode cX9_sortsBy 74 = .ok (.iaload, 1) := by decide +kernel
theorem dX9_sortsBy_75 : decode cX9_sortsBy 75 = .ok (.iload 6, 2) := by decide +kernel
theorem dX9_sortsBy_77 : decode cX9_sortsBy 77 = .ok (.invokevirtual 102, 3) := by decide +kernel
theorem dX9_sortsBy_80 : decode cX9_sortsBy 80 = .ok (.istore 7, 2) := by decide +kernel
theorem dX9_sortsBy_82 : decode cX9_sortsBy 82 = .ok (.iconst 0, 1) := by decide +kernel
theorem dX9_sortsBy_83 : decode cX9_sortsBy 83 = .ok (.istore 8, 2) := by decide +kernel
theorem dX9_sortsBy_85 : decode cX9_sortsBy 85 = .ok (.iload 8, 2) := by decide +kernel
theorem dX9_sortsBy_87 : decode cX9_sortsBy 87 = .ok (.aload_n 0, 1) := by decide +kernel
theorem dX9_sortsBy_88 : decode cX9_sortsBy 88 = .ok (.getfield 7, 3) := by decide +kernel
theorem dX9_sortsBy_91 : decode cX9_sortsBy 91 = .ok (.bipush 81, 2) := by decide +kernel
theorem dX9_sortsBy_93 : decode cX9_sortsBy 93 = .ok (.iload 5, 2) := by decide +kernel
theorem dX9_sortsBy_95 : decode cX9_sortsBy 95 = .ok (.iadd, 1) := by decide +kernel
theorem dX9_sortsBy_96 : decode cX9_sortsBy 96 = .ok (.iaload, 1) := by decide +kernel
theorem dX9_sortsBy_97 : decode cX9_sortsBy 97 = .ok (.if_icmp .ge 52, 3) := by decide +kernel
theorem dX9_sortsBy_100 : decode cX9_sortsBy 100 = .ok (.aload_n 0, 1) := by decide +kernel
theorem dX9_sortsBy_101 : decode cX9_sortsBy 101 = .ok (.getfield 7, 3) := by decide +kernel
theorem dX9_sortsBy_104 : decode cX9_sortsBy 104 = .ok (.bipush 9, 2) := by decide +kernel
theorem dX9_sortsBy_106 : decode cX9_sortsBy 106 = .ok (.bipush 9, 2) := by decide +kernel
theorem dX9_sortsBy_108 : decode cX9_sortsBy 108 = .ok (.iload 5, 2) := by decide +kernel
theorem dX9_sortsBy_110 : decode cX9_sortsBy 110 = .ok (.imul, 1) := by decide +kernel
theorem dX9_sortsBy_111 : decode cX9_sortsBy 111 = .ok (.iadd, 1) := by decide +kernel
theorem dX9_sortsBy_112 : decode cX9_sortsBy 112 = .ok (.iload 8, 2) := by decide +kernel
theorem dX9_sortsBy_114 : decode cX9_sortsBy 114 = .ok (.iadd, 1) := by decide +kernel
theorem dX9_sortsBy_115 : decode cX9_sortsBy 115 = .ok (.iaload, 1) := by decide +kernel
theorem dX9_sortsBy_116 : decode cX9_sortsBy 116 = .ok (.invokestatic 111, 3) := by decide +kernel
theorem dX9_sortsBy_119 : decode cX9_sortsBy 119 = .ok (.istore 9, 2) := by decide +kernel
theorem dX9_sortsBy_121 : decode cX9_sortsBy 121 = .ok (.iload_n 3, 1) := by decide +kernel
theorem dX9_sortsBy_122 : decode cX9_sortsBy 122 = .ok (.iload 7, 2) := by decide +kernel
theorem dX9_sortsBy_124 : decode cX9_sortsBy 124 = .ok (.ifCond .eq 15, 3) := by decide +kernel
theorem dX9_sortsBy_127 : decode cX9_sortsBy 127 = .ok (.iload 9, 2) := by decide +kernel
theorem dX9_sortsBy_129 : decode cX9_sortsBy 129 = .ok (.ifCond .le 10, 3) := by decide +kernel
theorem dX9_sortsBy_132 : decode cX9_sortsBy 132 = .ok (.iload 9, 2) := by decide +kernel
theorem dX9_sortsBy_134 : decode cX9_sortsBy 134 = .ok (.iconst 1, 1) := by decide +kernel
theorem dX9_sortsBy_135 : decode cX9_sortsBy 135 = .ok (.isub, 1) := by decide +kernel
theorem dX9_sortsBy_136 : decode cX9_sortsBy 136 = .ok (.goto 5, 3) := by decide +kernel
theorem dX9_sortsBy_139 : decode cX9_sortsBy 139 = .ok (.iload 9, 2) := by decide +kernel
theorem dX9_sortsBy_141 : decode cX9_sortsBy 141 = .ok (.iadd, 1) := by decide +kernel
theorem dX9_sortsBy_142 : decode cX9_sortsBy 142 = .ok (.istore_n 3, 1) := by decide +kernel
theorem dX9_sortsBy_143 : decode cX9_sortsBy 143 = .ok (.iinc 8 1, 3) := by decide +kernel
theorem dX9_sortsBy_146 : decode cX9_sortsBy 146 = .ok (.goto (-61), 3) := by decide +kernel
theorem dX9_sortsBy_149 : decode cX9_sortsBy 149 = .ok (.aload_n 0, 1) := by decide +kernel
theorem dX9_sortsBy_150 : decode cX9_sortsBy 150 = .ok (.getfield 34, 3) := by decide +kernel
theorem dX9_sortsBy_153 : decode cX9_sortsBy 153 = .ok (.iload 5, 2) := by decide +kernel
theorem dX9_sortsBy_155 : decode cX9_sortsBy 155 = .ok (.iload 6, 2) := by decide +kernel
theorem dX9_sortsBy_157 : decode cX9_sortsBy 157 = .ok (.iastore, 1) := by decide +kernel
theorem dX9_sortsBy_158 : decode cX9_sortsBy 158 = .ok (.iinc 4 1, 3) := by decide +kernel
theorem dX9_sortsBy_161 : decode cX9_sortsBy 161 = .ok (.goto (-122), 3) := by decide +kernel
theorem dX9_sortsBy_164 : decode cX9_sortsBy 164 = .ok (.iload_n 3, 1) := by decide +kernel
theorem dX9_sortsBy_165 : decode cX9_sortsBy 165 = .ok (.ireturn, 1) := by decide +kernel
theorem dX9_store_0 : decode cX9_store 0 = .ok (.aload_n 0, 1) := by decide +kernel
theorem dX9_store_1 : decode cX9_store 1 = .ok (.iload_n 1, 1) := by decide +kernel
theorem dX9_store_2 : decode cX9_store 2 = .ok (.invokevirtual 97, 3) := by decide +kernel
theorem dX9_store_5 : decode cX9_store 5 = .ok (.ifCond .eq 30, 3) := by decide +kernel
theorem dX9_store_8 : decode cX9_store 8 = .ok (.iload_n 2, 1) := by decide +kernel
theorem dX9_store_9 : decode cX9_store 9 = .ok (.i2l, 1) := by decide +kernel
theorem dX9_store_10 : decode cX9_store 10 = .ok (.lconst 1, 1) := by decide +kernel
theorem dX9_store_11 : decode cX9_store 11 = .ok (.ldc2_w 115, 3) := by decide +kernel
theorem dX9_store_14 : decode cX9_store 14 = .ok (.invokestatic 52, 3) := by decide +kernel
theorem dX9_store_17 : decode cX9_store 17 = .ok (.ifCond .eq 18, 3) := by decide +kernel
theorem dX9_store_20 : decode cX9_store 20 = .ok (.iload_n 3, 1) := by decide +kernel
theorem dX9_store_21 : decode cX9_store 21 = .ok (.i2l, 1) := by decide +kernel
theorem dX9_store_22 : decode cX9_store 22 = .ok (.ldc2_w 117, 3) := by decide +kernel
theorem dX9_store_25 : decode cX9_store 25 = .ok (.iload_n 2, 1) := by decide +kernel
theorem dX9_store_26 : decode cX9_store 26 = .ok (.iconst 1, 1) := by decide +kernel
theorem dX9_store_27 : decode cX9_store 27 = .ok (.isub, 1) := by decide +kernel
theorem dX9_store_28 : decode cX9_store 28 = .ok (.i2l, 1) := by decide +kernel
theorem dX9_store_29 : decode cX9_store 29 = .ok (.invokestatic 52, 3) := by decide +kernel
theorem dX9_store_32 : decode cX9_store 32 = .ok (.ifCond .ne 5, 3) := by decide +kernel
theorem dX9_store_35 : decode cX9_store 35 = .ok (.iconst (-1), 1) := by decide +kernel
theorem dX9_store_36 : decode cX9_store 36 = .ok (.ireturn, 1) := by decide +kernel
theorem dX9_store_37 : decode cX9_store 37 = .ok (.aload_n 0, 1) := by decide +kernel
theorem dX9_store_38 : decode cX9_store 38 = .ok (.getfield 7, 3) := by decide +kernel
theorem dX9_store_41 : decode cX9_store 41 = .ok (.iconst 0, 1) := by decide +kernel
theorem dX9_store_42 : decode cX9_store 42 = .ok (.iaload, 1) := by decide +kernel
theorem dX9_store_43 : decode cX9_store 43 = .ok (.istore 4, 2) := by decide +kernel
theorem dX9_store_45 : decode cX9_store 45 = .ok (.iload 4, 2) := by decide +kernel
theorem dX9_store_47 : decode cX9_store 47 = .ok (.ifCond .ne 6, 3) := by decide +kernel
theorem dX9_store_50 : decode cX9_store 50 = .ok (.bipush (-4), 2) := by decide +kernel
theorem dX9_store_52 : decode cX9_store 52 = .ok (.ireturn, 1) := by decide +kernel
theorem dX9_store_53 : decode cX9_store 53 = .ok (.iconst 1, 1) := by decide +kernel
theorem dX9_store_54 : decode cX9_store 54 = .ok (.istore 5, 2) := by decide +kernel
theorem dX9_store_56 : decode cX9_store 56 = .ok (.iconst 0, 1) := by decide +kernel
theorem dX9_store_57 : decode cX9_store 57 = .ok (.istore 6, 2) := by decide +kernel
theorem dX9_store_59 : decode cX9_store 59 = .ok (.iload 6, 2) := by decide +kernel
theorem dX9_store_61 : decode cX9_store 61 = .ok (.iload_n 2, 1) := by decide +kernel
theorem dX9_store_62 : decode cX9_store 62 = .ok (.if_icmp .ge 16, 3) := by decide +kernel
theorem dX9_store_65 : decode cX9_store 65 = .ok (.iload 5, 2) := by decide +kernel
theorem dX9_store_67 : decode cX9_store 67 = .ok (.iload 4, 2) := by decide +kernel
theorem dX9_store_69 : decode cX9_store 69 = .ok (.imul, 1) := by decide +kernel
theorem dX9_store_70 : decode cX9_store 70 = .ok (.istore 5, 2) := by decide +kernel
theorem dX9_store_72 : decode cX9_store 72 = .ok (.iinc 6 1, 3) := by decide +kernel
theorem dX9_store_75 : decode cX9_store 75 = .ok (.goto (-16), 3) := by decide +kernel
theorem dX9_store_78 : decode cX9_store 78 = .ok (.iconst (-1), 1) := by decide +kernel
theorem dX9_store_79 : decode cX9_store 79 = .ok (.istore 6, 2) := by decide +kernel
theorem dX9_store_81 : decode cX9_store 81 = .ok (.iconst 0, 1) := by decide +kernel
theorem dX9_store_82 : decode cX9_store 82 = .ok (.istore 7, 2) := by decide +kernel
theorem dX9_store_84 : decode cX9_store 84 = .ok (.iload 7, 2) := by decide +kernel
theorem dX9_store_86 : decode cX9_store 86 = .ok (.iload 5, 2) := by decide +kernel
theorem dX9_store_88 : decode cX9_store 88 = .ok (.if_icmp .ge 96, 3) := by decide +kernel
theorem dX9_store_91 : decode cX9_store 91 = .ok (.iload 7, 2) := by decide +kernel
theorem dX9_store_93 : decode cX9_store 93 = .ok (.istore 8, 2) := by decide +kernel
theorem dX9_store_95 : decode cX9_store 95 = .ok (.iload_n 2, 1) := by decide +kernel
theorem dX9_store_96 : decode cX9_store 96 = .ok (.iconst 1, 1) := by decide +kernel
theorem dX9_store_97 : decode cX9_store 97 = .ok (.isub, 1) := by decide +kernel
theorem dX9_store_98 : decode cX9_store 98 = .ok (.istore 9, 2) := by decide +kernel
theorem dX9_store_100 : decode cX9_store 100 = .ok (.iload 9, 2) := by decide +kernel
theorem dX9_store_102 : decode cX9_store 102 = .ok (.ifCond .lt 28, 3) := by decide +kernel
theorem dX9_store_105 : decode cX9_store 105 = .ok (.aload_n 0, 1) := by decide +kernel
theorem dX9_store_106 : decode cX9_store 106 = .ok (.getfield 28, 3) := by decide +kernel
theorem dX9_store_109 : decode cX9_store 109 = .ok (.iload 9, 2) := by decide +kernel
theorem dX9_store_111 : decode cX9_store 111 = .ok (.iload 8, 2) := by decide +kernel
theorem dX9_store_113 : decode cX9_store 113 = .ok (.iload 4, 2) := by decide +kernel
theorem dX9_store_115 : decode cX9_store 115 = .ok (.irem, 1) := by decide +kernel
theorem dX9_store_116 : decode cX9_store 116 = .ok (.iastore, 1) := by decide +kernel
theorem dX9_store_117 : decode cX9_store 117 = .ok (.iload 8, 2) := by decide +kernel
theorem dX9_store_119 : decode cX9_store 119 = .ok (.iload 4, 2) := by decide +kernel
theorem dX9_store_121 : decode cX9_store 121 = .ok (.idiv, 1) := by decide +kernel
theorem dX9_store_122 : decode cX9_store 122 = .ok (.istore 8, 2) := by decide +kernel
theorem dX9_store_124 : decode cX9_store 124 = .ok (.iinc 9 (-1), 3) := by decide +kernel
theorem dX9_store_127 : decode cX9_store 127 = .ok (.goto (-27), 3) := by decide +kernel
theorem dX9_store_130 : decode cX9_store 130 = .ok (.aload_n 0, 1) := by decide +kernel
theorem dX9_store_131 : decode cX9_store 131 = .ok (.iload_n 1, 1) := by decide +kernel
theorem dX9_store_132 : decode cX9_store 132 = .ok (.iload_n 2, 1) := by decide +kernel
theorem dX9_store_133 : decode cX9_store 133 = .ok (.invokevirtual 119, 3) := by decide +kernel
theorem dX9_store_136 : decode cX9_store 136 = .ok (.istore 9, 2) := by decide +kernel
theorem dX9_store_138 : decode cX9_store 138 = .ok (.iload 9, 2) := by decide +kernel
theorem dX9_store_140 : decode cX9_store 140 = .ok (.iload 6, 2) := by decide +kernel
theorem dX9_store_142 : decode cX9_store 142 = .ok (.if_icmp .le 36, 3) := by decide +kernel
theorem dX9_store_145 : decode cX9_store 145 = .ok (.iload 9, 2) := by decide +kernel
theorem dX9_store_147 : decode cX9_store 147 = .ok (.istore 6, 2) := by decide +kernel
theorem dX9_store_149 : decode cX9_store 149 = .ok (.iconst 0, 1) := by decide +kernel
theorem dX9_store_150 : decode cX9_store 150 = .ok (.istore 10, 2) := by decide +kernel
theorem dX9_store_152 : decode cX9_store 152 = .ok (.iload 10, 2) := by decide +kernel
theorem dX9_store_154 : decode cX9_store 154 = .ok (.iload_n 2, 1) := by decide +kernel
theorem dX9_store_155 : decode cX9_store 155 = .ok (.if_icmp .ge 23, 3) := by decide +kernel
theorem dX9_store_158 : decode cX9_store 158 = .ok (.aload_n 0, 1) := by decide +kernel
theorem dX9_store_159 : decode cX9_store 159 = .ok (.getfield 31, 3) := by decide +kernel
theorem dX9_store_162 : decode cX9_store 162 = .ok (.iload 10, 2) := by decide +kernel
theorem dX9_store_164 : decode cX9_store 164 = .ok (.aload_n 0, 1) := by decide +kernel
theorem dX9_store_165 : decode cX9_store 165 = .ok (.getfield 28, 3) := by decide +kernel
theorem dX9_store_168 : decode cX9_store 168 = .ok (.iload 10, 2) := by decide +kernel
theorem dX9_store_170 : decode cX9_store 170 = .ok (.iaload, 1) := by decide +kernel
theorem dX9_store_171 : decode cX9_store 171 = .ok (.iastore, 1) := by decide +kernel
theorem dX9_store_172 : decode cX9_store 172 = .ok (.iinc 10 1, 3) := by decide +kernel
theorem dX9_store_175 : decode cX9_store 175 = .ok (.goto (-23), 3) := by decide +kernel
theorem dX9_store_178 : decode cX9_store 178 = .ok (.iinc 7 1, 3) := by decide +kernel
theorem dX9_store_181 : decode cX9_store 181 = .ok (.goto (-97), 3) := by decide +kernel
theorem dX9_store_184 : decode cX9_store 184 = .ok (.iload_n 3, 1) := by decide +kernel
theorem dX9_store_185 : decode cX9_store 185 = .ok (.ifCond .ge 8, 3) := by decide +kernel
theorem dX9_store_188 : decode cX9_store 188 = .ok (.iload 6, 2) := by decide +kernel
theorem dX9_store_190 : decode cX9_store 190 = .ok (.goto 9, 3) := by decide +kernel
theorem dX9_store_193 : decode cX9_store 193 = .ok (.aload_n 0, 1) := by decide +kernel
theorem dX9_store_194 : decode cX9_store 194 = .ok (.getfield 31, 3) := by decide +kernel
theorem dX9_store_197 : decode cX9_store 197 = .ok (.iload_n 3, 1) := by decide +kernel
theorem dX9_store_198 : decode cX9_store 198 = .ok (.iaload, 1) := by decide +kernel
theorem dX9_store_199 : decode cX9_store 199 = .ok (.ireturn, 1) := by decide +kernel
theorem dX9_points_0 : decode cX9_points 0 = .ok (.iconst 0, 1) := by decide +kernel
theorem dX9_points_1 : decode cX9_points 1 = .ok (.istore 6, 2) := by decide +kernel
theorem dX9_points_3 : decode cX9_points 3 = .ok (.iload 6, 2) := by decide +kernel
theorem dX9_points_5 : decode cX9_points 5 = .ok (.aload_n 0, 1) := by decide +kernel
theorem dX9_points_6 : decode cX9_points 6 = .ok (.getfield 7, 3) := by decide +kernel
theorem dX9_points_9 : decode cX9_points 9 = .ok (.bipush 81, 2) := by decide +kernel
theorem dX9_points_11 : decode cX9_points 11 = .ok (.iload_n 2, 1) := by decide +kernel
theorem dX9_points_12 : decode cX9_points 12 = .ok (.iadd, 1) := by decide +kernel
theorem dX9_points_13 : decode cX9_points 13 = .ok (.iaload, 1) := by decide +kernel
theorem dX9_points_14 : decode cX9_points 14 = .ok (.if_icmp .ge 22, 3) := by decide +kernel
theorem dX9_points_17 : decode cX9_points 17 = .ok (.aload_n 0, 1) := by decide +kernel
theorem dX9_points_18 : decode cX9_points 18 = .ok (.iload_n 1, 1) := by decide +kernel
theorem dX9_points_19 : decode cX9_points 19 = .ok (.iload_n 2, 1) := by decide +kernel
theorem dX9_points_20 : decode cX9_points 20 = .ok (.iload 6, 2) := by decide +kernel
theorem dX9_points_22 : decode cX9_points 22 = .ok (.invokevirtual 93, 3) := by decide +kernel
theorem dX9_points_25 : decode cX9_points 25 = .ok (.iload 4, 2) := by decide +kernel
theorem dX9_points_27 : decode cX9_points 27 = .ok (.if_icmp .lt 9, 3) := by decide +kernel
theorem dX9_points_30 : decode cX9_points 30 = .ok (.iinc 6 1, 3) := by decide +kernel
theorem dX9_points_33 : decode cX9_points 33 = .ok (.goto (-30), 3) := by decide +kernel
theorem dX9_points_36 : decode cX9_points 36 = .ok (.iload 6, 2) := by decide +kernel
theorem dX9_points_38 : decode cX9_points 38 = .ok (.iload_n 3, 1) := by decide +kernel
theorem dX9_points_39 : decode cX9_points 39 = .ok (.if_icmp .ge 8, 3) := by decide +kernel
theorem dX9_points_42 : decode cX9_points 42 = .ok (.iload 6, 2) := by decide +kernel
theorem dX9_points_44 : decode cX9_points 44 = .ok (.goto 4, 3) := by decide +kernel
theorem dX9_points_47 : decode cX9_points 47 = .ok (.iload_n 3, 1) := by decide +kernel
theorem dX9_points_48 : decode cX9_points 48 = .ok (.istore 7, 2) := by decide +kernel
theorem dX9_points_50 : decode cX9_points 50 = .ok (.iload 5, 2) := by decide +kernel
theorem dX9_points_52 : decode cX9_points 52 = .ok (.ifCond .ne 18, 3) := by decide +kernel
theorem dX9_points_55 : decode cX9_points 55 = .ok (.iload 7, 2) := by decide +kernel
theorem dX9_points_57 : decode cX9_points 57 = .ok (.iload 6, 2) := by decide +kernel
theorem dX9_points_59 : decode cX9_points 59 = .ok (.iload_n 3, 1) := by decide +kernel
theorem dX9_points_60 : decode cX9_points 60 = .ok (.if_icmp .ge 7, 3) := by decide +kernel
theorem dX9_points_63 : decode cX9_points 63 = .ok (.iconst 3, 1) := by decide +kernel
theorem dX9_points_64 : decode cX9_points 64 = .ok (.goto 4, 3) := by decide +kernel
theorem dX9_points_67 : decode cX9_points 67 = .ok (.iconst 0, 1) := by decide +kernel
theorem dX9_points_68 : decode cX9_points 68 = .ok (.isub, 1) := by decide +kernel
theorem dX9_points_69 : decode cX9_points 69 = .ok (.ireturn, 1) := by decide +kernel
theorem dX9_points_70 : decode cX9_points 70 = .ok (.iconst 0, 1) := by decide +kernel
theorem dX9_points_71 : decode cX9_points 71 = .ok (.istore 8, 2) := by decide +kernel
theorem dX9_points_73 : decode cX9_points 73 = .ok (.iconst 0, 1) := by decide +kernel
theorem dX9_points_74 : decode cX9_points 74 = .ok (.istore 9, 2) := by decide +kernel
theorem dX9_points_76 : decode cX9_points 76 = .ok (.iload 9, 2) := by decide +kernel
theorem dX9_points_78 : decode cX9_points 78 = .ok (.iload 7, 2) := by decide +kernel
theorem dX9_points_80 : decode cX9_points 80 = .ok (.if_icmp .ge 27, 3) := by decide +kernel
theorem dX9_points_83 : decode cX9_points 83 = .ok (.iload 8, 2) := by decide +kernel
theorem dX9_points_85 : decode cX9_points 85 = .ok (.aload_n 0, 1) := by decide +kernel
theorem dX9_points_86 : decode cX9_points 86 = .ok (.iload_n 1, 1) := by decide +kernel
theorem dX9_points_87 : decode cX9_points 87 = .ok (.iload_n 2, 1) := by decide +kernel
theorem dX9_points_88 : decode cX9_points 88 = .ok (.iload 9, 2) := by decide +kernel
theorem dX9_points_90 : decode cX9_points 90 = .ok (.invokevirtual 93, 3) := by decide +kernel
theorem dX9_points_93 : decode cX9_points 93 = .ok (.invokestatic 111, 3) := by decide +kernel
theorem dX9_points_96 : decode cX9_points 96 = .ok (.iconst 1, 1) := by decide +kernel
theorem dX9_points_97 : decode cX9_points 97 = .ok (.isub, 1) := by decide +kernel
theorem dX9_points_98 : decode cX9_points 98 = .ok (.iadd, 1) := by decide +kernel
theorem dX9_points_99 : decode cX9_points 99 = .ok (.istore 8, 2) := by decide +kernel
theorem dX9_points_101 : decode cX9_points 101 = .ok (.iinc 9 1, 3) := by decide +kernel
theorem dX9_points_104 : decode cX9_points 104 = .ok (.goto (-28), 3) := by decide +kernel
theorem dX9_points_107 : decode cX9_points 107 = .ok (.iload 8, 2) := by decide +kernel
theorem dX9_points_109 : decode cX9_points 109 = .ok (.ireturn, 1) := by decide +kernel
theorem dX9_play_0 : decode cX9_play 0 = .ok (.aload_n 0, 1) := by decide +kernel
theorem dX9_play_1 : decode cX9_play 1 = .ok (.iload_n 1, 1) := by decide +kernel
theorem dX9_play_2 : decode cX9_play 2 = .ok (.invokevirtual 90, 3) := by decide +kernel
theorem dX9_play_5 : decode cX9_play 5 = .ok (.ifCond .eq 54, 3) := by decide +kernel
theorem dX9_play_8 : decode cX9_play 8 = .ok (.aload_n 0, 1) := by decide +kernel
theorem dX9_play_9 : decode cX9_play 9 = .ok (.iload_n 2, 1) := by decide +kernel
theorem dX9_play_10 : decode cX9_play 10 = .ok (.invokevirtual 72, 3) := by decide +kernel
theorem dX9_play_13 : decode cX9_play 13 = .ok (.ifCond .eq 46, 3) := by decide +kernel
theorem dX9_play_16 : decode cX9_play 16 = .ok (.iload_n 3, 1) := by decide +kernel
theorem dX9_play_17 : decode cX9_play 17 = .ok (.i2l, 1) := by decide +kernel
theorem dX9_play_18 : decode cX9_play 18 = .ok (.lconst 1, 1) := by decide +kernel
theorem dX9_play_19 : decode cX9_play 19 = .ok (.aload_n 0, 1) := by decide +kernel
theorem dX9_play_20 : decode cX9_play 20 = .ok (.getfield 7, 3) := by decide +kernel
theorem dX9_play_23 : decode cX9_play 23 = .ok (.bipush 81, 2) := by decide +kernel
theorem dX9_play_25 : decode cX9_play 25 = .ok (.iload_n 2, 1) := by decide +kernel
theorem dX9_play_26 : decode cX9_play 26 = .ok (.iadd, 1) := by decide +kernel
theorem dX9_play_27 : decode cX9_play 27 = .ok (.iaload, 1) := by decide +kernel
theorem dX9_play_28 : decode cX9_play 28 = .ok (.i2l, 1) := by decide +kernel
theorem dX9_play_29 : decode cX9_play 29 = .ok (.invokestatic 52, 3) := by decide +kernel
theorem dX9_play_32 : decode cX9_play 32 = .ok (.ifCond .eq 27, 3) := by decide +kernel
theorem dX9_play_35 : decode cX9_play 35 = .ok (.iload 4, 2) := by decide +kernel
theorem dX9_play_37 : decode cX9_play 37 = .ok (.i2l, 1) := by decide +kernel
theorem dX9_play_38 : decode cX9_play 38 = .ok (.lconst 0, 1) := by decide +kernel
theorem dX9_play_39 : decode cX9_play 39 = .ok (.ldc2_w 80, 3) := by decide +kernel
theorem dX9_play_42 : decode cX9_play 42 = .ok (.invokestatic 52, 3) := by decide +kernel
theorem dX9_play_45 : decode cX9_play 45 = .ok (.ifCond .eq 14, 3) := by decide +kernel
theorem dX9_play_48 : decode cX9_play 48 = .ok (.iload 5, 2) := by decide +kernel
theorem dX9_play_50 : decode cX9_play 50 = .ok (.i2l, 1) := by decide +kernel
theorem dX9_play_51 : decode cX9_play 51 = .ok (.lconst 0, 1) := by decide +kernel
theorem dX9_play_52 : decode cX9_play 52 = .ok (.lconst 1, 1) := by decide +kernel
theorem dX9_play_53 : decode cX9_play 53 = .ok (.invokestatic 52, 3) := by decide +kernel
theorem dX9_play_56 : decode cX9_play 56 = .ok (.ifCond .ne 6, 3) := by decide +kernel
theorem dX9_play_59 : decode cX9_play 59 = .ok (.ldc 122, 2) := by decide +kernel
theorem dX9_play_61 : decode cX9_play 61 = .ok (.ireturn, 1) := by decide +kernel
theorem dX9_play_62 : decode cX9_play 62 = .ok (.aload_n 0, 1) := by decide +kernel
theorem dX9_play_63 : decode cX9_play 63 = .ok (.iload_n 1, 1) := by decide +kernel
theorem dX9_play_64 : decode cX9_play 64 = .ok (.iload_n 2, 1) := by decide +kernel
theorem dX9_play_65 : decode cX9_play 65 = .ok (.iload_n 3, 1) := by decide +kernel
theorem dX9_play_66 : decode cX9_play 66 = .ok (.iload 4, 2) := by decide +kernel
theorem dX9_play_68 : decode cX9_play 68 = .ok (.iload 5, 2) := by decide +kernel
theorem dX9_play_70 : decode cX9_play 70 = .ok (.invokevirtual 123, 3) := by decide +kernel
theorem dX9_play_73 : decode cX9_play 73 = .ok (.ireturn, 1) := by decide +kernel
theorem dX9_rests_0 : decode cX9_rests 0 = .ok (.aload_n 0, 1) := by decide +kernel
theorem dX9_rests_1 : decode cX9_rests 1 = .ok (.iload_n 1, 1) := by decide +kernel
theorem dX9_rests_2 : decode cX9_rests 2 = .ok (.invokevirtual 90, 3) := by decide +kernel
theorem dX9_rests_5 : decode cX9_rests 5 = .ok (.ifCond .eq 21, 3) := by decide +kernel
theorem dX9_rests_8 : decode cX9_rests 8 = .ok (.aload_n 0, 1) := by decide +kernel
theorem dX9_rests_9 : decode cX9_rests 9 = .ok (.iload_n 2, 1) := by decide +kernel
theorem dX9_rests_10 : decode cX9_rests 10 = .ok (.invokevirtual 72, 3) := by decide +kernel
theorem dX9_rests_13 : decode cX9_rests 13 = .ok (.ifCond .eq 13, 3) := by decide +kernel
theorem dX9_rests_16 : decode cX9_rests 16 = .ok (.iload_n 3, 1) := by decide +kernel
theorem dX9_rests_17 : decode cX9_rests 17 = .ok (.i2l, 1) := by decide +kernel
theorem dX9_rests_18 : decode cX9_rests 18 = .ok (.lconst 0, 1) := by decide +kernel
theorem dX9_rests_19 : decode cX9_rests 19 = .ok (.lconst 1, 1) := by decide +kernel
theorem dX9_rests_20 : decode cX9_rests 20 = .ok (.invokestatic 52, 3) := by decide +kernel
theorem dX9_rests_23 : decode cX9_rests 23 = .ok (.ifCond .ne 5, 3) := by decide +kernel
theorem dX9_rests_26 : decode cX9_rests 26 = .ok (.iconst (-1), 1) := by decide +kernel
theorem dX9_rests_27 : decode cX9_rests 27 = .ok (.ireturn, 1) := by decide +kernel
theorem dX9_rests_28 : decode cX9_rests 28 = .ok (.iconst 0, 1) := by decide +kernel
theorem dX9_rests_29 : decode cX9_rests 29 = .ok (.istore 4, 2) := by decide +kernel
theorem dX9_rests_31 : decode cX9_rests 31 = .ok (.bipush (-4), 2) := by decide +kernel
theorem dX9_rests_33 : decode cX9_rests 33 = .ok (.istore 5, 2) := by decide +kernel
theorem dX9_rests_35 : decode cX9_rests 35 = .ok (.iconst 1, 1) := by decide +kernel
theorem dX9_rests_36 : decode cX9_rests 36 = .ok (.istore 6, 2) := by decide +kernel
theorem dX9_rests_38 : decode cX9_rests 38 = .ok (.iload 6, 2) := by decide +kernel
theorem dX9_rests_40 : decode cX9_rests 40 = .ok (.aload_n 0, 1) := by decide +kernel
theorem dX9_rests_41 : decode cX9_rests 41 = .ok (.getfield 7, 3) := by decide +kernel
theorem dX9_rests_44 : decode cX9_rests 44 = .ok (.bipush 81, 2) := by decide +kernel
theorem dX9_rests_46 : decode cX9_rests 46 = .ok (.iload_n 2, 1) := by decide +kernel
theorem dX9_rests_47 : decode cX9_rests 47 = .ok (.iadd, 1) := by decide +kernel
theorem dX9_rests_48 : decode cX9_rests 48 = .ok (.iaload, 1) := by decide +kernel
theorem dX9_rests_49 : decode cX9_rests 49 = .ok (.if_icmp .gt 183, 3) := by decide +kernel
theorem dX9_rests_52 : decode cX9_rests 52 = .ok (.iconst 0, 1) := by decide +kernel
theorem dX9_rests_53 : decode cX9_rests 53 = .ok (.istore 7, 2) := by decide +kernel
theorem dX9_rests_55 : decode cX9_rests 55 = .ok (.iload 7, 2) := by decide +kernel
theorem dX9_rests_57 : decode cX9_rests 57 = .ok (.bipush 10, 2) := by decide +kernel
theorem dX9_rests_59 : decode cX9_rests 59 = .ok (.if_icmp .ge 167, 3) := by decide +kernel
theorem dX9_rests_62 : decode cX9_rests 62 = .ok (.iconst 1, 1) := by decide +kernel
theorem dX9_rests_63 : decode cX9_rests 63 = .ok (.istore 8, 2) := by decide +kernel
theorem dX9_rests_65 : decode cX9_rests 65 = .ok (.iconst 1, 1) := by decide +kernel
theorem dX9_rests_66 : decode cX9_rests 66 = .ok (.istore 9, 2) := by decide +kernel
theorem dX9_rests_68 : decode cX9_rests 68 = .ok (.iload 9, 2) := by decide +kernel
theorem dX9_rests_70 : decode cX9_rests 70 = .ok (.aload_n 0, 1) := by decide +kernel
theorem dX9_rests_71 : decode cX9_rests 71 = .ok (.getfield 7, 3) := by decide +kernel
theorem dX9_rests_74 : decode cX9_rests 74 = .ok (.bipush 81, 2) := by decide +kernel
theorem dX9_rests_76 : decode cX9_rests 76 = .ok (.iload_n 2, 1) := by decide +kernel
theorem dX9_rests_77 : decode cX9_rests 77 = .ok (.iadd, 1) := by decide +kernel
theorem dX9_rests_78 : decode cX9_rests 78 = .ok (.iaload, 1) := by decide +kernel
theorem dX9_rests_79 : decode cX9_rests 79 = .ok (.if_icmp .gt 46, 3) := by decide +kernel
theorem dX9_rests_82 : decode cX9_rests 82 = .ok (.iload 8, 2) := by decide +kernel
theorem dX9_rests_84 : decode cX9_rests 84 = .ok (.ifCond .eq 32, 3) := by decide +kernel
theorem dX9_rests_87 : decode cX9_rests 87 = .ok (.aload_n 0, 1) := by decide +kernel
theorem dX9_rests_88 : decode cX9_rests 88 = .ok (.iload_n 1, 1) := by decide +kernel
theorem dX9_rests_89 : decode cX9_rests 89 = .ok (.iload_n 2, 1) := by decide +kernel
theorem dX9_rests_90 : decode cX9_rests 90 = .ok (.iload 9, 2) := by decide +kernel
theorem dX9_rests_92 : decode cX9_rests 92 = .ok (.iload 7, 2) := by decide +kernel
theorem dX9_rests_94 : decode cX9_rests 94 = .ok (.iconst 0, 1) := by decide +kernel
theorem dX9_rests_95 : decode cX9_rests 95 = .ok (.invokevirtual 123, 3) := by decide +kernel
theorem dX9_rests_98 : decode cX9_rests 98 = .ok (.aload_n 0, 1) := by decide +kernel
theorem dX9_rests_99 : decode cX9_rests 99 = .ok (.iload_n 1, 1) := by decide +kernel
theorem dX9_rests_100 : decode cX9_rests 100 = .ok (.iload_n 2, 1) := by decide +kernel
theorem dX9_rests_101 : decode cX9_rests 101 = .ok (.iload 6, 2) := by decide +kernel
theorem dX9_rests_103 : decode cX9_rests 103 = .ok (.iload 7, 2) := by decide +kernel
theorem dX9_rests_105 : decode cX9_rests 105 = .ok (.iconst 0, 1) := by decide +kernel
theorem dX9_rests_106 : decode cX9_rests 106 = .ok (.invokevirtual 123, 3) := by decide +kernel
theorem dX9_rests_109 : decode cX9_rests 109 = .ok (.if_icmp .gt 7, 3) := by decide +kernel
theorem dX9_rests_112 : decode cX9_rests 112 = .ok (.iconst 1, 1) := by decide +kernel
theorem dX9_rests_113 : decode cX9_rests 113 = .ok (.goto 4, 3) := by decide +kernel
theorem dX9_rests_116 : decode cX9_rests 116 = .ok (.iconst 0, 1) := by decide +kernel
theorem dX9_rests_117 : decode cX9_rests 117 = .ok (.istore 8, 2) := by decide +kernel
theorem dX9_rests_119 : decode cX9_rests 119 = .ok (.iinc 9 1, 3) := by decide +kernel
theorem dX9_rests_122 : decode cX9_rests 122 = .ok (.goto (-54), 3) := by decide +kernel
theorem dX9_rests_125 : decode cX9_rests 125 = .ok (.iconst 0, 1) := by decide +kernel
theorem dX9_rests_126 : decode cX9_rests 126 = .ok (.istore 9, 2) := by decide +kernel
theorem dX9_rests_128 : decode cX9_rests 128 = .ok (.iload 9, 2) := by decide +kernel
theorem dX9_rests_130 : decode cX9_rests 130 = .ok (.bipush 10, 2) := by decide +kernel
theorem dX9_rests_132 : decode cX9_rests 132 = .ok (.if_icmp .ge 46, 3) := by decide +kernel
theorem dX9_rests_135 : decode cX9_rests 135 = .ok (.iload 8, 2) := by decide +kernel
theorem dX9_rests_137 : decode cX9_rests 137 = .ok (.ifCond .eq 32, 3) := by decide +kernel
theorem dX9_rests_140 : decode cX9_rests 140 = .ok (.aload_n 0, 1) := by decide +kernel
theorem dX9_rests_141 : decode cX9_rests 141 = .ok (.iload_n 1, 1) := by decide +kernel
theorem dX9_rests_142 : decode cX9_rests 142 = .ok (.iload_n 2, 1) := by decide +kernel
theorem dX9_rests_143 : decode cX9_rests 143 = .ok (.iload 6, 2) := by decide +kernel
theorem dX9_rests_145 : decode cX9_rests 145 = .ok (.iload 9, 2) := by decide +kernel
theorem dX9_rests_147 : decode cX9_rests 147 = .ok (.iconst 1, 1) := by decide +kernel
theorem dX9_rests_148 : decode cX9_rests 148 = .ok (.invokevirtual 123, 3) := by decide +kernel
theorem dX9_rests_151 : decode cX9_rests 151 = .ok (.aload_n 0, 1) := by decide +kernel
theorem dX9_rests_152 : decode cX9_rests 152 = .ok (.iload_n 1, 1) := by decide +kernel
theorem dX9_rests_153 : decode cX9_rests 153 = .ok (.iload_n 2, 1) := by decide +kernel
theorem dX9_rests_154 : decode cX9_rests 154 = .ok (.iload 6, 2) := by decide +kernel
theorem dX9_rests_156 : decode cX9_rests 156 = .ok (.iload 7, 2) := by decide +kernel
theorem dX9_rests_158 : decode cX9_rests 158 = .ok (.iconst 1, 1) := by decide +kernel
theorem dX9_rests_159 : decode cX9_rests 159 = .ok (.invokevirtual 123, 3) := by decide +kernel
theorem dX9_rests_162 : decode cX9_rests 162 = .ok (.if_icmp .gt 7, 3) := by decide +kernel
theorem dX9_rests_165 : decode cX9_rests 165 = .ok (.iconst 1, 1) := by decide +kernel
theorem dX9_rests_166 : decode cX9_rests 166 = .ok (.goto 4, 3) := by decide +kernel
theorem dX9_rests_169 : decode cX9_rests 169 = .ok (.iconst 0, 1) := by decide +kernel
theorem dX9_rests_170 : decode cX9_rests 170 = .ok (.istore 8, 2) := by decide +kernel
theorem dX9_rests_172 : decode cX9_rests 172 = .ok (.iinc 9 1, 3) := by decide +kernel
theorem dX9_rests_175 : decode cX9_rests 175 = .ok (.goto (-47), 3) := by decide +kernel
theorem dX9_rests_178 : decode cX9_rests 178 = .ok (.iload 4, 2) := by decide +kernel
theorem dX9_rests_180 : decode cX9_rests 180 = .ok (.iload 8, 2) := by decide +kernel
theorem dX9_rests_182 : decode cX9_rests 182 = .ok (.ifCond .eq 7, 3) := by decide +kernel
theorem dX9_rests_185 : decode cX9_rests 185 = .ok (.iconst 1, 1) := by decide +kernel
theorem dX9_rests_186 : decode cX9_rests 186 = .ok (.goto 4, 3) := by decide +kernel
theorem dX9_rests_189 : decode cX9_rests 189 = .ok (.iconst 0, 1) := by decide +kernel
theorem dX9_rests_190 : decode cX9_rests 190 = .ok (.iadd, 1) := by decide +kernel
theorem dX9_rests_191 : decode cX9_rests 191 = .ok (.istore 4, 2) := by decide +kernel
theorem dX9_rests_193 : decode cX9_rests 193 = .ok (.iload 8, 2) := by decide +kernel
theorem dX9_rests_195 : decode cX9_rests 195 = .ok (.ifCond .eq 21, 3) := by decide +kernel
theorem dX9_rests_198 : decode cX9_rests 198 = .ok (.iload 5, 2) := by decide +kernel
theorem dX9_rests_200 : decode cX9_rests 200 = .ok (.bipush (-4), 2) := by decide +kernel
theorem dX9_rests_202 : decode cX9_rests 202 = .ok (.if_icmp .ne 14, 3) := by decide +kernel
theorem dX9_rests_205 : decode cX9_rests 205 = .ok (.bipush 10, 2) := by decide +kernel
theorem dX9_rests_207 : decode cX9_rests 207 = .ok (.iload 6, 2) := by decide +kernel
theorem dX9_rests_209 : decode cX9_rests 209 = .ok (.imul, 1) := by decide +kernel
theorem dX9_rests_210 : decode cX9_rests 210 = .ok (.iload 7, 2) := by decide +kernel
theorem dX9_rests_212 : decode cX9_rests 212 = .ok (.iadd, 1) := by decide +kernel
theorem dX9_rests_213 : decode cX9_rests 213 = .ok (.goto 5, 3) := by decide +kernel
theorem dX9_rests_216 : decode cX9_rests 216 = .ok (.iload 5, 2) := by decide +kernel
theorem dX9_rests_218 : decode cX9_rests 218 = .ok (.istore 5, 2) := by decide +kernel
theorem dX9_rests_220 : decode cX9_rests 220 = .ok (.iinc 7 1, 3) := by decide +kernel
theorem dX9_rests_223 : decode cX9_rests 223 = .ok (.goto (-168), 3) := by decide +kernel
theorem dX9_rests_226 : decode cX9_rests 226 = .ok (.iinc 6 1, 3) := by decide +kernel
theorem dX9_rests_229 : decode cX9_rests 229 = .ok (.goto (-191), 3) := by decide +kernel
theorem dX9_rests_232 : decode cX9_rests 232 = .ok (.iload_n 3, 1) := by decide +kernel
theorem dX9_rests_233 : decode cX9_rests 233 = .ok (.ifCond .ne 8, 3) := by decide +kernel
theorem dX9_rests_236 : decode cX9_rests 236 = .ok (.iload 4, 2) := by decide +kernel
theorem dX9_rests_238 : decode cX9_rests 238 = .ok (.goto 5, 3) := by decide +kernel
theorem dX9_rests_241 : decode cX9_rests 241 = .ok (.iload 5, 2) := by decide +kernel
theorem dX9_rests_243 : decode cX9_rests 243 = .ok (.ireturn, 1) := by decide +kernel
theorem dX9_image_0 : decode cX9_image 0 = .ok (.iconst 0, 1) := by decide +kernel
theorem dX9_image_1 : decode cX9_image 1 = .ok (.istore_n 1, 1) := by decide +kernel
theorem dX9_image_2 : decode cX9_image 2 = .ok (.iload_n 1, 1) := by decide +kernel
theorem dX9_image_3 : decode cX9_image 3 = .ok (.sipush 141, 3) := by decide +kernel
theorem dX9_image_6 : decode cX9_image 6 = .ok (.if_icmp .ge 21, 3) := by decide +kernel
theorem dX9_image_9 : decode cX9_image 9 = .ok (.aload_n 0, 1) := by decide +kernel
theorem dX9_image_10 : decode cX9_image 10 = .ok (.getfield 13, 3) := by decide +kernel
theorem dX9_image_13 : decode cX9_image 13 = .ok (.iload_n 1, 1) := by decide +kernel
theorem dX9_image_14 : decode cX9_image 14 = .ok (.aload_n 0, 1) := by decide +kernel
theorem dX9_image_15 : decode cX9_image 15 = .ok (.getfield 7, 3) := by decide +kernel
theorem dX9_image_18 : decode cX9_image 18 = .ok (.iload_n 1, 1) := by decide +kernel
theorem dX9_image_19 : decode cX9_image 19 = .ok (.iaload, 1) := by decide +kernel
theorem dX9_image_20 : decode cX9_image 20 = .ok (.iastore, 1) := by decide +kernel
theorem dX9_image_21 : decode cX9_image 21 = .ok (.iinc 1 1, 3) := by decide +kernel
theorem dX9_image_24 : decode cX9_image 24 = .ok (.goto (-22), 3) := by decide +kernel
theorem dX9_image_27 : decode cX9_image 27 = .ok (.aload_n 0, 1) := by decide +kernel
theorem dX9_image_28 : decode cX9_image 28 = .ok (.iconst 1, 1) := by decide +kernel
theorem dX9_image_29 : decode cX9_image 29 = .ok (.putfield 127, 3) := by decide +kernel
theorem dX9_image_32 : decode cX9_image 32 = .ok (.iconst 1, 1) := by decide +kernel
theorem dX9_image_33 : decode cX9_image 33 = .ok (.ireturn, 1) := by decide +kernel
theorem dX9_restore_0 : decode cX9_restore 0 = .ok (.aload_n 0, 1) := by decide +kernel
theorem dX9_restore_1 : decode cX9_restore 1 = .ok (.getfield 127, 3) := by decide +kernel
theorem dX9_restore_4 : decode cX9_restore 4 = .ok (.ifCond .ne 6, 3) := by decide +kernel
theorem dX9_restore_7 : decode cX9_restore 7 = .ok (.bipush (-4), 2) := by decide +kernel
theorem dX9_restore_9 : decode cX9_restore 9 = .ok (.ireturn, 1) := by decide +kernel
theorem dX9_restore_10 : decode cX9_restore 10 = .ok (.iconst 0, 1) := by decide +kernel
theorem dX9_restore_11 : decode cX9_restore 11 = .ok (.istore_n 1, 1) := by decide +kernel
theorem dX9_restore_12 : decode cX9_restore 12 = .ok (.iload_n 1, 1) := by decide +kernel
theorem dX9_restore_13 : decode cX9_restore 13 = .ok (.sipush 141, 3) := by decide +kernel
theorem dX9_restore_16 : decode cX9_restore 16 = .ok (.if_icmp .ge 21, 3) := by decide +kernel
theorem dX9_restore_19 : decode cX9_restore 19 = .ok (.aload_n 0, 1) := by decide +kernel
theorem dX9_restore_20 : decode cX9_restore 20 = .ok (.getfield 7, 3) := by decide +kernel
theorem dX9_restore_23 : decode cX9_restore 23 = .ok (.iload_n 1, 1) := by decide +kernel
theorem dX9_restore_24 : decode cX9_restore 24 = .ok (.aload_n 0, 1) := by decide +kernel
theorem dX9_restore_25 : decode cX9_restore 25 = .ok (.getfield 13, 3) := by decide +kernel
theorem dX9_restore_28 : decode cX9_restore 28 = .ok (.iload_n 1, 1) := by decide +kernel
theorem dX9_restore_29 : decode cX9_restore 29 = .ok (.iaload, 1) := by decide +kernel
theorem dX9_restore_30 : decode cX9_restore 30 = .ok (.iastore, 1) := by decide +kernel
theorem dX9_restore_31 : decode cX9_restore 31 = .ok (.iinc 1 1, 3) := by decide +kernel
theorem dX9_restore_34 : decode cX9_restore 34 = .ok (.goto (-22), 3) := by decide +kernel
theorem dX9_restore_37 : decode cX9_restore 37 = .ok (.iconst 1, 1) := by decide +kernel
theorem dX9_restore_38 : decode cX9_restore 38 = .ok (.ireturn, 1) := by decide +kernel
theorem dX9_isSheet_0 : decode cX9_isSheet 0 = .ok (.iload_n 0, 1) := by decide +kernel
theorem dX9_isSheet_1 : decode cX9_isSheet 1 = .ok (.i2l, 1) := by decide +kernel
theorem dX9_isSheet_2 : decode cX9_isSheet 2 = .ok (.lconst 0, 1) := by decide +kernel
theorem dX9_isSheet_3 : decode cX9_isSheet 3 = .ok (.ldc2_w 82, 3) := by decide +kernel
theorem dX9_isSheet_6 : decode cX9_isSheet 6 = .ok (.invokestatic 52, 3) := by decide +kernel
theorem dX9_isSheet_9 : decode cX9_isSheet 9 = .ok (.ifCond .eq 19, 3) := by decide +kernel
theorem dX9_isSheet_12 : decode cX9_isSheet 12 = .ok (.iload_n 1, 1) := by decide +kernel
theorem dX9_isSheet_13 : decode cX9_isSheet 13 = .ok (.i2l, 1) := by decide +kernel
theorem dX9_isSheet_14 : decode cX9_isSheet 14 = .ok (.lconst 0, 1) := by decide +kernel
theorem dX9_isSheet_15 : decode cX9_isSheet 15 = .ok (.ldc2_w 131, 3) := by decide +kernel
theorem dX9_isSheet_18 : decode cX9_isSheet 18 = .ok (.invokestatic 52, 3) := by decide +kernel
theorem dX9_isSheet_21 : decode cX9_isSheet 21 = .ok (.ifCond .eq 7, 3) := by decide +kernel
theorem dX9_isSheet_24 : decode cX9_isSheet 24 = .ok (.iconst 1, 1) := by decide +kernel
theorem dX9_isSheet_25 : decode cX9_isSheet 25 = .ok (.goto 4, 3) := by decide +kernel
theorem dX9_isSheet_28 : decode cX9_isSheet 28 = .ok (.iconst 0, 1) := by decide +kernel
theorem dX9_isSheet_29 : decode cX9_isSheet 29 = .ok (.ireturn, 1) := by decide +kernel
theorem dX9_found_0 : decode cX9_found 0 = .ok (.aload_n 0, 1) := by decide +kernel
theorem dX9_found_1 : decode cX9_found 1 = .ok (.getfield 19, 3) := by decide +kernel
theorem dX9_found_4 : decode cX9_found 4 = .ok (.iload_n 1, 1) := by decide +kernel
theorem dX9_found_5 : decode cX9_found 5 = .ok (.iaload, 1) := by decide +kernel
theorem dX9_found_6 : decode cX9_found 6 = .ok (.ifCond .ge 8, 3) := by decide +kernel
theorem dX9_found_9 : decode cX9_found 9 = .ok (.bipush (-11), 2) := by decide +kernel
theorem dX9_found_11 : decode cX9_found 11 = .ok (.goto 45, 3) := by decide +kernel
theorem dX9_found_14 : decode cX9_found 14 = .ok (.aload_n 0, 1) := by decide +kernel
theorem dX9_found_15 : decode cX9_found 15 = .ok (.getfield 22, 3) := by decide +kernel
theorem dX9_found_18 : decode cX9_found 18 = .ok (.iload_n 1, 1) := by decide +kernel
theorem dX9_found_19 : decode cX9_found 19 = .ok (.iaload, 1) := by decide +kernel
theorem dX9_found_20 : decode cX9_found 20 = .ok (.iload_n 2, 1) := by decide +kernel
theorem dX9_found_21 : decode cX9_found 21 = .ok (.if_icmp .eq 8, 3) := by decide +kernel
theorem dX9_found_24 : decode cX9_found 24 = .ok (.bipush (-12), 2) := by decide +kernel
theorem dX9_found_26 : decode cX9_found 26 = .ok (.goto 30, 3) := by decide +kernel
theorem dX9_found_29 : decode cX9_found 29 = .ok (.iload_n 3, 1) := by decide +kernel
theorem dX9_found_30 : decode cX9_found 30 = .ok (.ifCond .lt 20, 3) := by decide +kernel
theorem dX9_found_33 : decode cX9_found 33 = .ok (.iload_n 3, 1) := by decide +kernel
theorem dX9_found_34 : decode cX9_found 34 = .ok (.i2l, 1) := by decide +kernel
theorem dX9_found_35 : decode cX9_found 35 = .ok (.iload 4, 2) := by decide +kernel
theorem dX9_found_37 : decode cX9_found 37 = .ok (.i2l, 1) := by decide +kernel
theorem dX9_found_38 : decode cX9_found 38 = .ok (.ladd, 1) := by decide +kernel
theorem dX9_found_39 : decode cX9_found 39 = .ok (.aload_n 0, 1) := by decide +kernel
theorem dX9_found_40 : decode cX9_found 40 = .ok (.getfield 19, 3) := by decide +kernel
theorem dX9_found_43 : decode cX9_found 43 = .ok (.iload_n 1, 1) := by decide +kernel
theorem dX9_found_44 : decode cX9_found 44 = .ok (.iaload, 1) := by decide +kernel
theorem dX9_found_45 : decode cX9_found 45 = .ok (.i2l, 1) := by decide +kernel
theorem dX9_found_46 : decode cX9_found 46 = .ok (.lcmp, 1) := by decide +kernel
theorem dX9_found_47 : decode cX9_found 47 = .ok (.ifCond .le 8, 3) := by decide +kernel
theorem dX9_found_50 : decode cX9_found 50 = .ok (.bipush (-13), 2) := by decide +kernel
theorem dX9_found_52 : decode cX9_found 52 = .ok (.goto 4, 3) := by decide +kernel
theorem dX9_found_55 : decode cX9_found 55 = .ok (.iconst 0, 1) := by decide +kernel
theorem dX9_found_56 : decode cX9_found 56 = .ok (.ireturn, 1) := by decide +kernel
theorem dX9_barred_0 : decode cX9_barred 0 = .ok (.aload_n 0, 1) := by decide +kernel
theorem dX9_barred_1 : decode cX9_barred 1 = .ok (.iload_n 1, 1) := by decide +kernel
theorem dX9_barred_2 : decode cX9_barred 2 = .ok (.iload_n 2, 1) := by decide +kernel
theorem dX9_barred_3 : decode cX9_barred 3 = .ok (.iload_n 3, 1) := by decide +kernel
theorem dX9_barred_4 : decode cX9_barred 4 = .ok (.iload 4, 2) := by decide +kernel
theorem dX9_barred_6 : decode cX9_barred 6 = .ok (.invokevirtual 133, 3) := by decide +kernel
theorem dX9_barred_9 : decode cX9_barred 9 = .ok (.istore 6, 2) := by decide +kernel
theorem dX9_barred_11 : decode cX9_barred 11 = .ok (.iconst 0, 1) := by decide +kernel
theorem dX9_barred_12 : decode cX9_barred 12 = .ok (.istore 7, 2) := by decide +kernel
theorem dX9_barred_14 : decode cX9_barred 14 = .ok (.iload 7, 2) := by decide +kernel
theorem dX9_barred_16 : decode cX9_barred 16 = .ok (.iload 4, 2) := by decide +kernel
theorem dX9_barred_18 : decode cX9_barred 18 = .ok (.if_icmp .ge 47, 3) := by decide +kernel
theorem dX9_barred_21 : decode cX9_barred 21 = .ok (.iload 6, 2) := by decide +kernel
theorem dX9_barred_23 : decode cX9_barred 23 = .ok (.ifCond .ne 42, 3) := by decide +kernel
theorem dX9_barred_26 : decode cX9_barred 26 = .ok (.aload_n 0, 1) := by decide +kernel
theorem dX9_barred_27 : decode cX9_barred 27 = .ok (.getfield 25, 3) := by decide +kernel
theorem dX9_barred_30 : decode cX9_barred 30 = .ok (.bipush 24, 2) := by decide +kernel
theorem dX9_barred_32 : decode cX9_barred 32 = .ok (.iload_n 1, 1) := by decide +kernel
theorem dX9_barred_33 : decode cX9_barred 33 = .ok (.imul, 1) := by decide +kernel
theorem dX9_barred_34 : decode cX9_barred 34 = .ok (.iload_n 3, 1) := by decide +kernel
theorem dX9_barred_35 : decode cX9_barred 35 = .ok (.iadd, 1) := by decide +kernel
theorem dX9_barred_36 : decode cX9_barred 36 = .ok (.iload 7, 2) := by decide +kernel
theorem dX9_barred_38 : decode cX9_barred 38 = .ok (.iadd, 1) := by decide +kernel
theorem dX9_barred_39 : decode cX9_barred 39 = .ok (.iaload, 1) := by decide +kernel
theorem dX9_barred_40 : decode cX9_barred 40 = .ok (.i2l, 1) := by decide +kernel
theorem dX9_barred_41 : decode cX9_barred 41 = .ok (.lconst 0, 1) := by decide +kernel
theorem dX9_barred_42 : decode cX9_barred 42 = .ok (.iload 5, 2) := by decide +kernel
theorem dX9_barred_44 : decode cX9_barred 44 = .ok (.i2l, 1) := by decide +kernel
theorem dX9_barred_45 : decode cX9_barred 45 = .ok (.invokestatic 52, 3) := by decide +kernel
theorem dX9_barred_48 : decode cX9_barred 48 = .ok (.ifCond .eq 7, 3) := by decide +kernel
theorem dX9_barred_51 : decode cX9_barred 51 = .ok (.iconst 0, 1) := by decide +kernel
theorem dX9_barred_52 : decode cX9_barred 52 = .ok (.goto 5, 3) := by decide +kernel
theorem dX9_barred_55 : decode cX9_barred 55 = .ok (.bipush (-2), 2) := by decide +kernel
theorem dX9_barred_57 : decode cX9_barred 57 = .ok (.istore 6, 2) := by decide +kernel
theorem dX9_barred_59 : decode cX9_barred 59 = .ok (.iinc 7 1, 3) := by decide +kernel
theorem dX9_barred_62 : decode cX9_barred 62 = .ok (.goto (-48), 3) := by decide +kernel
theorem dX9_barred_65 : decode cX9_barred 65 = .ok (.iload 6, 2) := by decide +kernel
theorem dX9_barred_67 : decode cX9_barred 67 = .ok (.ireturn, 1) := by decide +kernel
theorem dX9_measures_0 : decode cX9_measures 0 = .ok (.iconst 0, 1) := by decide +kernel
theorem dX9_measures_1 : decode cX9_measures 1 = .ok (.istore_n 2, 1) := by decide +kernel
theorem dX9_measures_2 : decode cX9_measures 2 = .ok (.iload_n 2, 1) := by decide +kernel
theorem dX9_measures_3 : decode cX9_measures 3 = .ok (.sipush 128, 3) := by decide +kernel
theorem dX9_measures_6 : decode cX9_measures 6 = .ok (.if_icmp .ge 16, 3) := by decide +kernel
theorem dX9_measures_9 : decode cX9_measures 9 = .ok (.aload_n 0, 1) := by decide +kernel
theorem dX9_measures_10 : decode cX9_measures 10 = .ok (.getfield 37, 3) := by decide +kernel
theorem dX9_measures_13 : decode cX9_measures 13 = .ok (.iload_n 2, 1) := by decide +kernel
theorem dX9_measures_14 : decode cX9_measures 14 = .ok (.iconst 0, 1) := by decide +kernel
theorem dX9_measures_15 : decode cX9_measures 15 = .ok (.iastore, 1) := by decide +kernel
theorem dX9_measures_16 : decode cX9_measures 16 = .ok (.iinc 2 1, 3) := by decide +kernel
theorem dX9_measures_19 : decode cX9_measures 19 = .ok (.goto (-17), 3) := by decide +kernel
theorem dX9_measures_22 : decode cX9_measures 22 = .ok (.iconst 0, 1) := by decide +kernel
theorem dX9_measures_23 : decode cX9_measures 23 = .ok (.istore_n 2, 1) := by decide +kernel
theorem dX9_measures_24 : decode cX9_measures 24 = .ok (.iload_n 2, 1) := by decide +kernel
theorem dX9_measures_25 : decode cX9_measures 25 = .ok (.aload_n 0, 1) := by decide +kernel
theorem dX9_measures_26 : decode cX9_measures 26 = .ok (.getfield 7, 3) := by decide +kernel
theorem dX9_measures_29 : decode cX9_measures 29 = .ok (.iconst 0, 1) := by decide +kernel
theorem dX9_measures_30 : decode cX9_measures 30 = .ok (.iaload, 1) := by decide +kernel
theorem dX9_measures_31 : decode cX9_measures 31 = .ok (.if_icmp .ge 118, 3) := by decide +kernel
theorem dX9_measures_34 : decode cX9_measures 34 = .ok (.aload_n 0, 1) := by decide +kernel
theorem dX9_measures_35 : decode cX9_measures 35 = .ok (.iload_n 1, 1) := by decide +kernel
theorem dX9_measures_36 : decode cX9_measures 36 = .ok (.iload_n 2, 1) := by decide +kernel
theorem dX9_measures_37 : decode cX9_measures 37 = .ok (.aload_n 0, 1) := by decide +kernel
theorem dX9_measures_38 : decode cX9_measures 38 = .ok (.getfield 7, 3) := by decide +kernel
theorem dX9_measures_41 : decode cX9_measures 41 = .ok (.iconst 3, 1) := by decide +kernel
theorem dX9_measures_42 : decode cX9_measures 42 = .ok (.iaload, 1) := by decide +kernel
theorem dX9_measures_43 : decode cX9_measures 43 = .ok (.iconst 1, 1) := by decide +kernel
theorem dX9_measures_44 : decode cX9_measures 44 = .ok (.iadd, 1) := by decide +kernel
theorem dX9_measures_45 : decode cX9_measures 45 = .ok (.invokevirtual 105, 3) := by decide +kernel
theorem dX9_measures_48 : decode cX9_measures 48 = .ok (.istore_n 3, 1) := by decide +kernel
theorem dX9_measures_49 : decode cX9_measures 49 = .ok (.iconst 0, 1) := by decide +kernel
theorem dX9_measures_50 : decode cX9_measures 50 = .ok (.istore 4, 2) := by decide +kernel
theorem dX9_measures_52 : decode cX9_measures 52 = .ok (.iload 4, 2) := by decide +kernel
theorem dX9_measures_54 : decode cX9_measures 54 = .ok (.aload_n 0, 1) := by decide +kernel
theorem dX9_measures_55 : decode cX9_measures 55 = .ok (.getfield 7, 3) := by decide +kernel
theorem dX9_measures_58 : decode cX9_measures 58 = .ok (.iconst 1, 1) := by decide +kernel
theorem dX9_measures_59 : decode cX9_measures 59 = .ok (.iaload, 1) := by decide +kernel
theorem dX9_measures_60 : decode cX9_measures 60 = .ok (.if_icmp .ge 83, 3) := by decide +kernel
theorem dX9_measures_63 : decode cX9_measures 63 = .ok (.iconst 0, 1) := by decide +kernel
theorem dX9_measures_64 : decode cX9_measures 64 = .ok (.istore 5, 2) := by decide +kernel
theorem dX9_measures_66 : decode cX9_measures 66 = .ok (.iload 5, 2) := by decide +kernel
theorem dX9_measures_68 : decode cX9_measures 68 = .ok (.aload_n 0, 1) := by decide +kernel
theorem dX9_measures_69 : decode cX9_measures 69 = .ok (.getfield 7, 3) := by decide +kernel
theorem dX9_measures_72 : decode cX9_measures 72 = .ok (.bipush 81, 2) := by decide +kernel
theorem dX9_measures_74 : decode cX9_measures 74 = .ok (.iload_n 2, 1) := by decide +kernel
theorem dX9_measures_75 : decode cX9_measures 75 = .ok (.iadd, 1) := by decide +kernel
theorem dX9_measures_76 : decode cX9_measures 76 = .ok (.iaload, 1) := by decide +kernel
theorem dX9_measures_77 : decode cX9_measures 77 = .ok (.if_icmp .ge 60, 3) := by decide +kernel
theorem dX9_measures_80 : decode cX9_measures 80 = .ok (.aload_n 0, 1) := by decide +kernel
theorem dX9_measures_81 : decode cX9_measures 81 = .ok (.iload 4, 2) := by decide +kernel
theorem dX9_measures_83 : decode cX9_measures 83 = .ok (.iload_n 2, 1) := by decide +kernel
theorem dX9_measures_84 : decode cX9_measures 84 = .ok (.iload 5, 2) := by decide +kernel
theorem dX9_measures_86 : decode cX9_measures 86 = .ok (.invokevirtual 93, 3) := by decide +kernel
theorem dX9_measures_89 : decode cX9_measures 89 = .ok (.invokestatic 111, 3) := by decide +kernel
theorem dX9_measures_92 : decode cX9_measures 92 = .ok (.istore 6, 2) := by decide +kernel
theorem dX9_measures_94 : decode cX9_measures 94 = .ok (.aload_n 0, 1) := by decide +kernel
theorem dX9_measures_95 : decode cX9_measures 95 = .ok (.getfield 37, 3) := by decide +kernel
theorem dX9_measures_98 : decode cX9_measures 98 = .ok (.bipush 16, 2) := by decide +kernel
theorem dX9_measures_100 : decode cX9_measures 100 = .ok (.iload_n 2, 1) := by decide +kernel
theorem dX9_measures_101 : decode cX9_measures 101 = .ok (.imul, 1) := by decide +kernel
theorem dX9_measures_102 : decode cX9_measures 102 = .ok (.iconst 4, 1) := by decide +kernel
theorem dX9_measures_103 : decode cX9_measures 103 = .ok (.iload 4, 2) := by decide +kernel
theorem dX9_measures_105 : decode cX9_measures 105 = .ok (.imul, 1) := by decide +kernel
theorem dX9_measures_106 : decode cX9_measures 106 = .ok (.iadd, 1) := by decide +kernel
theorem dX9_measures_107 : decode cX9_measures 107 = .ok (.iload_n 3, 1) := by decide +kernel
theorem dX9_measures_108 : decode cX9_measures 108 = .ok (.ifCond .eq 15, 3) := by decide +kernel
theorem dX9_measures_111 : decode cX9_measures 111 = .ok (.iload 6, 2) := by decide +kernel
theorem dX9_measures_113 : decode cX9_measures 113 = .ok (.ifCond .le 10, 3) := by decide +kernel
theorem dX9_measures_116 : decode cX9_measures 116 = .ok (.iload 6, 2) := by decide +kernel
theorem dX9_measures_118 : decode cX9_measures 118 = .ok (.iconst 1, 1) := by decide +kernel
theorem dX9_measures_119 : decode cX9_measures 119 = .ok (.isub, 1) := by decide +kernel
theorem dX9_measures_120 : decode cX9_measures 120 = .ok (.goto 5, 3) := by decide +kernel
theorem dX9_measures_123 : decode cX9_measures 123 = .ok (.iload 6, 2) := by decide +kernel
theorem dX9_measures_125 : decode cX9_measures 125 = .ok (.iadd, 1) := by decide +kernel
theorem dX9_measures_126 : decode cX9_measures 126 = .ok (.dup2, 1) := by decide +kernel
theorem dX9_measures_127 : decode cX9_measures 127 = .ok (.iaload, 1) := by decide +kernel
theorem dX9_measures_128 : decode cX9_measures 128 = .ok (.iconst 1, 1) := by decide +kernel
theorem dX9_measures_129 : decode cX9_measures 129 = .ok (.iadd, 1) := by decide +kernel
theorem dX9_measures_130 : decode cX9_measures 130 = .ok (.iastore, 1) := by decide +kernel
theorem dX9_measures_131 : decode cX9_measures 131 = .ok (.iinc 5 1, 3) := by decide +kernel
theorem dX9_measures_134 : decode cX9_measures 134 = .ok (.goto (-68), 3) := by decide +kernel
theorem dX9_measures_137 : decode cX9_measures 137 = .ok (.iinc 4 1, 3) := by decide +kernel
theorem dX9_measures_140 : decode cX9_measures 140 = .ok (.goto (-88), 3) := by decide +kernel
theorem dX9_measures_143 : decode cX9_measures 143 = .ok (.iinc 2 1, 3) := by decide +kernel
theorem dX9_measures_146 : decode cX9_measures 146 = .ok (.goto (-122), 3) := by decide +kernel
theorem dX9_measures_149 : decode cX9_measures 149 = .ok (.return_, 1) := by decide +kernel
theorem dX9_isCoat_0 : decode cX9_isCoat 0 = .ok (.iconst 0, 1) := by decide +kernel
theorem dX9_isCoat_1 : decode cX9_isCoat 1 = .ok (.istore_n 3, 1) := by decide +kernel
theorem dX9_isCoat_2 : decode cX9_isCoat 2 = .ok (.iload_n 3, 1) := by decide +kernel
theorem dX9_isCoat_3 : decode cX9_isCoat 3 = .ok (.iconst 4, 1) := by decide +kernel
theorem dX9_isCoat_4 : decode cX9_isCoat 4 = .ok (.if_icmp .ge 92, 3) := by decide +kernel
theorem dX9_isCoat_7 : decode cX9_isCoat 7 = .ok (.aload_n 0, 1) := by decide +kernel
theorem dX9_isCoat_8 : decode cX9_isCoat 8 = .ok (.getfield 40, 3) := by decide +kernel
theorem dX9_isCoat_11 : decode cX9_isCoat 11 = .ok (.iload_n 3, 1) := by decide +kernel
theorem dX9_isCoat_12 : decode cX9_isCoat 12 = .ok (.iconst 0, 1) := by decide +kernel
theorem dX9_isCoat_13 : decode cX9_isCoat 13 = .ok (.iastore, 1) := by decide +kernel
theorem dX9_isCoat_14 : decode cX9_isCoat 14 = .ok (.iconst 0, 1) := by decide +kernel
theorem dX9_isCoat_15 : decode cX9_isCoat 15 = .ok (.istore 4, 2) := by decide +kernel
theorem dX9_isCoat_17 : decode cX9_isCoat 17 = .ok (.iload 4, 2) := by decide +kernel
theorem dX9_isCoat_19 : decode cX9_isCoat 19 = .ok (.iload_n 1, 1) := by decide +kernel
theorem dX9_isCoat_20 : decode cX9_isCoat 20 = .ok (.if_icmp .ge 51, 3) := by decide +kernel
theorem dX9_isCoat_23 : decode cX9_isCoat 23 = .ok (.aload_n 0, 1) := by decide +kernel
theorem dX9_isCoat_24 : decode cX9_isCoat 24 = .ok (.getfield 40, 3) := by decide +kernel
theorem dX9_isCoat_27 : decode cX9_isCoat 27 = .ok (.iload_n 3, 1) := by decide +kernel
theorem dX9_isCoat_28 : decode cX9_isCoat 28 = .ok (.dup2, 1) := by decide +kernel
theorem dX9_isCoat_29 : decode cX9_isCoat 29 = .ok (.iaload, 1) := by decide +kernel
theorem dX9_isCoat_30 : decode cX9_isCoat 30 = .ok (.aload_n 0, 1) := by decide +kernel
theorem dX9_isCoat_31 : decode cX9_isCoat 31 = .ok (.getfield 37, 3) := by decide +kernel
theorem dX9_isCoat_34 : decode cX9_isCoat 34 = .ok (.bipush 16, 2) := by decide +kernel
theorem dX9_isCoat_36 : decode cX9_isCoat 36 = .ok (.aload_n 0, 1) := by decide +kernel
theorem dX9_isCoat_37 : decode cX9_isCoat 37 = .ok (.getfield 28, 3) := by decide +kernel
theorem dX9_isCoat_40 : decode cX9_isCoat 40 = .ok (.iload 4, 2) := by decide +kernel
theorem dX9_isCoat_42 : decode cX9_isCoat 42 = .ok (.iaload, 1) := by decide +kernel
theorem dX9_isCoat_43 : decode cX9_isCoat 43 = .ok (.bipush 10, 2) := by decide +kernel
theorem dX9_isCoat_45 : decode cX9_isCoat 45 = .ok (.idiv, 1) := by decide +kernel
theorem dX9_isCoat_46 : decode cX9_isCoat 46 = .ok (.imul, 1) := by decide +kernel
theorem dX9_isCoat_47 : decode cX9_isCoat 47 = .ok (.iconst 4, 1) := by decide +kernel
theorem dX9_isCoat_48 : decode cX9_isCoat 48 = .ok (.aload_n 0, 1) := by decide +kernel
theorem dX9_isCoat_49 : decode cX9_isCoat 49 = .ok (.getfield 28, 3) := by decide +kernel
theorem dX9_isCoat_52 : decode cX9_isCoat 52 = .ok (.iload 4, 2) := by decide +kernel
theorem dX9_isCoat_54 : decode cX9_isCoat 54 = .ok (.iaload, 1) := by decide +kernel
theorem dX9_isCoat_55 : decode cX9_isCoat 55 = .ok (.bipush 10, 2) := by decide +kernel
theorem dX9_isCoat_57 : decode cX9_isCoat 57 = .ok (.irem, 1) := by decide +kernel
theorem dX9_isCoat_58 : decode cX9_isCoat 58 = .ok (.imul, 1) := by decide +kernel
theorem dX9_isCoat_59 : decode cX9_isCoat 59 = .ok (.iadd, 1) := by decide +kernel
theorem dX9_isCoat_60 : decode cX9_isCoat 60 = .ok (.iload_n 3, 1) := by decide +kernel
theorem dX9_isCoat_61 : decode cX9_isCoat 61 = .ok (.iadd, 1) := by decide +kernel
theorem dX9_isCoat_62 : decode cX9_isCoat 62 = .ok (.iaload, 1) := by decide +kernel
theorem dX9_isCoat_63 : decode cX9_isCoat 63 = .ok (.iadd, 1) := by decide +kernel
theorem dX9_isCoat_64 : decode cX9_isCoat 64 = .ok (.iastore, 1) := by decide +kernel
theorem dX9_isCoat_65 : decode cX9_isCoat 65 = .ok (.iinc 4 1, 3) := by decide +kernel
theorem dX9_isCoat_68 : decode cX9_isCoat 68 = .ok (.goto (-51), 3) := by decide +kernel
theorem dX9_isCoat_71 : decode cX9_isCoat 71 = .ok (.aload_n 0, 1) := by decide +kernel
theorem dX9_isCoat_72 : decode cX9_isCoat 72 = .ok (.getfield 40, 3) := by decide +kernel
theorem dX9_isCoat_75 : decode cX9_isCoat 75 = .ok (.iload_n 3, 1) := by decide +kernel
theorem dX9_isCoat_76 : decode cX9_isCoat 76 = .ok (.iaload, 1) := by decide +kernel
theorem dX9_isCoat_77 : decode cX9_isCoat 77 = .ok (.aload_n 0, 1) := by decide +kernel
theorem dX9_isCoat_78 : decode cX9_isCoat 78 = .ok (.getfield 25, 3) := by decide +kernel
theorem dX9_isCoat_81 : decode cX9_isCoat 81 = .ok (.iload_n 2, 1) := by decide +kernel
theorem dX9_isCoat_82 : decode cX9_isCoat 82 = .ok (.iload_n 3, 1) := by decide +kernel
theorem dX9_isCoat_83 : decode cX9_isCoat 83 = .ok (.iadd, 1) := by decide +kernel
theorem dX9_isCoat_84 : decode cX9_isCoat 84 = .ok (.iaload, 1) := by decide +kernel
theorem dX9_isCoat_85 : decode cX9_isCoat 85 = .ok (.if_icmp .ge 5, 3) := by decide +kernel
theorem dX9_isCoat_88 : decode cX9_isCoat 88 = .ok (.iconst 0, 1) := by decide +kernel
theorem dX9_isCoat_89 : decode cX9_isCoat 89 = .ok (.ireturn, 1) := by decide +kernel
theorem dX9_isCoat_90 : decode cX9_isCoat 90 = .ok (.iinc 3 1, 3) := by decide +kernel
theorem dX9_isCoat_93 : decode cX9_isCoat 93 = .ok (.goto (-91), 3) := by decide +kernel
theorem dX9_isCoat_96 : decode cX9_isCoat 96 = .ok (.iconst 1, 1) := by decide +kernel
theorem dX9_isCoat_97 : decode cX9_isCoat 97 = .ok (.ireturn, 1) := by decide +kernel
theorem dX9_after_0 : decode cX9_after 0 = .ok (.iload_n 1, 1) := by decide +kernel
theorem dX9_after_1 : decode cX9_after 1 = .ok (.ifCond .ge 7, 3) := by decide +kernel
theorem dX9_after_4 : decode cX9_after 4 = .ok (.iconst 0, 1) := by decide +kernel
theorem dX9_after_5 : decode cX9_after 5 = .ok (.goto 9, 3) := by decide +kernel
theorem dX9_after_8 : decode cX9_after 8 = .ok (.iload_n 1, 1) := by decide +kernel
theorem dX9_after_9 : decode cX9_after 9 = .ok (.bipush 10, 2) := by decide +kernel
theorem dX9_after_11 : decode cX9_after 11 = .ok (.irem, 1) := by decide +kernel
theorem dX9_after_12 : decode cX9_after 12 = .ok (.iconst 1, 1) := by decide +kernel
theorem dX9_after_13 : decode cX9_after 13 = .ok (.iadd, 1) := by decide +kernel
theorem dX9_after_14 : decode cX9_after 14 = .ok (.istore_n 2, 1) := by decide +kernel
theorem dX9_after_15 : decode cX9_after 15 = .ok (.iload_n 1, 1) := by decide +kernel
theorem dX9_after_16 : decode cX9_after 16 = .ok (.ifCond .ge 7, 3) := by decide +kernel
theorem dX9_after_19 : decode cX9_after 19 = .ok (.iconst 0, 1) := by decide +kernel
theorem dX9_after_20 : decode cX9_after 20 = .ok (.goto 7, 3) := by decide +kernel
theorem dX9_after_23 : decode cX9_after 23 = .ok (.iload_n 1, 1) := by decide +kernel
theorem dX9_after_24 : decode cX9_after 24 = .ok (.bipush 10, 2) := by decide +kernel
theorem dX9_after_26 : decode cX9_after 26 = .ok (.idiv, 1) := by decide +kernel
theorem dX9_after_27 : decode cX9_after 27 = .ok (.istore_n 3, 1) := by decide +kernel
theorem dX9_after_28 : decode cX9_after 28 = .ok (.iload_n 2, 1) := by decide +kernel
theorem dX9_after_29 : decode cX9_after 29 = .ok (.aload_n 0, 1) := by decide +kernel
theorem dX9_after_30 : decode cX9_after 30 = .ok (.getfield 7, 3) := by decide +kernel
theorem dX9_after_33 : decode cX9_after 33 = .ok (.iconst 1, 1) := by decide +kernel
theorem dX9_after_34 : decode cX9_after 34 = .ok (.iaload, 1) := by decide +kernel
theorem dX9_after_35 : decode cX9_after 35 = .ok (.if_icmp .ge 27, 3) := by decide +kernel
theorem dX9_after_38 : decode cX9_after 38 = .ok (.iload_n 3, 1) := by decide +kernel
theorem dX9_after_39 : decode cX9_after 39 = .ok (.aload_n 0, 1) := by decide +kernel
theorem dX9_after_40 : decode cX9_after 40 = .ok (.getfield 7, 3) := by decide +kernel
theorem dX9_after_43 : decode cX9_after 43 = .ok (.iconst 0, 1) := by decide +kernel
theorem dX9_after_44 : decode cX9_after 44 = .ok (.iaload, 1) := by decide +kernel
theorem dX9_after_45 : decode cX9_after 45 = .ok (.if_icmp .ge 12, 3) := by decide +kernel
theorem dX9_after_48 : decode cX9_after 48 = .ok (.bipush 10, 2) := by decide +kernel
theorem dX9_after_50 : decode cX9_after 50 = .ok (.iload_n 3, 1) := by decide +kernel
theorem dX9_after_51 : decode cX9_after 51 = .ok (.imul, 1) := by decide +kernel
theorem dX9_after_52 : decode cX9_after 52 = .ok (.iload_n 2, 1) := by decide +kernel
theorem dX9_after_53 : decode cX9_after 53 = .ok (.iadd, 1) := by decide +kernel
theorem dX9_after_54 : decode cX9_after 54 = .ok (.goto 40, 3) := by decide +kernel
theorem dX9_after_57 : decode cX9_after 57 = .ok (.bipush (-4), 2) := by decide +kernel
theorem dX9_after_59 : decode cX9_after 59 = .ok (.goto 35, 3) := by decide +kernel
theorem dX9_after_62 : decode cX9_after 62 = .ok (.iload_n 3, 1) := by decide +kernel
theorem dX9_after_63 : decode cX9_after 63 = .ok (.iconst 1, 1) := by decide +kernel
theorem dX9_after_64 : decode cX9_after 64 = .ok (.iadd, 1) := by decide +kernel
theorem dX9_after_65 : decode cX9_after 65 = .ok (.aload_n 0, 1) := by decide +kernel
theorem dX9_after_66 : decode cX9_after 66 = .ok (.getfield 7, 3) := by decide +kernel
theorem dX9_after_69 : decode cX9_after 69 = .ok (.iconst 0, 1) := by decide +kernel
theorem dX9_after_70 : decode cX9_after 70 = .ok (.iaload, 1) := by decide +kernel
theorem dX9_after_71 : decode cX9_after 71 = .ok (.if_icmp .ge 21, 3) := by decide +kernel
theorem dX9_after_74 : decode cX9_after 74 = .ok (.aload_n 0, 1) := by decide +kernel
theorem dX9_after_75 : decode cX9_after 75 = .ok (.getfield 7, 3) := by decide +kernel
theorem dX9_after_78 : decode cX9_after 78 = .ok (.iconst 1, 1) := by decide +kernel
theorem dX9_after_79 : decode cX9_after 79 = .ok (.iaload, 1) := by decide +kernel
theorem dX9_after_80 : decode cX9_after 80 = .ok (.ifCond .le 12, 3) := by decide +kernel
theorem dX9_after_83 : decode cX9_after 83 = .ok (.bipush 10, 2) := by decide +kernel
theorem dX9_after_85 : decode cX9_after 85 = .ok (.iload_n 3, 1) := by decide +kernel
theorem dX9_after_86 : decode cX9_after 86 = .ok (.iconst 1, 1) := by decide +kernel
theorem dX9_after_87 : decode cX9_after 87 = .ok (.iadd, 1) := by decide +kernel
theorem dX9_after_88 : decode cX9_after 88 = .ok (.imul, 1) := by decide +kernel
theorem dX9_after_89 : decode cX9_after 89 = .ok (.goto 5, 3) := by decide +kernel
theorem dX9_after_92 : decode cX9_after 92 = .ok (.bipush (-4), 2) := by decide +kernel
theorem dX9_after_94 : decode cX9_after 94 = .ok (.ireturn, 1) := by decide +kernel
theorem dX9_finds_0 : decode cX9_finds 0 = .ok (.iconst 0, 1) := by decide +kernel
theorem dX9_finds_1 : decode cX9_finds 1 = .ok (.istore_n 3, 1) := by decide +kernel
theorem dX9_finds_2 : decode cX9_finds 2 = .ok (.aload_n 0, 1) := by decide +kernel
theorem dX9_finds_3 : decode cX9_finds 3 = .ok (.getfield 28, 3) := by decide +kernel
theorem dX9_finds_6 : decode cX9_finds 6 = .ok (.iconst 0, 1) := by decide +kernel
theorem dX9_finds_7 : decode cX9_finds 7 = .ok (.iconst (-1), 1) := by decide +kernel
theorem dX9_finds_8 : decode cX9_finds 8 = .ok (.iastore, 1) := by decide +kernel
theorem dX9_finds_9 : decode cX9_finds 9 = .ok (.iload_n 1, 1) := by decide +kernel
theorem dX9_finds_10 : decode cX9_finds 10 = .ok (.ifCond .ne 10, 3) := by decide +kernel
theorem dX9_finds_13 : decode cX9_finds 13 = .ok (.aload_n 0, 1) := by decide +kernel
theorem dX9_finds_14 : decode cX9_finds 14 = .ok (.iconst 0, 1) := by decide +kernel
theorem dX9_finds_15 : decode cX9_finds 15 = .ok (.iload_n 2, 1) := by decide +kernel
theorem dX9_finds_16 : decode cX9_finds 16 = .ok (.invokevirtual 137, 3) := by decide +kernel
theorem dX9_finds_19 : decode cX9_finds 19 = .ok (.ireturn, 1) := by decide +kernel
theorem dX9_finds_20 : decode cX9_finds 20 = .ok (.iload_n 3, 1) := by decide +kernel
theorem dX9_finds_21 : decode cX9_finds 21 = .ok (.ifCond .lt 83, 3) := by decide +kernel
theorem dX9_finds_24 : decode cX9_finds 24 = .ok (.aload_n 0, 1) := by decide +kernel
theorem dX9_finds_25 : decode cX9_finds 25 = .ok (.getfield 28, 3) := by decide +kernel
theorem dX9_finds_28 : decode cX9_finds 28 = .ok (.iload_n 3, 1) := by decide +kernel
theorem dX9_finds_29 : decode cX9_finds 29 = .ok (.aload_n 0, 1) := by decide +kernel
theorem dX9_finds_30 : decode cX9_finds 30 = .ok (.aload_n 0, 1) := by decide +kernel
theorem dX9_finds_31 : decode cX9_finds 31 = .ok (.getfield 28, 3) := by decide +kernel
theorem dX9_finds_34 : decode cX9_finds 34 = .ok (.iload_n 3, 1) := by decide +kernel
theorem dX9_finds_35 : decode cX9_finds 35 = .ok (.iaload, 1) := by decide +kernel
theorem dX9_finds_36 : decode cX9_finds 36 = .ok (.invokevirtual 140, 3) := by decide +kernel
theorem dX9_finds_39 : decode cX9_finds 39 = .ok (.iastore, 1) := by decide +kernel
theorem dX9_finds_40 : decode cX9_finds 40 = .ok (.aload_n 0, 1) := by decide +kernel
theorem dX9_finds_41 : decode cX9_finds 41 = .ok (.getfield 28, 3) := by decide +kernel
theorem dX9_finds_44 : decode cX9_finds 44 = .ok (.iload_n 3, 1) := by decide +kernel
theorem dX9_finds_45 : decode cX9_finds 45 = .ok (.iaload, 1) := by decide +kernel
theorem dX9_finds_46 : decode cX9_finds 46 = .ok (.bipush (-4), 2) := by decide +kernel
theorem dX9_finds_48 : decode cX9_finds 48 = .ok (.if_icmp .ne 9, 3) := by decide +kernel
theorem dX9_finds_51 : decode cX9_finds 51 = .ok (.iinc 3 (-1), 3) := by decide +kernel
theorem dX9_finds_54 : decode cX9_finds 54 = .ok (.goto (-34), 3) := by decide +kernel
theorem dX9_finds_57 : decode cX9_finds 57 = .ok (.iload_n 3, 1) := by decide +kernel
theorem dX9_finds_58 : decode cX9_finds 58 = .ok (.iload_n 1, 1) := by decide +kernel
theorem dX9_finds_59 : decode cX9_finds 59 = .ok (.iconst 1, 1) := by decide +kernel
theorem dX9_finds_60 : decode cX9_finds 60 = .ok (.isub, 1) := by decide +kernel
theorem dX9_finds_61 : decode cX9_finds 61 = .ok (.if_icmp .ne 14, 3) := by decide +kernel
theorem dX9_finds_64 : decode cX9_finds 64 = .ok (.aload_n 0, 1) := by decide +kernel
theorem dX9_finds_65 : decode cX9_finds 65 = .ok (.iload_n 1, 1) := by decide +kernel
theorem dX9_finds_66 : decode cX9_finds 66 = .ok (.iload_n 2, 1) := by decide +kernel
theorem dX9_finds_67 : decode cX9_finds 67 = .ok (.invokevirtual 137, 3) := by decide +kernel
theorem dX9_finds_70 : decode cX9_finds 70 = .ok (.ifCond .eq (-50), 3) := by decide +kernel
theorem dX9_finds_73 : decode cX9_finds 73 = .ok (.iconst 1, 1) := by decide +kernel
theorem dX9_finds_74 : decode cX9_finds 74 = .ok (.ireturn, 1) := by decide +kernel
theorem dX9_finds_75 : decode cX9_finds 75 = .ok (.iinc 3 1, 3) := by decide +kernel
theorem dX9_finds_78 : decode cX9_finds 78 = .ok (.aload_n 0, 1) := by decide +kernel
theorem dX9_finds_79 : decode cX9_finds 79 = .ok (.getfield 28, 3) := by decide +kernel
theorem dX9_finds_82 : decode cX9_finds 82 = .ok (.iload_n 3, 1) := by decide +kernel
theorem dX9_finds_83 : decode cX9_finds 83 = .ok (.bipush 10, 2) := by decide +kernel
theorem dX9_finds_85 : decode cX9_finds 85 = .ok (.aload_n 0, 1) := by decide +kernel
theorem dX9_finds_86 : decode cX9_finds 86 = .ok (.getfield 28, 3) := by decide +kernel
theorem dX9_finds_89 : decode cX9_finds 89 = .ok (.iload_n 3, 1) := by decide +kernel
theorem dX9_finds_90 : decode cX9_finds 90 = .ok (.iconst 1, 1) := by decide +kernel
theorem dX9_finds_91 : decode cX9_finds 91 = .ok (.isub, 1) := by decide +kernel
theorem dX9_finds_92 : decode cX9_finds 92 = .ok (.iaload, 1) := by decide +kernel
theorem dX9_finds_93 : decode cX9_finds 93 = .ok (.bipush 10, 2) := by decide +kernel
theorem dX9_finds_95 : decode cX9_finds 95 = .ok (.idiv, 1) := by decide +kernel
theorem dX9_finds_96 : decode cX9_finds 96 = .ok (.imul, 1) := by decide +kernel
theorem dX9_finds_97 : decode cX9_finds 97 = .ok (.bipush 9, 2) := by decide +kernel
theorem dX9_finds_99 : decode cX9_finds 99 = .ok (.iadd, 1) := by decide +kernel
theorem dX9_finds_100 : decode cX9_finds 100 = .ok (.iastore, 1) := by decide +kernel
theorem dX9_finds_101 : decode cX9_finds 101 = .ok (.goto (-81), 3) := by decide +kernel
theorem dX9_finds_104 : decode cX9_finds 104 = .ok (.iconst 0, 1) := by decide +kernel
theorem dX9_finds_105 : decode cX9_finds 105 = .ok (.ireturn, 1) := by decide +kernel
theorem dX9_coat_0 : decode cX9_coat 0 = .ok (.aload_n 0, 1) := by decide +kernel
theorem dX9_coat_1 : decode cX9_coat 1 = .ok (.iload_n 1, 1) := by decide +kernel
theorem dX9_coat_2 : decode cX9_coat 2 = .ok (.invokevirtual 97, 3) := by decide +kernel
theorem dX9_coat_5 : decode cX9_coat 5 = .ok (.ifCond .eq 26, 3) := by decide +kernel
theorem dX9_coat_8 : decode cX9_coat 8 = .ok (.iload_n 2, 1) := by decide +kernel
theorem dX9_coat_9 : decode cX9_coat 9 = .ok (.iload_n 3, 1) := by decide +kernel
theorem dX9_coat_10 : decode cX9_coat 10 = .ok (.invokestatic 143, 3) := by decide +kernel
theorem dX9_coat_13 : decode cX9_coat 13 = .ok (.ifCond .eq 18, 3) := by decide +kernel
theorem dX9_coat_16 : decode cX9_coat 16 = .ok (.iload 5, 2) := by decide +kernel
theorem dX9_coat_18 : decode cX9_coat 18 = .ok (.i2l, 1) := by decide +kernel
theorem dX9_coat_19 : decode cX9_coat 19 = .ok (.ldc2_w 117, 3) := by decide +kernel
theorem dX9_coat_22 : decode cX9_coat 22 = .ok (.ldc2_w 146, 3) := by decide +kernel
theorem dX9_coat_25 : decode cX9_coat 25 = .ok (.invokestatic 52, 3) := by decide +kernel
theorem dX9_coat_28 : decode cX9_coat 28 = .ok (.ifCond .ne 5, 3) := by decide +kernel
theorem dX9_coat_31 : decode cX9_coat 31 = .ok (.iconst (-1), 1) := by decide +kernel
theorem dX9_coat_32 : decode cX9_coat 32 = .ok (.ireturn, 1) := by decide +kernel
theorem dX9_coat_33 : decode cX9_coat 33 = .ok (.aload_n 0, 1) := by decide +kernel
theorem dX9_coat_34 : decode cX9_coat 34 = .ok (.iload_n 2, 1) := by decide +kernel
theorem dX9_coat_35 : decode cX9_coat 35 = .ok (.iload_n 3, 1) := by decide +kernel
theorem dX9_coat_36 : decode cX9_coat 36 = .ok (.iload 4, 2) := by decide +kernel
theorem dX9_coat_38 : decode cX9_coat 38 = .ok (.iconst 4, 1) := by decide +kernel
theorem dX9_coat_39 : decode cX9_coat 39 = .ok (.bipush 99, 2) := by decide +kernel
theorem dX9_coat_41 : decode cX9_coat 41 = .ok (.invokevirtual 148, 3) := by decide +kernel
theorem dX9_coat_44 : decode cX9_coat 44 = .ok (.istore 6, 2) := by decide +kernel
theorem dX9_coat_46 : decode cX9_coat 46 = .ok (.iload 6, 2) := by decide +kernel
theorem dX9_coat_48 : decode cX9_coat 48 = .ok (.ifCond .ge 6, 3) := by decide +kernel
theorem dX9_coat_51 : decode cX9_coat 51 = .ok (.iload 6, 2) := by decide +kernel
theorem dX9_coat_53 : decode cX9_coat 53 = .ok (.ireturn, 1) := by decide +kernel
theorem dX9_coat_54 : decode cX9_coat 54 = .ok (.aload_n 0, 1) := by decide +kernel
theorem dX9_coat_55 : decode cX9_coat 55 = .ok (.iload_n 1, 1) := by decide +kernel
theorem dX9_coat_56 : decode cX9_coat 56 = .ok (.invokevirtual 151, 3) := by decide +kernel
theorem dX9_coat_59 : decode cX9_coat 59 = .ok (.iconst 0, 1) := by decide +kernel
theorem dX9_coat_60 : decode cX9_coat 60 = .ok (.istore 7, 2) := by decide +kernel
theorem dX9_coat_62 : decode cX9_coat 62 = .ok (.iload 7, 2) := by decide +kernel
theorem dX9_coat_64 : decode cX9_coat 64 = .ok (.aload_n 0, 1) := by decide +kernel
theorem dX9_coat_65 : decode cX9_coat 65 = .ok (.getfield 7, 3) := by decide +kernel
theorem dX9_coat_68 : decode cX9_coat 68 = .ok (.iconst 0, 1) := by decide +kernel
theorem dX9_coat_69 : decode cX9_coat 69 = .ok (.iaload, 1) := by decide +kernel
theorem dX9_coat_70 : decode cX9_coat 70 = .ok (.if_icmp .gt 55, 3) := by decide +kernel
theorem dX9_coat_73 : decode cX9_coat 73 = .ok (.aload_n 0, 1) := by decide +kernel
theorem dX9_coat_74 : decode cX9_coat 74 = .ok (.iload 7, 2) := by decide +kernel
theorem dX9_coat_76 : decode cX9_coat 76 = .ok (.bipush 24, 2) := by decide +kernel
theorem dX9_coat_78 : decode cX9_coat 78 = .ok (.iload_n 2, 1) := by decide +kernel
theorem dX9_coat_79 : decode cX9_coat 79 = .ok (.imul, 1) := by decide +kernel
theorem dX9_coat_80 : decode cX9_coat 80 = .ok (.iload 4, 2) := by decide +kernel
theorem dX9_coat_82 : decode cX9_coat 82 = .ok (.iadd, 1) := by decide +kernel
theorem dX9_coat_83 : decode cX9_coat 83 = .ok (.invokevirtual 155, 3) := by decide +kernel
theorem dX9_coat_86 : decode cX9_coat 86 = .ok (.ifCond .eq 33, 3) := by decide +kernel
theorem dX9_coat_89 : decode cX9_coat 89 = .ok (.iload 5, 2) := by decide +kernel
theorem dX9_coat_91 : decode cX9_coat 91 = .ok (.ifCond .ge 8, 3) := by decide +kernel
theorem dX9_coat_94 : decode cX9_coat 94 = .ok (.iload 7, 2) := by decide +kernel
theorem dX9_coat_96 : decode cX9_coat 96 = .ok (.goto 22, 3) := by decide +kernel
theorem dX9_coat_99 : decode cX9_coat 99 = .ok (.iload 5, 2) := by decide +kernel
theorem dX9_coat_101 : decode cX9_coat 101 = .ok (.iload 7, 2) := by decide +kernel
theorem dX9_coat_103 : decode cX9_coat 103 = .ok (.if_icmp .ge 13, 3) := by decide +kernel
theorem dX9_coat_106 : decode cX9_coat 106 = .ok (.aload_n 0, 1) := by decide +kernel
theorem dX9_coat_107 : decode cX9_coat 107 = .ok (.getfield 28, 3) := by decide +kernel
theorem dX9_coat_110 : decode cX9_coat 110 = .ok (.iload 5, 2) := by decide +kernel
theorem dX9_coat_112 : decode cX9_coat 112 = .ok (.iaload, 1) := by decide +kernel
theorem dX9_coat_113 : decode cX9_coat 113 = .ok (.goto 5, 3) := by decide +kernel
theorem dX9_coat_116 : decode cX9_coat 116 = .ok (.bipush (-4), 2) := by decide +kernel
theorem dX9_coat_118 : decode cX9_coat 118 = .ok (.ireturn, 1) := by decide +kernel
theorem dX9_coat_119 : decode cX9_coat 119 = .ok (.iinc 7 1, 3) := by decide +kernel
theorem dX9_coat_122 : decode cX9_coat 122 = .ok (.goto (-60), 3) := by decide +kernel
theorem dX9_coat_125 : decode cX9_coat 125 = .ok (.bipush (-4), 2) := by decide +kernel
theorem dX9_coat_127 : decode cX9_coat 127 = .ok (.ireturn, 1) := by decide +kernel
theorem dX9_isSo_0 : decode cX9_isSo 0 = .ok (.aload_n 0, 1) := by decide +kernel
theorem dX9_isSo_1 : decode cX9_isSo 1 = .ok (.getfield 7, 3) := by decide +kernel
theorem dX9_isSo_4 : decode cX9_isSo 4 = .ok (.bipush 81, 2) := by decide +kernel
theorem dX9_isSo_6 : decode cX9_isSo 6 = .ok (.iload_n 1, 1) := by decide +kernel
theorem dX9_isSo_7 : decode cX9_isSo 7 = .ok (.iadd, 1) := by decide +kernel
theorem dX9_isSo_8 : decode cX9_isSo 8 = .ok (.iaload, 1) := by decide +kernel
theorem dX9_isSo_9 : decode cX9_isSo 9 = .ok (.iload_n 3, 1) := by decide +kernel
theorem dX9_isSo_10 : decode cX9_isSo 10 = .ok (.if_icmp .gt 7, 3) := by decide +kernel
theorem dX9_isSo_13 : decode cX9_isSo 13 = .ok (.iconst 1, 1) := by decide +kernel
theorem dX9_isSo_14 : decode cX9_isSo 14 = .ok (.goto 4, 3) := by decide +kernel
theorem dX9_isSo_17 : decode cX9_isSo 17 = .ok (.iconst 0, 1) := by decide +kernel
theorem dX9_isSo_18 : decode cX9_isSo 18 = .ok (.istore 4, 2) := by decide +kernel
theorem dX9_isSo_20 : decode cX9_isSo 20 = .ok (.iconst 0, 1) := by decide +kernel
theorem dX9_isSo_21 : decode cX9_isSo 21 = .ok (.istore 5, 2) := by decide +kernel
theorem dX9_isSo_23 : decode cX9_isSo 23 = .ok (.iload 5, 2) := by decide +kernel
theorem dX9_isSo_25 : decode cX9_isSo 25 = .ok (.aload_n 0, 1) := by decide +kernel
theorem dX9_isSo_26 : decode cX9_isSo 26 = .ok (.getfield 7, 3) := by decide +kernel
theorem dX9_isSo_29 : decode cX9_isSo 29 = .ok (.bipush 81, 2) := by decide +kernel
theorem dX9_isSo_31 : decode cX9_isSo 31 = .ok (.iload_n 1, 1) := by decide +kernel
theorem dX9_isSo_32 : decode cX9_isSo 32 = .ok (.iadd, 1) := by decide +kernel
theorem dX9_isSo_33 : decode cX9_isSo 33 = .ok (.iaload, 1) := by decide +kernel
theorem dX9_isSo_34 : decode cX9_isSo 34 = .ok (.if_icmp .ge 51, 3) := by decide +kernel
theorem dX9_isSo_37 : decode cX9_isSo 37 = .ok (.iload 4, 2) := by decide +kernel
theorem dX9_isSo_39 : decode cX9_isSo 39 = .ok (.ifCond .eq 46, 3) := by decide +kernel
theorem dX9_isSo_42 : decode cX9_isSo 42 = .ok (.aload_n 0, 1) := by decide +kernel
theorem dX9_isSo_43 : decode cX9_isSo 43 = .ok (.getfield 7, 3) := by decide +kernel
theorem dX9_isSo_46 : decode cX9_isSo 46 = .ok (.bipush 9, 2) := by decide +kernel
theorem dX9_isSo_48 : decode cX9_isSo 48 = .ok (.bipush 9, 2) := by decide +kernel
theorem dX9_isSo_50 : decode cX9_isSo 50 = .ok (.iload_n 1, 1) := by decide +kernel
theorem dX9_isSo_51 : decode cX9_isSo 51 = .ok (.imul, 1) := by decide +kernel
theorem dX9_isSo_52 : decode cX9_isSo 52 = .ok (.iadd, 1) := by decide +kernel
theorem dX9_isSo_53 : decode cX9_isSo 53 = .ok (.iload 5, 2) := by decide +kernel
theorem dX9_isSo_55 : decode cX9_isSo 55 = .ok (.iadd, 1) := by decide +kernel
theorem dX9_isSo_56 : decode cX9_isSo 56 = .ok (.iaload, 1) := by decide +kernel
theorem dX9_isSo_57 : decode cX9_isSo 57 = .ok (.invokestatic 111, 3) := by decide +kernel
theorem dX9_isSo_60 : decode cX9_isSo 60 = .ok (.aload_n 0, 1) := by decide +kernel
theorem dX9_isSo_61 : decode cX9_isSo 61 = .ok (.getfield 25, 3) := by decide +kernel
theorem dX9_isSo_64 : decode cX9_isSo 64 = .ok (.iload_n 2, 1) := by decide +kernel
theorem dX9_isSo_65 : decode cX9_isSo 65 = .ok (.iload 5, 2) := by decide +kernel
theorem dX9_isSo_67 : decode cX9_isSo 67 = .ok (.iadd, 1) := by decide +kernel
theorem dX9_isSo_68 : decode cX9_isSo 68 = .ok (.iaload, 1) := by decide +kernel
theorem dX9_isSo_69 : decode cX9_isSo 69 = .ok (.if_icmp .ne 7, 3) := by decide +kernel
theorem dX9_isSo_72 : decode cX9_isSo 72 = .ok (.iconst 1, 1) := by decide +kernel
theorem dX9_isSo_73 : decode cX9_isSo 73 = .ok (.goto 4, 3) := by decide +kernel
theorem dX9_isSo_76 : decode cX9_isSo 76 = .ok (.iconst 0, 1) := by decide +kernel
theorem dX9_isSo_77 : decode cX9_isSo 77 = .ok (.istore 4, 2) := by decide +kernel
theorem dX9_isSo_79 : decode cX9_isSo 79 = .ok (.iinc 5 1, 3) := by decide +kernel
theorem dX9_isSo_82 : decode cX9_isSo 82 = .ok (.goto (-59), 3) := by decide +kernel
theorem dX9_isSo_85 : decode cX9_isSo 85 = .ok (.iload 4, 2) := by decide +kernel
theorem dX9_isSo_87 : decode cX9_isSo 87 = .ok (.ireturn, 1) := by decide +kernel
theorem dX9_read_0 : decode cX9_read 0 = .ok (.iload_n 1, 1) := by decide +kernel
theorem dX9_read_1 : decode cX9_read 1 = .ok (.iload_n 2, 1) := by decide +kernel
theorem dX9_read_2 : decode cX9_read 2 = .ok (.invokestatic 143, 3) := by decide +kernel
theorem dX9_read_5 : decode cX9_read 5 = .ok (.ifCond .eq 31, 3) := by decide +kernel
theorem dX9_read_8 : decode cX9_read 8 = .ok (.iload 4, 2) := by decide +kernel
theorem dX9_read_10 : decode cX9_read 10 = .ok (.i2l, 1) := by decide +kernel
theorem dX9_read_11 : decode cX9_read 11 = .ok (.lconst 1, 1) := by decide +kernel
theorem dX9_read_12 : decode cX9_read 12 = .ok (.ldc2_w 158, 3) := by decide +kernel
theorem dX9_read_15 : decode cX9_read 15 = .ok (.invokestatic 52, 3) := by decide +kernel
theorem dX9_read_18 : decode cX9_read 18 = .ok (.ifCond .eq 18, 3) := by decide +kernel
theorem dX9_read_21 : decode cX9_read 21 = .ok (.iload 5, 2) := by decide +kernel
theorem dX9_read_23 : decode cX9_read 23 = .ok (.i2l, 1) := by decide +kernel
theorem dX9_read_24 : decode cX9_read 24 = .ok (.ldc2_w 117, 3) := by decide +kernel
theorem dX9_read_27 : decode cX9_read 27 = .ok (.ldc2_w 146, 3) := by decide +kernel
theorem dX9_read_30 : decode cX9_read 30 = .ok (.invokestatic 52, 3) := by decide +kernel
theorem dX9_read_33 : decode cX9_read 33 = .ok (.ifCond .ne 5, 3) := by decide +kernel
theorem dX9_read_36 : decode cX9_read 36 = .ok (.iconst (-1), 1) := by decide +kernel
theorem dX9_read_37 : decode cX9_read 37 = .ok (.ireturn, 1) := by decide +kernel
theorem dX9_read_38 : decode cX9_read 38 = .ok (.aload_n 0, 1) := by decide +kernel
theorem dX9_read_39 : decode cX9_read 39 = .ok (.iload_n 1, 1) := by decide +kernel
theorem dX9_read_40 : decode cX9_read 40 = .ok (.iload_n 2, 1) := by decide +kernel
theorem dX9_read_41 : decode cX9_read 41 = .ok (.iload_n 3, 1) := by decide +kernel
theorem dX9_read_42 : decode cX9_read 42 = .ok (.iload 4, 2) := by decide +kernel
theorem dX9_read_44 : decode cX9_read 44 = .ok (.iconst 3, 1) := by decide +kernel
theorem dX9_read_45 : decode cX9_read 45 = .ok (.invokevirtual 148, 3) := by decide +kernel
theorem dX9_read_48 : decode cX9_read 48 = .ok (.istore 6, 2) := by decide +kernel
theorem dX9_read_50 : decode cX9_read 50 = .ok (.iload 6, 2) := by decide +kernel
theorem dX9_read_52 : decode cX9_read 52 = .ok (.ifCond .ge 6, 3) := by decide +kernel
theorem dX9_read_55 : decode cX9_read 55 = .ok (.iload 6, 2) := by decide +kernel
theorem dX9_read_57 : decode cX9_read 57 = .ok (.ireturn, 1) := by decide +kernel
theorem dX9_read_58 : decode cX9_read 58 = .ok (.iconst 0, 1) := by decide +kernel
theorem dX9_read_59 : decode cX9_read 59 = .ok (.istore 7, 2) := by decide +kernel
theorem dX9_read_61 : decode cX9_read 61 = .ok (.bipush (-4), 2) := by decide +kernel
theorem dX9_read_63 : decode cX9_read 63 = .ok (.istore 8, 2) := by decide +kernel
theorem dX9_read_65 : decode cX9_read 65 = .ok (.bipush 24, 2) := by decide +kernel
theorem dX9_read_67 : decode cX9_read 67 = .ok (.iload_n 1, 1) := by decide +kernel
theorem dX9_read_68 : decode cX9_read 68 = .ok (.imul, 1) := by decide +kernel
theorem dX9_read_69 : decode cX9_read 69 = .ok (.iload_n 3, 1) := by decide +kernel
theorem dX9_read_70 : decode cX9_read 70 = .ok (.iadd, 1) := by decide +kernel
theorem dX9_read_71 : decode cX9_read 71 = .ok (.istore 9, 2) := by decide +kernel
theorem dX9_read_73 : decode cX9_read 73 = .ok (.iload 4, 2) := by decide +kernel
theorem dX9_read_75 : decode cX9_read 75 = .ok (.istore 10, 2) := by decide +kernel
theorem dX9_read_77 : decode cX9_read 77 = .ok (.iconst 0, 1) := by decide +kernel
theorem dX9_read_78 : decode cX9_read 78 = .ok (.istore 11, 2) := by decide +kernel
theorem dX9_read_80 : decode cX9_read 80 = .ok (.iconst 0, 1) := by decide +kernel
theorem dX9_read_81 : decode cX9_read 81 = .ok (.istore 12, 2) := by decide +kernel
theorem dX9_read_83 : decode cX9_read 83 = .ok (.aload_n 0, 1) := by decide +kernel
theorem dX9_read_84 : decode cX9_read 84 = .ok (.getfield 28, 3) := by decide +kernel
theorem dX9_read_87 : decode cX9_read 87 = .ok (.iconst 0, 1) := by decide +kernel
theorem dX9_read_88 : decode cX9_read 88 = .ok (.iconst (-1), 1) := by decide +kernel
theorem dX9_read_89 : decode cX9_read 89 = .ok (.iastore, 1) := by decide +kernel
theorem dX9_read_90 : decode cX9_read 90 = .ok (.iload 12, 2) := by decide +kernel
theorem dX9_read_92 : decode cX9_read 92 = .ok (.ifCond .lt 240, 3) := by decide +kernel
theorem dX9_read_95 : decode cX9_read 95 = .ok (.aload_n 0, 1) := by decide +kernel
theorem dX9_read_96 : decode cX9_read 96 = .ok (.getfield 28, 3) := by decide +kernel
theorem dX9_read_99 : decode cX9_read 99 = .ok (.iload 12, 2) := by decide +kernel
theorem dX9_read_101 : decode cX9_read 101 = .ok (.dup2, 1) := by decide +kernel
theorem dX9_read_102 : decode cX9_read 102 = .ok (.iaload, 1) := by decide +kernel
theorem dX9_read_103 : decode cX9_read 103 = .ok (.iconst 1, 1) := by decide +kernel
theorem dX9_read_104 : decode cX9_read 104 = .ok (.iadd, 1) := by decide +kernel
theorem dX9_read_105 : decode cX9_read 105 = .ok (.iastore, 1) := by decide +kernel
theorem dX9_read_106 : decode cX9_read 106 = .ok (.aload_n 0, 1) := by decide +kernel
theorem dX9_read_107 : decode cX9_read 107 = .ok (.getfield 28, 3) := by decide +kernel
theorem dX9_read_110 : decode cX9_read 110 = .ok (.iload 12, 2) := by decide +kernel
theorem dX9_read_112 : decode cX9_read 112 = .ok (.iaload, 1) := by decide +kernel
theorem dX9_read_113 : decode cX9_read 113 = .ok (.istore 13, 2) := by decide +kernel
theorem dX9_read_115 : decode cX9_read 115 = .ok (.iload 13, 2) := by decide +kernel
theorem dX9_read_117 : decode cX9_read 117 = .ok (.aload_n 0, 1) := by decide +kernel
theorem dX9_read_118 : decode cX9_read 118 = .ok (.getfield 7, 3) := by decide +kernel
theorem dX9_read_121 : decode cX9_read 121 = .ok (.iconst 0, 1) := by decide +kernel
theorem dX9_read_122 : decode cX9_read 122 = .ok (.iaload, 1) := by decide +kernel
theorem dX9_read_123 : decode cX9_read 123 = .ok (.if_icmp .lt 70, 3) := by decide +kernel
theorem dX9_read_126 : decode cX9_read 126 = .ok (.iinc 12 (-1), 3) := by decide +kernel
theorem dX9_read_129 : decode cX9_read 129 = .ok (.iload 12, 2) := by decide +kernel
theorem dX9_read_131 : decode cX9_read 131 = .ok (.ifCond .lt 198, 3) := by decide +kernel
theorem dX9_read_134 : decode cX9_read 134 = .ok (.iload 11, 2) := by decide +kernel
theorem dX9_read_136 : decode cX9_read 136 = .ok (.iconst 1, 1) := by decide +kernel
theorem dX9_read_137 : decode cX9_read 137 = .ok (.aload_n 0, 1) := by decide +kernel
theorem dX9_read_138 : decode cX9_read 138 = .ok (.getfield 28, 3) := by decide +kernel
theorem dX9_read_141 : decode cX9_read 141 = .ok (.iload 12, 2) := by decide +kernel
theorem dX9_read_143 : decode cX9_read 143 = .ok (.iaload, 1) := by decide +kernel
theorem dX9_read_144 : decode cX9_read 144 = .ok (.ishl, 1) := by decide +kernel
theorem dX9_read_145 : decode cX9_read 145 = .ok (.iconst (-1), 1) := by decide +kernel
theorem dX9_read_146 : decode cX9_read 146 = .ok (.ixor, 1) := by decide +kernel
theorem dX9_read_147 : decode cX9_read 147 = .ok (.iand, 1) := by decide +kernel
theorem dX9_read_148 : decode cX9_read 148 = .ok (.istore 11, 2) := by decide +kernel
theorem dX9_read_150 : decode cX9_read 150 = .ok (.iload 9, 2) := by decide +kernel
theorem dX9_read_152 : decode cX9_read 152 = .ok (.aload_n 0, 1) := by decide +kernel
theorem dX9_read_153 : decode cX9_read 153 = .ok (.getfield 7, 3) := by decide +kernel
theorem dX9_read_156 : decode cX9_read 156 = .ok (.bipush 81, 2) := by decide +kernel
theorem dX9_read_158 : decode cX9_read 158 = .ok (.aload_n 0, 1) := by decide +kernel
theorem dX9_read_159 : decode cX9_read 159 = .ok (.getfield 28, 3) := by decide +kernel
theorem dX9_read_162 : decode cX9_read 162 = .ok (.iload 12, 2) := by decide +kernel
theorem dX9_read_164 : decode cX9_read 164 = .ok (.iaload, 1) := by decide +kernel
theorem dX9_read_165 : decode cX9_read 165 = .ok (.iadd, 1) := by decide +kernel
theorem dX9_read_166 : decode cX9_read 166 = .ok (.iaload, 1) := by decide +kernel
theorem dX9_read_167 : decode cX9_read 167 = .ok (.isub, 1) := by decide +kernel
theorem dX9_read_168 : decode cX9_read 168 = .ok (.istore 9, 2) := by decide +kernel
theorem dX9_read_170 : decode cX9_read 170 = .ok (.iload 10, 2) := by decide +kernel
theorem dX9_read_172 : decode cX9_read 172 = .ok (.aload_n 0, 1) := by decide +kernel
theorem dX9_read_173 : decode cX9_read 173 = .ok (.getfield 7, 3) := by decide +kernel
theorem dX9_read_176 : decode cX9_read 176 = .ok (.bipush 81, 2) := by decide +kernel
theorem dX9_read_178 : decode cX9_read 178 = .ok (.aload_n 0, 1) := by decide +kernel
theorem dX9_read_179 : decode cX9_read 179 = .ok (.getfield 28, 3) := by decide +kernel
theorem dX9_read_182 : decode cX9_read 182 = .ok (.iload 12, 2) := by decide +kernel
theorem dX9_read_184 : decode cX9_read 184 = .ok (.iaload, 1) := by decide +kernel
theorem dX9_read_185 : decode cX9_read 185 = .ok (.iadd, 1) := by decide +kernel
theorem dX9_read_186 : decode cX9_read 186 = .ok (.iaload, 1) := by decide +kernel
theorem dX9_read_187 : decode cX9_read 187 = .ok (.iadd, 1) := by decide +kernel
theorem dX9_read_188 : decode cX9_read 188 = .ok (.istore 10, 2) := by decide +kernel
theorem dX9_read_190 : decode cX9_read 190 = .ok (.goto 139, 3) := by decide +kernel
theorem dX9_read_193 : decode cX9_read 193 = .ok (.iload 11, 2) := by decide +kernel
theorem dX9_read_195 : decode cX9_read 195 = .ok (.iload 13, 2) := by decide +kernel
theorem dX9_read_197 : decode cX9_read 197 = .ok (.ishr, 1) := by decide +kernel
theorem dX9_read_198 : decode cX9_read 198 = .ok (.iconst 1, 1) := by decide +kernel
theorem dX9_read_199 : decode cX9_read 199 = .ok (.iand, 1) := by decide +kernel
theorem dX9_read_200 : decode cX9_read 200 = .ok (.ifCond .ne 129, 3) := by decide +kernel
theorem dX9_read_203 : decode cX9_read 203 = .ok (.aload_n 0, 1) := by decide +kernel
theorem dX9_read_204 : decode cX9_read 204 = .ok (.iload 13, 2) := by decide +kernel
theorem dX9_read_206 : decode cX9_read 206 = .ok (.iload 9, 2) := by decide +kernel
theorem dX9_read_208 : decode cX9_read 208 = .ok (.iload 10, 2) := by decide +kernel
theorem dX9_read_210 : decode cX9_read 210 = .ok (.invokevirtual 160, 3) := by decide +kernel
theorem dX9_read_213 : decode cX9_read 213 = .ok (.ifCond .eq 116, 3) := by decide +kernel
theorem dX9_read_216 : decode cX9_read 216 = .ok (.iload 10, 2) := by decide +kernel
theorem dX9_read_218 : decode cX9_read 218 = .ok (.aload_n 0, 1) := by decide +kernel
theorem dX9_read_219 : decode cX9_read 219 = .ok (.getfield 7, 3) := by decide +kernel
theorem dX9_read_222 : decode cX9_read 222 = .ok (.bipush 81, 2) := by decide +kernel
theorem dX9_read_224 : decode cX9_read 224 = .ok (.iload 13, 2) := by decide +kernel
theorem dX9_read_226 : decode cX9_read 226 = .ok (.iadd, 1) := by decide +kernel
theorem dX9_read_227 : decode cX9_read 227 = .ok (.iaload, 1) := by decide +kernel
theorem dX9_read_228 : decode cX9_read 228 = .ok (.if_icmp .ne 44, 3) := by decide +kernel
theorem dX9_read_231 : decode cX9_read 231 = .ok (.iload 7, 2) := by decide +kernel
theorem dX9_read_233 : decode cX9_read 233 = .ok (.ifCond .ne 33, 3) := by decide +kernel
theorem dX9_read_236 : decode cX9_read 236 = .ok (.iload 5, 2) := by decide +kernel
theorem dX9_read_238 : decode cX9_read 238 = .ok (.iload 12, 2) := by decide +kernel
theorem dX9_read_240 : decode cX9_read 240 = .ok (.if_icmp .le 8, 3) := by decide +kernel
theorem dX9_read_243 : decode cX9_read 243 = .ok (.bipush (-4), 2) := by decide +kernel
theorem dX9_read_245 : decode cX9_read 245 = .ok (.goto 19, 3) := by decide +kernel
theorem dX9_read_248 : decode cX9_read 248 = .ok (.iload 5, 2) := by decide +kernel
theorem dX9_read_250 : decode cX9_read 250 = .ok (.ifCond .ge 7, 3) := by decide +kernel
theorem dX9_read_253 : decode cX9_read 253 = .ok (.iconst 0, 1) := by decide +kernel
theorem dX9_read_254 : decode cX9_read 254 = .ok (.goto 10, 3) := by decide +kernel
theorem dX9_read_257 : decode cX9_read 257 = .ok (.aload_n 0, 1) := by decide +kernel
theorem dX9_read_258 : decode cX9_read 258 = .ok (.getfield 28, 3) := by decide +kernel
theorem dX9_read_261 : decode cX9_read 261 = .ok (.iload 5, 2) := by decide +kernel
theorem dX9_read_263 : decode cX9_read 263 = .ok (.iaload, 1) := by decide +kernel
theorem dX9_read_264 : decode cX9_read 264 = .ok (.istore 8, 2) := by decide +kernel
theorem dX9_read_266 : decode cX9_read 266 = .ok (.iinc 7 1, 3) := by decide +kernel
theorem dX9_read_269 : decode cX9_read 269 = .ok (.goto 60, 3) := by decide +kernel
theorem dX9_read_272 : decode cX9_read 272 = .ok (.iload 12, 2) := by decide +kernel
theorem dX9_read_274 : decode cX9_read 274 = .ok (.bipush 7, 2) := by decide +kernel
theorem dX9_read_276 : decode cX9_read 276 = .ok (.if_icmp .ge 53, 3) := by decide +kernel
theorem dX9_read_279 : decode cX9_read 279 = .ok (.iload 11, 2) := by decide +kernel
theorem dX9_read_281 : decode cX9_read 281 = .ok (.iconst 1, 1) := by decide +kernel
theorem dX9_read_282 : decode cX9_read 282 = .ok (.iload 13, 2) := by decide +kernel
theorem dX9_read_284 : decode cX9_read 284 = .ok (.ishl, 1) := by decide +kernel
theorem dX9_read_285 : decode cX9_read 285 = .ok (.ior, 1) := by decide +kernel
theorem dX9_read_286 : decode cX9_read 286 = .ok (.istore 11, 2) := by decide +kernel
theorem dX9_read_288 : decode cX9_read 288 = .ok (.iload 9, 2) := by decide +kernel
theorem dX9_read_290 : decode cX9_read 290 = .ok (.aload_n 0, 1) := by decide +kernel
theorem dX9_read_291 : decode cX9_read 291 = .ok (.getfield 7, 3) := by decide +kernel
theorem dX9_read_294 : decode cX9_read 294 = .ok (.bipush 81, 2) := by decide +kernel
theorem dX9_read_296 : decode cX9_read 296 = .ok (.iload 13, 2) := by decide +kernel
theorem dX9_read_298 : decode cX9_read 298 = .ok (.iadd, 1) := by decide +kernel
theorem dX9_read_299 : decode cX9_read 299 = .ok (.iaload, 1) := by decide +kernel
theorem dX9_read_300 : decode cX9_read 300 = .ok (.iadd, 1) := by decide +kernel
theorem dX9_read_301 : decode cX9_read 301 = .ok (.istore 9, 2) := by decide +kernel
theorem dX9_read_303 : decode cX9_read 303 = .ok (.iload 10, 2) := by decide +kernel
theorem dX9_read_305 : decode cX9_read 305 = .ok (.aload_n 0, 1) := by decide +kernel
theorem dX9_read_306 : decode cX9_read 306 = .ok (.getfield 7, 3) := by decide +kernel
theorem dX9_read_309 : decode cX9_read 309 = .ok (.bipush 81, 2) := by decide +kernel
theorem dX9_read_311 : decode cX9_read 311 = .ok (.iload 13, 2) := by decide +kernel
theorem dX9_read_313 : decode cX9_read 313 = .ok (.iadd, 1) := by decide +kernel
theorem dX9_read_314 : decode cX9_read 314 = .ok (.iaload, 1) := by decide +kernel
theorem dX9_read_315 : decode cX9_read 315 = .ok (.isub, 1) := by decide +kernel
theorem dX9_read_316 : decode cX9_read 316 = .ok (.istore 10, 2) := by decide +kernel
theorem dX9_read_318 : decode cX9_read 318 = .ok (.iinc 12 1, 3) := by decide +kernel
theorem dX9_read_321 : decode cX9_read 321 = .ok (.aload_n 0, 1) := by decide +kernel
theorem dX9_read_322 : decode cX9_read 322 = .ok (.getfield 28, 3) := by decide +kernel
theorem dX9_read_325 : decode cX9_read 325 = .ok (.iload 12, 2) := by decide +kernel
theorem dX9_read_327 : decode cX9_read 327 = .ok (.iconst (-1), 1) := by decide +kernel
theorem dX9_read_328 : decode cX9_read 328 = .ok (.iastore, 1) := by decide +kernel
theorem dX9_read_329 : decode cX9_read 329 = .ok (.goto (-239), 3) := by decide +kernel
theorem dX9_read_332 : decode cX9_read 332 = .ok (.iload 5, 2) := by decide +kernel
theorem dX9_read_334 : decode cX9_read 334 = .ok (.ifCond .ge 8, 3) := by decide +kernel
theorem dX9_read_337 : decode cX9_read 337 = .ok (.iload 7, 2) := by decide +kernel
theorem dX9_read_339 : decode cX9_read 339 = .ok (.goto 5, 3) := by decide +kernel
theorem dX9_read_342 : decode cX9_read 342 = .ok (.iload 8, 2) := by decide +kernel
theorem dX9_read_344 : decode cX9_read 344 = .ok (.ireturn, 1) := by decide +kernel
theorem dX9_tangles_0 : decode cX9_tangles 0 = .ok (.iconst 0, 1) := by decide +kernel
theorem dX9_tangles_1 : decode cX9_tangles 1 = .ok (.istore_n 3, 1) := by decide +kernel
theorem dX9_tangles_2 : decode cX9_tangles 2 = .ok (.iconst 0, 1) := by decide +kernel
theorem dX9_tangles_3 : decode cX9_tangles 3 = .ok (.istore 4, 2) := by decide +kernel
theorem dX9_tangles_5 : decode cX9_tangles 5 = .ok (.iload 4, 2) := by decide +kernel
theorem dX9_tangles_7 : decode cX9_tangles 7 = .ok (.bipush 9, 2) := by decide +kernel
theorem dX9_tangles_9 : decode cX9_tangles 9 = .ok (.if_icmp .ge 85, 3) := by decide +kernel
theorem dX9_tangles_12 : decode cX9_tangles 12 = .ok (.iload 4, 2) := by decide +kernel
theorem dX9_tangles_14 : decode cX9_tangles 14 = .ok (.aload_n 0, 1) := by decide +kernel
theorem dX9_tangles_15 : decode cX9_tangles 15 = .ok (.getfield 7, 3) := by decide +kernel
theorem dX9_tangles_18 : decode cX9_tangles 18 = .ok (.bipush 81, 2) := by decide +kernel
theorem dX9_tangles_20 : decode cX9_tangles 20 = .ok (.iload_n 1, 1) := by decide +kernel
theorem dX9_tangles_21 : decode cX9_tangles 21 = .ok (.iadd, 1) := by decide +kernel
theorem dX9_tangles_22 : decode cX9_tangles 22 = .ok (.iaload, 1) := by decide +kernel
theorem dX9_tangles_23 : decode cX9_tangles 23 = .ok (.if_icmp .ge 27, 3) := by decide +kernel
theorem dX9_tangles_26 : decode cX9_tangles 26 = .ok (.aload_n 0, 1) := by decide +kernel
theorem dX9_tangles_27 : decode cX9_tangles 27 = .ok (.getfield 43, 3) := by decide +kernel
theorem dX9_tangles_30 : decode cX9_tangles 30 = .ok (.iload_n 3, 1) := by decide +kernel
theorem dX9_tangles_31 : decode cX9_tangles 31 = .ok (.aload_n 0, 1) := by decide +kernel
theorem dX9_tangles_32 : decode cX9_tangles 32 = .ok (.getfield 7, 3) := by decide +kernel
theorem dX9_tangles_35 : decode cX9_tangles 35 = .ok (.bipush 9, 2) := by decide +kernel
theorem dX9_tangles_37 : decode cX9_tangles 37 = .ok (.bipush 9, 2) := by decide +kernel
theorem dX9_tangles_39 : decode cX9_tangles 39 = .ok (.iload_n 1, 1) := by decide +kernel
theorem dX9_tangles_40 : decode cX9_tangles 40 = .ok (.imul, 1) := by decide +kernel
theorem dX9_tangles_41 : decode cX9_tangles 41 = .ok (.iadd, 1) := by decide +kernel
theorem dX9_tangles_42 : decode cX9_tangles 42 = .ok (.iload 4, 2) := by decide +kernel
theorem dX9_tangles_44 : decode cX9_tangles 44 = .ok (.iadd, 1) := by decide +kernel
theorem dX9_tangles_45 : decode cX9_tangles 45 = .ok (.iaload, 1) := by decide +kernel
theorem dX9_tangles_46 : decode cX9_tangles 46 = .ok (.iastore, 1) := by decide +kernel
theorem dX9_tangles_47 : decode cX9_tangles 47 = .ok (.iinc 3 1, 3) := by decide +kernel
theorem dX9_tangles_50 : decode cX9_tangles 50 = .ok (.iload 4, 2) := by decide +kernel
theorem dX9_tangles_52 : decode cX9_tangles 52 = .ok (.aload_n 0, 1) := by decide +kernel
theorem dX9_tangles_53 : decode cX9_tangles 53 = .ok (.getfield 7, 3) := by decide +kernel
theorem dX9_tangles_56 : decode cX9_tangles 56 = .ok (.bipush 81, 2) := by decide +kernel
theorem dX9_tangles_58 : decode cX9_tangles 58 = .ok (.iload_n 2, 1) := by decide +kernel
theorem dX9_tangles_59 : decode cX9_tangles 59 = .ok (.iadd, 1) := by decide +kernel
theorem dX9_tangles_60 : decode cX9_tangles 60 = .ok (.iaload, 1) := by decide +kernel
theorem dX9_tangles_61 : decode cX9_tangles 61 = .ok (.if_icmp .ge 27, 3) := by decide +kernel
theorem dX9_tangles_64 : decode cX9_tangles 64 = .ok (.aload_n 0, 1) := by decide +kernel
theorem dX9_tangles_65 : decode cX9_tangles 65 = .ok (.getfield 43, 3) := by decide +kernel
theorem dX9_tangles_68 : decode cX9_tangles 68 = .ok (.iload_n 3, 1) := by decide +kernel
theorem dX9_tangles_69 : decode cX9_tangles 69 = .ok (.aload_n 0, 1) := by decide +kernel
theorem dX9_tangles_70 : decode cX9_tangles 70 = .ok (.getfield 7, 3) := by decide +kernel
theorem dX9_tangles_73 : decode cX9_tangles 73 = .ok (.bipush 9, 2) := by decide +kernel
theorem dX9_tangles_75 : decode cX9_tangles 75 = .ok (.bipush 9, 2) := by decide +kernel
theorem dX9_tangles_77 : decode cX9_tangles 77 = .ok (.iload_n 2, 1) := by decide +kernel
theorem dX9_tangles_78 : decode cX9_tangles 78 = .ok (.imul, 1) := by decide +kernel
theorem dX9_tangles_79 : decode cX9_tangles 79 = .ok (.iadd, 1) := by decide +kernel
theorem dX9_tangles_80 : decode cX9_tangles 80 = .ok (.iload 4, 2) := by decide +kernel
theorem dX9_tangles_82 : decode cX9_tangles 82 = .ok (.iadd, 1) := by decide +kernel
theorem dX9_tangles_83 : decode cX9_tangles 83 = .ok (.iaload, 1) := by decide +kernel
theorem dX9_tangles_84 : decode cX9_tangles 84 = .ok (.iastore, 1) := by decide +kernel
theorem dX9_tangles_85 : decode cX9_tangles 85 = .ok (.iinc 3 1, 3) := by decide +kernel
theorem dX9_tangles_88 : decode cX9_tangles 88 = .ok (.iinc 4 1, 3) := by decide +kernel
theorem dX9_tangles_91 : decode cX9_tangles 91 = .ok (.goto (-86), 3) := by decide +kernel
theorem dX9_tangles_94 : decode cX9_tangles 94 = .ok (.iload_n 3, 1) := by decide +kernel
theorem dX9_tangles_95 : decode cX9_tangles 95 = .ok (.ireturn, 1) := by decide +kernel
theorem dX9_untangle_0 : decode cX9_untangle 0 = .ok (.iload_n 1, 1) := by decide +kernel
theorem dX9_untangle_1 : decode cX9_untangle 1 = .ok (.iload_n 2, 1) := by decide +kernel
theorem dX9_untangle_2 : decode cX9_untangle 2 = .ok (.invokestatic 143, 3) := by decide +kernel
theorem dX9_untangle_5 : decode cX9_untangle 5 = .ok (.ifCond .eq 27, 3) := by decide +kernel
theorem dX9_untangle_8 : decode cX9_untangle 8 = .ok (.iload 4, 2) := by decide +kernel
theorem dX9_untangle_10 : decode cX9_untangle 10 = .ok (.i2l, 1) := by decide +kernel
theorem dX9_untangle_11 : decode cX9_untangle 11 = .ok (.lconst 1, 1) := by decide +kernel
theorem dX9_untangle_12 : decode cX9_untangle 12 = .ok (.ldc2_w 158, 3) := by decide +kernel
theorem dX9_untangle_15 : decode cX9_untangle 15 = .ok (.invokestatic 52, 3) := by decide +kernel
theorem dX9_untangle_18 : decode cX9_untangle 18 = .ok (.ifCond .eq 14, 3) := by decide +kernel
theorem dX9_untangle_21 : decode cX9_untangle 21 = .ok (.iload 5, 2) := by decide +kernel
theorem dX9_untangle_23 : decode cX9_untangle 23 = .ok (.i2l, 1) := by decide +kernel
theorem dX9_untangle_24 : decode cX9_untangle 24 = .ok (.lconst 0, 1) := by decide +kernel
theorem dX9_untangle_25 : decode cX9_untangle 25 = .ok (.lconst 1, 1) := by decide +kernel
theorem dX9_untangle_26 : decode cX9_untangle 26 = .ok (.invokestatic 52, 3) := by decide +kernel
theorem dX9_untangle_29 : decode cX9_untangle 29 = .ok (.ifCond .ne 5, 3) := by decide +kernel
theorem dX9_untangle_32 : decode cX9_untangle 32 = .ok (.iconst (-1), 1) := by decide +kernel
theorem dX9_untangle_33 : decode cX9_untangle 33 = .ok (.ireturn, 1) := by decide +kernel
theorem dX9_untangle_34 : decode cX9_untangle 34 = .ok (.aload_n 0, 1) := by decide +kernel
theorem dX9_untangle_35 : decode cX9_untangle 35 = .ok (.iload_n 1, 1) := by decide +kernel
theorem dX9_untangle_36 : decode cX9_untangle 36 = .ok (.iload_n 2, 1) := by decide +kernel
theorem dX9_untangle_37 : decode cX9_untangle 37 = .ok (.iload_n 3, 1) := by decide +kernel
theorem dX9_untangle_38 : decode cX9_untangle 38 = .ok (.iload 4, 2) := by decide +kernel
theorem dX9_untangle_40 : decode cX9_untangle 40 = .ok (.bipush 9, 2) := by decide +kernel
theorem dX9_untangle_42 : decode cX9_untangle 42 = .ok (.invokevirtual 148, 3) := by decide +kernel
theorem dX9_untangle_45 : decode cX9_untangle 45 = .ok (.istore 6, 2) := by decide +kernel
theorem dX9_untangle_47 : decode cX9_untangle 47 = .ok (.iload 6, 2) := by decide +kernel
theorem dX9_untangle_49 : decode cX9_untangle 49 = .ok (.ifCond .ge 6, 3) := by decide +kernel
theorem dX9_untangle_52 : decode cX9_untangle 52 = .ok (.iload 6, 2) := by decide +kernel
theorem dX9_untangle_54 : decode cX9_untangle 54 = .ok (.ireturn, 1) := by decide +kernel
theorem dX9_untangle_55 : decode cX9_untangle 55 = .ok (.iconst 0, 1) := by decide +kernel
theorem dX9_untangle_56 : decode cX9_untangle 56 = .ok (.istore 7, 2) := by decide +kernel
theorem dX9_untangle_58 : decode cX9_untangle 58 = .ok (.bipush (-4), 2) := by decide +kernel
theorem dX9_untangle_60 : decode cX9_untangle 60 = .ok (.istore 8, 2) := by decide +kernel
theorem dX9_untangle_62 : decode cX9_untangle 62 = .ok (.iconst 0, 1) := by decide +kernel
theorem dX9_untangle_63 : decode cX9_untangle 63 = .ok (.istore 9, 2) := by decide +kernel
theorem dX9_untangle_65 : decode cX9_untangle 65 = .ok (.iload 9, 2) := by decide +kernel
theorem dX9_untangle_67 : decode cX9_untangle 67 = .ok (.bipush 64, 2) := by decide +kernel
theorem dX9_untangle_69 : decode cX9_untangle 69 = .ok (.if_icmp .ge 165, 3) := by decide +kernel
theorem dX9_untangle_72 : decode cX9_untangle 72 = .ok (.iload 9, 2) := by decide +kernel
theorem dX9_untangle_74 : decode cX9_untangle 74 = .ok (.bipush 8, 2) := by decide +kernel
theorem dX9_untangle_76 : decode cX9_untangle 76 = .ok (.idiv, 1) := by decide +kernel
theorem dX9_untangle_77 : decode cX9_untangle 77 = .ok (.istore 10, 2) := by decide +kernel
theorem dX9_untangle_79 : decode cX9_untangle 79 = .ok (.iload 9, 2) := by decide +kernel
theorem dX9_untangle_81 : decode cX9_untangle 81 = .ok (.bipush 8, 2) := by decide +kernel
theorem dX9_untangle_83 : decode cX9_untangle 83 = .ok (.irem, 1) := by decide +kernel
theorem dX9_untangle_84 : decode cX9_untangle 84 = .ok (.istore 11, 2) := by decide +kernel
theorem dX9_untangle_86 : decode cX9_untangle 86 = .ok (.iload 10, 2) := by decide +kernel
theorem dX9_untangle_88 : decode cX9_untangle 88 = .ok (.iload 11, 2) := by decide +kernel
theorem dX9_untangle_90 : decode cX9_untangle 90 = .ok (.if_icmp .eq 138, 3) := by decide +kernel
theorem dX9_untangle_93 : decode cX9_untangle 93 = .ok (.aload_n 0, 1) := by decide +kernel
theorem dX9_untangle_94 : decode cX9_untangle 94 = .ok (.iload 10, 2) := by decide +kernel
theorem dX9_untangle_96 : decode cX9_untangle 96 = .ok (.invokevirtual 72, 3) := by decide +kernel
theorem dX9_untangle_99 : decode cX9_untangle 99 = .ok (.ifCond .eq 129, 3) := by decide +kernel
theorem dX9_untangle_102 : decode cX9_untangle 102 = .ok (.aload_n 0, 1) := by decide +kernel
theorem dX9_untangle_103 : decode cX9_untangle 103 = .ok (.iload 11, 2) := by decide +kernel
theorem dX9_untangle_105 : decode cX9_untangle 105 = .ok (.invokevirtual 72, 3) := by decide +kernel
theorem dX9_untangle_108 : decode cX9_untangle 108 = .ok (.ifCond .ne 6, 3) := by decide +kernel
theorem dX9_untangle_111 : decode cX9_untangle 111 = .ok (.goto 117, 3) := by decide +kernel
theorem dX9_untangle_114 : decode cX9_untangle 114 = .ok (.aload_n 0, 1) := by decide +kernel
theorem dX9_untangle_115 : decode cX9_untangle 115 = .ok (.iload 10, 2) := by decide +kernel
theorem dX9_untangle_117 : decode cX9_untangle 117 = .ok (.iload 11, 2) := by decide +kernel
theorem dX9_untangle_119 : decode cX9_untangle 119 = .ok (.invokevirtual 163, 3) := by decide +kernel
theorem dX9_untangle_122 : decode cX9_untangle 122 = .ok (.iload 4, 2) := by decide +kernel
theorem dX9_untangle_124 : decode cX9_untangle 124 = .ok (.if_icmp .ne 7, 3) := by decide +kernel
theorem dX9_untangle_127 : decode cX9_untangle 127 = .ok (.iconst 1, 1) := by decide +kernel
theorem dX9_untangle_128 : decode cX9_untangle 128 = .ok (.goto 4, 3) := by decide +kernel
theorem dX9_untangle_131 : decode cX9_untangle 131 = .ok (.iconst 0, 1) := by decide +kernel
theorem dX9_untangle_132 : decode cX9_untangle 132 = .ok (.istore 12, 2) := by decide +kernel
theorem dX9_untangle_134 : decode cX9_untangle 134 = .ok (.iconst 0, 1) := by decide +kernel
theorem dX9_untangle_135 : decode cX9_untangle 135 = .ok (.istore 13, 2) := by decide +kernel
theorem dX9_untangle_137 : decode cX9_untangle 137 = .ok (.iload 13, 2) := by decide +kernel
theorem dX9_untangle_139 : decode cX9_untangle 139 = .ok (.iload 4, 2) := by decide +kernel
theorem dX9_untangle_141 : decode cX9_untangle 141 = .ok (.if_icmp .ge 45, 3) := by decide +kernel
theorem dX9_untangle_144 : decode cX9_untangle 144 = .ok (.iload 12, 2) := by decide +kernel
theorem dX9_untangle_146 : decode cX9_untangle 146 = .ok (.ifCond .eq 40, 3) := by decide +kernel
theorem dX9_untangle_149 : decode cX9_untangle 149 = .ok (.aload_n 0, 1) := by decide +kernel
theorem dX9_untangle_150 : decode cX9_untangle 150 = .ok (.getfield 43, 3) := by decide +kernel
theorem dX9_untangle_153 : decode cX9_untangle 153 = .ok (.iload 13, 2) := by decide +kernel
theorem dX9_untangle_155 : decode cX9_untangle 155 = .ok (.iaload, 1) := by decide +kernel
theorem dX9_untangle_156 : decode cX9_untangle 156 = .ok (.aload_n 0, 1) := by decide +kernel
theorem dX9_untangle_157 : decode cX9_untangle 157 = .ok (.getfield 25, 3) := by decide +kernel
theorem dX9_untangle_160 : decode cX9_untangle 160 = .ok (.bipush 24, 2) := by decide +kernel
theorem dX9_untangle_162 : decode cX9_untangle 162 = .ok (.iload_n 1, 1) := by decide +kernel
theorem dX9_untangle_163 : decode cX9_untangle 163 = .ok (.imul, 1) := by decide +kernel
theorem dX9_untangle_164 : decode cX9_untangle 164 = .ok (.iload_n 3, 1) := by decide +kernel
theorem dX9_untangle_165 : decode cX9_untangle 165 = .ok (.iadd, 1) := by decide +kernel
theorem dX9_untangle_166 : decode cX9_untangle 166 = .ok (.iload 13, 2) := by decide +kernel
theorem dX9_untangle_168 : decode cX9_untangle 168 = .ok (.iadd, 1) := by decide +kernel
theorem dX9_untangle_169 : decode cX9_untangle 169 = .ok (.iaload, 1) := by decide +kernel
theorem dX9_untangle_170 : decode cX9_untangle 170 = .ok (.if_icmp .ne 7, 3) := by decide +kernel
theorem dX9_untangle_173 : decode cX9_untangle 173 = .ok (.iconst 1, 1) := by decide +kernel
theorem dX9_untangle_174 : decode cX9_untangle 174 = .ok (.goto 4, 3) := by decide +kernel
theorem dX9_untangle_177 : decode cX9_untangle 177 = .ok (.iconst 0, 1) := by decide +kernel
theorem dX9_untangle_178 : decode cX9_untangle 178 = .ok (.istore 12, 2) := by decide +kernel
theorem dX9_untangle_180 : decode cX9_untangle 180 = .ok (.iinc 13 1, 3) := by decide +kernel
theorem dX9_untangle_183 : decode cX9_untangle 183 = .ok (.goto (-46), 3) := by decide +kernel
theorem dX9_untangle_186 : decode cX9_untangle 186 = .ok (.iload 7, 2) := by decide +kernel
theorem dX9_untangle_188 : decode cX9_untangle 188 = .ok (.iload 12, 2) := by decide +kernel
theorem dX9_untangle_190 : decode cX9_untangle 190 = .ok (.ifCond .eq 7, 3) := by decide +kernel
theorem dX9_untangle_193 : decode cX9_untangle 193 = .ok (.iconst 1, 1) := by decide +kernel
theorem dX9_untangle_194 : decode cX9_untangle 194 = .ok (.goto 4, 3) := by decide +kernel
theorem dX9_untangle_197 : decode cX9_untangle 197 = .ok (.iconst 0, 1) := by decide +kernel
theorem dX9_untangle_198 : decode cX9_untangle 198 = .ok (.iadd, 1) := by decide +kernel
theorem dX9_untangle_199 : decode cX9_untangle 199 = .ok (.istore 7, 2) := by decide +kernel
theorem dX9_untangle_201 : decode cX9_untangle 201 = .ok (.iload 12, 2) := by decide +kernel
theorem dX9_untangle_203 : decode cX9_untangle 203 = .ok (.ifCond .eq 21, 3) := by decide +kernel
theorem dX9_untangle_206 : decode cX9_untangle 206 = .ok (.iload 8, 2) := by decide +kernel
theorem dX9_untangle_208 : decode cX9_untangle 208 = .ok (.bipush (-4), 2) := by decide +kernel
theorem dX9_untangle_210 : decode cX9_untangle 210 = .ok (.if_icmp .ne 14, 3) := by decide +kernel
theorem dX9_untangle_213 : decode cX9_untangle 213 = .ok (.bipush 10, 2) := by decide +kernel
theorem dX9_untangle_215 : decode cX9_untangle 215 = .ok (.iload 10, 2) := by decide +kernel
theorem dX9_untangle_217 : decode cX9_untangle 217 = .ok (.imul, 1) := by decide +kernel
theorem dX9_untangle_218 : decode cX9_untangle 218 = .ok (.iload 11, 2) := by decide +kernel
theorem dX9_untangle_220 : decode cX9_untangle 220 = .ok (.iadd, 1) := by decide +kernel
theorem dX9_untangle_221 : decode cX9_untangle 221 = .ok (.goto 5, 3) := by decide +kernel
theorem dX9_untangle_224 : decode cX9_untangle 224 = .ok (.iload 8, 2) := by decide +kernel
theorem dX9_untangle_226 : decode cX9_untangle 226 = .ok (.istore 8, 2) := by decide +kernel
theorem dX9_untangle_228 : decode cX9_untangle 228 = .ok (.iinc 9 1, 3) := by decide +kernel
theorem dX9_untangle_231 : decode cX9_untangle 231 = .ok (.goto (-166), 3) := by decide +kernel
theorem dX9_untangle_234 : decode cX9_untangle 234 = .ok (.iload 5, 2) := by decide +kernel
theorem dX9_untangle_236 : decode cX9_untangle 236 = .ok (.ifCond .ne 8, 3) := by decide +kernel
theorem dX9_untangle_239 : decode cX9_untangle 239 = .ok (.iload 7, 2) := by decide +kernel
theorem dX9_untangle_241 : decode cX9_untangle 241 = .ok (.goto 5, 3) := by decide +kernel
theorem dX9_untangle_244 : decode cX9_untangle 244 = .ok (.iload 8, 2) := by decide +kernel
theorem dX9_untangle_246 : decode cX9_untangle 246 = .ok (.ireturn, 1) := by decide +kernel
theorem dX9_tangle_0 : decode cX9_tangle 0 = .ok (.aload_n 0, 1) := by decide +kernel
theorem dX9_tangle_1 : decode cX9_tangle 1 = .ok (.iload_n 1, 1) := by decide +kernel
theorem dX9_tangle_2 : decode cX9_tangle 2 = .ok (.invokevirtual 72, 3) := by decide +kernel
theorem dX9_tangle_5 : decode cX9_tangle 5 = .ok (.ifCond .eq 25, 3) := by decide +kernel
theorem dX9_tangle_8 : decode cX9_tangle 8 = .ok (.aload_n 0, 1) := by decide +kernel
theorem dX9_tangle_9 : decode cX9_tangle 9 = .ok (.iload_n 2, 1) := by decide +kernel
theorem dX9_tangle_10 : decode cX9_tangle 10 = .ok (.invokevirtual 72, 3) := by decide +kernel
theorem dX9_tangle_13 : decode cX9_tangle 13 = .ok (.ifCond .eq 17, 3) := by decide +kernel
theorem dX9_tangle_16 : decode cX9_tangle 16 = .ok (.iload_n 1, 1) := by decide +kernel
theorem dX9_tangle_17 : decode cX9_tangle 17 = .ok (.iload_n 2, 1) := by decide +kernel
theorem dX9_tangle_18 : decode cX9_tangle 18 = .ok (.if_icmp .eq 12, 3) := by decide +kernel
theorem dX9_tangle_21 : decode cX9_tangle 21 = .ok (.iload_n 3, 1) := by decide +kernel
theorem dX9_tangle_22 : decode cX9_tangle 22 = .ok (.iload 4, 2) := by decide +kernel
theorem dX9_tangle_24 : decode cX9_tangle 24 = .ok (.invokestatic 143, 3) := by decide +kernel
theorem dX9_tangle_27 : decode cX9_tangle 27 = .ok (.ifCond .ne 5, 3) := by decide +kernel
theorem dX9_tangle_30 : decode cX9_tangle 30 = .ok (.iconst (-1), 1) := by decide +kernel
theorem dX9_tangle_31 : decode cX9_tangle 31 = .ok (.ireturn, 1) := by decide +kernel
theorem dX9_tangle_32 : decode cX9_tangle 32 = .ok (.aload_n 0, 1) := by decide +kernel
theorem dX9_tangle_33 : decode cX9_tangle 33 = .ok (.iload_n 1, 1) := by decide +kernel
theorem dX9_tangle_34 : decode cX9_tangle 34 = .ok (.iload_n 2, 1) := by decide +kernel
theorem dX9_tangle_35 : decode cX9_tangle 35 = .ok (.invokevirtual 163, 3) := by decide +kernel
theorem dX9_tangle_38 : decode cX9_tangle 38 = .ok (.istore 6, 2) := by decide +kernel
theorem dX9_tangle_40 : decode cX9_tangle 40 = .ok (.aload_n 0, 1) := by decide +kernel
theorem dX9_tangle_41 : decode cX9_tangle 41 = .ok (.iload_n 3, 1) := by decide +kernel
theorem dX9_tangle_42 : decode cX9_tangle 42 = .ok (.iload 4, 2) := by decide +kernel
theorem dX9_tangle_44 : decode cX9_tangle 44 = .ok (.iload 5, 2) := by decide +kernel
theorem dX9_tangle_46 : decode cX9_tangle 46 = .ok (.iload 6, 2) := by decide +kernel
theorem dX9_tangle_48 : decode cX9_tangle 48 = .ok (.invokevirtual 133, 3) := by decide +kernel
theorem dX9_tangle_51 : decode cX9_tangle 51 = .ok (.istore 7, 2) := by decide +kernel
theorem dX9_tangle_53 : decode cX9_tangle 53 = .ok (.iload 7, 2) := by decide +kernel
theorem dX9_tangle_55 : decode cX9_tangle 55 = .ok (.ifCond .ge 6, 3) := by decide +kernel
theorem dX9_tangle_58 : decode cX9_tangle 58 = .ok (.iload 7, 2) := by decide +kernel
theorem dX9_tangle_60 : decode cX9_tangle 60 = .ok (.ireturn, 1) := by decide +kernel
theorem dX9_tangle_61 : decode cX9_tangle 61 = .ok (.iconst 0, 1) := by decide +kernel
theorem dX9_tangle_62 : decode cX9_tangle 62 = .ok (.istore 8, 2) := by decide +kernel
theorem dX9_tangle_64 : decode cX9_tangle 64 = .ok (.iload 8, 2) := by decide +kernel
theorem dX9_tangle_66 : decode cX9_tangle 66 = .ok (.iload 6, 2) := by decide +kernel
theorem dX9_tangle_68 : decode cX9_tangle 68 = .ok (.if_icmp .ge 31, 3) := by decide +kernel
theorem dX9_tangle_71 : decode cX9_tangle 71 = .ok (.aload_n 0, 1) := by decide +kernel
theorem dX9_tangle_72 : decode cX9_tangle 72 = .ok (.getfield 25, 3) := by decide +kernel
theorem dX9_tangle_75 : decode cX9_tangle 75 = .ok (.bipush 24, 2) := by decide +kernel
theorem dX9_tangle_77 : decode cX9_tangle 77 = .ok (.iload_n 3, 1) := by decide +kernel
theorem dX9_tangle_78 : decode cX9_tangle 78 = .ok (.imul, 1) := by decide +kernel
theorem dX9_tangle_79 : decode cX9_tangle 79 = .ok (.iload 5, 2) := by decide +kernel
theorem dX9_tangle_81 : decode cX9_tangle 81 = .ok (.iadd, 1) := by decide +kernel
theorem dX9_tangle_82 : decode cX9_tangle 82 = .ok (.iload 8, 2) := by decide +kernel
theorem dX9_tangle_84 : decode cX9_tangle 84 = .ok (.iadd, 1) := by decide +kernel
theorem dX9_tangle_85 : decode cX9_tangle 85 = .ok (.aload_n 0, 1) := by decide +kernel
theorem dX9_tangle_86 : decode cX9_tangle 86 = .ok (.getfield 43, 3) := by decide +kernel
theorem dX9_tangle_89 : decode cX9_tangle 89 = .ok (.iload 8, 2) := by decide +kernel
theorem dX9_tangle_91 : decode cX9_tangle 91 = .ok (.iaload, 1) := by decide +kernel
theorem dX9_tangle_92 : decode cX9_tangle 92 = .ok (.iastore, 1) := by decide +kernel
theorem dX9_tangle_93 : decode cX9_tangle 93 = .ok (.iinc 8 1, 3) := by decide +kernel
theorem dX9_tangle_96 : decode cX9_tangle 96 = .ok (.goto (-32), 3) := by decide +kernel
theorem dX9_tangle_99 : decode cX9_tangle 99 = .ok (.iload 6, 2) := by decide +kernel
theorem dX9_tangle_101 : decode cX9_tangle 101 = .ok (.ireturn, 1) := by decide +kernel
theorem dX9_becomes_0 : decode cX9_becomes 0 = .ok (.iconst 0, 1) := by decide +kernel
theorem dX9_becomes_1 : decode cX9_becomes 1 = .ok (.istore 6, 2) := by decide +kernel
theorem dX9_becomes_3 : decode cX9_becomes 3 = .ok (.iload 6, 2) := by decide +kernel
theorem dX9_becomes_5 : decode cX9_becomes 5 = .ok (.iload 5, 2) := by decide +kernel
theorem dX9_becomes_7 : decode cX9_becomes 7 = .ok (.if_icmp .ge 31, 3) := by decide +kernel
theorem dX9_becomes_10 : decode cX9_becomes 10 = .ok (.aload_n 0, 1) := by decide +kernel
theorem dX9_becomes_11 : decode cX9_becomes 11 = .ok (.getfield 46, 3) := by decide +kernel
theorem dX9_becomes_14 : decode cX9_becomes 14 = .ok (.iload 6, 2) := by decide +kernel
theorem dX9_becomes_16 : decode cX9_becomes 16 = .ok (.aload_n 0, 1) := by decide +kernel
theorem dX9_becomes_17 : decode cX9_becomes 17 = .ok (.getfield 7, 3) := by decide +kernel
theorem dX9_becomes_20 : decode cX9_becomes 20 = .ok (.bipush 9, 2) := by decide +kernel
theorem dX9_becomes_22 : decode cX9_becomes 22 = .ok (.bipush 9, 2) := by decide +kernel
theorem dX9_becomes_24 : decode cX9_becomes 24 = .ok (.iload_n 1, 1) := by decide +kernel
theorem dX9_becomes_25 : decode cX9_becomes 25 = .ok (.imul, 1) := by decide +kernel
theorem dX9_becomes_26 : decode cX9_becomes 26 = .ok (.iadd, 1) := by decide +kernel
theorem dX9_becomes_27 : decode cX9_becomes 27 = .ok (.iload 6, 2) := by decide +kernel
theorem dX9_becomes_29 : decode cX9_becomes 29 = .ok (.iadd, 1) := by decide +kernel
theorem dX9_becomes_30 : decode cX9_becomes 30 = .ok (.iaload, 1) := by decide +kernel
theorem dX9_becomes_31 : decode cX9_becomes 31 = .ok (.iastore, 1) := by decide +kernel
theorem dX9_becomes_32 : decode cX9_becomes 32 = .ok (.iinc 6 1, 3) := by decide +kernel
theorem dX9_becomes_35 : decode cX9_becomes 35 = .ok (.goto (-32), 3) := by decide +kernel
theorem dX9_becomes_38 : decode cX9_becomes 38 = .ok (.iconst 1, 1) := by decide +kernel
theorem dX9_becomes_39 : decode cX9_becomes 39 = .ok (.istore 6, 2) := by decide +kernel
theorem dX9_becomes_41 : decode cX9_becomes 41 = .ok (.iconst 1, 1) := by decide +kernel
theorem dX9_becomes_42 : decode cX9_becomes 42 = .ok (.istore 7, 2) := by decide +kernel
theorem dX9_becomes_44 : decode cX9_becomes 44 = .ok (.iload 7, 2) := by decide +kernel
theorem dX9_becomes_46 : decode cX9_becomes 46 = .ok (.iload_n 3, 1) := by decide +kernel
theorem dX9_becomes_47 : decode cX9_becomes 47 = .ok (.if_icmp .ge 20, 3) := by decide +kernel
theorem dX9_becomes_50 : decode cX9_becomes 50 = .ok (.iload 6, 2) := by decide +kernel
theorem dX9_becomes_52 : decode cX9_becomes 52 = .ok (.aload_n 0, 1) := by decide +kernel
theorem dX9_becomes_53 : decode cX9_becomes 53 = .ok (.getfield 7, 3) := by decide +kernel
theorem dX9_becomes_56 : decode cX9_becomes 56 = .ok (.iconst 1, 1) := by decide +kernel
theorem dX9_becomes_57 : decode cX9_becomes 57 = .ok (.iaload, 1) := by decide +kernel
theorem dX9_becomes_58 : decode cX9_becomes 58 = .ok (.imul, 1) := by decide +kernel
theorem dX9_becomes_59 : decode cX9_becomes 59 = .ok (.istore 6, 2) := by decide +kernel
theorem dX9_becomes_61 : decode cX9_becomes 61 = .ok (.iinc 7 1, 3) := by decide +kernel
theorem dX9_becomes_64 : decode cX9_becomes 64 = .ok (.goto (-20), 3) := by decide +kernel
theorem dX9_becomes_67 : decode cX9_becomes 67 = .ok (.iconst 0, 1) := by decide +kernel
theorem dX9_becomes_68 : decode cX9_becomes 68 = .ok (.istore 7, 2) := by decide +kernel
theorem dX9_becomes_70 : decode cX9_becomes 70 = .ok (.iload 7, 2) := by decide +kernel
theorem dX9_becomes_72 : decode cX9_becomes 72 = .ok (.iload_n 3, 1) := by decide +kernel
theorem dX9_becomes_73 : decode cX9_becomes 73 = .ok (.if_icmp .ge 122, 3) := by decide +kernel
theorem dX9_becomes_76 : decode cX9_becomes 76 = .ok (.aload_n 0, 1) := by decide +kernel
theorem dX9_becomes_77 : decode cX9_becomes 77 = .ok (.getfield 7, 3) := by decide +kernel
theorem dX9_becomes_80 : decode cX9_becomes 80 = .ok (.bipush 89, 2) := by decide +kernel
theorem dX9_becomes_82 : decode cX9_becomes 82 = .ok (.iload_n 2, 1) := by decide +kernel
theorem dX9_becomes_83 : decode cX9_becomes 83 = .ok (.iload 6, 2) := by decide +kernel
theorem dX9_becomes_85 : decode cX9_becomes 85 = .ok (.idiv, 1) := by decide +kernel
theorem dX9_becomes_86 : decode cX9_becomes 86 = .ok (.aload_n 0, 1) := by decide +kernel
theorem dX9_becomes_87 : decode cX9_becomes 87 = .ok (.getfield 7, 3) := by decide +kernel
theorem dX9_becomes_90 : decode cX9_becomes 90 = .ok (.iconst 1, 1) := by decide +kernel
theorem dX9_becomes_91 : decode cX9_becomes 91 = .ok (.iaload, 1) := by decide +kernel
theorem dX9_becomes_92 : decode cX9_becomes 92 = .ok (.irem, 1) := by decide +kernel
theorem dX9_becomes_93 : decode cX9_becomes 93 = .ok (.iadd, 1) := by decide +kernel
theorem dX9_becomes_94 : decode cX9_becomes 94 = .ok (.iaload, 1) := by decide +kernel
theorem dX9_becomes_95 : decode cX9_becomes 95 = .ok (.istore 8, 2) := by decide +kernel
theorem dX9_becomes_97 : decode cX9_becomes 97 = .ok (.iload 6, 2) := by decide +kernel
theorem dX9_becomes_99 : decode cX9_becomes 99 = .ok (.aload_n 0, 1) := by decide +kernel
theorem dX9_becomes_100 : decode cX9_becomes 100 = .ok (.getfield 7, 3) := by decide +kernel
theorem dX9_becomes_103 : decode cX9_becomes 103 = .ok (.iconst 1, 1) := by decide +kernel
theorem dX9_becomes_104 : decode cX9_becomes 104 = .ok (.iaload, 1) := by decide +kernel
theorem dX9_becomes_105 : decode cX9_becomes 105 = .ok (.idiv, 1) := by decide +kernel
theorem dX9_becomes_106 : decode cX9_becomes 106 = .ok (.istore 6, 2) := by decide +kernel
theorem dX9_becomes_108 : decode cX9_becomes 108 = .ok (.iconst 0, 1) := by decide +kernel
theorem dX9_becomes_109 : decode cX9_becomes 109 = .ok (.istore 9, 2) := by decide +kernel
theorem dX9_becomes_111 : decode cX9_becomes 111 = .ok (.iload 9, 2) := by decide +kernel
theorem dX9_becomes_113 : decode cX9_becomes 113 = .ok (.iload 5, 2) := by decide +kernel
theorem dX9_becomes_115 : decode cX9_becomes 115 = .ok (.if_icmp .ge 44, 3) := by decide +kernel
theorem dX9_becomes_118 : decode cX9_becomes 118 = .ok (.aload_n 0, 1) := by decide +kernel
theorem dX9_becomes_119 : decode cX9_becomes 119 = .ok (.getfield 49, 3) := by decide +kernel
theorem dX9_becomes_122 : decode cX9_becomes 122 = .ok (.iload 9, 2) := by decide +kernel
theorem dX9_becomes_124 : decode cX9_becomes 124 = .ok (.iload 8, 2) := by decide +kernel
theorem dX9_becomes_126 : decode cX9_becomes 126 = .ok (.aload_n 0, 1) := by decide +kernel
theorem dX9_becomes_127 : decode cX9_becomes 127 = .ok (.getfield 46, 3) := by decide +kernel
theorem dX9_becomes_130 : decode cX9_becomes 130 = .ok (.iload 8, 2) := by decide +kernel
theorem dX9_becomes_132 : decode cX9_becomes 132 = .ok (.iconst 3, 1) := by decide +kernel
theorem dX9_becomes_133 : decode cX9_becomes 133 = .ok (.if_icmp .ne 13, 3) := by decide +kernel
theorem dX9_becomes_136 : decode cX9_becomes 136 = .ok (.iload 5, 2) := by decide +kernel
theorem dX9_becomes_138 : decode cX9_becomes 138 = .ok (.iconst 1, 1) := by decide +kernel
theorem dX9_becomes_139 : decode cX9_becomes 139 = .ok (.isub, 1) := by decide +kernel
theorem dX9_becomes_140 : decode cX9_becomes 140 = .ok (.iload 9, 2) := by decide +kernel
theorem dX9_becomes_142 : decode cX9_becomes 142 = .ok (.isub, 1) := by decide +kernel
theorem dX9_becomes_143 : decode cX9_becomes 143 = .ok (.goto 5, 3) := by decide +kernel
theorem dX9_becomes_146 : decode cX9_becomes 146 = .ok (.iload 9, 2) := by decide +kernel
theorem dX9_becomes_148 : decode cX9_becomes 148 = .ok (.iaload, 1) := by decide +kernel
theorem dX9_becomes_149 : decode cX9_becomes 149 = .ok (.invokestatic 86, 3) := by decide +kernel
theorem dX9_becomes_152 : decode cX9_becomes 152 = .ok (.iastore, 1) := by decide +kernel
theorem dX9_becomes_153 : decode cX9_becomes 153 = .ok (.iinc 9 1, 3) := by decide +kernel
theorem dX9_becomes_156 : decode cX9_becomes 156 = .ok (.goto (-45), 3) := by decide +kernel
theorem dX9_becomes_159 : decode cX9_becomes 159 = .ok (.iconst 0, 1) := by decide +kernel
theorem dX9_becomes_160 : decode cX9_becomes 160 = .ok (.istore 9, 2) := by decide +kernel
theorem dX9_becomes_162 : decode cX9_becomes 162 = .ok (.iload 9, 2) := by decide +kernel
theorem dX9_becomes_164 : decode cX9_becomes 164 = .ok (.iload 5, 2) := by decide +kernel
theorem dX9_becomes_166 : decode cX9_becomes 166 = .ok (.if_icmp .ge 23, 3) := by decide +kernel
theorem dX9_becomes_169 : decode cX9_becomes 169 = .ok (.aload_n 0, 1) := by decide +kernel
theorem dX9_becomes_170 : decode cX9_becomes 170 = .ok (.getfield 46, 3) := by decide +kernel
theorem dX9_becomes_173 : decode cX9_becomes 173 = .ok (.iload 9, 2) := by decide +kernel
theorem dX9_becomes_175 : decode cX9_becomes 175 = .ok (.aload_n 0, 1) := by decide +kernel
theorem dX9_becomes_176 : decode cX9_becomes 176 = .ok (.getfield 49, 3) := by decide +kernel
theorem dX9_becomes_179 : decode cX9_becomes 179 = .ok (.iload 9, 2) := by decide +kernel
theorem dX9_becomes_181 : decode cX9_becomes 181 = .ok (.iaload, 1) := by decide +kernel
theorem dX9_becomes_182 : decode cX9_becomes 182 = .ok (.iastore, 1) := by decide +kernel
theorem dX9_becomes_183 : decode cX9_becomes 183 = .ok (.iinc 9 1, 3) := by decide +kernel
theorem dX9_becomes_186 : decode cX9_becomes 186 = .ok (.goto (-24), 3) := by decide +kernel
theorem dX9_becomes_189 : decode cX9_becomes 189 = .ok (.iinc 7 1, 3) := by decide +kernel
theorem dX9_becomes_192 : decode cX9_becomes 192 = .ok (.goto (-122), 3) := by decide +kernel
theorem dX9_becomes_195 : decode cX9_becomes 195 = .ok (.iconst 1, 1) := by decide +kernel
theorem dX9_becomes_196 : decode cX9_becomes 196 = .ok (.istore 7, 2) := by decide +kernel
theorem dX9_becomes_198 : decode cX9_becomes 198 = .ok (.iconst 0, 1) := by decide +kernel
theorem dX9_becomes_199 : decode cX9_becomes 199 = .ok (.istore 8, 2) := by decide +kernel
theorem dX9_becomes_201 : decode cX9_becomes 201 = .ok (.iload 8, 2) := by decide +kernel
theorem dX9_becomes_203 : decode cX9_becomes 203 = .ok (.iload 5, 2) := by decide +kernel
theorem dX9_becomes_205 : decode cX9_becomes 205 = .ok (.if_icmp .ge 41, 3) := by decide +kernel
theorem dX9_becomes_208 : decode cX9_becomes 208 = .ok (.iload 7, 2) := by decide +kernel
theorem dX9_becomes_210 : decode cX9_becomes 210 = .ok (.ifCond .eq 27, 3) := by decide +kernel
theorem dX9_becomes_213 : decode cX9_becomes 213 = .ok (.aload_n 0, 1) := by decide +kernel
theorem dX9_becomes_214 : decode cX9_becomes 214 = .ok (.getfield 46, 3) := by decide +kernel
theorem dX9_becomes_217 : decode cX9_becomes 217 = .ok (.iload 8, 2) := by decide +kernel
theorem dX9_becomes_219 : decode cX9_becomes 219 = .ok (.iaload, 1) := by decide +kernel
theorem dX9_becomes_220 : decode cX9_becomes 220 = .ok (.aload_n 0, 1) := by decide +kernel
theorem dX9_becomes_221 : decode cX9_becomes 221 = .ok (.getfield 25, 3) := by decide +kernel
theorem dX9_becomes_224 : decode cX9_becomes 224 = .ok (.iload 4, 2) := by decide +kernel
theorem dX9_becomes_226 : decode cX9_becomes 226 = .ok (.iload 8, 2) := by decide +kernel
theorem dX9_becomes_228 : decode cX9_becomes 228 = .ok (.iadd, 1) := by decide +kernel
theorem dX9_becomes_229 : decode cX9_becomes 229 = .ok (.iaload, 1) := by decide +kernel
theorem dX9_becomes_230 : decode cX9_becomes 230 = .ok (.if_icmp .ne 7, 3) := by decide +kernel
theorem dX9_becomes_233 : decode cX9_becomes 233 = .ok (.iconst 1, 1) := by decide +kernel
theorem dX9_becomes_234 : decode cX9_becomes 234 = .ok (.goto 4, 3) := by decide +kernel
theorem dX9_becomes_237 : decode cX9_becomes 237 = .ok (.iconst 0, 1) := by decide +kernel
theorem dX9_becomes_238 : decode cX9_becomes 238 = .ok (.istore 7, 2) := by decide +kernel
theorem dX9_becomes_240 : decode cX9_becomes 240 = .ok (.iinc 8 1, 3) := by decide +kernel
theorem dX9_becomes_243 : decode cX9_becomes 243 = .ok (.goto (-42), 3) := by decide +kernel
theorem dX9_becomes_246 : decode cX9_becomes 246 = .ok (.iload 7, 2) := by decide +kernel
theorem dX9_becomes_248 : decode cX9_becomes 248 = .ok (.ireturn, 1) := by decide +kernel
theorem dX9_passed_0 : decode cX9_passed 0 = .ok (.aload_n 0, 1) := by decide +kernel
theorem dX9_passed_1 : decode cX9_passed 1 = .ok (.iload_n 1, 1) := by decide +kernel
theorem dX9_passed_2 : decode cX9_passed 2 = .ok (.invokevirtual 72, 3) := by decide +kernel
theorem dX9_passed_5 : decode cX9_passed 5 = .ok (.ifCond .eq 53, 3) := by decide +kernel
theorem dX9_passed_8 : decode cX9_passed 8 = .ok (.iload_n 2, 1) := by decide +kernel
theorem dX9_passed_9 : decode cX9_passed 9 = .ok (.i2l, 1) := by decide +kernel
theorem dX9_passed_10 : decode cX9_passed 10 = .ok (.lconst 1, 1) := by decide +kernel
theorem dX9_passed_11 : decode cX9_passed 11 = .ok (.ldc2_w 82, 3) := by decide +kernel
theorem dX9_passed_14 : decode cX9_passed 14 = .ok (.invokestatic 52, 3) := by decide +kernel
theorem dX9_passed_17 : decode cX9_passed 17 = .ok (.ifCond .eq 41, 3) := by decide +kernel
theorem dX9_passed_20 : decode cX9_passed 20 = .ok (.iload_n 3, 1) := by decide +kernel
theorem dX9_passed_21 : decode cX9_passed 21 = .ok (.iload 4, 2) := by decide +kernel
theorem dX9_passed_23 : decode cX9_passed 23 = .ok (.invokestatic 143, 3) := by decide +kernel
theorem dX9_passed_26 : decode cX9_passed 26 = .ok (.ifCond .eq 32, 3) := by decide +kernel
theorem dX9_passed_29 : decode cX9_passed 29 = .ok (.iload 6, 2) := by decide +kernel
theorem dX9_passed_31 : decode cX9_passed 31 = .ok (.i2l, 1) := by decide +kernel
theorem dX9_passed_32 : decode cX9_passed 32 = .ok (.lconst 1, 1) := by decide +kernel
theorem dX9_passed_33 : decode cX9_passed 33 = .ok (.ldc2_w 80, 3) := by decide +kernel
theorem dX9_passed_36 : decode cX9_passed 36 = .ok (.invokestatic 52, 3) := by decide +kernel
theorem dX9_passed_39 : decode cX9_passed 39 = .ok (.ifCond .eq 19, 3) := by decide +kernel
theorem dX9_passed_42 : decode cX9_passed 42 = .ok (.iload 7, 2) := by decide +kernel
theorem dX9_passed_44 : decode cX9_passed 44 = .ok (.i2l, 1) := by decide +kernel
theorem dX9_passed_45 : decode cX9_passed 45 = .ok (.ldc2_w 117, 3) := by decide +kernel
theorem dX9_passed_48 : decode cX9_passed 48 = .ok (.iload_n 2, 1) := by decide +kernel
theorem dX9_passed_49 : decode cX9_passed 49 = .ok (.iconst 1, 1) := by decide +kernel
theorem dX9_passed_50 : decode cX9_passed 50 = .ok (.isub, 1) := by decide +kernel
theorem dX9_passed_51 : decode cX9_passed 51 = .ok (.i2l, 1) := by decide +kernel
theorem dX9_passed_52 : decode cX9_passed 52 = .ok (.invokestatic 52, 3) := by decide +kernel
theorem dX9_passed_55 : decode cX9_passed 55 = .ok (.ifCond .ne 5, 3) := by decide +kernel
theorem dX9_passed_58 : decode cX9_passed 58 = .ok (.iconst (-1), 1) := by decide +kernel
theorem dX9_passed_59 : decode cX9_passed 59 = .ok (.ireturn, 1) := by decide +kernel
theorem dX9_passed_60 : decode cX9_passed 60 = .ok (.aload_n 0, 1) := by decide +kernel
theorem dX9_passed_61 : decode cX9_passed 61 = .ok (.iload_n 3, 1) := by decide +kernel
theorem dX9_passed_62 : decode cX9_passed 62 = .ok (.iload 4, 2) := by decide +kernel
theorem dX9_passed_64 : decode cX9_passed 64 = .ok (.iload 5, 2) := by decide +kernel
theorem dX9_passed_66 : decode cX9_passed 66 = .ok (.iload 6, 2) := by decide +kernel
theorem dX9_passed_68 : decode cX9_passed 68 = .ok (.bipush 9, 2) := by decide +kernel
theorem dX9_passed_70 : decode cX9_passed 70 = .ok (.invokevirtual 148, 3) := by decide +kernel
theorem dX9_passed_73 : decode cX9_passed 73 = .ok (.istore 8, 2) := by decide +kernel
theorem dX9_passed_75 : decode cX9_passed 75 = .ok (.iload 8, 2) := by decide +kernel
theorem dX9_passed_77 : decode cX9_passed 77 = .ok (.ifCond .ge 6, 3) := by decide +kernel
theorem dX9_passed_80 : decode cX9_passed 80 = .ok (.iload 8, 2) := by decide +kernel
theorem dX9_passed_82 : decode cX9_passed 82 = .ok (.ireturn, 1) := by decide +kernel
theorem dX9_passed_83 : decode cX9_passed 83 = .ok (.aload_n 0, 1) := by decide +kernel
theorem dX9_passed_84 : decode cX9_passed 84 = .ok (.getfield 7, 3) := by decide +kernel
theorem dX9_passed_87 : decode cX9_passed 87 = .ok (.iconst 1, 1) := by decide +kernel
theorem dX9_passed_88 : decode cX9_passed 88 = .ok (.iaload, 1) := by decide +kernel
theorem dX9_passed_89 : decode cX9_passed 89 = .ok (.istore 9, 2) := by decide +kernel
theorem dX9_passed_91 : decode cX9_passed 91 = .ok (.iload_n 2, 1) := by decide +kernel
theorem dX9_passed_92 : decode cX9_passed 92 = .ok (.iconst 1, 1) := by decide +kernel
theorem dX9_passed_93 : decode cX9_passed 93 = .ok (.if_icmp .ne 8, 3) := by decide +kernel
theorem dX9_passed_96 : decode cX9_passed 96 = .ok (.iload 9, 2) := by decide +kernel
theorem dX9_passed_98 : decode cX9_passed 98 = .ok (.goto 24, 3) := by decide +kernel
theorem dX9_passed_101 : decode cX9_passed 101 = .ok (.iload_n 2, 1) := by decide +kernel
theorem dX9_passed_102 : decode cX9_passed 102 = .ok (.iconst 2, 1) := by decide +kernel
theorem dX9_passed_103 : decode cX9_passed 103 = .ok (.if_icmp .ne 11, 3) := by decide +kernel
theorem dX9_passed_106 : decode cX9_passed 106 = .ok (.iload 9, 2) := by decide +kernel
theorem dX9_passed_108 : decode cX9_passed 108 = .ok (.iload 9, 2) := by decide +kernel
theorem dX9_passed_110 : decode cX9_passed 110 = .ok (.imul, 1) := by decide +kernel
theorem dX9_passed_111 : decode cX9_passed 111 = .ok (.goto 11, 3) := by decide +kernel
theorem dX9_passed_114 : decode cX9_passed 114 = .ok (.iload 9, 2) := by decide +kernel
theorem dX9_passed_116 : decode cX9_passed 116 = .ok (.iload 9, 2) := by decide +kernel
theorem dX9_passed_118 : decode cX9_passed 118 = .ok (.imul, 1) := by decide +kernel
theorem dX9_passed_119 : decode cX9_passed 119 = .ok (.iload 9, 2) := by decide +kernel
theorem dX9_passed_121 : decode cX9_passed 121 = .ok (.imul, 1) := by decide +kernel
theorem dX9_passed_122 : decode cX9_passed 122 = .ok (.istore 10, 2) := by decide +kernel
theorem dX9_passed_124 : decode cX9_passed 124 = .ok (.iconst 0, 1) := by decide +kernel
theorem dX9_passed_125 : decode cX9_passed 125 = .ok (.istore 11, 2) := by decide +kernel
theorem dX9_passed_127 : decode cX9_passed 127 = .ok (.bipush (-4), 2) := by decide +kernel
theorem dX9_passed_129 : decode cX9_passed 129 = .ok (.istore 12, 2) := by decide +kernel
theorem dX9_passed_131 : decode cX9_passed 131 = .ok (.iconst 0, 1) := by decide +kernel
theorem dX9_passed_132 : decode cX9_passed 132 = .ok (.istore 13, 2) := by decide +kernel
theorem dX9_passed_134 : decode cX9_passed 134 = .ok (.iload 13, 2) := by decide +kernel
theorem dX9_passed_136 : decode cX9_passed 136 = .ok (.iload 10, 2) := by decide +kernel
theorem dX9_passed_138 : decode cX9_passed 138 = .ok (.if_icmp .ge 62, 3) := by decide +kernel
theorem dX9_passed_141 : decode cX9_passed 141 = .ok (.iload 6, 2) := by decide +kernel
theorem dX9_passed_143 : decode cX9_passed 143 = .ok (.aload_n 0, 1) := by decide +kernel
theorem dX9_passed_144 : decode cX9_passed 144 = .ok (.getfield 7, 3) := by decide +kernel
theorem dX9_passed_147 : decode cX9_passed 147 = .ok (.bipush 81, 2) := by decide +kernel
theorem dX9_passed_149 : decode cX9_passed 149 = .ok (.iload_n 1, 1) := by decide +kernel
theorem dX9_passed_150 : decode cX9_passed 150 = .ok (.iadd, 1) := by decide +kernel
theorem dX9_passed_151 : decode cX9_passed 151 = .ok (.iaload, 1) := by decide +kernel
theorem dX9_passed_152 : decode cX9_passed 152 = .ok (.if_icmp .ne 48, 3) := by decide +kernel
theorem dX9_passed_155 : decode cX9_passed 155 = .ok (.aload_n 0, 1) := by decide +kernel
theorem dX9_passed_156 : decode cX9_passed 156 = .ok (.iload_n 1, 1) := by decide +kernel
theorem dX9_passed_157 : decode cX9_passed 157 = .ok (.iload 13, 2) := by decide +kernel
theorem dX9_passed_159 : decode cX9_passed 159 = .ok (.iload_n 2, 1) := by decide +kernel
theorem dX9_passed_160 : decode cX9_passed 160 = .ok (.bipush 24, 2) := by decide +kernel
theorem dX9_passed_162 : decode cX9_passed 162 = .ok (.iload_n 3, 1) := by decide +kernel
theorem dX9_passed_163 : decode cX9_passed 163 = .ok (.imul, 1) := by decide +kernel
theorem dX9_passed_164 : decode cX9_passed 164 = .ok (.iload 5, 2) := by decide +kernel
theorem dX9_passed_166 : decode cX9_passed 166 = .ok (.iadd, 1) := by decide +kernel
theorem dX9_passed_167 : decode cX9_passed 167 = .ok (.iload 6, 2) := by decide +kernel
theorem dX9_passed_169 : decode cX9_passed 169 = .ok (.invokevirtual 166, 3) := by decide +kernel
theorem dX9_passed_172 : decode cX9_passed 172 = .ok (.ifCond .eq 22, 3) := by decide +kernel
theorem dX9_passed_175 : decode cX9_passed 175 = .ok (.iinc 11 1, 3) := by decide +kernel
theorem dX9_passed_178 : decode cX9_passed 178 = .ok (.iload 12, 2) := by decide +kernel
theorem dX9_passed_180 : decode cX9_passed 180 = .ok (.bipush (-4), 2) := by decide +kernel
theorem dX9_passed_182 : decode cX9_passed 182 = .ok (.if_icmp .ne 8, 3) := by decide +kernel
theorem dX9_passed_185 : decode cX9_passed 185 = .ok (.iload 13, 2) := by decide +kernel
theorem dX9_passed_187 : decode cX9_passed 187 = .ok (.goto 5, 3) := by decide +kernel
theorem dX9_passed_190 : decode cX9_passed 190 = .ok (.iload 12, 2) := by decide +kernel
theorem dX9_passed_192 : decode cX9_passed 192 = .ok (.istore 12, 2) := by decide +kernel
theorem dX9_passed_194 : decode cX9_passed 194 = .ok (.iinc 13 1, 3) := by decide +kernel
theorem dX9_passed_197 : decode cX9_passed 197 = .ok (.goto (-63), 3) := by decide +kernel
theorem dX9_passed_200 : decode cX9_passed 200 = .ok (.iload 7, 2) := by decide +kernel
theorem dX9_passed_202 : decode cX9_passed 202 = .ok (.ifCond .lt 10, 3) := by decide +kernel
theorem dX9_passed_205 : decode cX9_passed 205 = .ok (.iload 12, 2) := by decide +kernel
theorem dX9_passed_207 : decode cX9_passed 207 = .ok (.bipush (-4), 2) := by decide +kernel
theorem dX9_passed_209 : decode cX9_passed 209 = .ok (.if_icmp .ne 16, 3) := by decide +kernel
theorem dX9_passed_212 : decode cX9_passed 212 = .ok (.iload 7, 2) := by decide +kernel
theorem dX9_passed_214 : decode cX9_passed 214 = .ok (.ifCond .ge 8, 3) := by decide +kernel
theorem dX9_passed_217 : decode cX9_passed 217 = .ok (.iload 11, 2) := by decide +kernel
theorem dX9_passed_219 : decode cX9_passed 219 = .ok (.goto 5, 3) := by decide +kernel
theorem dX9_passed_222 : decode cX9_passed 222 = .ok (.bipush (-4), 2) := by decide +kernel
theorem dX9_passed_224 : decode cX9_passed 224 = .ok (.ireturn, 1) := by decide +kernel
theorem dX9_passed_225 : decode cX9_passed 225 = .ok (.iload 7, 2) := by decide +kernel
theorem dX9_passed_227 : decode cX9_passed 227 = .ok (.iconst 1, 1) := by decide +kernel
theorem dX9_passed_228 : decode cX9_passed 228 = .ok (.iadd, 1) := by decide +kernel
theorem dX9_passed_229 : decode cX9_passed 229 = .ok (.istore 13, 2) := by decide +kernel
theorem dX9_passed_231 : decode cX9_passed 231 = .ok (.iload 13, 2) := by decide +kernel
theorem dX9_passed_233 : decode cX9_passed 233 = .ok (.iload_n 2, 1) := by decide +kernel
theorem dX9_passed_234 : decode cX9_passed 234 = .ok (.if_icmp .ge 16, 3) := by decide +kernel
theorem dX9_passed_237 : decode cX9_passed 237 = .ok (.iload 12, 2) := by decide +kernel
theorem dX9_passed_239 : decode cX9_passed 239 = .ok (.iload 9, 2) := by decide +kernel
theorem dX9_passed_241 : decode cX9_passed 241 = .ok (.idiv, 1) := by decide +kernel
theorem dX9_passed_242 : decode cX9_passed 242 = .ok (.istore 12, 2) := by decide +kernel
theorem dX9_passed_244 : decode cX9_passed 244 = .ok (.iinc 13 1, 3) := by decide +kernel
theorem dX9_passed_247 : decode cX9_passed 247 = .ok (.goto (-16), 3) := by decide +kernel
theorem dX9_passed_250 : decode cX9_passed 250 = .ok (.iload 12, 2) := by decide +kernel
theorem dX9_passed_252 : decode cX9_passed 252 = .ok (.iload 9, 2) := by decide +kernel
theorem dX9_passed_254 : decode cX9_passed 254 = .ok (.irem, 1) := by decide +kernel
theorem dX9_passed_255 : decode cX9_passed 255 = .ok (.ireturn, 1) := by decide +kernel
theorem dX9_sheet_0 : decode cX9_sheet 0 = .ok (.iload_n 1, 1) := by decide +kernel
theorem dX9_sheet_1 : decode cX9_sheet 1 = .ok (.iload_n 2, 1) := by decide +kernel
theorem dX9_sheet_2 : decode cX9_sheet 2 = .ok (.invokestatic 143, 3) := by decide +kernel
theorem dX9_sheet_5 : decode cX9_sheet 5 = .ok (.ifCond .eq 9, 3) := by decide +kernel
theorem dX9_sheet_8 : decode cX9_sheet 8 = .ok (.iload_n 3, 1) := by decide +kernel
theorem dX9_sheet_9 : decode cX9_sheet 9 = .ok (.bipush 24, 2) := by decide +kernel
theorem dX9_sheet_11 : decode cX9_sheet 11 = .ok (.if_icmp .le 5, 3) := by decide +kernel
theorem dX9_sheet_14 : decode cX9_sheet 14 = .ok (.iconst (-1), 1) := by decide +kernel
theorem dX9_sheet_15 : decode cX9_sheet 15 = .ok (.ireturn, 1) := by decide +kernel
theorem dX9_sheet_16 : decode cX9_sheet 16 = .ok (.iload_n 3, 1) := by decide +kernel
theorem dX9_sheet_17 : decode cX9_sheet 17 = .ok (.ifCond .ge 6, 3) := by decide +kernel
theorem dX9_sheet_20 : decode cX9_sheet 20 = .ok (.bipush (-14), 2) := by decide +kernel
theorem dX9_sheet_22 : decode cX9_sheet 22 = .ok (.ireturn, 1) := by decide +kernel
theorem dX9_sheet_23 : decode cX9_sheet 23 = .ok (.aload_n 0, 1) := by decide +kernel
theorem dX9_sheet_24 : decode cX9_sheet 24 = .ok (.getfield 19, 3) := by decide +kernel
theorem dX9_sheet_27 : decode cX9_sheet 27 = .ok (.iload_n 1, 1) := by decide +kernel
theorem dX9_sheet_28 : decode cX9_sheet 28 = .ok (.iload_n 3, 1) := by decide +kernel
theorem dX9_sheet_29 : decode cX9_sheet 29 = .ok (.iastore, 1) := by decide +kernel
theorem dX9_sheet_30 : decode cX9_sheet 30 = .ok (.aload_n 0, 1) := by decide +kernel
theorem dX9_sheet_31 : decode cX9_sheet 31 = .ok (.getfield 22, 3) := by decide +kernel
theorem dX9_sheet_34 : decode cX9_sheet 34 = .ok (.iload_n 1, 1) := by decide +kernel
theorem dX9_sheet_35 : decode cX9_sheet 35 = .ok (.iload_n 2, 1) := by decide +kernel
theorem dX9_sheet_36 : decode cX9_sheet 36 = .ok (.iastore, 1) := by decide +kernel
theorem dX9_sheet_37 : decode cX9_sheet 37 = .ok (.iconst 0, 1) := by decide +kernel
theorem dX9_sheet_38 : decode cX9_sheet 38 = .ok (.istore 4, 2) := by decide +kernel
theorem dX9_sheet_40 : decode cX9_sheet 40 = .ok (.iload 4, 2) := by decide +kernel
theorem dX9_sheet_42 : decode cX9_sheet 42 = .ok (.bipush 24, 2) := by decide +kernel
theorem dX9_sheet_44 : decode cX9_sheet 44 = .ok (.if_icmp .ge 22, 3) := by decide +kernel
theorem dX9_sheet_47 : decode cX9_sheet 47 = .ok (.aload_n 0, 1) := by decide +kernel
theorem dX9_sheet_48 : decode cX9_sheet 48 = .ok (.getfield 25, 3) := by decide +kernel
theorem dX9_sheet_51 : decode cX9_sheet 51 = .ok (.bipush 24, 2) := by decide +kernel
theorem dX9_sheet_53 : decode cX9_sheet 53 = .ok (.iload_n 1, 1) := by decide +kernel
theorem dX9_sheet_54 : decode cX9_sheet 54 = .ok (.imul, 1) := by decide +kernel
theorem dX9_sheet_55 : decode cX9_sheet 55 = .ok (.iload 4, 2) := by decide +kernel
theorem dX9_sheet_57 : decode cX9_sheet 57 = .ok (.iadd, 1) := by decide +kernel
theorem dX9_sheet_58 : decode cX9_sheet 58 = .ok (.iconst 0, 1) := by decide +kernel
theorem dX9_sheet_59 : decode cX9_sheet 59 = .ok (.iastore, 1) := by decide +kernel
theorem dX9_sheet_60 : decode cX9_sheet 60 = .ok (.iinc 4 1, 3) := by decide +kernel
theorem dX9_sheet_63 : decode cX9_sheet 63 = .ok (.goto (-23), 3) := by decide +kernel
theorem dX9_sheet_66 : decode cX9_sheet 66 = .ok (.iload_n 3, 1) := by decide +kernel
theorem dX9_sheet_67 : decode cX9_sheet 67 = .ok (.ireturn, 1) := by decide +kernel
theorem dX9_drop_0 : decode cX9_drop 0 = .ok (.iload_n 1, 1) := by decide +kernel
theorem dX9_drop_1 : decode cX9_drop 1 = .ok (.i2l, 1) := by decide +kernel
theorem dX9_drop_2 : decode cX9_drop 2 = .ok (.lconst 0, 1) := by decide +kernel
theorem dX9_drop_3 : decode cX9_drop 3 = .ok (.ldc2_w 82, 3) := by decide +kernel
theorem dX9_drop_6 : decode cX9_drop 6 = .ok (.invokestatic 52, 3) := by decide +kernel
theorem dX9_drop_9 : decode cX9_drop 9 = .ok (.ifCond .ne 5, 3) := by decide +kernel
theorem dX9_drop_12 : decode cX9_drop 12 = .ok (.iconst (-1), 1) := by decide +kernel
theorem dX9_drop_13 : decode cX9_drop 13 = .ok (.ireturn, 1) := by decide +kernel
theorem dX9_drop_14 : decode cX9_drop 14 = .ok (.aload_n 0, 1) := by decide +kernel
theorem dX9_drop_15 : decode cX9_drop 15 = .ok (.getfield 19, 3) := by decide +kernel
theorem dX9_drop_18 : decode cX9_drop 18 = .ok (.iload_n 1, 1) := by decide +kernel
theorem dX9_drop_19 : decode cX9_drop 19 = .ok (.iaload, 1) := by decide +kernel
theorem dX9_drop_20 : decode cX9_drop 20 = .ok (.ifCond .ge 6, 3) := by decide +kernel
theorem dX9_drop_23 : decode cX9_drop 23 = .ok (.bipush (-11), 2) := by decide +kernel
theorem dX9_drop_25 : decode cX9_drop 25 = .ok (.ireturn, 1) := by decide +kernel
theorem dX9_drop_26 : decode cX9_drop 26 = .ok (.aload_n 0, 1) := by decide +kernel
theorem dX9_drop_27 : decode cX9_drop 27 = .ok (.getfield 19, 3) := by decide +kernel
theorem dX9_drop_30 : decode cX9_drop 30 = .ok (.iload_n 1, 1) := by decide +kernel
theorem dX9_drop_31 : decode cX9_drop 31 = .ok (.iaload, 1) := by decide +kernel
theorem dX9_drop_32 : decode cX9_drop 32 = .ok (.istore_n 2, 1) := by decide +kernel
theorem dX9_drop_33 : decode cX9_drop 33 = .ok (.aload_n 0, 1) := by decide +kernel
theorem dX9_drop_34 : decode cX9_drop 34 = .ok (.getfield 19, 3) := by decide +kernel
theorem dX9_drop_37 : decode cX9_drop 37 = .ok (.iload_n 1, 1) := by decide +kernel
theorem dX9_drop_38 : decode cX9_drop 38 = .ok (.iconst (-1), 1) := by decide +kernel
theorem dX9_drop_39 : decode cX9_drop 39 = .ok (.iastore, 1) := by decide +kernel
theorem dX9_drop_40 : decode cX9_drop 40 = .ok (.iload_n 2, 1) := by decide +kernel
theorem dX9_drop_41 : decode cX9_drop 41 = .ok (.ireturn, 1) := by decide +kernel
theorem dX9_item_0 : decode cX9_item 0 = .ok (.iload_n 1, 1) := by decide +kernel
theorem dX9_item_1 : decode cX9_item 1 = .ok (.iload_n 2, 1) := by decide +kernel
theorem dX9_item_2 : decode cX9_item 2 = .ok (.invokestatic 143, 3) := by decide +kernel
theorem dX9_item_5 : decode cX9_item 5 = .ok (.ifCond .ne 5, 3) := by decide +kernel
theorem dX9_item_8 : decode cX9_item 8 = .ok (.iconst (-1), 1) := by decide +kernel
theorem dX9_item_9 : decode cX9_item 9 = .ok (.ireturn, 1) := by decide +kernel
theorem dX9_item_10 : decode cX9_item 10 = .ok (.aload_n 0, 1) := by decide +kernel
theorem dX9_item_11 : decode cX9_item 11 = .ok (.iload_n 1, 1) := by decide +kernel
theorem dX9_item_12 : decode cX9_item 12 = .ok (.iload_n 2, 1) := by decide +kernel
theorem dX9_item_13 : decode cX9_item 13 = .ok (.iload_n 3, 1) := by decide +kernel
theorem dX9_item_14 : decode cX9_item 14 = .ok (.iconst 1, 1) := by decide +kernel
theorem dX9_item_15 : decode cX9_item 15 = .ok (.invokevirtual 133, 3) := by decide +kernel
theorem dX9_item_18 : decode cX9_item 18 = .ok (.istore 6, 2) := by decide +kernel
theorem dX9_item_20 : decode cX9_item 20 = .ok (.iload 6, 2) := by decide +kernel
theorem dX9_item_22 : decode cX9_item 22 = .ok (.ifCond .ge 6, 3) := by decide +kernel
theorem dX9_item_25 : decode cX9_item 25 = .ok (.iload 6, 2) := by decide +kernel
theorem dX9_item_27 : decode cX9_item 27 = .ok (.ireturn, 1) := by decide +kernel
theorem dX9_item_28 : decode cX9_item 28 = .ok (.aload_n 0, 1) := by decide +kernel
theorem dX9_item_29 : decode cX9_item 29 = .ok (.getfield 25, 3) := by decide +kernel
theorem dX9_item_32 : decode cX9_item 32 = .ok (.bipush 24, 2) := by decide +kernel
theorem dX9_item_34 : decode cX9_item 34 = .ok (.iload_n 1, 1) := by decide +kernel
theorem dX9_item_35 : decode cX9_item 35 = .ok (.imul, 1) := by decide +kernel
theorem dX9_item_36 : decode cX9_item 36 = .ok (.iload_n 3, 1) := by decide +kernel
theorem dX9_item_37 : decode cX9_item 37 = .ok (.iadd, 1) := by decide +kernel
theorem dX9_item_38 : decode cX9_item 38 = .ok (.iload_n 2, 1) := by decide +kernel
theorem dX9_item_39 : decode cX9_item 39 = .ok (.ifCond .ne 10, 3) := by decide +kernel
theorem dX9_item_42 : decode cX9_item 42 = .ok (.lload 4, 2) := by decide +kernel
theorem dX9_item_44 : decode cX9_item 44 = .ok (.l2i, 1) := by decide +kernel
theorem dX9_item_45 : decode cX9_item 45 = .ok (.i2b, 1) := by decide +kernel
theorem dX9_item_46 : decode cX9_item 46 = .ok (.goto 18, 3) := by decide +kernel
theorem dX9_item_49 : decode cX9_item 49 = .ok (.iload_n 2, 1) := by decide +kernel
theorem dX9_item_50 : decode cX9_item 50 = .ok (.iconst 1, 1) := by decide +kernel
theorem dX9_item_51 : decode cX9_item 51 = .ok (.if_icmp .ne 10, 3) := by decide +kernel
theorem dX9_item_54 : decode cX9_item 54 = .ok (.lload 4, 2) := by decide +kernel
theorem dX9_item_56 : decode cX9_item 56 = .ok (.l2i, 1) := by decide +kernel
theorem dX9_item_57 : decode cX9_item 57 = .ok (.i2s, 1) := by decide +kernel
theorem dX9_item_58 : decode cX9_item 58 = .ok (.goto 6, 3) := by decide +kernel
theorem dX9_item_61 : decode cX9_item 61 = .ok (.lload 4, 2) := by decide +kernel
theorem dX9_item_63 : decode cX9_item 63 = .ok (.l2i, 1) := by decide +kernel
theorem dX9_item_64 : decode cX9_item 64 = .ok (.iastore, 1) := by decide +kernel
theorem dX9_item_65 : decode cX9_item 65 = .ok (.iconst 1, 1) := by decide +kernel
theorem dX9_item_66 : decode cX9_item 66 = .ok (.ireturn, 1) := by decide +kernel
theorem dX9_copy_0 : decode cX9_copy 0 = .ok (.iload_n 1, 1) := by decide +kernel
theorem dX9_copy_1 : decode cX9_copy 1 = .ok (.i2l, 1) := by decide +kernel
theorem dX9_copy_2 : decode cX9_copy 2 = .ok (.lconst 0, 1) := by decide +kernel
theorem dX9_copy_3 : decode cX9_copy 3 = .ok (.ldc2_w 82, 3) := by decide +kernel
theorem dX9_copy_6 : decode cX9_copy 6 = .ok (.invokestatic 52, 3) := by decide +kernel
theorem dX9_copy_9 : decode cX9_copy 9 = .ok (.ifCond .eq 15, 3) := by decide +kernel
theorem dX9_copy_12 : decode cX9_copy 12 = .ok (.iload_n 3, 1) := by decide +kernel
theorem dX9_copy_13 : decode cX9_copy 13 = .ok (.i2l, 1) := by decide +kernel
theorem dX9_copy_14 : decode cX9_copy 14 = .ok (.lconst 0, 1) := by decide +kernel
theorem dX9_copy_15 : decode cX9_copy 15 = .ok (.ldc2_w 82, 3) := by decide +kernel
theorem dX9_copy_18 : decode cX9_copy 18 = .ok (.invokestatic 52, 3) := by decide +kernel
theorem dX9_copy_21 : decode cX9_copy 21 = .ok (.ifCond .ne 5, 3) := by decide +kernel
theorem dX9_copy_24 : decode cX9_copy 24 = .ok (.iconst (-1), 1) := by decide +kernel
theorem dX9_copy_25 : decode cX9_copy 25 = .ok (.ireturn, 1) := by decide +kernel
theorem dX9_copy_26 : decode cX9_copy 26 = .ok (.aload_n 0, 1) := by decide +kernel
theorem dX9_copy_27 : decode cX9_copy 27 = .ok (.getfield 19, 3) := by decide +kernel
theorem dX9_copy_30 : decode cX9_copy 30 = .ok (.iload_n 1, 1) := by decide +kernel
theorem dX9_copy_31 : decode cX9_copy 31 = .ok (.iaload, 1) := by decide +kernel
theorem dX9_copy_32 : decode cX9_copy 32 = .ok (.ifCond .lt 12, 3) := by decide +kernel
theorem dX9_copy_35 : decode cX9_copy 35 = .ok (.aload_n 0, 1) := by decide +kernel
theorem dX9_copy_36 : decode cX9_copy 36 = .ok (.getfield 19, 3) := by decide +kernel
theorem dX9_copy_39 : decode cX9_copy 39 = .ok (.iload_n 3, 1) := by decide +kernel
theorem dX9_copy_40 : decode cX9_copy 40 = .ok (.iaload, 1) := by decide +kernel
theorem dX9_copy_41 : decode cX9_copy 41 = .ok (.ifCond .ge 6, 3) := by decide +kernel
theorem dX9_copy_44 : decode cX9_copy 44 = .ok (.bipush (-11), 2) := by decide +kernel
theorem dX9_copy_46 : decode cX9_copy 46 = .ok (.ireturn, 1) := by decide +kernel
theorem dX9_copy_47 : decode cX9_copy 47 = .ok (.aload_n 0, 1) := by decide +kernel
theorem dX9_copy_48 : decode cX9_copy 48 = .ok (.getfield 22, 3) := by decide +kernel
theorem dX9_copy_51 : decode cX9_copy 51 = .ok (.iload_n 1, 1) := by decide +kernel
theorem dX9_copy_52 : decode cX9_copy 52 = .ok (.iaload, 1) := by decide +kernel
theorem dX9_copy_53 : decode cX9_copy 53 = .ok (.aload_n 0, 1) := by decide +kernel
theorem dX9_copy_54 : decode cX9_copy 54 = .ok (.getfield 22, 3) := by decide +kernel
theorem dX9_copy_57 : decode cX9_copy 57 = .ok (.iload_n 3, 1) := by decide +kernel
theorem dX9_copy_58 : decode cX9_copy 58 = .ok (.iaload, 1) := by decide +kernel
theorem dX9_copy_59 : decode cX9_copy 59 = .ok (.if_icmp .eq 6, 3) := by decide +kernel
theorem dX9_copy_62 : decode cX9_copy 62 = .ok (.bipush (-12), 2) := by decide +kernel
theorem dX9_copy_64 : decode cX9_copy 64 = .ok (.ireturn, 1) := by decide +kernel
theorem dX9_copy_65 : decode cX9_copy 65 = .ok (.iload 5, 2) := by decide +kernel
theorem dX9_copy_67 : decode cX9_copy 67 = .ok (.ifCond .lt 38, 3) := by decide +kernel
theorem dX9_copy_70 : decode cX9_copy 70 = .ok (.aload_n 0, 1) := by decide +kernel
theorem dX9_copy_71 : decode cX9_copy 71 = .ok (.iload_n 1, 1) := by decide +kernel
theorem dX9_copy_72 : decode cX9_copy 72 = .ok (.aload_n 0, 1) := by decide +kernel
theorem dX9_copy_73 : decode cX9_copy 73 = .ok (.getfield 22, 3) := by decide +kernel
theorem dX9_copy_76 : decode cX9_copy 76 = .ok (.iload_n 1, 1) := by decide +kernel
theorem dX9_copy_77 : decode cX9_copy 77 = .ok (.iaload, 1) := by decide +kernel
theorem dX9_copy_78 : decode cX9_copy 78 = .ok (.iload_n 2, 1) := by decide +kernel
theorem dX9_copy_79 : decode cX9_copy 79 = .ok (.iload 5, 2) := by decide +kernel
theorem dX9_copy_81 : decode cX9_copy 81 = .ok (.invokevirtual 133, 3) := by decide +kernel
theorem dX9_copy_84 : decode cX9_copy 84 = .ok (.ifCond .lt 21, 3) := by decide +kernel
theorem dX9_copy_87 : decode cX9_copy 87 = .ok (.aload_n 0, 1) := by decide +kernel
theorem dX9_copy_88 : decode cX9_copy 88 = .ok (.iload_n 3, 1) := by decide +kernel
theorem dX9_copy_89 : decode cX9_copy 89 = .ok (.aload_n 0, 1) := by decide +kernel
theorem dX9_copy_90 : decode cX9_copy 90 = .ok (.getfield 22, 3) := by decide +kernel
theorem dX9_copy_93 : decode cX9_copy 93 = .ok (.iload_n 3, 1) := by decide +kernel
theorem dX9_copy_94 : decode cX9_copy 94 = .ok (.iaload, 1) := by decide +kernel
theorem dX9_copy_95 : decode cX9_copy 95 = .ok (.iload 4, 2) := by decide +kernel
theorem dX9_copy_97 : decode cX9_copy 97 = .ok (.iload 5, 2) := by decide +kernel
theorem dX9_copy_99 : decode cX9_copy 99 = .ok (.invokevirtual 133, 3) := by decide +kernel
theorem dX9_copy_102 : decode cX9_copy 102 = .ok (.ifCond .ge 6, 3) := by decide +kernel
theorem dX9_copy_105 : decode cX9_copy 105 = .ok (.bipush (-13), 2) := by decide +kernel
theorem dX9_copy_107 : decode cX9_copy 107 = .ok (.ireturn, 1) := by decide +kernel
theorem dX9_copy_108 : decode cX9_copy 108 = .ok (.iconst 0, 1) := by decide +kernel
theorem dX9_copy_109 : decode cX9_copy 109 = .ok (.istore 6, 2) := by decide +kernel
theorem dX9_copy_111 : decode cX9_copy 111 = .ok (.iload 6, 2) := by decide +kernel
theorem dX9_copy_113 : decode cX9_copy 113 = .ok (.iload 5, 2) := by decide +kernel
theorem dX9_copy_115 : decode cX9_copy 115 = .ok (.if_icmp .ge 58, 3) := by decide +kernel
theorem dX9_copy_118 : decode cX9_copy 118 = .ok (.iload 4, 2) := by decide +kernel
theorem dX9_copy_120 : decode cX9_copy 120 = .ok (.iload_n 2, 1) := by decide +kernel
theorem dX9_copy_121 : decode cX9_copy 121 = .ok (.if_icmp .le 13, 3) := by decide +kernel
theorem dX9_copy_124 : decode cX9_copy 124 = .ok (.iload 5, 2) := by decide +kernel
theorem dX9_copy_126 : decode cX9_copy 126 = .ok (.iconst 1, 1) := by decide +kernel
theorem dX9_copy_127 : decode cX9_copy 127 = .ok (.isub, 1) := by decide +kernel
theorem dX9_copy_128 : decode cX9_copy 128 = .ok (.iload 6, 2) := by decide +kernel
theorem dX9_copy_130 : decode cX9_copy 130 = .ok (.isub, 1) := by decide +kernel
theorem dX9_copy_131 : decode cX9_copy 131 = .ok (.goto 5, 3) := by decide +kernel
theorem dX9_copy_134 : decode cX9_copy 134 = .ok (.iload 6, 2) := by decide +kernel
theorem dX9_copy_136 : decode cX9_copy 136 = .ok (.istore 7, 2) := by decide +kernel
theorem dX9_copy_138 : decode cX9_copy 138 = .ok (.aload_n 0, 1) := by decide +kernel
theorem dX9_copy_139 : decode cX9_copy 139 = .ok (.getfield 25, 3) := by decide +kernel
theorem dX9_copy_142 : decode cX9_copy 142 = .ok (.bipush 24, 2) := by decide +kernel
theorem dX9_copy_144 : decode cX9_copy 144 = .ok (.iload_n 3, 1) := by decide +kernel
theorem dX9_copy_145 : decode cX9_copy 145 = .ok (.imul, 1) := by decide +kernel
theorem dX9_copy_146 : decode cX9_copy 146 = .ok (.iload 4, 2) := by decide +kernel
theorem dX9_copy_148 : decode cX9_copy 148 = .ok (.iadd, 1) := by decide +kernel
theorem dX9_copy_149 : decode cX9_copy 149 = .ok (.iload 7, 2) := by decide +kernel
theorem dX9_copy_151 : decode cX9_copy 151 = .ok (.iadd, 1) := by decide +kernel
theorem dX9_copy_152 : decode cX9_copy 152 = .ok (.aload_n 0, 1) := by decide +kernel
theorem dX9_copy_153 : decode cX9_copy 153 = .ok (.getfield 25, 3) := by decide +kernel
theorem dX9_copy_156 : decode cX9_copy 156 = .ok (.bipush 24, 2) := by decide +kernel
theorem dX9_copy_158 : decode cX9_copy 158 = .ok (.iload_n 1, 1) := by decide +kernel
theorem dX9_copy_159 : decode cX9_copy 159 = .ok (.imul, 1) := by decide +kernel
theorem dX9_copy_160 : decode cX9_copy 160 = .ok (.iload_n 2, 1) := by decide +kernel
theorem dX9_copy_161 : decode cX9_copy 161 = .ok (.iadd, 1) := by decide +kernel
theorem dX9_copy_162 : decode cX9_copy 162 = .ok (.iload 7, 2) := by decide +kernel
theorem dX9_copy_164 : decode cX9_copy 164 = .ok (.iadd, 1) := by decide +kernel
theorem dX9_copy_165 : decode cX9_copy 165 = .ok (.iaload, 1) := by decide +kernel
theorem dX9_copy_166 : decode cX9_copy 166 = .ok (.iastore, 1) := by decide +kernel
theorem dX9_copy_167 : decode cX9_copy 167 = .ok (.iinc 6 1, 3) := by decide +kernel
theorem dX9_copy_170 : decode cX9_copy 170 = .ok (.goto (-59), 3) := by decide +kernel
theorem dX9_copy_173 : decode cX9_copy 173 = .ok (.iload 5, 2) := by decide +kernel
theorem dX9_copy_175 : decode cX9_copy 175 = .ok (.ireturn, 1) := by decide +kernel
