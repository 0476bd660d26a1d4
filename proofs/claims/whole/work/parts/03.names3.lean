theorem dX12_corner_120 : decode cX12_corner 120 = .ok (.ldc2_w 106, 3) := by decide +kernel
theorem dX12_corner_123 : decode cX12_corner 123 = .ok (.invokevirtual 93, 3) := by decide +kernel
theorem dX12_corner_126 : decode cX12_corner 126 = .ok (.lreturn, 1) := by decide +kernel
theorem dX12_corner_127 : decode cX12_corner 127 = .ok (.iload 4, 2) := by decide +kernel
theorem dX12_corner_129 : decode cX12_corner 129 = .ok (.iconst 3, 1) := by decide +kernel
theorem dX12_corner_130 : decode cX12_corner 130 = .ok (.if_icmp .ne 11, 3) := by decide +kernel
theorem dX12_corner_133 : decode cX12_corner 133 = .ok (.aload_n 0, 1) := by decide +kernel
theorem dX12_corner_134 : decode cX12_corner 134 = .ok (.getfield 120, 3) := by decide +kernel
theorem dX12_corner_137 : decode cX12_corner 137 = .ok (.i2l, 1) := by decide +kernel
theorem dX12_corner_138 : decode cX12_corner 138 = .ok (.goto 14, 3) := by decide +kernel
theorem dX12_corner_141 : decode cX12_corner 141 = .ok (.aload_n 0, 1) := by decide +kernel
theorem dX12_corner_142 : decode cX12_corner 142 = .ok (.getfield 51, 3) := by decide +kernel
theorem dX12_corner_145 : decode cX12_corner 145 = .ok (.iload 4, 2) := by decide +kernel
theorem dX12_corner_147 : decode cX12_corner 147 = .ok (.iaload, 1) := by decide +kernel
theorem dX12_corner_148 : decode cX12_corner 148 = .ok (.iload 7, 2) := by decide +kernel
theorem dX12_corner_150 : decode cX12_corner 150 = .ok (.isub, 1) := by decide +kernel
theorem dX12_corner_151 : decode cX12_corner 151 = .ok (.i2l, 1) := by decide +kernel
theorem dX12_corner_152 : decode cX12_corner 152 = .ok (.lreturn, 1) := by decide +kernel
set_option maxRecDepth 20000 in
theorem ggX12_findGoods_X12_layOut : GoodIn wsX12_findGoods wsX12_layOut := goodIn_r _ [13, 4, 6, 8, 14, 15, 16, 12, 17, 18, 19, 20, 21, 22, 23, 24, 25, 26, 27, 28, 29, 30, 31, 32, 33, 34, 35, 36, 37, 38, 39, 40, 41, 42, 43, 44, 45, 46, 47, 48, 49, 50, 51, 52, 53, 54] (by decide +kernel) (by decide +kernel)
set_option maxRecDepth 20000 in
theorem gX12_findGoods_X12_layOut : GoodIn wsX12_findGoods (wsV RX12 123 RX12 yX12_layOut wsX12_layOut) := goodIn_app (goodIn_of _ (by decide +kernel)) ggX12_findGoods_X12_layOut
theorem dX12_findGoods_0 : decode cX12_findGoods 0 = .ok (.aload_n 0, 1) := by decide +kernel
theorem dX12_findGoods_1 : decode cX12_findGoods 1 = .ok (.iconst 0, 1) := by decide +kernel
theorem dX12_findGoods_2 : decode cX12_findGoods 2 = .ok (.putfield 126, 3) := by decide +kernel
theorem dX12_findGoods_5 : decode cX12_findGoods 5 = .ok (.iconst 0, 1) := by decide +kernel
theorem dX12_findGoods_6 : decode cX12_findGoods 6 = .ok (.istore_n 1, 1) := by decide +kernel
theorem dX12_findGoods_7 : decode cX12_findGoods 7 = .ok (.iload_n 1, 1) := by decide +kernel
theorem dX12_findGoods_8 : decode cX12_findGoods 8 = .ok (.aload_n 0, 1) := by decide +kernel
theorem dX12_findGoods_9 : decode cX12_findGoods 9 = .ok (.getfield 96, 3) := by decide +kernel
theorem dX12_findGoods_12 : decode cX12_findGoods 12 = .ok (.if_icmp .ge 150, 3) := by decide +kernel
theorem dX12_findGoods_15 : decode cX12_findGoods 15 = .ok (.iload_n 1, 1) := by decide +kernel
theorem dX12_findGoods_16 : decode cX12_findGoods 16 = .ok (.iconst 1, 1) := by decide +kernel
theorem dX12_findGoods_17 : decode cX12_findGoods 17 = .ok (.iadd, 1) := by decide +kernel
theorem dX12_findGoods_18 : decode cX12_findGoods 18 = .ok (.istore_n 2, 1) := by decide +kernel
theorem dX12_findGoods_19 : decode cX12_findGoods 19 = .ok (.iload_n 2, 1) := by decide +kernel
theorem dX12_findGoods_20 : decode cX12_findGoods 20 = .ok (.aload_n 0, 1) := by decide +kernel
theorem dX12_findGoods_21 : decode cX12_findGoods 21 = .ok (.getfield 96, 3) := by decide +kernel
theorem dX12_findGoods_24 : decode cX12_findGoods 24 = .ok (.if_icmp .ge 132, 3) := by decide +kernel
theorem dX12_findGoods_27 : decode cX12_findGoods 27 = .ok (.iload_n 2, 1) := by decide +kernel
theorem dX12_findGoods_28 : decode cX12_findGoods 28 = .ok (.iconst 1, 1) := by decide +kernel
theorem dX12_findGoods_29 : decode cX12_findGoods 29 = .ok (.iadd, 1) := by decide +kernel
theorem dX12_findGoods_30 : decode cX12_findGoods 30 = .ok (.istore_n 3, 1) := by decide +kernel
theorem dX12_findGoods_31 : decode cX12_findGoods 31 = .ok (.iload_n 3, 1) := by decide +kernel
theorem dX12_findGoods_32 : decode cX12_findGoods 32 = .ok (.aload_n 0, 1) := by decide +kernel
theorem dX12_findGoods_33 : decode cX12_findGoods 33 = .ok (.getfield 96, 3) := by decide +kernel
theorem dX12_findGoods_36 : decode cX12_findGoods 36 = .ok (.if_icmp .ge 114, 3) := by decide +kernel
theorem dX12_findGoods_39 : decode cX12_findGoods 39 = .ok (.aload_n 0, 1) := by decide +kernel
theorem dX12_findGoods_40 : decode cX12_findGoods 40 = .ok (.bipush 10, 2) := by decide +kernel
theorem dX12_findGoods_42 : decode cX12_findGoods 42 = .ok (.iload_n 1, 1) := by decide +kernel
theorem dX12_findGoods_43 : decode cX12_findGoods 43 = .ok (.iadd, 1) := by decide +kernel
theorem dX12_findGoods_44 : decode cX12_findGoods 44 = .ok (.bipush 10, 2) := by decide +kernel
theorem dX12_findGoods_46 : decode cX12_findGoods 46 = .ok (.iload_n 2, 1) := by decide +kernel
theorem dX12_findGoods_47 : decode cX12_findGoods 47 = .ok (.iadd, 1) := by decide +kernel
theorem dX12_findGoods_48 : decode cX12_findGoods 48 = .ok (.bipush 10, 2) := by decide +kernel
theorem dX12_findGoods_50 : decode cX12_findGoods 50 = .ok (.iload_n 3, 1) := by decide +kernel
theorem dX12_findGoods_51 : decode cX12_findGoods 51 = .ok (.iadd, 1) := by decide +kernel
theorem dX12_findGoods_52 : decode cX12_findGoods 52 = .ok (.invokevirtual 123, 3) := by decide +kernel
theorem dX12_findGoods_55 : decode cX12_findGoods 55 = .ok (.ifCond .ne 6, 3) := by decide +kernel
theorem dX12_findGoods_58 : decode cX12_findGoods 58 = .ok (.goto 86, 3) := by decide +kernel
theorem dX12_findGoods_61 : decode cX12_findGoods 61 = .ok (.iconst 0, 1) := by decide +kernel
theorem dX12_findGoods_62 : decode cX12_findGoods 62 = .ok (.istore 4, 2) := by decide +kernel
theorem dX12_findGoods_64 : decode cX12_findGoods 64 = .ok (.iload 4, 2) := by decide +kernel
theorem dX12_findGoods_66 : decode cX12_findGoods 66 = .ok (.iconst 3, 1) := by decide +kernel
theorem dX12_findGoods_67 : decode cX12_findGoods 67 = .ok (.if_icmp .ge 54, 3) := by decide +kernel
theorem dX12_findGoods_70 : decode cX12_findGoods 70 = .ok (.aload_n 0, 1) := by decide +kernel
theorem dX12_findGoods_71 : decode cX12_findGoods 71 = .ok (.getfield 57, 3) := by decide +kernel
theorem dX12_findGoods_74 : decode cX12_findGoods 74 = .ok (.iconst 3, 1) := by decide +kernel
theorem dX12_findGoods_75 : decode cX12_findGoods 75 = .ok (.aload_n 0, 1) := by decide +kernel
theorem dX12_findGoods_76 : decode cX12_findGoods 76 = .ok (.getfield 126, 3) := by decide +kernel
theorem dX12_findGoods_79 : decode cX12_findGoods 79 = .ok (.imul, 1) := by decide +kernel
theorem dX12_findGoods_80 : decode cX12_findGoods 80 = .ok (.iload 4, 2) := by decide +kernel
theorem dX12_findGoods_82 : decode cX12_findGoods 82 = .ok (.iadd, 1) := by decide +kernel
theorem dX12_findGoods_83 : decode cX12_findGoods 83 = .ok (.aload_n 0, 1) := by decide +kernel
theorem dX12_findGoods_84 : decode cX12_findGoods 84 = .ok (.getfield 51, 3) := by decide +kernel
theorem dX12_findGoods_87 : decode cX12_findGoods 87 = .ok (.iload 4, 2) := by decide +kernel
theorem dX12_findGoods_89 : decode cX12_findGoods 89 = .ok (.iaload, 1) := by decide +kernel
theorem dX12_findGoods_90 : decode cX12_findGoods 90 = .ok (.bipush 10, 2) := by decide +kernel
theorem dX12_findGoods_92 : decode cX12_findGoods 92 = .ok (.isub, 1) := by decide +kernel
theorem dX12_findGoods_93 : decode cX12_findGoods 93 = .ok (.iastore, 1) := by decide +kernel
theorem dX12_findGoods_94 : decode cX12_findGoods 94 = .ok (.aload_n 0, 1) := by decide +kernel
theorem dX12_findGoods_95 : decode cX12_findGoods 95 = .ok (.getfield 60, 3) := by decide +kernel
theorem dX12_findGoods_98 : decode cX12_findGoods 98 = .ok (.iconst 3, 1) := by decide +kernel
theorem dX12_findGoods_99 : decode cX12_findGoods 99 = .ok (.aload_n 0, 1) := by decide +kernel
theorem dX12_findGoods_100 : decode cX12_findGoods 100 = .ok (.getfield 126, 3) := by decide +kernel
theorem dX12_findGoods_103 : decode cX12_findGoods 103 = .ok (.imul, 1) := by decide +kernel
theorem dX12_findGoods_104 : decode cX12_findGoods 104 = .ok (.iload 4, 2) := by decide +kernel
theorem dX12_findGoods_106 : decode cX12_findGoods 106 = .ok (.iadd, 1) := by decide +kernel
theorem dX12_findGoods_107 : decode cX12_findGoods 107 = .ok (.aload_n 0, 1) := by decide +kernel
theorem dX12_findGoods_108 : decode cX12_findGoods 108 = .ok (.getfield 54, 3) := by decide +kernel
theorem dX12_findGoods_111 : decode cX12_findGoods 111 = .ok (.iload 4, 2) := by decide +kernel
theorem dX12_findGoods_113 : decode cX12_findGoods 113 = .ok (.laload, 1) := by decide +kernel
theorem dX12_findGoods_114 : decode cX12_findGoods 114 = .ok (.lastore, 1) := by decide +kernel
theorem dX12_findGoods_115 : decode cX12_findGoods 115 = .ok (.iinc 4 1, 3) := by decide +kernel
theorem dX12_findGoods_118 : decode cX12_findGoods 118 = .ok (.goto (-54), 3) := by decide +kernel
theorem dX12_findGoods_121 : decode cX12_findGoods 121 = .ok (.aload_n 0, 1) := by decide +kernel
theorem dX12_findGoods_122 : decode cX12_findGoods 122 = .ok (.getfield 63, 3) := by decide +kernel
theorem dX12_findGoods_125 : decode cX12_findGoods 125 = .ok (.aload_n 0, 1) := by decide +kernel
theorem dX12_findGoods_126 : decode cX12_findGoods 126 = .ok (.getfield 126, 3) := by decide +kernel
theorem dX12_findGoods_129 : decode cX12_findGoods 129 = .ok (.aload_n 0, 1) := by decide +kernel
theorem dX12_findGoods_130 : decode cX12_findGoods 130 = .ok (.getfield 120, 3) := by decide +kernel
theorem dX12_findGoods_133 : decode cX12_findGoods 133 = .ok (.iastore, 1) := by decide +kernel
theorem dX12_findGoods_134 : decode cX12_findGoods 134 = .ok (.aload_n 0, 1) := by decide +kernel
theorem dX12_findGoods_135 : decode cX12_findGoods 135 = .ok (.dup, 1) := by decide +kernel
theorem dX12_findGoods_136 : decode cX12_findGoods 136 = .ok (.getfield 126, 3) := by decide +kernel
theorem dX12_findGoods_139 : decode cX12_findGoods 139 = .ok (.iconst 1, 1) := by decide +kernel
theorem dX12_findGoods_140 : decode cX12_findGoods 140 = .ok (.iadd, 1) := by decide +kernel
theorem dX12_findGoods_141 : decode cX12_findGoods 141 = .ok (.putfield 126, 3) := by decide +kernel
theorem dX12_findGoods_144 : decode cX12_findGoods 144 = .ok (.iinc 3 1, 3) := by decide +kernel
theorem dX12_findGoods_147 : decode cX12_findGoods 147 = .ok (.goto (-116), 3) := by decide +kernel
theorem dX12_findGoods_150 : decode cX12_findGoods 150 = .ok (.iinc 2 1, 3) := by decide +kernel
theorem dX12_findGoods_153 : decode cX12_findGoods 153 = .ok (.goto (-134), 3) := by decide +kernel
theorem dX12_findGoods_156 : decode cX12_findGoods 156 = .ok (.iinc 1 1, 3) := by decide +kernel
theorem dX12_findGoods_159 : decode cX12_findGoods 159 = .ok (.goto (-152), 3) := by decide +kernel
theorem dX12_findGoods_162 : decode cX12_findGoods 162 = .ok (.return_, 1) := by decide +kernel
theorem dX12_isNear_0 : decode cX12_isNear 0 = .ok (.lload_n 1, 1) := by decide +kernel
theorem dX12_isNear_1 : decode cX12_isNear 1 = .ok (.lload 7, 2) := by decide +kernel
theorem dX12_isNear_3 : decode cX12_isNear 3 = .ok (.lmul, 1) := by decide +kernel
theorem dX12_isNear_4 : decode cX12_isNear 4 = .ok (.lload 5, 2) := by decide +kernel
theorem dX12_isNear_6 : decode cX12_isNear 6 = .ok (.lload_n 3, 1) := by decide +kernel
theorem dX12_isNear_7 : decode cX12_isNear 7 = .ok (.lmul, 1) := by decide +kernel
theorem dX12_isNear_8 : decode cX12_isNear 8 = .ok (.lsub, 1) := by decide +kernel
theorem dX12_isNear_9 : decode cX12_isNear 9 = .ok (.invokestatic 77, 3) := by decide +kernel
theorem dX12_isNear_12 : decode cX12_isNear 12 = .ok (.ldc2_w 129, 3) := by decide +kernel
theorem dX12_isNear_15 : decode cX12_isNear 15 = .ok (.lmul, 1) := by decide +kernel
theorem dX12_isNear_16 : decode cX12_isNear 16 = .ok (.aload_n 0, 1) := by decide +kernel
theorem dX12_isNear_17 : decode cX12_isNear 17 = .ok (.getfield 16, 3) := by decide +kernel
theorem dX12_isNear_20 : decode cX12_isNear 20 = .ok (.i2l, 1) := by decide +kernel
theorem dX12_isNear_21 : decode cX12_isNear 21 = .ok (.lload_n 3, 1) := by decide +kernel
theorem dX12_isNear_22 : decode cX12_isNear 22 = .ok (.lmul, 1) := by decide +kernel
theorem dX12_isNear_23 : decode cX12_isNear 23 = .ok (.lload 7, 2) := by decide +kernel
theorem dX12_isNear_25 : decode cX12_isNear 25 = .ok (.lmul, 1) := by decide +kernel
theorem dX12_isNear_26 : decode cX12_isNear 26 = .ok (.lcmp, 1) := by decide +kernel
theorem dX12_isNear_27 : decode cX12_isNear 27 = .ok (.ifCond .gt 7, 3) := by decide +kernel
theorem dX12_isNear_30 : decode cX12_isNear 30 = .ok (.iconst 1, 1) := by decide +kernel
theorem dX12_isNear_31 : decode cX12_isNear 31 = .ok (.goto 4, 3) := by decide +kernel
theorem dX12_isNear_34 : decode cX12_isNear 34 = .ok (.iconst 0, 1) := by decide +kernel
theorem dX12_isNear_35 : decode cX12_isNear 35 = .ok (.ireturn, 1) := by decide +kernel
set_option maxRecDepth 20000 in
theorem ggX12_vote_X12_isNear : GoodIn wsX12_vote wsX12_isNear := goodIn_r _ [13, 14, 15, 16, 17, 18, 19, 20, 21, 22, 23, 24, 25, 26, 27, 28, 29, 30, 31, 32, 33, 34, 35, 36, 37, 38, 39, 40, 41, 42, 43, 44, 45, 46] (by decide +kernel) (by decide +kernel)
set_option maxRecDepth 20000 in
theorem gX12_vote_X12_isNear : GoodIn wsX12_vote (wsV RX12 131 RX12 yX12_isNear wsX12_isNear) := goodIn_app (goodIn_of _ (by decide +kernel)) ggX12_vote_X12_isNear
theorem dX12_vote_0 : decode cX12_vote 0 = .ok (.iconst 0, 1) := by decide +kernel
theorem dX12_vote_1 : decode cX12_vote 1 = .ok (.istore_n 1, 1) := by decide +kernel
theorem dX12_vote_2 : decode cX12_vote 2 = .ok (.iload_n 1, 1) := by decide +kernel
theorem dX12_vote_3 : decode cX12_vote 3 = .ok (.aload_n 0, 1) := by decide +kernel
theorem dX12_vote_4 : decode cX12_vote 4 = .ok (.getfield 126, 3) := by decide +kernel
theorem dX12_vote_7 : decode cX12_vote 7 = .ok (.if_icmp .ge 140, 3) := by decide +kernel
theorem dX12_vote_10 : decode cX12_vote 10 = .ok (.aload_n 0, 1) := by decide +kernel
theorem dX12_vote_11 : decode cX12_vote 11 = .ok (.getfield 60, 3) := by decide +kernel
theorem dX12_vote_14 : decode cX12_vote 14 = .ok (.iconst 3, 1) := by decide +kernel
theorem dX12_vote_15 : decode cX12_vote 15 = .ok (.iload_n 1, 1) := by decide +kernel
theorem dX12_vote_16 : decode cX12_vote 16 = .ok (.imul, 1) := by decide +kernel
theorem dX12_vote_17 : decode cX12_vote 17 = .ok (.iconst 2, 1) := by decide +kernel
theorem dX12_vote_18 : decode cX12_vote 18 = .ok (.iadd, 1) := by decide +kernel
theorem dX12_vote_19 : decode cX12_vote 19 = .ok (.laload, 1) := by decide +kernel
theorem dX12_vote_20 : decode cX12_vote 20 = .ok (.lstore_n 2, 1) := by decide +kernel
theorem dX12_vote_21 : decode cX12_vote 21 = .ok (.aload_n 0, 1) := by decide +kernel
theorem dX12_vote_22 : decode cX12_vote 22 = .ok (.getfield 63, 3) := by decide +kernel
theorem dX12_vote_25 : decode cX12_vote 25 = .ok (.iload_n 1, 1) := by decide +kernel
theorem dX12_vote_26 : decode cX12_vote 26 = .ok (.iaload, 1) := by decide +kernel
theorem dX12_vote_27 : decode cX12_vote 27 = .ok (.aload_n 0, 1) := by decide +kernel
theorem dX12_vote_28 : decode cX12_vote 28 = .ok (.getfield 120, 3) := by decide +kernel
theorem dX12_vote_31 : decode cX12_vote 31 = .ok (.if_icmp .ne 110, 3) := by decide +kernel
theorem dX12_vote_34 : decode cX12_vote 34 = .ok (.aload_n 0, 1) := by decide +kernel
theorem dX12_vote_35 : decode cX12_vote 35 = .ok (.aload_n 0, 1) := by decide +kernel
theorem dX12_vote_36 : decode cX12_vote 36 = .ok (.getfield 54, 3) := by decide +kernel
theorem dX12_vote_39 : decode cX12_vote 39 = .ok (.iconst 0, 1) := by decide +kernel
theorem dX12_vote_40 : decode cX12_vote 40 = .ok (.laload, 1) := by decide +kernel
theorem dX12_vote_41 : decode cX12_vote 41 = .ok (.aload_n 0, 1) := by decide +kernel
theorem dX12_vote_42 : decode cX12_vote 42 = .ok (.getfield 54, 3) := by decide +kernel
theorem dX12_vote_45 : decode cX12_vote 45 = .ok (.iconst 2, 1) := by decide +kernel
theorem dX12_vote_46 : decode cX12_vote 46 = .ok (.laload, 1) := by decide +kernel
theorem dX12_vote_47 : decode cX12_vote 47 = .ok (.aload_n 0, 1) := by decide +kernel
theorem dX12_vote_48 : decode cX12_vote 48 = .ok (.getfield 60, 3) := by decide +kernel
theorem dX12_vote_51 : decode cX12_vote 51 = .ok (.iconst 3, 1) := by decide +kernel
theorem dX12_vote_52 : decode cX12_vote 52 = .ok (.iload_n 1, 1) := by decide +kernel
theorem dX12_vote_53 : decode cX12_vote 53 = .ok (.imul, 1) := by decide +kernel
theorem dX12_vote_54 : decode cX12_vote 54 = .ok (.laload, 1) := by decide +kernel
theorem dX12_vote_55 : decode cX12_vote 55 = .ok (.lload_n 2, 1) := by decide +kernel
theorem dX12_vote_56 : decode cX12_vote 56 = .ok (.invokevirtual 131, 3) := by decide +kernel
theorem dX12_vote_59 : decode cX12_vote 59 = .ok (.ifCond .eq 82, 3) := by decide +kernel
theorem dX12_vote_62 : decode cX12_vote 62 = .ok (.aload_n 0, 1) := by decide +kernel
theorem dX12_vote_63 : decode cX12_vote 63 = .ok (.aload_n 0, 1) := by decide +kernel
theorem dX12_vote_64 : decode cX12_vote 64 = .ok (.getfield 54, 3) := by decide +kernel
theorem dX12_vote_67 : decode cX12_vote 67 = .ok (.iconst 1, 1) := by decide +kernel
theorem dX12_vote_68 : decode cX12_vote 68 = .ok (.laload, 1) := by decide +kernel
theorem dX12_vote_69 : decode cX12_vote 69 = .ok (.aload_n 0, 1) := by decide +kernel
theorem dX12_vote_70 : decode cX12_vote 70 = .ok (.getfield 54, 3) := by decide +kernel
theorem dX12_vote_73 : decode cX12_vote 73 = .ok (.iconst 2, 1) := by decide +kernel
theorem dX12_vote_74 : decode cX12_vote 74 = .ok (.laload, 1) := by decide +kernel
theorem dX12_vote_75 : decode cX12_vote 75 = .ok (.aload_n 0, 1) := by decide +kernel
theorem dX12_vote_76 : decode cX12_vote 76 = .ok (.getfield 60, 3) := by decide +kernel
theorem dX12_vote_79 : decode cX12_vote 79 = .ok (.iconst 3, 1) := by decide +kernel
theorem dX12_vote_80 : decode cX12_vote 80 = .ok (.iload_n 1, 1) := by decide +kernel
theorem dX12_vote_81 : decode cX12_vote 81 = .ok (.imul, 1) := by decide +kernel
theorem dX12_vote_82 : decode cX12_vote 82 = .ok (.iconst 1, 1) := by decide +kernel
theorem dX12_vote_83 : decode cX12_vote 83 = .ok (.iadd, 1) := by decide +kernel
theorem dX12_vote_84 : decode cX12_vote 84 = .ok (.laload, 1) := by decide +kernel
theorem dX12_vote_85 : decode cX12_vote 85 = .ok (.lload_n 2, 1) := by decide +kernel
theorem dX12_vote_86 : decode cX12_vote 86 = .ok (.invokevirtual 131, 3) := by decide +kernel
theorem dX12_vote_89 : decode cX12_vote 89 = .ok (.ifCond .ne 6, 3) := by decide +kernel
theorem dX12_vote_92 : decode cX12_vote 92 = .ok (.goto 49, 3) := by decide +kernel
theorem dX12_vote_95 : decode cX12_vote 95 = .ok (.iconst 0, 1) := by decide +kernel
theorem dX12_vote_96 : decode cX12_vote 96 = .ok (.istore 4, 2) := by decide +kernel
theorem dX12_vote_98 : decode cX12_vote 98 = .ok (.iload 4, 2) := by decide +kernel
theorem dX12_vote_100 : decode cX12_vote 100 = .ok (.iconst 3, 1) := by decide +kernel
theorem dX12_vote_101 : decode cX12_vote 101 = .ok (.if_icmp .ge 40, 3) := by decide +kernel
theorem dX12_vote_104 : decode cX12_vote 104 = .ok (.aload_n 0, 1) := by decide +kernel
theorem dX12_vote_105 : decode cX12_vote 105 = .ok (.getfield 66, 3) := by decide +kernel
theorem dX12_vote_108 : decode cX12_vote 108 = .ok (.bipush 12, 2) := by decide +kernel
theorem dX12_vote_110 : decode cX12_vote 110 = .ok (.aload_n 0, 1) := by decide +kernel
theorem dX12_vote_111 : decode cX12_vote 111 = .ok (.getfield 51, 3) := by decide +kernel
theorem dX12_vote_114 : decode cX12_vote 114 = .ok (.iload 4, 2) := by decide +kernel
theorem dX12_vote_116 : decode cX12_vote 116 = .ok (.iaload, 1) := by decide +kernel
theorem dX12_vote_117 : decode cX12_vote 117 = .ok (.imul, 1) := by decide +kernel
theorem dX12_vote_118 : decode cX12_vote 118 = .ok (.aload_n 0, 1) := by decide +kernel
theorem dX12_vote_119 : decode cX12_vote 119 = .ok (.getfield 57, 3) := by decide +kernel
theorem dX12_vote_122 : decode cX12_vote 122 = .ok (.iconst 3, 1) := by decide +kernel
theorem dX12_vote_123 : decode cX12_vote 123 = .ok (.iload_n 1, 1) := by decide +kernel
theorem dX12_vote_124 : decode cX12_vote 124 = .ok (.imul, 1) := by decide +kernel
theorem dX12_vote_125 : decode cX12_vote 125 = .ok (.iload 4, 2) := by decide +kernel
theorem dX12_vote_127 : decode cX12_vote 127 = .ok (.iadd, 1) := by decide +kernel
theorem dX12_vote_128 : decode cX12_vote 128 = .ok (.iaload, 1) := by decide +kernel
theorem dX12_vote_129 : decode cX12_vote 129 = .ok (.iadd, 1) := by decide +kernel
theorem dX12_vote_130 : decode cX12_vote 130 = .ok (.dup2, 1) := by decide +kernel
theorem dX12_vote_131 : decode cX12_vote 131 = .ok (.iaload, 1) := by decide +kernel
theorem dX12_vote_132 : decode cX12_vote 132 = .ok (.iconst 1, 1) := by decide +kernel
theorem dX12_vote_133 : decode cX12_vote 133 = .ok (.iadd, 1) := by decide +kernel
theorem dX12_vote_134 : decode cX12_vote 134 = .ok (.iastore, 1) := by decide +kernel
theorem dX12_vote_135 : decode cX12_vote 135 = .ok (.iinc 4 1, 3) := by decide +kernel
theorem dX12_vote_138 : decode cX12_vote 138 = .ok (.goto (-40), 3) := by decide +kernel
theorem dX12_vote_141 : decode cX12_vote 141 = .ok (.iinc 1 1, 3) := by decide +kernel
theorem dX12_vote_144 : decode cX12_vote 144 = .ok (.goto (-142), 3) := by decide +kernel
theorem dX12_vote_147 : decode cX12_vote 147 = .ok (.return_, 1) := by decide +kernel
set_option maxRecDepth 20000 in
theorem ggX12_findVotes_X12_findGoods : GoodIn wsX12_findVotes wsX12_findGoods := goodIn_r _ [7, 8, 9, 10, 11, 12, 13, 14, 15, 16, 17, 18, 6, 19, 20, 21, 22, 23, 24, 25, 26, 27, 28, 29, 30, 31, 32, 33, 48, 49, 50, 51, 52, 53, 54, 55, 56, 57, 58, 59, 60, 61, 62, 63, 64, 65, 66, 67, 68, 69, 70, 71, 72, 73, 74] (by decide +kernel) (by decide +kernel)
set_option maxRecDepth 20000 in
theorem gX12_findVotes_X12_findGoods : GoodIn wsX12_findVotes (wsV RX12 135 RX12 yX12_findGoods wsX12_findGoods) := goodIn_app (goodIn_of _ (by decide +kernel)) ggX12_findVotes_X12_findGoods
set_option maxRecDepth 20000 in
theorem ggX12_findVotes_X12_layOut : GoodIn wsX12_findVotes wsX12_layOut := goodIn_r _ [19, 11, 13, 15, 20, 21, 22, 6, 23, 24, 25, 26, 27, 28, 29, 30, 31, 32, 33, 48, 49, 50, 51, 52, 53, 54, 55, 56, 57, 58, 59, 60, 61, 62, 63, 64, 65, 66, 67, 68, 69, 70, 71, 72, 73, 74] (by decide +kernel) (by decide +kernel)
set_option maxRecDepth 20000 in
theorem gX12_findVotes_X12_layOut : GoodIn wsX12_findVotes (wsV RX12 123 RX12 yX12_layOut wsX12_layOut) := goodIn_app (goodIn_of _ (by decide +kernel)) ggX12_findVotes_X12_layOut
set_option maxRecDepth 20000 in
theorem ggX12_findVotes_X12_vote : GoodIn wsX12_findVotes wsX12_vote := goodIn_r _ [37, 8, 12, 14, 15, 13, 1, 11, 10, 38, 39, 40, 6, 41, 42, 43, 44, 45, 46, 47, 48, 49, 50, 51, 52, 53, 54, 55, 56, 57, 58, 59, 60, 61, 62, 63, 64, 65, 66, 67, 68, 69, 70, 71, 72, 73, 74] (by decide +kernel) (by decide +kernel)
set_option maxRecDepth 20000 in
theorem gX12_findVotes_X12_vote : GoodIn wsX12_findVotes (wsV RX12 138 RX12 yX12_vote wsX12_vote) := goodIn_app (goodIn_of _ (by decide +kernel)) ggX12_findVotes_X12_vote
theorem dX12_findVotes_0 : decode cX12_findVotes 0 = .ok (.iconst 0, 1) := by decide +kernel
theorem dX12_findVotes_1 : decode cX12_findVotes 1 = .ok (.istore_n 1, 1) := by decide +kernel
theorem dX12_findVotes_2 : decode cX12_findVotes 2 = .ok (.iload_n 1, 1) := by decide +kernel
theorem dX12_findVotes_3 : decode cX12_findVotes 3 = .ok (.bipush 120, 2) := by decide +kernel
theorem dX12_findVotes_5 : decode cX12_findVotes 5 = .ok (.if_icmp .ge 16, 3) := by decide +kernel
theorem dX12_findVotes_8 : decode cX12_findVotes 8 = .ok (.aload_n 0, 1) := by decide +kernel
theorem dX12_findVotes_9 : decode cX12_findVotes 9 = .ok (.getfield 66, 3) := by decide +kernel
theorem dX12_findVotes_12 : decode cX12_findVotes 12 = .ok (.iload_n 1, 1) := by decide +kernel
theorem dX12_findVotes_13 : decode cX12_findVotes 13 = .ok (.iconst 0, 1) := by decide +kernel
theorem dX12_findVotes_14 : decode cX12_findVotes 14 = .ok (.iastore, 1) := by decide +kernel
theorem dX12_findVotes_15 : decode cX12_findVotes 15 = .ok (.iinc 1 1, 3) := by decide +kernel
theorem dX12_findVotes_18 : decode cX12_findVotes 18 = .ok (.goto (-16), 3) := by decide +kernel
theorem dX12_findVotes_21 : decode cX12_findVotes 21 = .ok (.aload_n 0, 1) := by decide +kernel
theorem dX12_findVotes_22 : decode cX12_findVotes 22 = .ok (.invokevirtual 135, 3) := by decide +kernel
theorem dX12_findVotes_25 : decode cX12_findVotes 25 = .ok (.iconst 0, 1) := by decide +kernel
theorem dX12_findVotes_26 : decode cX12_findVotes 26 = .ok (.istore_n 1, 1) := by decide +kernel
theorem dX12_findVotes_27 : decode cX12_findVotes 27 = .ok (.iload_n 1, 1) := by decide +kernel
theorem dX12_findVotes_28 : decode cX12_findVotes 28 = .ok (.aload_n 0, 1) := by decide +kernel
theorem dX12_findVotes_29 : decode cX12_findVotes 29 = .ok (.getfield 101, 3) := by decide +kernel
theorem dX12_findVotes_32 : decode cX12_findVotes 32 = .ok (.if_icmp .ge 59, 3) := by decide +kernel
theorem dX12_findVotes_35 : decode cX12_findVotes 35 = .ok (.iload_n 1, 1) := by decide +kernel
theorem dX12_findVotes_36 : decode cX12_findVotes 36 = .ok (.iconst 1, 1) := by decide +kernel
theorem dX12_findVotes_37 : decode cX12_findVotes 37 = .ok (.iadd, 1) := by decide +kernel
theorem dX12_findVotes_38 : decode cX12_findVotes 38 = .ok (.istore_n 2, 1) := by decide +kernel
theorem dX12_findVotes_39 : decode cX12_findVotes 39 = .ok (.iload_n 2, 1) := by decide +kernel
theorem dX12_findVotes_40 : decode cX12_findVotes 40 = .ok (.aload_n 0, 1) := by decide +kernel
theorem dX12_findVotes_41 : decode cX12_findVotes 41 = .ok (.getfield 101, 3) := by decide +kernel
theorem dX12_findVotes_44 : decode cX12_findVotes 44 = .ok (.if_icmp .ge 41, 3) := by decide +kernel
theorem dX12_findVotes_47 : decode cX12_findVotes 47 = .ok (.iload_n 2, 1) := by decide +kernel
theorem dX12_findVotes_48 : decode cX12_findVotes 48 = .ok (.iconst 1, 1) := by decide +kernel
theorem dX12_findVotes_49 : decode cX12_findVotes 49 = .ok (.iadd, 1) := by decide +kernel
theorem dX12_findVotes_50 : decode cX12_findVotes 50 = .ok (.istore_n 3, 1) := by decide +kernel
theorem dX12_findVotes_51 : decode cX12_findVotes 51 = .ok (.iload_n 3, 1) := by decide +kernel
theorem dX12_findVotes_52 : decode cX12_findVotes 52 = .ok (.aload_n 0, 1) := by decide +kernel
theorem dX12_findVotes_53 : decode cX12_findVotes 53 = .ok (.getfield 101, 3) := by decide +kernel
theorem dX12_findVotes_56 : decode cX12_findVotes 56 = .ok (.if_icmp .ge 23, 3) := by decide +kernel
theorem dX12_findVotes_59 : decode cX12_findVotes 59 = .ok (.aload_n 0, 1) := by decide +kernel
theorem dX12_findVotes_60 : decode cX12_findVotes 60 = .ok (.iload_n 1, 1) := by decide +kernel
theorem dX12_findVotes_61 : decode cX12_findVotes 61 = .ok (.iload_n 2, 1) := by decide +kernel
theorem dX12_findVotes_62 : decode cX12_findVotes 62 = .ok (.iload_n 3, 1) := by decide +kernel
theorem dX12_findVotes_63 : decode cX12_findVotes 63 = .ok (.invokevirtual 123, 3) := by decide +kernel
theorem dX12_findVotes_66 : decode cX12_findVotes 66 = .ok (.ifCond .eq 7, 3) := by decide +kernel
theorem dX12_findVotes_69 : decode cX12_findVotes 69 = .ok (.aload_n 0, 1) := by decide +kernel
theorem dX12_findVotes_70 : decode cX12_findVotes 70 = .ok (.invokevirtual 138, 3) := by decide +kernel
theorem dX12_findVotes_73 : decode cX12_findVotes 73 = .ok (.iinc 3 1, 3) := by decide +kernel
theorem dX12_findVotes_76 : decode cX12_findVotes 76 = .ok (.goto (-25), 3) := by decide +kernel
theorem dX12_findVotes_79 : decode cX12_findVotes 79 = .ok (.iinc 2 1, 3) := by decide +kernel
theorem dX12_findVotes_82 : decode cX12_findVotes 82 = .ok (.goto (-43), 3) := by decide +kernel
theorem dX12_findVotes_85 : decode cX12_findVotes 85 = .ok (.iinc 1 1, 3) := by decide +kernel
theorem dX12_findVotes_88 : decode cX12_findVotes 88 = .ok (.goto (-61), 3) := by decide +kernel
theorem dX12_findVotes_91 : decode cX12_findVotes 91 = .ok (.return_, 1) := by decide +kernel
set_option maxRecDepth 20000 in
theorem ggX12_votes_X12_in : GoodIn wsX12_votes wsX12_in := goodIn_r _ [8] (by decide +kernel) (by decide +kernel)
set_option maxRecDepth 20000 in
theorem gX12_votes_X12_in : GoodIn wsX12_votes (va_wsS RX12 87 yX12_in wsX12_in) := goodIn_app (goodIn_of _ (by decide +kernel)) ggX12_votes_X12_in
set_option maxRecDepth 20000 in
theorem ggX12_votes_X12_finding : GoodIn wsX12_votes wsX12_finding := goodIn_r _ [12, 13, 14, 62, 63, 64, 65, 66, 67, 68, 69, 70, 71, 72, 73, 74, 75, 76, 77, 78, 79, 80, 81, 82, 83, 84, 85, 86, 87, 88] (by decide +kernel) (by decide +kernel)
set_option maxRecDepth 20000 in
theorem gX12_votes_X12_finding : GoodIn wsX12_votes (wsV RX12 93 RX12 yX12_finding wsX12_finding) := goodIn_app (goodIn_of _ (by decide +kernel)) ggX12_votes_X12_finding
set_option maxRecDepth 20000 in
theorem ggX12_votes_X12_findVotes : GoodIn wsX12_votes wsX12_findVotes := goodIn_r _ [18, 4, 1, 19, 20, 21, 7, 22, 23, 2, 24, 25, 26, 27, 28, 29, 30, 31, 32, 33, 34, 35, 36, 37, 38, 39, 40, 41, 42, 43, 44, 45, 46, 47, 48, 49, 50, 51, 52, 53, 54, 55, 56, 57, 58, 59, 60, 61, 62, 63, 64, 65, 66, 67, 68, 69, 70, 71, 72, 73, 74, 75, 76, 77, 78, 79, 80, 81, 82, 83, 84, 85, 86, 87, 88] (by decide +kernel) (by decide +kernel)
set_option maxRecDepth 20000 in
theorem gX12_votes_X12_findVotes : GoodIn wsX12_votes (wsV RX12 141 RX12 yX12_findVotes wsX12_findVotes) := goodIn_app (goodIn_of _ (by decide +kernel)) ggX12_votes_X12_findVotes
theorem dX12_votes_0 : decode cX12_votes 0 = .ok (.iload_n 1, 1) := by decide +kernel
theorem dX12_votes_1 : decode cX12_votes 1 = .ok (.iconst 0, 1) := by decide +kernel
theorem dX12_votes_2 : decode cX12_votes 2 = .ok (.aload_n 0, 1) := by decide +kernel
theorem dX12_votes_3 : decode cX12_votes 3 = .ok (.getfield 101, 3) := by decide +kernel
theorem dX12_votes_6 : decode cX12_votes 6 = .ok (.iconst 1, 1) := by decide +kernel
theorem dX12_votes_7 : decode cX12_votes 7 = .ok (.isub, 1) := by decide +kernel
theorem dX12_votes_8 : decode cX12_votes 8 = .ok (.invokestatic 87, 3) := by decide +kernel
theorem dX12_votes_11 : decode cX12_votes 11 = .ok (.ifCond .eq 17, 3) := by decide +kernel
theorem dX12_votes_14 : decode cX12_votes 14 = .ok (.iload_n 2, 1) := by decide +kernel
theorem dX12_votes_15 : decode cX12_votes 15 = .ok (.iconst 0, 1) := by decide +kernel
theorem dX12_votes_16 : decode cX12_votes 16 = .ok (.aload_n 0, 1) := by decide +kernel
theorem dX12_votes_17 : decode cX12_votes 17 = .ok (.getfield 96, 3) := by decide +kernel
theorem dX12_votes_20 : decode cX12_votes 20 = .ok (.iconst 1, 1) := by decide +kernel
theorem dX12_votes_21 : decode cX12_votes 21 = .ok (.isub, 1) := by decide +kernel
theorem dX12_votes_22 : decode cX12_votes 22 = .ok (.invokestatic 87, 3) := by decide +kernel
theorem dX12_votes_25 : decode cX12_votes 25 = .ok (.ifCond .ne 11, 3) := by decide +kernel
theorem dX12_votes_28 : decode cX12_votes 28 = .ok (.aload_n 0, 1) := by decide +kernel
theorem dX12_votes_29 : decode cX12_votes 29 = .ok (.ldc2_w 91, 3) := by decide +kernel
theorem dX12_votes_32 : decode cX12_votes 32 = .ok (.invokevirtual 93, 3) := by decide +kernel
theorem dX12_votes_35 : decode cX12_votes 35 = .ok (.lreturn, 1) := by decide +kernel
theorem dX12_votes_36 : decode cX12_votes 36 = .ok (.aload_n 0, 1) := by decide +kernel
theorem dX12_votes_37 : decode cX12_votes 37 = .ok (.invokevirtual 141, 3) := by decide +kernel
theorem dX12_votes_40 : decode cX12_votes 40 = .ok (.aload_n 0, 1) := by decide +kernel
theorem dX12_votes_41 : decode cX12_votes 41 = .ok (.getfield 66, 3) := by decide +kernel
theorem dX12_votes_44 : decode cX12_votes 44 = .ok (.bipush 12, 2) := by decide +kernel
theorem dX12_votes_46 : decode cX12_votes 46 = .ok (.iload_n 1, 1) := by decide +kernel
theorem dX12_votes_47 : decode cX12_votes 47 = .ok (.imul, 1) := by decide +kernel
theorem dX12_votes_48 : decode cX12_votes 48 = .ok (.iload_n 2, 1) := by decide +kernel
theorem dX12_votes_49 : decode cX12_votes 49 = .ok (.iadd, 1) := by decide +kernel
theorem dX12_votes_50 : decode cX12_votes 50 = .ok (.iaload, 1) := by decide +kernel
theorem dX12_votes_51 : decode cX12_votes 51 = .ok (.i2l, 1) := by decide +kernel
theorem dX12_votes_52 : decode cX12_votes 52 = .ok (.lreturn, 1) := by decide +kernel
theorem dX12_matchOf_0 : decode cX12_matchOf 0 = .ok (.iconst (-1), 1) := by decide +kernel
theorem dX12_matchOf_1 : decode cX12_matchOf 1 = .ok (.istore_n 2, 1) := by decide +kernel
theorem dX12_matchOf_2 : decode cX12_matchOf 2 = .ok (.iconst 0, 1) := by decide +kernel
theorem dX12_matchOf_3 : decode cX12_matchOf 3 = .ok (.istore_n 3, 1) := by decide +kernel
theorem dX12_matchOf_4 : decode cX12_matchOf 4 = .ok (.iload_n 3, 1) := by decide +kernel
theorem dX12_matchOf_5 : decode cX12_matchOf 5 = .ok (.aload_n 0, 1) := by decide +kernel
theorem dX12_matchOf_6 : decode cX12_matchOf 6 = .ok (.getfield 96, 3) := by decide +kernel
theorem dX12_matchOf_9 : decode cX12_matchOf 9 = .ok (.if_icmp .ge 44, 3) := by decide +kernel
theorem dX12_matchOf_12 : decode cX12_matchOf 12 = .ok (.iload_n 2, 1) := by decide +kernel
theorem dX12_matchOf_13 : decode cX12_matchOf 13 = .ok (.ifCond .lt 28, 3) := by decide +kernel
theorem dX12_matchOf_16 : decode cX12_matchOf 16 = .ok (.aload_n 0, 1) := by decide +kernel
theorem dX12_matchOf_17 : decode cX12_matchOf 17 = .ok (.getfield 66, 3) := by decide +kernel
theorem dX12_matchOf_20 : decode cX12_matchOf 20 = .ok (.bipush 12, 2) := by decide +kernel
theorem dX12_matchOf_22 : decode cX12_matchOf 22 = .ok (.iload_n 1, 1) := by decide +kernel
theorem dX12_matchOf_23 : decode cX12_matchOf 23 = .ok (.imul, 1) := by decide +kernel
theorem dX12_matchOf_24 : decode cX12_matchOf 24 = .ok (.iload_n 3, 1) := by decide +kernel
theorem dX12_matchOf_25 : decode cX12_matchOf 25 = .ok (.iadd, 1) := by decide +kernel
theorem dX12_matchOf_26 : decode cX12_matchOf 26 = .ok (.iaload, 1) := by decide +kernel
theorem dX12_matchOf_27 : decode cX12_matchOf 27 = .ok (.aload_n 0, 1) := by decide +kernel
theorem dX12_matchOf_28 : decode cX12_matchOf 28 = .ok (.getfield 66, 3) := by decide +kernel
theorem dX12_matchOf_31 : decode cX12_matchOf 31 = .ok (.bipush 12, 2) := by decide +kernel
theorem dX12_matchOf_33 : decode cX12_matchOf 33 = .ok (.iload_n 1, 1) := by decide +kernel
theorem dX12_matchOf_34 : decode cX12_matchOf 34 = .ok (.imul, 1) := by decide +kernel
theorem dX12_matchOf_35 : decode cX12_matchOf 35 = .ok (.iload_n 2, 1) := by decide +kernel
theorem dX12_matchOf_36 : decode cX12_matchOf 36 = .ok (.iadd, 1) := by decide +kernel
theorem dX12_matchOf_37 : decode cX12_matchOf 37 = .ok (.iaload, 1) := by decide +kernel
theorem dX12_matchOf_38 : decode cX12_matchOf 38 = .ok (.if_icmp .le 7, 3) := by decide +kernel
theorem dX12_matchOf_41 : decode cX12_matchOf 41 = .ok (.iload_n 3, 1) := by decide +kernel
theorem dX12_matchOf_42 : decode cX12_matchOf 42 = .ok (.goto 4, 3) := by decide +kernel
theorem dX12_matchOf_45 : decode cX12_matchOf 45 = .ok (.iload_n 2, 1) := by decide +kernel
theorem dX12_matchOf_46 : decode cX12_matchOf 46 = .ok (.istore_n 2, 1) := by decide +kernel
theorem dX12_matchOf_47 : decode cX12_matchOf 47 = .ok (.iinc 3 1, 3) := by decide +kernel
theorem dX12_matchOf_50 : decode cX12_matchOf 50 = .ok (.goto (-46), 3) := by decide +kernel
theorem dX12_matchOf_53 : decode cX12_matchOf 53 = .ok (.iload_n 2, 1) := by decide +kernel
theorem dX12_matchOf_54 : decode cX12_matchOf 54 = .ok (.ifCond .lt 18, 3) := by decide +kernel
theorem dX12_matchOf_57 : decode cX12_matchOf 57 = .ok (.aload_n 0, 1) := by decide +kernel
theorem dX12_matchOf_58 : decode cX12_matchOf 58 = .ok (.getfield 66, 3) := by decide +kernel
theorem dX12_matchOf_61 : decode cX12_matchOf 61 = .ok (.bipush 12, 2) := by decide +kernel
theorem dX12_matchOf_63 : decode cX12_matchOf 63 = .ok (.iload_n 1, 1) := by decide +kernel
theorem dX12_matchOf_64 : decode cX12_matchOf 64 = .ok (.imul, 1) := by decide +kernel
theorem dX12_matchOf_65 : decode cX12_matchOf 65 = .ok (.iload_n 2, 1) := by decide +kernel
theorem dX12_matchOf_66 : decode cX12_matchOf 66 = .ok (.iadd, 1) := by decide +kernel
theorem dX12_matchOf_67 : decode cX12_matchOf 67 = .ok (.iaload, 1) := by decide +kernel
theorem dX12_matchOf_68 : decode cX12_matchOf 68 = .ok (.iconst 2, 1) := by decide +kernel
theorem dX12_matchOf_69 : decode cX12_matchOf 69 = .ok (.if_icmp .ge 5, 3) := by decide +kernel
theorem dX12_matchOf_72 : decode cX12_matchOf 72 = .ok (.iconst (-1), 1) := by decide +kernel
theorem dX12_matchOf_73 : decode cX12_matchOf 73 = .ok (.ireturn, 1) := by decide +kernel
theorem dX12_matchOf_74 : decode cX12_matchOf 74 = .ok (.aload_n 0, 1) := by decide +kernel
theorem dX12_matchOf_75 : decode cX12_matchOf 75 = .ok (.getfield 66, 3) := by decide +kernel
theorem dX12_matchOf_78 : decode cX12_matchOf 78 = .ok (.bipush 12, 2) := by decide +kernel
theorem dX12_matchOf_80 : decode cX12_matchOf 80 = .ok (.iload_n 1, 1) := by decide +kernel
theorem dX12_matchOf_81 : decode cX12_matchOf 81 = .ok (.imul, 1) := by decide +kernel
theorem dX12_matchOf_82 : decode cX12_matchOf 82 = .ok (.iload_n 2, 1) := by decide +kernel
theorem dX12_matchOf_83 : decode cX12_matchOf 83 = .ok (.iadd, 1) := by decide +kernel
theorem dX12_matchOf_84 : decode cX12_matchOf 84 = .ok (.iaload, 1) := by decide +kernel
theorem dX12_matchOf_85 : decode cX12_matchOf 85 = .ok (.istore_n 3, 1) := by decide +kernel
theorem dX12_matchOf_86 : decode cX12_matchOf 86 = .ok (.iconst 0, 1) := by decide +kernel
theorem dX12_matchOf_87 : decode cX12_matchOf 87 = .ok (.istore 4, 2) := by decide +kernel
theorem dX12_matchOf_89 : decode cX12_matchOf 89 = .ok (.iload 4, 2) := by decide +kernel
theorem dX12_matchOf_91 : decode cX12_matchOf 91 = .ok (.aload_n 0, 1) := by decide +kernel
theorem dX12_matchOf_92 : decode cX12_matchOf 92 = .ok (.getfield 96, 3) := by decide +kernel
theorem dX12_matchOf_95 : decode cX12_matchOf 95 = .ok (.if_icmp .ge 33, 3) := by decide +kernel
theorem dX12_matchOf_98 : decode cX12_matchOf 98 = .ok (.iload 4, 2) := by decide +kernel
theorem dX12_matchOf_100 : decode cX12_matchOf 100 = .ok (.iload_n 2, 1) := by decide +kernel
theorem dX12_matchOf_101 : decode cX12_matchOf 101 = .ok (.if_icmp .eq 21, 3) := by decide +kernel
theorem dX12_matchOf_104 : decode cX12_matchOf 104 = .ok (.aload_n 0, 1) := by decide +kernel
theorem dX12_matchOf_105 : decode cX12_matchOf 105 = .ok (.getfield 66, 3) := by decide +kernel
theorem dX12_matchOf_108 : decode cX12_matchOf 108 = .ok (.bipush 12, 2) := by decide +kernel
theorem dX12_matchOf_110 : decode cX12_matchOf 110 = .ok (.iload_n 1, 1) := by decide +kernel
theorem dX12_matchOf_111 : decode cX12_matchOf 111 = .ok (.imul, 1) := by decide +kernel
theorem dX12_matchOf_112 : decode cX12_matchOf 112 = .ok (.iload 4, 2) := by decide +kernel
theorem dX12_matchOf_114 : decode cX12_matchOf 114 = .ok (.iadd, 1) := by decide +kernel
theorem dX12_matchOf_115 : decode cX12_matchOf 115 = .ok (.iaload, 1) := by decide +kernel
theorem dX12_matchOf_116 : decode cX12_matchOf 116 = .ok (.iload_n 3, 1) := by decide +kernel
theorem dX12_matchOf_117 : decode cX12_matchOf 117 = .ok (.if_icmp .lt 5, 3) := by decide +kernel
theorem dX12_matchOf_120 : decode cX12_matchOf 120 = .ok (.iconst (-1), 1) := by decide +kernel
theorem dX12_matchOf_121 : decode cX12_matchOf 121 = .ok (.ireturn, 1) := by decide +kernel
theorem dX12_matchOf_122 : decode cX12_matchOf 122 = .ok (.iinc 4 1, 3) := by decide +kernel
theorem dX12_matchOf_125 : decode cX12_matchOf 125 = .ok (.goto (-36), 3) := by decide +kernel
theorem dX12_matchOf_128 : decode cX12_matchOf 128 = .ok (.iconst 0, 1) := by decide +kernel
theorem dX12_matchOf_129 : decode cX12_matchOf 129 = .ok (.istore 4, 2) := by decide +kernel
theorem dX12_matchOf_131 : decode cX12_matchOf 131 = .ok (.iload 4, 2) := by decide +kernel
theorem dX12_matchOf_133 : decode cX12_matchOf 133 = .ok (.aload_n 0, 1) := by decide +kernel
theorem dX12_matchOf_134 : decode cX12_matchOf 134 = .ok (.getfield 101, 3) := by decide +kernel
theorem dX12_matchOf_137 : decode cX12_matchOf 137 = .ok (.if_icmp .ge 33, 3) := by decide +kernel
theorem dX12_matchOf_140 : decode cX12_matchOf 140 = .ok (.iload 4, 2) := by decide +kernel
theorem dX12_matchOf_142 : decode cX12_matchOf 142 = .ok (.iload_n 1, 1) := by decide +kernel
theorem dX12_matchOf_143 : decode cX12_matchOf 143 = .ok (.if_icmp .eq 21, 3) := by decide +kernel
theorem dX12_matchOf_146 : decode cX12_matchOf 146 = .ok (.aload_n 0, 1) := by decide +kernel
theorem dX12_matchOf_147 : decode cX12_matchOf 147 = .ok (.getfield 66, 3) := by decide +kernel
theorem dX12_matchOf_150 : decode cX12_matchOf 150 = .ok (.bipush 12, 2) := by decide +kernel
theorem dX12_matchOf_152 : decode cX12_matchOf 152 = .ok (.iload 4, 2) := by decide +kernel
theorem dX12_matchOf_154 : decode cX12_matchOf 154 = .ok (.imul, 1) := by decide +kernel
theorem dX12_matchOf_155 : decode cX12_matchOf 155 = .ok (.iload_n 2, 1) := by decide +kernel
theorem dX12_matchOf_156 : decode cX12_matchOf 156 = .ok (.iadd, 1) := by decide +kernel
theorem dX12_matchOf_157 : decode cX12_matchOf 157 = .ok (.iaload, 1) := by decide +kernel
theorem dX12_matchOf_158 : decode cX12_matchOf 158 = .ok (.iload_n 3, 1) := by decide +kernel
theorem dX12_matchOf_159 : decode cX12_matchOf 159 = .ok (.if_icmp .lt 5, 3) := by decide +kernel
theorem dX12_matchOf_162 : decode cX12_matchOf 162 = .ok (.iconst (-1), 1) := by decide +kernel
theorem dX12_matchOf_163 : decode cX12_matchOf 163 = .ok (.ireturn, 1) := by decide +kernel
theorem dX12_matchOf_164 : decode cX12_matchOf 164 = .ok (.iinc 4 1, 3) := by decide +kernel
theorem dX12_matchOf_167 : decode cX12_matchOf 167 = .ok (.goto (-36), 3) := by decide +kernel
theorem dX12_matchOf_170 : decode cX12_matchOf 170 = .ok (.iload_n 2, 1) := by decide +kernel
theorem dX12_matchOf_171 : decode cX12_matchOf 171 = .ok (.ireturn, 1) := by decide +kernel
set_option maxRecDepth 20000 in
theorem ggX12_match_X12_in : GoodIn wsX12_match wsX12_in := goodIn_r _ [7] (by decide +kernel) (by decide +kernel)
set_option maxRecDepth 20000 in
theorem gX12_match_X12_in : GoodIn wsX12_match (va_wsS RX12 87 yX12_in wsX12_in) := goodIn_app (goodIn_of _ (by decide +kernel)) ggX12_match_X12_in
set_option maxRecDepth 20000 in
theorem ggX12_match_X12_finding : GoodIn wsX12_match wsX12_finding := goodIn_r _ [11, 12, 13, 67, 68, 69, 70, 71, 72, 73, 74, 75, 76, 77, 78, 79, 80, 81, 82, 83, 84, 85, 86, 87, 88, 89, 90, 91, 92, 93] (by decide +kernel) (by decide +kernel)
set_option maxRecDepth 20000 in
theorem gX12_match_X12_finding : GoodIn wsX12_match (wsV RX12 93 RX12 yX12_finding wsX12_finding) := goodIn_app (goodIn_of _ (by decide +kernel)) ggX12_match_X12_finding
set_option maxRecDepth 20000 in
theorem ggX12_match_X12_findVotes : GoodIn wsX12_match wsX12_findVotes := goodIn_r _ [17, 18, 1, 19, 20, 21, 6, 22, 23, 24, 25, 26, 27, 28, 29, 30, 31, 32, 33, 34, 35, 36, 37, 38, 39, 40, 41, 42, 43, 44, 45, 46, 47, 48, 49, 50, 51, 52, 53, 54, 55, 56, 57, 58, 59, 60, 61, 62, 67, 68, 69, 70, 71, 72, 73, 74, 75, 76, 77, 78, 79, 80, 81, 82, 83, 84, 85, 86, 87, 88, 89, 90, 91, 92, 93] (by decide +kernel) (by decide +kernel)
set_option maxRecDepth 20000 in
theorem gX12_match_X12_findVotes : GoodIn wsX12_match (wsV RX12 141 RX12 yX12_findVotes wsX12_findVotes) := goodIn_app (goodIn_of _ (by decide +kernel)) ggX12_match_X12_findVotes
set_option maxRecDepth 20000 in
theorem ggX12_match_X12_matchOf : GoodIn wsX12_match wsX12_matchOf := goodIn_r _ [66, 24, 18, 1, 67, 68, 69, 70, 71, 72, 73, 74, 75, 76, 77, 78, 79, 80, 81, 82, 83, 84, 85, 86, 87, 88, 89, 90, 91, 92, 93] (by decide +kernel) (by decide +kernel)
set_option maxRecDepth 20000 in
theorem gX12_match_X12_matchOf : GoodIn wsX12_match (wsV RX12 144 RX12 yX12_matchOf wsX12_matchOf) := goodIn_app (goodIn_of _ (by decide +kernel)) ggX12_match_X12_matchOf
theorem dX12_match_0 : decode cX12_match 0 = .ok (.iload_n 1, 1) := by decide +kernel
theorem dX12_match_1 : decode cX12_match 1 = .ok (.iconst 0, 1) := by decide +kernel
theorem dX12_match_2 : decode cX12_match 2 = .ok (.aload_n 0, 1) := by decide +kernel
theorem dX12_match_3 : decode cX12_match 3 = .ok (.getfield 101, 3) := by decide +kernel
theorem dX12_match_6 : decode cX12_match 6 = .ok (.iconst 1, 1) := by decide +kernel
theorem dX12_match_7 : decode cX12_match 7 = .ok (.isub, 1) := by decide +kernel
theorem dX12_match_8 : decode cX12_match 8 = .ok (.invokestatic 87, 3) := by decide +kernel
theorem dX12_match_11 : decode cX12_match 11 = .ok (.ifCond .ne 11, 3) := by decide +kernel
theorem dX12_match_14 : decode cX12_match 14 = .ok (.aload_n 0, 1) := by decide +kernel
theorem dX12_match_15 : decode cX12_match 15 = .ok (.ldc2_w 91, 3) := by decide +kernel
theorem dX12_match_18 : decode cX12_match 18 = .ok (.invokevirtual 93, 3) := by decide +kernel
theorem dX12_match_21 : decode cX12_match 21 = .ok (.lreturn, 1) := by decide +kernel
theorem dX12_match_22 : decode cX12_match 22 = .ok (.aload_n 0, 1) := by decide +kernel
theorem dX12_match_23 : decode cX12_match 23 = .ok (.invokevirtual 141, 3) := by decide +kernel
theorem dX12_match_26 : decode cX12_match 26 = .ok (.aload_n 0, 1) := by decide +kernel
theorem dX12_match_27 : decode cX12_match 27 = .ok (.iload_n 1, 1) := by decide +kernel
theorem dX12_match_28 : decode cX12_match 28 = .ok (.invokevirtual 144, 3) := by decide +kernel
theorem dX12_match_31 : decode cX12_match 31 = .ok (.istore_n 2, 1) := by decide +kernel
theorem dX12_match_32 : decode cX12_match 32 = .ok (.iload_n 2, 1) := by decide +kernel
theorem dX12_match_33 : decode cX12_match 33 = .ok (.ifCond .ge 13, 3) := by decide +kernel
theorem dX12_match_36 : decode cX12_match 36 = .ok (.aload_n 0, 1) := by decide +kernel
theorem dX12_match_37 : decode cX12_match 37 = .ok (.ldc2_w 106, 3) := by decide +kernel
theorem dX12_match_40 : decode cX12_match 40 = .ok (.invokevirtual 93, 3) := by decide +kernel
theorem dX12_match_43 : decode cX12_match 43 = .ok (.goto 5, 3) := by decide +kernel
theorem dX12_match_46 : decode cX12_match 46 = .ok (.iload_n 2, 1) := by decide +kernel
theorem dX12_match_47 : decode cX12_match 47 = .ok (.i2l, 1) := by decide +kernel
theorem dX12_match_48 : decode cX12_match 48 = .ok (.lreturn, 1) := by decide +kernel
set_option maxRecDepth 20000 in
theorem ggX12_matched_X12_findVotes : GoodIn wsX12_matched wsX12_findVotes := goodIn_r _ [6, 7, 1, 8, 9, 10, 5, 11, 12, 13, 14, 15, 16, 17, 18, 19, 20, 21, 22, 23, 24, 25, 26, 27, 28, 29, 30, 31, 32, 33, 34, 35, 36, 37, 38, 39, 40, 41, 42, 43, 44, 45, 46, 47, 48, 49, 50, 51, 56, 57, 58, 59, 60, 61, 62, 63, 64, 65, 66, 67, 68, 69, 70, 71, 72, 73, 74, 75, 76, 77, 78, 79, 80, 81, 82] (by decide +kernel) (by decide +kernel)
set_option maxRecDepth 20000 in
theorem gX12_matched_X12_findVotes : GoodIn wsX12_matched (wsV RX12 141 RX12 yX12_findVotes wsX12_findVotes) := goodIn_app (goodIn_of _ (by decide +kernel)) ggX12_matched_X12_findVotes
set_option maxRecDepth 20000 in
theorem ggX12_matched_X12_matchOf : GoodIn wsX12_matched wsX12_matchOf := goodIn_r _ [55, 13, 7, 1, 56, 57, 58, 59, 60, 61, 62, 63, 64, 65, 66, 67, 68, 69, 70, 71, 72, 73, 74, 75, 76, 77, 78, 79, 80, 81, 82] (by decide +kernel) (by decide +kernel)
set_option maxRecDepth 20000 in
theorem gX12_matched_X12_matchOf : GoodIn wsX12_matched (wsV RX12 144 RX12 yX12_matchOf wsX12_matchOf) := goodIn_app (goodIn_of _ (by decide +kernel)) ggX12_matched_X12_matchOf
theorem dX12_matched_0 : decode cX12_matched 0 = .ok (.aload_n 0, 1) := by decide +kernel
theorem dX12_matched_1 : decode cX12_matched 1 = .ok (.invokevirtual 141, 3) := by decide +kernel
theorem dX12_matched_4 : decode cX12_matched 4 = .ok (.iconst 0, 1) := by decide +kernel
theorem dX12_matched_5 : decode cX12_matched 5 = .ok (.istore_n 1, 1) := by decide +kernel
theorem dX12_matched_6 : decode cX12_matched 6 = .ok (.iconst 0, 1) := by decide +kernel
theorem dX12_matched_7 : decode cX12_matched 7 = .ok (.istore_n 2, 1) := by decide +kernel
theorem dX12_matched_8 : decode cX12_matched 8 = .ok (.iload_n 2, 1) := by decide +kernel
theorem dX12_matched_9 : decode cX12_matched 9 = .ok (.aload_n 0, 1) := by decide +kernel
theorem dX12_matched_10 : decode cX12_matched 10 = .ok (.getfield 101, 3) := by decide +kernel
theorem dX12_matched_13 : decode cX12_matched 13 = .ok (.if_icmp .ge 25, 3) := by decide +kernel
theorem dX12_matched_16 : decode cX12_matched 16 = .ok (.iload_n 1, 1) := by decide +kernel
theorem dX12_matched_17 : decode cX12_matched 17 = .ok (.aload_n 0, 1) := by decide +kernel
theorem dX12_matched_18 : decode cX12_matched 18 = .ok (.iload_n 2, 1) := by decide +kernel
theorem dX12_matched_19 : decode cX12_matched 19 = .ok (.invokevirtual 144, 3) := by decide +kernel
theorem dX12_matched_22 : decode cX12_matched 22 = .ok (.ifCond .lt 7, 3) := by decide +kernel
theorem dX12_matched_25 : decode cX12_matched 25 = .ok (.iconst 1, 1) := by decide +kernel
theorem dX12_matched_26 : decode cX12_matched 26 = .ok (.goto 4, 3) := by decide +kernel
theorem dX12_matched_29 : decode cX12_matched 29 = .ok (.iconst 0, 1) := by decide +kernel
theorem dX12_matched_30 : decode cX12_matched 30 = .ok (.iadd, 1) := by decide +kernel
theorem dX12_matched_31 : decode cX12_matched 31 = .ok (.istore_n 1, 1) := by decide +kernel
theorem dX12_matched_32 : decode cX12_matched 32 = .ok (.iinc 2 1, 3) := by decide +kernel
theorem dX12_matched_35 : decode cX12_matched 35 = .ok (.goto (-27), 3) := by decide +kernel
theorem dX12_matched_38 : decode cX12_matched 38 = .ok (.iload_n 1, 1) := by decide +kernel
theorem dX12_matched_39 : decode cX12_matched 39 = .ok (.i2l, 1) := by decide +kernel
theorem dX12_matched_40 : decode cX12_matched 40 = .ok (.lreturn, 1) := by decide +kernel
set_option maxRecDepth 20000 in
theorem ggX12_findTable_X12_findVotes : GoodIn wsX12_findTable wsX12_findVotes := goodIn_r _ [7, 8, 1, 9, 10, 11, 6, 12, 13, 14, 15, 16, 17, 18, 19, 20, 21, 22, 23, 24, 25, 26, 27, 28, 29, 30, 31, 32, 33, 34, 35, 36, 37, 38, 39, 40, 41, 42, 43, 44, 45, 46, 47, 48, 49, 50, 51, 52, 57, 58, 59, 60, 61, 62, 63, 64, 65, 66, 67, 68, 69, 70, 71, 72, 73, 74, 75, 76, 77, 78, 79, 80, 81, 82, 83] (by decide +kernel) (by decide +kernel)
set_option maxRecDepth 20000 in
theorem gX12_findTable_X12_findVotes : GoodIn wsX12_findTable (wsV RX12 141 RX12 yX12_findVotes wsX12_findVotes) := goodIn_app (goodIn_of _ (by decide +kernel)) ggX12_findTable_X12_findVotes
set_option maxRecDepth 20000 in
theorem ggX12_findTable_X12_matchOf : GoodIn wsX12_findTable wsX12_matchOf := goodIn_r _ [56, 14, 8, 1, 57, 58, 59, 60, 61, 62, 63, 64, 65, 66, 67, 68, 69, 70, 71, 72, 73, 74, 75, 76, 77, 78, 79, 80, 81, 82, 83] (by decide +kernel) (by decide +kernel)
set_option maxRecDepth 20000 in
theorem gX12_findTable_X12_matchOf : GoodIn wsX12_findTable (wsV RX12 144 RX12 yX12_matchOf wsX12_matchOf) := goodIn_app (goodIn_of _ (by decide +kernel)) ggX12_findTable_X12_matchOf
set_option maxRecDepth 20000 in
theorem ggX12_findTable_X12_cross : GoodIn wsX12_findTable wsX12_cross := goodIn_r _ [34, 29, 30, 57, 58, 59, 60, 61, 62, 63, 64, 65, 66, 67, 68, 69, 70, 71, 72, 73, 74, 75, 76, 77, 78, 79, 80, 81, 82, 83] (by decide +kernel) (by decide +kernel)
set_option maxRecDepth 20000 in
theorem gX12_findTable_X12_cross : GoodIn wsX12_findTable (wsV RX12 112 RX12 yX12_cross wsX12_cross) := goodIn_app (goodIn_of _ (by decide +kernel)) ggX12_findTable_X12_cross
theorem dX12_findTable_0 : decode cX12_findTable 0 = .ok (.aload_n 0, 1) := by decide +kernel
theorem dX12_findTable_1 : decode cX12_findTable 1 = .ok (.invokevirtual 141, 3) := by decide +kernel
theorem dX12_findTable_4 : decode cX12_findTable 4 = .ok (.iconst 0, 1) := by decide +kernel
theorem dX12_findTable_5 : decode cX12_findTable 5 = .ok (.istore_n 1, 1) := by decide +kernel
theorem dX12_findTable_6 : decode cX12_findTable 6 = .ok (.iload_n 1, 1) := by decide +kernel
theorem dX12_findTable_7 : decode cX12_findTable 7 = .ok (.aload_n 0, 1) := by decide +kernel
theorem dX12_findTable_8 : decode cX12_findTable 8 = .ok (.getfield 101, 3) := by decide +kernel
theorem dX12_findTable_11 : decode cX12_findTable 11 = .ok (.if_icmp .ge 104, 3) := by decide +kernel
theorem dX12_findTable_14 : decode cX12_findTable 14 = .ok (.iload_n 1, 1) := by decide +kernel
theorem dX12_findTable_15 : decode cX12_findTable 15 = .ok (.iconst 1, 1) := by decide +kernel
theorem dX12_findTable_16 : decode cX12_findTable 16 = .ok (.iadd, 1) := by decide +kernel
theorem dX12_findTable_17 : decode cX12_findTable 17 = .ok (.istore_n 2, 1) := by decide +kernel
theorem dX12_findTable_18 : decode cX12_findTable 18 = .ok (.iload_n 2, 1) := by decide +kernel
theorem dX12_findTable_19 : decode cX12_findTable 19 = .ok (.aload_n 0, 1) := by decide +kernel
theorem dX12_findTable_20 : decode cX12_findTable 20 = .ok (.getfield 101, 3) := by decide +kernel
theorem dX12_findTable_23 : decode cX12_findTable 23 = .ok (.if_icmp .ge 86, 3) := by decide +kernel
theorem dX12_findTable_26 : decode cX12_findTable 26 = .ok (.iload_n 2, 1) := by decide +kernel
theorem dX12_findTable_27 : decode cX12_findTable 27 = .ok (.iconst 1, 1) := by decide +kernel
theorem dX12_findTable_28 : decode cX12_findTable 28 = .ok (.iadd, 1) := by decide +kernel
theorem dX12_findTable_29 : decode cX12_findTable 29 = .ok (.istore_n 3, 1) := by decide +kernel
theorem dX12_findTable_30 : decode cX12_findTable 30 = .ok (.iload_n 3, 1) := by decide +kernel
theorem dX12_findTable_31 : decode cX12_findTable 31 = .ok (.aload_n 0, 1) := by decide +kernel
theorem dX12_findTable_32 : decode cX12_findTable 32 = .ok (.getfield 101, 3) := by decide +kernel
theorem dX12_findTable_35 : decode cX12_findTable 35 = .ok (.if_icmp .ge 68, 3) := by decide +kernel
theorem dX12_findTable_38 : decode cX12_findTable 38 = .ok (.aload_n 0, 1) := by decide +kernel
theorem dX12_findTable_39 : decode cX12_findTable 39 = .ok (.iload_n 1, 1) := by decide +kernel
theorem dX12_findTable_40 : decode cX12_findTable 40 = .ok (.invokevirtual 144, 3) := by decide +kernel
theorem dX12_findTable_43 : decode cX12_findTable 43 = .ok (.ifCond .lt 54, 3) := by decide +kernel
theorem dX12_findTable_46 : decode cX12_findTable 46 = .ok (.aload_n 0, 1) := by decide +kernel
theorem dX12_findTable_47 : decode cX12_findTable 47 = .ok (.iload_n 2, 1) := by decide +kernel
theorem dX12_findTable_48 : decode cX12_findTable 48 = .ok (.invokevirtual 144, 3) := by decide +kernel
theorem dX12_findTable_51 : decode cX12_findTable 51 = .ok (.ifCond .lt 46, 3) := by decide +kernel
theorem dX12_findTable_54 : decode cX12_findTable 54 = .ok (.aload_n 0, 1) := by decide +kernel
theorem dX12_findTable_55 : decode cX12_findTable 55 = .ok (.iload_n 3, 1) := by decide +kernel
theorem dX12_findTable_56 : decode cX12_findTable 56 = .ok (.invokevirtual 144, 3) := by decide +kernel
theorem dX12_findTable_59 : decode cX12_findTable 59 = .ok (.ifCond .lt 38, 3) := by decide +kernel
theorem dX12_findTable_62 : decode cX12_findTable 62 = .ok (.aload_n 0, 1) := by decide +kernel
theorem dX12_findTable_63 : decode cX12_findTable 63 = .ok (.iload_n 1, 1) := by decide +kernel
theorem dX12_findTable_64 : decode cX12_findTable 64 = .ok (.iload_n 2, 1) := by decide +kernel
theorem dX12_findTable_65 : decode cX12_findTable 65 = .ok (.iload_n 3, 1) := by decide +kernel
theorem dX12_findTable_66 : decode cX12_findTable 66 = .ok (.invokevirtual 112, 3) := by decide +kernel
theorem dX12_findTable_69 : decode cX12_findTable 69 = .ok (.lconst 0, 1) := by decide +kernel
theorem dX12_findTable_70 : decode cX12_findTable 70 = .ok (.lcmp, 1) := by decide +kernel
theorem dX12_findTable_71 : decode cX12_findTable 71 = .ok (.ifCond .eq 26, 3) := by decide +kernel
theorem dX12_findTable_74 : decode cX12_findTable 74 = .ok (.aload_n 0, 1) := by decide +kernel
theorem dX12_findTable_75 : decode cX12_findTable 75 = .ok (.getfield 69, 3) := by decide +kernel
theorem dX12_findTable_78 : decode cX12_findTable 78 = .ok (.iconst 0, 1) := by decide +kernel
theorem dX12_findTable_79 : decode cX12_findTable 79 = .ok (.iload_n 1, 1) := by decide +kernel
theorem dX12_findTable_80 : decode cX12_findTable 80 = .ok (.iastore, 1) := by decide +kernel
theorem dX12_findTable_81 : decode cX12_findTable 81 = .ok (.aload_n 0, 1) := by decide +kernel
theorem dX12_findTable_82 : decode cX12_findTable 82 = .ok (.getfield 69, 3) := by decide +kernel
theorem dX12_findTable_85 : decode cX12_findTable 85 = .ok (.iconst 1, 1) := by decide +kernel
theorem dX12_findTable_86 : decode cX12_findTable 86 = .ok (.iload_n 2, 1) := by decide +kernel
theorem dX12_findTable_87 : decode cX12_findTable 87 = .ok (.iastore, 1) := by decide +kernel
theorem dX12_findTable_88 : decode cX12_findTable 88 = .ok (.aload_n 0, 1) := by decide +kernel
theorem dX12_findTable_89 : decode cX12_findTable 89 = .ok (.getfield 69, 3) := by decide +kernel
theorem dX12_findTable_92 : decode cX12_findTable 92 = .ok (.iconst 2, 1) := by decide +kernel
theorem dX12_findTable_93 : decode cX12_findTable 93 = .ok (.iload_n 3, 1) := by decide +kernel
theorem dX12_findTable_94 : decode cX12_findTable 94 = .ok (.iastore, 1) := by decide +kernel
theorem dX12_findTable_95 : decode cX12_findTable 95 = .ok (.iconst 1, 1) := by decide +kernel
theorem dX12_findTable_96 : decode cX12_findTable 96 = .ok (.ireturn, 1) := by decide +kernel
theorem dX12_findTable_97 : decode cX12_findTable 97 = .ok (.iinc 3 1, 3) := by decide +kernel
theorem dX12_findTable_100 : decode cX12_findTable 100 = .ok (.goto (-70), 3) := by decide +kernel
theorem dX12_findTable_103 : decode cX12_findTable 103 = .ok (.iinc 2 1, 3) := by decide +kernel
theorem dX12_findTable_106 : decode cX12_findTable 106 = .ok (.goto (-88), 3) := by decide +kernel
theorem dX12_findTable_109 : decode cX12_findTable 109 = .ok (.iinc 1 1, 3) := by decide +kernel
theorem dX12_findTable_112 : decode cX12_findTable 112 = .ok (.goto (-106), 3) := by decide +kernel
theorem dX12_findTable_115 : decode cX12_findTable 115 = .ok (.iconst 0, 1) := by decide +kernel
theorem dX12_findTable_116 : decode cX12_findTable 116 = .ok (.ireturn, 1) := by decide +kernel
set_option maxRecDepth 20000 in
theorem ggX12_table_X12_in : GoodIn wsX12_table wsX12_in := goodIn_r _ [7] (by decide +kernel) (by decide +kernel)
set_option maxRecDepth 20000 in
theorem gX12_table_X12_in : GoodIn wsX12_table (va_wsS RX12 87 yX12_in wsX12_in) := goodIn_app (goodIn_of _ (by decide +kernel)) ggX12_table_X12_in
set_option maxRecDepth 20000 in
theorem ggX12_table_X12_finding : GoodIn wsX12_table wsX12_finding := goodIn_r _ [11, 12, 13, 72, 73, 74, 75, 76, 77, 78, 79, 80, 81, 82, 83, 84, 85, 86, 87, 88, 89, 90, 91, 92, 93, 94, 95, 96, 97, 98] (by decide +kernel) (by decide +kernel)
set_option maxRecDepth 20000 in
theorem gX12_table_X12_finding : GoodIn wsX12_table (wsV RX12 93 RX12 yX12_finding wsX12_finding) := goodIn_app (goodIn_of _ (by decide +kernel)) ggX12_table_X12_finding
set_option maxRecDepth 20000 in
theorem ggX12_table_X12_findTable : GoodIn wsX12_table wsX12_findTable := goodIn_r _ [17, 18, 2, 19, 20, 21, 6, 22, 23, 24, 25, 26, 27, 28, 29, 30, 31, 32, 33, 34, 35, 36, 37, 38, 39, 40, 41, 42, 43, 44, 45, 46, 47, 48, 49, 50, 51, 52, 53, 54, 55, 56, 57, 58, 59, 60, 61, 62, 63, 64, 65, 66, 67, 68, 69, 70, 71, 72, 73, 74, 75, 76, 77, 78, 79, 80, 81, 82, 83, 84, 85, 86, 87, 88, 89, 90, 91, 92, 93, 94, 95, 96, 97, 98] (by decide +kernel) (by decide +kernel)
set_option maxRecDepth 20000 in
theorem gX12_table_X12_findTable : GoodIn wsX12_table (wsV RX12 148 RX12 yX12_findTable wsX12_findTable) := goodIn_app (goodIn_of _ (by decide +kernel)) ggX12_table_X12_findTable
theorem dX12_table_0 : decode cX12_table 0 = .ok (.iload_n 1, 1) := by decide +kernel
theorem dX12_table_1 : decode cX12_table 1 = .ok (.iconst 0, 1) := by decide +kernel
theorem dX12_table_2 : decode cX12_table 2 = .ok (.iconst 2, 1) := by decide +kernel
theorem dX12_table_3 : decode cX12_table 3 = .ok (.invokestatic 87, 3) := by decide +kernel
theorem dX12_table_6 : decode cX12_table 6 = .ok (.ifCond .ne 11, 3) := by decide +kernel
theorem dX12_table_9 : decode cX12_table 9 = .ok (.aload_n 0, 1) := by decide +kernel
theorem dX12_table_10 : decode cX12_table 10 = .ok (.ldc2_w 91, 3) := by decide +kernel
theorem dX12_table_13 : decode cX12_table 13 = .ok (.invokevirtual 93, 3) := by decide +kernel
theorem dX12_table_16 : decode cX12_table 16 = .ok (.lreturn, 1) := by decide +kernel
theorem dX12_table_17 : decode cX12_table 17 = .ok (.aload_n 0, 1) := by decide +kernel
theorem dX12_table_18 : decode cX12_table 18 = .ok (.invokevirtual 148, 3) := by decide +kernel
theorem dX12_table_21 : decode cX12_table 21 = .ok (.ifCond .eq 13, 3) := by decide +kernel
theorem dX12_table_24 : decode cX12_table 24 = .ok (.aload_n 0, 1) := by decide +kernel
theorem dX12_table_25 : decode cX12_table 25 = .ok (.getfield 69, 3) := by decide +kernel
theorem dX12_table_28 : decode cX12_table 28 = .ok (.iload_n 1, 1) := by decide +kernel
theorem dX12_table_29 : decode cX12_table 29 = .ok (.iaload, 1) := by decide +kernel
theorem dX12_table_30 : decode cX12_table 30 = .ok (.i2l, 1) := by decide +kernel
theorem dX12_table_31 : decode cX12_table 31 = .ok (.goto 10, 3) := by decide +kernel
theorem dX12_table_34 : decode cX12_table 34 = .ok (.aload_n 0, 1) := by decide +kernel
theorem dX12_table_35 : decode cX12_table 35 = .ok (.ldc2_w 106, 3) := by decide +kernel
theorem dX12_table_38 : decode cX12_table 38 = .ok (.invokevirtual 93, 3) := by decide +kernel
theorem dX12_table_41 : decode cX12_table 41 = .ok (.lreturn, 1) := by decide +kernel
theorem dX12_crossTo_0 : decode cX12_crossTo 0 = .ok (.aload_n 0, 1) := by decide +kernel
theorem dX12_crossTo_1 : decode cX12_crossTo 1 = .ok (.getfield 9, 3) := by decide +kernel
theorem dX12_crossTo_4 : decode cX12_crossTo 4 = .ok (.iload_n 2, 1) := by decide +kernel
theorem dX12_crossTo_5 : decode cX12_crossTo 5 = .ok (.iaload, 1) := by decide +kernel
theorem dX12_crossTo_6 : decode cX12_crossTo 6 = .ok (.aload_n 0, 1) := by decide +kernel
theorem dX12_crossTo_7 : decode cX12_crossTo 7 = .ok (.getfield 9, 3) := by decide +kernel
theorem dX12_crossTo_10 : decode cX12_crossTo 10 = .ok (.iload_n 1, 1) := by decide +kernel
theorem dX12_crossTo_11 : decode cX12_crossTo 11 = .ok (.iaload, 1) := by decide +kernel
theorem dX12_crossTo_12 : decode cX12_crossTo 12 = .ok (.isub, 1) := by decide +kernel
theorem dX12_crossTo_13 : decode cX12_crossTo 13 = .ok (.i2l, 1) := by decide +kernel
theorem dX12_crossTo_14 : decode cX12_crossTo 14 = .ok (.iload 4, 2) := by decide +kernel
theorem dX12_crossTo_16 : decode cX12_crossTo 16 = .ok (.aload_n 0, 1) := by decide +kernel
theorem dX12_crossTo_17 : decode cX12_crossTo 17 = .ok (.getfield 13, 3) := by decide +kernel
theorem dX12_crossTo_20 : decode cX12_crossTo 20 = .ok (.iload_n 1, 1) := by decide +kernel
theorem dX12_crossTo_21 : decode cX12_crossTo 21 = .ok (.iaload, 1) := by decide +kernel
theorem dX12_crossTo_22 : decode cX12_crossTo 22 = .ok (.isub, 1) := by decide +kernel
theorem dX12_crossTo_23 : decode cX12_crossTo 23 = .ok (.i2l, 1) := by decide +kernel
theorem dX12_crossTo_24 : decode cX12_crossTo 24 = .ok (.lmul, 1) := by decide +kernel
theorem dX12_crossTo_25 : decode cX12_crossTo 25 = .ok (.aload_n 0, 1) := by decide +kernel
theorem dX12_crossTo_26 : decode cX12_crossTo 26 = .ok (.getfield 13, 3) := by decide +kernel
theorem dX12_crossTo_29 : decode cX12_crossTo 29 = .ok (.iload_n 2, 1) := by decide +kernel
theorem dX12_crossTo_30 : decode cX12_crossTo 30 = .ok (.iaload, 1) := by decide +kernel
theorem dX12_crossTo_31 : decode cX12_crossTo 31 = .ok (.aload_n 0, 1) := by decide +kernel
theorem dX12_crossTo_32 : decode cX12_crossTo 32 = .ok (.getfield 13, 3) := by decide +kernel
theorem dX12_crossTo_35 : decode cX12_crossTo 35 = .ok (.iload_n 1, 1) := by decide +kernel
theorem dX12_crossTo_36 : decode cX12_crossTo 36 = .ok (.iaload, 1) := by decide +kernel
theorem dX12_crossTo_37 : decode cX12_crossTo 37 = .ok (.isub, 1) := by decide +kernel
theorem dX12_crossTo_38 : decode cX12_crossTo 38 = .ok (.i2l, 1) := by decide +kernel
theorem dX12_crossTo_39 : decode cX12_crossTo 39 = .ok (.iload_n 3, 1) := by decide +kernel
theorem dX12_crossTo_40 : decode cX12_crossTo 40 = .ok (.aload_n 0, 1) := by decide +kernel
theorem dX12_crossTo_41 : decode cX12_crossTo 41 = .ok (.getfield 9, 3) := by decide +kernel
theorem dX12_crossTo_44 : decode cX12_crossTo 44 = .ok (.iload_n 1, 1) := by decide +kernel
theorem dX12_crossTo_45 : decode cX12_crossTo 45 = .ok (.iaload, 1) := by decide +kernel
theorem dX12_crossTo_46 : decode cX12_crossTo 46 = .ok (.isub, 1) := by decide +kernel
theorem dX12_crossTo_47 : decode cX12_crossTo 47 = .ok (.i2l, 1) := by decide +kernel
theorem dX12_crossTo_48 : decode cX12_crossTo 48 = .ok (.lmul, 1) := by decide +kernel
theorem dX12_crossTo_49 : decode cX12_crossTo 49 = .ok (.lsub, 1) := by decide +kernel
theorem dX12_crossTo_50 : decode cX12_crossTo 50 = .ok (.lreturn, 1) := by decide +kernel
set_option maxRecDepth 20000 in
theorem ggX12_place_X12_in : GoodIn wsX12_place wsX12_in := goodIn_r _ [9] (by decide +kernel) (by decide +kernel)
set_option maxRecDepth 20000 in
theorem gX12_place_X12_in : GoodIn wsX12_place (va_wsS RX12 87 yX12_in wsX12_in) := goodIn_app (goodIn_of _ (by decide +kernel)) ggX12_place_X12_in
set_option maxRecDepth 20000 in
theorem ggX12_place_X12_finding : GoodIn wsX12_place wsX12_finding := goodIn_r _ [13, 14, 15, 82, 83, 84, 85, 86, 87, 88, 89, 90, 91, 92, 93, 94, 95, 96, 97, 98, 99, 100, 101, 102, 103, 104, 105, 106, 107, 108] (by decide +kernel) (by decide +kernel)
set_option maxRecDepth 20000 in
theorem gX12_place_X12_finding : GoodIn wsX12_place (wsV RX12 93 RX12 yX12_finding wsX12_finding) := goodIn_app (goodIn_of _ (by decide +kernel)) ggX12_place_X12_finding
set_option maxRecDepth 20000 in
theorem ggX12_place_X12_findTable : GoodIn wsX12_place wsX12_findTable := goodIn_r _ [19, 20, 5, 21, 22, 23, 8, 24, 25, 26, 27, 28, 29, 30, 31, 32, 33, 34, 35, 36, 37, 38, 39, 40, 41, 42, 43, 44, 45, 4, 3, 46, 47, 48, 49, 50, 51, 52, 53, 54, 55, 56, 57, 58, 59, 60, 61, 62, 63, 64, 65, 66, 67, 68, 69, 70, 71, 82, 83, 84, 85, 86, 87, 88, 89, 90, 91, 92, 93, 94, 95, 96, 97, 98, 99, 100, 101, 102, 103, 104, 105, 106, 107, 108] (by decide +kernel) (by decide +kernel)
set_option maxRecDepth 20000 in
theorem gX12_place_X12_findTable : GoodIn wsX12_place (wsV RX12 148 RX12 yX12_findTable wsX12_findTable) := goodIn_app (goodIn_of _ (by decide +kernel)) ggX12_place_X12_findTable
set_option maxRecDepth 20000 in
theorem ggX12_place_X12_cross : GoodIn wsX12_place wsX12_cross := goodIn_r _ [49, 4, 3, 82, 83, 84, 85, 86, 87, 88, 89, 90, 91, 92, 93, 94, 95, 96, 97, 98, 99, 100, 101, 102, 103, 104, 105, 106, 107, 108] (by decide +kernel) (by decide +kernel)
set_option maxRecDepth 20000 in
theorem gX12_place_X12_cross : GoodIn wsX12_place (wsV RX12 112 RX12 yX12_cross wsX12_cross) := goodIn_app (goodIn_of _ (by decide +kernel)) ggX12_place_X12_cross
set_option maxRecDepth 20000 in
theorem ggX12_place_X12_crossTo : GoodIn wsX12_place wsX12_crossTo := goodIn_r _ [75, 4, 3, 82, 83, 84, 85, 86, 87, 88, 89, 90, 91, 92, 93, 94, 95, 96, 97, 98, 99, 100, 101, 102, 103, 104, 105, 106, 107, 108] (by decide +kernel) (by decide +kernel)
set_option maxRecDepth 20000 in
theorem gX12_place_X12_crossTo : GoodIn wsX12_place (wsV RX12 152 RX12 yX12_crossTo wsX12_crossTo) := goodIn_app (goodIn_of _ (by decide +kernel)) ggX12_place_X12_crossTo
set_option maxRecDepth 20000 in
theorem ggX12_place_X12_matchOf : GoodIn wsX12_place wsX12_matchOf := goodIn_r _ [71, 31, 25, 20, 82, 83, 84, 85, 86, 87, 88, 89, 90, 91, 92, 93, 94, 95, 96, 97, 98, 99, 100, 101, 102, 103, 104, 105, 106, 107, 108] (by decide +kernel) (by decide +kernel)
set_option maxRecDepth 20000 in
theorem gX12_place_X12_matchOf : GoodIn wsX12_place (wsV RX12 144 RX12 yX12_matchOf wsX12_matchOf) := goodIn_app (goodIn_of _ (by decide +kernel)) ggX12_place_X12_matchOf
set_option maxRecDepth 20000 in
theorem ggX12_place_X12_part : GoodIn wsX12_place wsX12_part := goodIn_r _ [78, 79, 80, 8, 81, 62, 63, 64, 65] (by decide +kernel) (by decide +kernel)
set_option maxRecDepth 20000 in
theorem gX12_place_X12_part : GoodIn wsX12_place (va_wsS RX12 156 yX12_part wsX12_part) := goodIn_app (goodIn_of _ (by decide +kernel)) ggX12_place_X12_part
theorem dX12_place_0 : decode cX12_place 0 = .ok (.iload_n 1, 1) := by decide +kernel
theorem dX12_place_1 : decode cX12_place 1 = .ok (.iconst 0, 1) := by decide +kernel
theorem dX12_place_2 : decode cX12_place 2 = .ok (.sipush 199, 3) := by decide +kernel
theorem dX12_place_5 : decode cX12_place 5 = .ok (.invokestatic 87, 3) := by decide +kernel
theorem dX12_place_8 : decode cX12_place 8 = .ok (.ifCond .eq 14, 3) := by decide +kernel
theorem dX12_place_11 : decode cX12_place 11 = .ok (.iload_n 2, 1) := by decide +kernel
theorem dX12_place_12 : decode cX12_place 12 = .ok (.iconst 0, 1) := by decide +kernel
theorem dX12_place_13 : decode cX12_place 13 = .ok (.sipush 199, 3) := by decide +kernel
theorem dX12_place_16 : decode cX12_place 16 = .ok (.invokestatic 87, 3) := by decide +kernel
theorem dX12_place_19 : decode cX12_place 19 = .ok (.ifCond .ne 11, 3) := by decide +kernel
theorem dX12_place_22 : decode cX12_place 22 = .ok (.aload_n 0, 1) := by decide +kernel
theorem dX12_place_23 : decode cX12_place 23 = .ok (.ldc2_w 91, 3) := by decide +kernel
theorem dX12_place_26 : decode cX12_place 26 = .ok (.invokevirtual 93, 3) := by decide +kernel
theorem dX12_place_29 : decode cX12_place 29 = .ok (.lreturn, 1) := by decide +kernel
theorem dX12_place_30 : decode cX12_place 30 = .ok (.aload_n 0, 1) := by decide +kernel
theorem dX12_place_31 : decode cX12_place 31 = .ok (.invokevirtual 148, 3) := by decide +kernel
theorem dX12_place_34 : decode cX12_place 34 = .ok (.ifCond .ne 11, 3) := by decide +kernel
theorem dX12_place_37 : decode cX12_place 37 = .ok (.aload_n 0, 1) := by decide +kernel
theorem dX12_place_38 : decode cX12_place 38 = .ok (.ldc2_w 106, 3) := by decide +kernel
theorem dX12_place_41 : decode cX12_place 41 = .ok (.invokevirtual 93, 3) := by decide +kernel
theorem dX12_place_44 : decode cX12_place 44 = .ok (.lreturn, 1) := by decide +kernel
theorem dX12_place_45 : decode cX12_place 45 = .ok (.iload_n 3, 1) := by decide +kernel
theorem dX12_place_46 : decode cX12_place 46 = .ok (.ifCond .eq 10, 3) := by decide +kernel
theorem dX12_place_49 : decode cX12_place 49 = .ok (.aload_n 0, 1) := by decide +kernel
theorem dX12_place_50 : decode cX12_place 50 = .ok (.getfield 13, 3) := by decide +kernel
theorem dX12_place_53 : decode cX12_place 53 = .ok (.goto 7, 3) := by decide +kernel
theorem dX12_place_56 : decode cX12_place 56 = .ok (.aload_n 0, 1) := by decide +kernel
theorem dX12_place_57 : decode cX12_place 57 = .ok (.getfield 9, 3) := by decide +kernel
theorem dX12_place_60 : decode cX12_place 60 = .ok (.astore 5, 2) := by decide +kernel
theorem dX12_place_62 : decode cX12_place 62 = .ok (.aload_n 0, 1) := by decide +kernel
theorem dX12_place_63 : decode cX12_place 63 = .ok (.aload_n 0, 1) := by decide +kernel
theorem dX12_place_64 : decode cX12_place 64 = .ok (.getfield 69, 3) := by decide +kernel
theorem dX12_place_67 : decode cX12_place 67 = .ok (.iconst 0, 1) := by decide +kernel
theorem dX12_place_68 : decode cX12_place 68 = .ok (.iaload, 1) := by decide +kernel
theorem dX12_place_69 : decode cX12_place 69 = .ok (.aload_n 0, 1) := by decide +kernel
theorem dX12_place_70 : decode cX12_place 70 = .ok (.getfield 69, 3) := by decide +kernel
theorem dX12_place_73 : decode cX12_place 73 = .ok (.iconst 1, 1) := by decide +kernel
theorem dX12_place_74 : decode cX12_place 74 = .ok (.iaload, 1) := by decide +kernel
theorem dX12_place_75 : decode cX12_place 75 = .ok (.aload_n 0, 1) := by decide +kernel
theorem dX12_place_76 : decode cX12_place 76 = .ok (.getfield 69, 3) := by decide +kernel
theorem dX12_place_79 : decode cX12_place 79 = .ok (.iconst 2, 1) := by decide +kernel
theorem dX12_place_80 : decode cX12_place 80 = .ok (.iaload, 1) := by decide +kernel
theorem dX12_place_81 : decode cX12_place 81 = .ok (.invokevirtual 112, 3) := by decide +kernel
theorem dX12_place_84 : decode cX12_place 84 = .ok (.lstore 6, 2) := by decide +kernel
theorem dX12_place_86 : decode cX12_place 86 = .ok (.aload_n 0, 1) := by decide +kernel
theorem dX12_place_87 : decode cX12_place 87 = .ok (.aload_n 0, 1) := by decide +kernel
theorem dX12_place_88 : decode cX12_place 88 = .ok (.getfield 69, 3) := by decide +kernel
theorem dX12_place_91 : decode cX12_place 91 = .ok (.iconst 1, 1) := by decide +kernel
theorem dX12_place_92 : decode cX12_place 92 = .ok (.iaload, 1) := by decide +kernel
theorem dX12_place_93 : decode cX12_place 93 = .ok (.aload_n 0, 1) := by decide +kernel
theorem dX12_place_94 : decode cX12_place 94 = .ok (.getfield 69, 3) := by decide +kernel
theorem dX12_place_97 : decode cX12_place 97 = .ok (.iconst 2, 1) := by decide +kernel
theorem dX12_place_98 : decode cX12_place 98 = .ok (.iaload, 1) := by decide +kernel
theorem dX12_place_99 : decode cX12_place 99 = .ok (.iload_n 1, 1) := by decide +kernel
theorem dX12_place_100 : decode cX12_place 100 = .ok (.iload_n 2, 1) := by decide +kernel
theorem dX12_place_101 : decode cX12_place 101 = .ok (.invokevirtual 152, 3) := by decide +kernel
theorem dX12_place_104 : decode cX12_place 104 = .ok (.lstore 8, 2) := by decide +kernel
theorem dX12_place_106 : decode cX12_place 106 = .ok (.aload_n 0, 1) := by decide +kernel
theorem dX12_place_107 : decode cX12_place 107 = .ok (.aload_n 0, 1) := by decide +kernel
theorem dX12_place_108 : decode cX12_place 108 = .ok (.getfield 69, 3) := by decide +kernel
theorem dX12_place_111 : decode cX12_place 111 = .ok (.iconst 2, 1) := by decide +kernel
theorem dX12_place_112 : decode cX12_place 112 = .ok (.iaload, 1) := by decide +kernel
theorem dX12_place_113 : decode cX12_place 113 = .ok (.aload_n 0, 1) := by decide +kernel
theorem dX12_place_114 : decode cX12_place 114 = .ok (.getfield 69, 3) := by decide +kernel
theorem dX12_place_117 : decode cX12_place 117 = .ok (.iconst 0, 1) := by decide +kernel
theorem dX12_place_118 : decode cX12_place 118 = .ok (.iaload, 1) := by decide +kernel
theorem dX12_place_119 : decode cX12_place 119 = .ok (.iload_n 1, 1) := by decide +kernel
theorem dX12_place_120 : decode cX12_place 120 = .ok (.iload_n 2, 1) := by decide +kernel
theorem dX12_place_121 : decode cX12_place 121 = .ok (.invokevirtual 152, 3) := by decide +kernel
theorem dX12_place_124 : decode cX12_place 124 = .ok (.lstore 10, 2) := by decide +kernel
theorem dX12_place_126 : decode cX12_place 126 = .ok (.aload_n 0, 1) := by decide +kernel
theorem dX12_place_127 : decode cX12_place 127 = .ok (.aload_n 0, 1) := by decide +kernel
theorem dX12_place_128 : decode cX12_place 128 = .ok (.getfield 69, 3) := by decide +kernel
theorem dX12_place_131 : decode cX12_place 131 = .ok (.iconst 0, 1) := by decide +kernel
theorem dX12_place_132 : decode cX12_place 132 = .ok (.iaload, 1) := by decide +kernel
theorem dX12_place_133 : decode cX12_place 133 = .ok (.aload_n 0, 1) := by decide +kernel
theorem dX12_place_134 : decode cX12_place 134 = .ok (.getfield 69, 3) := by decide +kernel
theorem dX12_place_137 : decode cX12_place 137 = .ok (.iconst 1, 1) := by decide +kernel
theorem dX12_place_138 : decode cX12_place 138 = .ok (.iaload, 1) := by decide +kernel
theorem dX12_place_139 : decode cX12_place 139 = .ok (.iload_n 1, 1) := by decide +kernel
theorem dX12_place_140 : decode cX12_place 140 = .ok (.iload_n 2, 1) := by decide +kernel
theorem dX12_place_141 : decode cX12_place 141 = .ok (.invokevirtual 152, 3) := by decide +kernel
theorem dX12_place_144 : decode cX12_place 144 = .ok (.lstore 12, 2) := by decide +kernel
theorem dX12_place_146 : decode cX12_place 146 = .ok (.lload 8, 2) := by decide +kernel
theorem dX12_place_148 : decode cX12_place 148 = .ok (.aload 5, 2) := by decide +kernel
theorem dX12_place_150 : decode cX12_place 150 = .ok (.bipush 10, 2) := by decide +kernel
theorem dX12_place_152 : decode cX12_place 152 = .ok (.aload_n 0, 1) := by decide +kernel
theorem dX12_place_153 : decode cX12_place 153 = .ok (.aload_n 0, 1) := by decide +kernel
theorem dX12_place_154 : decode cX12_place 154 = .ok (.getfield 69, 3) := by decide +kernel
theorem dX12_place_157 : decode cX12_place 157 = .ok (.iconst 0, 1) := by decide +kernel
theorem dX12_place_158 : decode cX12_place 158 = .ok (.iaload, 1) := by decide +kernel
theorem dX12_place_159 : decode cX12_place 159 = .ok (.invokevirtual 144, 3) := by decide +kernel
theorem dX12_place_162 : decode cX12_place 162 = .ok (.iadd, 1) := by decide +kernel
theorem dX12_place_163 : decode cX12_place 163 = .ok (.iaload, 1) := by decide +kernel
theorem dX12_place_164 : decode cX12_place 164 = .ok (.i2l, 1) := by decide +kernel
theorem dX12_place_165 : decode cX12_place 165 = .ok (.lmul, 1) := by decide +kernel
theorem dX12_place_166 : decode cX12_place 166 = .ok (.lload 10, 2) := by decide +kernel
theorem dX12_place_168 : decode cX12_place 168 = .ok (.aload 5, 2) := by decide +kernel
theorem dX12_place_170 : decode cX12_place 170 = .ok (.bipush 10, 2) := by decide +kernel
theorem dX12_place_172 : decode cX12_place 172 = .ok (.aload_n 0, 1) := by decide +kernel
theorem dX12_place_173 : decode cX12_place 173 = .ok (.aload_n 0, 1) := by decide +kernel
theorem dX12_place_174 : decode cX12_place 174 = .ok (.getfield 69, 3) := by decide +kernel
theorem dX12_place_177 : decode cX12_place 177 = .ok (.iconst 1, 1) := by decide +kernel
theorem dX12_place_178 : decode cX12_place 178 = .ok (.iaload, 1) := by decide +kernel
theorem dX12_place_179 : decode cX12_place 179 = .ok (.invokevirtual 144, 3) := by decide +kernel
theorem dX12_place_182 : decode cX12_place 182 = .ok (.iadd, 1) := by decide +kernel
theorem dX12_place_183 : decode cX12_place 183 = .ok (.iaload, 1) := by decide +kernel
theorem dX12_place_184 : decode cX12_place 184 = .ok (.i2l, 1) := by decide +kernel
theorem dX12_place_185 : decode cX12_place 185 = .ok (.lmul, 1) := by decide +kernel
theorem dX12_place_186 : decode cX12_place 186 = .ok (.ladd, 1) := by decide +kernel
theorem dX12_place_187 : decode cX12_place 187 = .ok (.lload 12, 2) := by decide +kernel
theorem dX12_place_189 : decode cX12_place 189 = .ok (.aload 5, 2) := by decide +kernel
theorem dX12_place_191 : decode cX12_place 191 = .ok (.bipush 10, 2) := by decide +kernel
theorem dX12_place_193 : decode cX12_place 193 = .ok (.aload_n 0, 1) := by decide +kernel
theorem dX12_place_194 : decode cX12_place 194 = .ok (.aload_n 0, 1) := by decide +kernel
theorem dX12_place_195 : decode cX12_place 195 = .ok (.getfield 69, 3) := by decide +kernel
theorem dX12_place_198 : decode cX12_place 198 = .ok (.iconst 2, 1) := by decide +kernel
theorem dX12_place_199 : decode cX12_place 199 = .ok (.iaload, 1) := by decide +kernel
theorem dX12_place_200 : decode cX12_place 200 = .ok (.invokevirtual 144, 3) := by decide +kernel
theorem dX12_place_203 : decode cX12_place 203 = .ok (.iadd, 1) := by decide +kernel
theorem dX12_place_204 : decode cX12_place 204 = .ok (.iaload, 1) := by decide +kernel
theorem dX12_place_205 : decode cX12_place 205 = .ok (.i2l, 1) := by decide +kernel
theorem dX12_place_206 : decode cX12_place 206 = .ok (.lmul, 1) := by decide +kernel
theorem dX12_place_207 : decode cX12_place 207 = .ok (.ladd, 1) := by decide +kernel
theorem dX12_place_208 : decode cX12_place 208 = .ok (.lstore 14, 2) := by decide +kernel
theorem dX12_place_210 : decode cX12_place 210 = .ok (.lload 14, 2) := by decide +kernel
theorem dX12_place_212 : decode cX12_place 212 = .ok (.lload 6, 2) := by decide +kernel
theorem dX12_place_214 : decode cX12_place 214 = .ok (.iload 4, 2) := by decide +kernel
theorem dX12_place_216 : decode cX12_place 216 = .ok (.invokestatic 156, 3) := by decide +kernel
theorem dX12_place_219 : decode cX12_place 219 = .ok (.lreturn, 1) := by decide +kernel
set_option maxRecDepth 20000 in
theorem ggX12_isStation_X12_in : GoodIn wsX12_isStation wsX12_in := goodIn_r _ [4] (by decide +kernel) (by decide +kernel)
set_option maxRecDepth 20000 in
theorem gX12_isStation_X12_in : GoodIn wsX12_isStation (va_wsS RX12 87 yX12_in wsX12_in) := goodIn_app (goodIn_of _ (by decide +kernel)) ggX12_isStation_X12_in
theorem dX12_isStation_0 : decode cX12_isStation 0 = .ok (.iload_n 0, 1) := by decide +kernel
theorem dX12_isStation_1 : decode cX12_isStation 1 = .ok (.iconst 0, 1) := by decide +kernel
theorem dX12_isStation_2 : decode cX12_isStation 2 = .ok (.iconst 3, 1) := by decide +kernel
theorem dX12_isStation_3 : decode cX12_isStation 3 = .ok (.invokestatic 87, 3) := by decide +kernel
theorem dX12_isStation_6 : decode cX12_isStation 6 = .ok (.ireturn, 1) := by decide +kernel
set_option maxRecDepth 20000 in
theorem ggX12_isMeteor_X12_in : GoodIn wsX12_isMeteor wsX12_in := goodIn_r _ [4] (by decide +kernel) (by decide +kernel)
set_option maxRecDepth 20000 in
theorem gX12_isMeteor_X12_in : GoodIn wsX12_isMeteor (va_wsS RX12 87 yX12_in wsX12_in) := goodIn_app (goodIn_of _ (by decide +kernel)) ggX12_isMeteor_X12_in
theorem dX12_isMeteor_0 : decode cX12_isMeteor 0 = .ok (.iload_n 0, 1) := by decide +kernel
theorem dX12_isMeteor_1 : decode cX12_isMeteor 1 = .ok (.iconst 0, 1) := by decide +kernel
theorem dX12_isMeteor_2 : decode cX12_isMeteor 2 = .ok (.iconst 5, 1) := by decide +kernel
theorem dX12_isMeteor_3 : decode cX12_isMeteor 3 = .ok (.invokestatic 87, 3) := by decide +kernel
theorem dX12_isMeteor_6 : decode cX12_isMeteor 6 = .ok (.ireturn, 1) := by decide +kernel
set_option maxRecDepth 20000 in
theorem ggX12_isSight_X12_isMeteor : GoodIn wsX12_isSight wsX12_isMeteor := goodIn_r _ [5, 6, 7, 4, 8] (by decide +kernel) (by decide +kernel)
set_option maxRecDepth 20000 in
theorem gX12_isSight_X12_isMeteor : GoodIn wsX12_isSight (va_wsS RX12 160 yX12_isMeteor wsX12_isMeteor) := goodIn_app (goodIn_of _ (by decide +kernel)) ggX12_isSight_X12_isMeteor
set_option maxRecDepth 20000 in
theorem ggX12_isSight_X12_in : GoodIn wsX12_isSight wsX12_in := goodIn_r _ [8] (by decide +kernel) (by decide +kernel)
set_option maxRecDepth 20000 in
theorem gX12_isSight_X12_in : GoodIn wsX12_isSight (va_wsS RX12 87 yX12_in wsX12_in) := goodIn_app (goodIn_of _ (by decide +kernel)) ggX12_isSight_X12_in
theorem dX12_isSight_0 : decode cX12_isSight 0 = .ok (.iload_n 1, 1) := by decide +kernel
theorem dX12_isSight_1 : decode cX12_isSight 1 = .ok (.invokestatic 160, 3) := by decide +kernel
theorem dX12_isSight_4 : decode cX12_isSight 4 = .ok (.ifCond .eq 23, 3) := by decide +kernel
theorem dX12_isSight_7 : decode cX12_isSight 7 = .ok (.iload_n 2, 1) := by decide +kernel
theorem dX12_isSight_8 : decode cX12_isSight 8 = .ok (.iconst 0, 1) := by decide +kernel
theorem dX12_isSight_9 : decode cX12_isSight 9 = .ok (.aload_n 0, 1) := by decide +kernel
theorem dX12_isSight_10 : decode cX12_isSight 10 = .ok (.getfield 29, 3) := by decide +kernel
theorem dX12_isSight_13 : decode cX12_isSight 13 = .ok (.iload_n 1, 1) := by decide +kernel
theorem dX12_isSight_14 : decode cX12_isSight 14 = .ok (.iaload, 1) := by decide +kernel
theorem dX12_isSight_15 : decode cX12_isSight 15 = .ok (.iconst 1, 1) := by decide +kernel
theorem dX12_isSight_16 : decode cX12_isSight 16 = .ok (.isub, 1) := by decide +kernel
theorem dX12_isSight_17 : decode cX12_isSight 17 = .ok (.invokestatic 87, 3) := by decide +kernel
theorem dX12_isSight_20 : decode cX12_isSight 20 = .ok (.ifCond .eq 7, 3) := by decide +kernel
theorem dX12_isSight_23 : decode cX12_isSight 23 = .ok (.iconst 1, 1) := by decide +kernel
theorem dX12_isSight_24 : decode cX12_isSight 24 = .ok (.goto 4, 3) := by decide +kernel
theorem dX12_isSight_27 : decode cX12_isSight 27 = .ok (.iconst 0, 1) := by decide +kernel
theorem dX12_isSight_28 : decode cX12_isSight 28 = .ok (.ireturn, 1) := by decide +kernel
set_option maxRecDepth 20000 in
theorem ggX12_station_X12_isStation : GoodIn wsX12_station wsX12_isStation := goodIn_r _ [6, 7, 8, 5, 9] (by decide +kernel) (by decide +kernel)
set_option maxRecDepth 20000 in
theorem gX12_station_X12_isStation : GoodIn wsX12_station (va_wsS RX12 164 yX12_isStation wsX12_isStation) := goodIn_app (goodIn_of _ (by decide +kernel)) ggX12_station_X12_isStation
set_option maxRecDepth 20000 in
theorem ggX12_station_X12_in : GoodIn wsX12_station wsX12_in := goodIn_r _ [9] (by decide +kernel) (by decide +kernel)
set_option maxRecDepth 20000 in
theorem gX12_station_X12_in : GoodIn wsX12_station (va_wsS RX12 87 yX12_in wsX12_in) := goodIn_app (goodIn_of _ (by decide +kernel)) ggX12_station_X12_in
set_option maxRecDepth 20000 in
theorem ggX12_station_X12_finding : GoodIn wsX12_station wsX12_finding := goodIn_r _ [13, 14, 15, 16, 17, 18, 19, 20, 21, 22, 23, 24, 25, 26, 27, 28, 29, 30, 31, 32, 33, 34, 35, 36, 37, 38, 39, 40, 41, 42] (by decide +kernel) (by decide +kernel)
set_option maxRecDepth 20000 in
theorem gX12_station_X12_finding : GoodIn wsX12_station (wsV RX12 93 RX12 yX12_finding wsX12_finding) := goodIn_app (goodIn_of _ (by decide +kernel)) ggX12_station_X12_finding
theorem dX12_station_0 : decode cX12_station 0 = .ok (.iload_n 1, 1) := by decide +kernel
theorem dX12_station_1 : decode cX12_station 1 = .ok (.invokestatic 164, 3) := by decide +kernel
theorem dX12_station_4 : decode cX12_station 4 = .ok (.ifCond .eq 36, 3) := by decide +kernel
theorem dX12_station_7 : decode cX12_station 7 = .ok (.iload_n 2, 1) := by decide +kernel
theorem dX12_station_8 : decode cX12_station 8 = .ok (.bipush (-99), 2) := by decide +kernel
theorem dX12_station_10 : decode cX12_station 10 = .ok (.bipush 99, 2) := by decide +kernel
theorem dX12_station_12 : decode cX12_station 12 = .ok (.invokestatic 87, 3) := by decide +kernel
theorem dX12_station_15 : decode cX12_station 15 = .ok (.ifCond .eq 25, 3) := by decide +kernel
theorem dX12_station_18 : decode cX12_station 18 = .ok (.iload_n 3, 1) := by decide +kernel
theorem dX12_station_19 : decode cX12_station 19 = .ok (.bipush (-99), 2) := by decide +kernel
theorem dX12_station_21 : decode cX12_station 21 = .ok (.bipush 99, 2) := by decide +kernel
theorem dX12_station_23 : decode cX12_station 23 = .ok (.invokestatic 87, 3) := by decide +kernel
theorem dX12_station_26 : decode cX12_station 26 = .ok (.ifCond .eq 14, 3) := by decide +kernel
theorem dX12_station_29 : decode cX12_station 29 = .ok (.iload 4, 2) := by decide +kernel
theorem dX12_station_31 : decode cX12_station 31 = .ok (.iconst 0, 1) := by decide +kernel
theorem dX12_station_32 : decode cX12_station 32 = .ok (.bipush 9, 2) := by decide +kernel
theorem dX12_station_34 : decode cX12_station 34 = .ok (.invokestatic 87, 3) := by decide +kernel
theorem dX12_station_37 : decode cX12_station 37 = .ok (.ifCond .ne 11, 3) := by decide +kernel
theorem dX12_station_40 : decode cX12_station 40 = .ok (.aload_n 0, 1) := by decide +kernel
theorem dX12_station_41 : decode cX12_station 41 = .ok (.ldc2_w 91, 3) := by decide +kernel
theorem dX12_station_44 : decode cX12_station 44 = .ok (.invokevirtual 93, 3) := by decide +kernel
theorem dX12_station_47 : decode cX12_station 47 = .ok (.lreturn, 1) := by decide +kernel
theorem dX12_station_48 : decode cX12_station 48 = .ok (.aload_n 0, 1) := by decide +kernel
theorem dX12_station_49 : decode cX12_station 49 = .ok (.getfield 26, 3) := by decide +kernel
theorem dX12_station_52 : decode cX12_station 52 = .ok (.iconst 3, 1) := by decide +kernel
theorem dX12_station_53 : decode cX12_station 53 = .ok (.iload_n 1, 1) := by decide +kernel
theorem dX12_station_54 : decode cX12_station 54 = .ok (.imul, 1) := by decide +kernel
theorem dX12_station_55 : decode cX12_station 55 = .ok (.iload_n 2, 1) := by decide +kernel
theorem dX12_station_56 : decode cX12_station 56 = .ok (.iastore, 1) := by decide +kernel
theorem dX12_station_57 : decode cX12_station 57 = .ok (.aload_n 0, 1) := by decide +kernel
theorem dX12_station_58 : decode cX12_station 58 = .ok (.getfield 26, 3) := by decide +kernel
theorem dX12_station_61 : decode cX12_station 61 = .ok (.iconst 3, 1) := by decide +kernel
theorem dX12_station_62 : decode cX12_station 62 = .ok (.iload_n 1, 1) := by decide +kernel
theorem dX12_station_63 : decode cX12_station 63 = .ok (.imul, 1) := by decide +kernel
theorem dX12_station_64 : decode cX12_station 64 = .ok (.iconst 1, 1) := by decide +kernel
theorem dX12_station_65 : decode cX12_station 65 = .ok (.iadd, 1) := by decide +kernel
theorem dX12_station_66 : decode cX12_station 66 = .ok (.iload_n 3, 1) := by decide +kernel
theorem dX12_station_67 : decode cX12_station 67 = .ok (.iastore, 1) := by decide +kernel
theorem dX12_station_68 : decode cX12_station 68 = .ok (.aload_n 0, 1) := by decide +kernel
theorem dX12_station_69 : decode cX12_station 69 = .ok (.getfield 26, 3) := by decide +kernel
theorem dX12_station_72 : decode cX12_station 72 = .ok (.iconst 3, 1) := by decide +kernel
theorem dX12_station_73 : decode cX12_station 73 = .ok (.iload_n 1, 1) := by decide +kernel
theorem dX12_station_74 : decode cX12_station 74 = .ok (.imul, 1) := by decide +kernel
theorem dX12_station_75 : decode cX12_station 75 = .ok (.iconst 2, 1) := by decide +kernel
theorem dX12_station_76 : decode cX12_station 76 = .ok (.iadd, 1) := by decide +kernel
theorem dX12_station_77 : decode cX12_station 77 = .ok (.iload 4, 2) := by decide +kernel
theorem dX12_station_79 : decode cX12_station 79 = .ok (.iastore, 1) := by decide +kernel
theorem dX12_station_80 : decode cX12_station 80 = .ok (.lconst 1, 1) := by decide +kernel
theorem dX12_station_81 : decode cX12_station 81 = .ok (.lreturn, 1) := by decide +kernel
set_option maxRecDepth 20000 in
theorem ggX12_tell_X12_finding : GoodIn wsX12_tell wsX12_finding := goodIn_r _ [8, 9, 10, 11, 12, 13, 14, 15, 16, 17, 18, 19, 20, 21, 22, 23, 24, 25, 26, 27, 28, 29, 30, 31, 32, 33, 34, 35, 36, 37] (by decide +kernel) (by decide +kernel)
set_option maxRecDepth 20000 in
theorem gX12_tell_X12_finding : GoodIn wsX12_tell (wsV RX12 93 RX12 yX12_finding wsX12_finding) := goodIn_app (goodIn_of _ (by decide +kernel)) ggX12_tell_X12_finding
theorem dX12_tell_0 : decode cX12_tell 0 = .ok (.aload_n 0, 1) := by decide +kernel
theorem dX12_tell_1 : decode cX12_tell 1 = .ok (.getfield 167, 3) := by decide +kernel
theorem dX12_tell_4 : decode cX12_tell 4 = .ok (.bipush 9, 2) := by decide +kernel
theorem dX12_tell_6 : decode cX12_tell 6 = .ok (.if_icmp .ne 11, 3) := by decide +kernel
theorem dX12_tell_9 : decode cX12_tell 9 = .ok (.aload_n 0, 1) := by decide +kernel
theorem dX12_tell_10 : decode cX12_tell 10 = .ok (.ldc2_w 99, 3) := by decide +kernel
theorem dX12_tell_13 : decode cX12_tell 13 = .ok (.invokevirtual 93, 3) := by decide +kernel
theorem dX12_tell_16 : decode cX12_tell 16 = .ok (.lreturn, 1) := by decide +kernel
theorem dX12_tell_17 : decode cX12_tell 17 = .ok (.aload_n 0, 1) := by decide +kernel
theorem dX12_tell_18 : decode cX12_tell 18 = .ok (.getfield 44, 3) := by decide +kernel
theorem dX12_tell_21 : decode cX12_tell 21 = .ok (.aload_n 0, 1) := by decide +kernel
theorem dX12_tell_22 : decode cX12_tell 22 = .ok (.getfield 167, 3) := by decide +kernel
theorem dX12_tell_25 : decode cX12_tell 25 = .ok (.iload_n 1, 1) := by decide +kernel
theorem dX12_tell_26 : decode cX12_tell 26 = .ok (.iastore, 1) := by decide +kernel
theorem dX12_tell_27 : decode cX12_tell 27 = .ok (.aload_n 0, 1) := by decide +kernel
theorem dX12_tell_28 : decode cX12_tell 28 = .ok (.dup, 1) := by decide +kernel
theorem dX12_tell_29 : decode cX12_tell 29 = .ok (.getfield 167, 3) := by decide +kernel
theorem dX12_tell_32 : decode cX12_tell 32 = .ok (.iconst 1, 1) := by decide +kernel
theorem dX12_tell_33 : decode cX12_tell 33 = .ok (.iadd, 1) := by decide +kernel
theorem dX12_tell_34 : decode cX12_tell 34 = .ok (.putfield 167, 3) := by decide +kernel
theorem dX12_tell_37 : decode cX12_tell 37 = .ok (.aload_n 0, 1) := by decide +kernel
theorem dX12_tell_38 : decode cX12_tell 38 = .ok (.getfield 167, 3) := by decide +kernel
theorem dX12_tell_41 : decode cX12_tell 41 = .ok (.i2l, 1) := by decide +kernel
theorem dX12_tell_42 : decode cX12_tell 42 = .ok (.lreturn, 1) := by decide +kernel
set_option maxRecDepth 20000 in
theorem ggX12_areWays_X12_in : GoodIn wsX12_areWays wsX12_in := goodIn_r _ [5] (by decide +kernel) (by decide +kernel)
set_option maxRecDepth 20000 in
theorem gX12_areWays_X12_in : GoodIn wsX12_areWays (va_wsS RX12 87 yX12_in wsX12_in) := goodIn_app (goodIn_of _ (by decide +kernel)) ggX12_areWays_X12_in
theorem dX12_areWays_0 : decode cX12_areWays 0 = .ok (.iconst 0, 1) := by decide +kernel
theorem dX12_areWays_1 : decode cX12_areWays 1 = .ok (.istore_n 2, 1) := by decide +kernel
theorem dX12_areWays_2 : decode cX12_areWays 2 = .ok (.iload_n 2, 1) := by decide +kernel
theorem dX12_areWays_3 : decode cX12_areWays 3 = .ok (.iload_n 1, 1) := by decide +kernel
theorem dX12_areWays_4 : decode cX12_areWays 4 = .ok (.if_icmp .ge 104, 3) := by decide +kernel
theorem dX12_areWays_7 : decode cX12_areWays 7 = .ok (.aload_n 0, 1) := by decide +kernel
theorem dX12_areWays_8 : decode cX12_areWays 8 = .ok (.getfield 44, 3) := by decide +kernel
theorem dX12_areWays_11 : decode cX12_areWays 11 = .ok (.iload_n 2, 1) := by decide +kernel
theorem dX12_areWays_12 : decode cX12_areWays 12 = .ok (.iaload, 1) := by decide +kernel
theorem dX12_areWays_13 : decode cX12_areWays 13 = .ok (.ifCond .ne 25, 3) := by decide +kernel
theorem dX12_areWays_16 : decode cX12_areWays 16 = .ok (.aload_n 0, 1) := by decide +kernel
theorem dX12_areWays_17 : decode cX12_areWays 17 = .ok (.getfield 44, 3) := by decide +kernel
theorem dX12_areWays_20 : decode cX12_areWays 20 = .ok (.iload_n 2, 1) := by decide +kernel
theorem dX12_areWays_21 : decode cX12_areWays 21 = .ok (.iconst 1, 1) := by decide +kernel
theorem dX12_areWays_22 : decode cX12_areWays 22 = .ok (.iadd, 1) := by decide +kernel
theorem dX12_areWays_23 : decode cX12_areWays 23 = .ok (.iaload, 1) := by decide +kernel
theorem dX12_areWays_24 : decode cX12_areWays 24 = .ok (.ifCond .ne 14, 3) := by decide +kernel
theorem dX12_areWays_27 : decode cX12_areWays 27 = .ok (.aload_n 0, 1) := by decide +kernel
theorem dX12_areWays_28 : decode cX12_areWays 28 = .ok (.getfield 44, 3) := by decide +kernel
theorem dX12_areWays_31 : decode cX12_areWays 31 = .ok (.iload_n 2, 1) := by decide +kernel
theorem dX12_areWays_32 : decode cX12_areWays 32 = .ok (.iconst 2, 1) := by decide +kernel
theorem dX12_areWays_33 : decode cX12_areWays 33 = .ok (.iadd, 1) := by decide +kernel
theorem dX12_areWays_34 : decode cX12_areWays 34 = .ok (.iaload, 1) := by decide +kernel
theorem dX12_areWays_35 : decode cX12_areWays 35 = .ok (.ifCond .eq 7, 3) := by decide +kernel
theorem dX12_areWays_38 : decode cX12_areWays 38 = .ok (.iconst 1, 1) := by decide +kernel
theorem dX12_areWays_39 : decode cX12_areWays 39 = .ok (.goto 4, 3) := by decide +kernel
theorem dX12_areWays_42 : decode cX12_areWays 42 = .ok (.iconst 0, 1) := by decide +kernel
theorem dX12_areWays_43 : decode cX12_areWays 43 = .ok (.istore_n 3, 1) := by decide +kernel
theorem dX12_areWays_44 : decode cX12_areWays 44 = .ok (.iload_n 3, 1) := by decide +kernel
theorem dX12_areWays_45 : decode cX12_areWays 45 = .ok (.ifCond .eq 55, 3) := by decide +kernel
theorem dX12_areWays_48 : decode cX12_areWays 48 = .ok (.aload_n 0, 1) := by decide +kernel
theorem dX12_areWays_49 : decode cX12_areWays 49 = .ok (.getfield 44, 3) := by decide +kernel
theorem dX12_areWays_52 : decode cX12_areWays 52 = .ok (.iload_n 2, 1) := by decide +kernel
theorem dX12_areWays_53 : decode cX12_areWays 53 = .ok (.iaload, 1) := by decide +kernel
theorem dX12_areWays_54 : decode cX12_areWays 54 = .ok (.bipush (-9), 2) := by decide +kernel
theorem dX12_areWays_56 : decode cX12_areWays 56 = .ok (.bipush 9, 2) := by decide +kernel
theorem dX12_areWays_58 : decode cX12_areWays 58 = .ok (.invokestatic 87, 3) := by decide +kernel
theorem dX12_areWays_61 : decode cX12_areWays 61 = .ok (.ifCond .eq 39, 3) := by decide +kernel
theorem dX12_areWays_64 : decode cX12_areWays 64 = .ok (.aload_n 0, 1) := by decide +kernel
theorem dX12_areWays_65 : decode cX12_areWays 65 = .ok (.getfield 44, 3) := by decide +kernel
theorem dX12_areWays_68 : decode cX12_areWays 68 = .ok (.iload_n 2, 1) := by decide +kernel
theorem dX12_areWays_69 : decode cX12_areWays 69 = .ok (.iconst 1, 1) := by decide +kernel
theorem dX12_areWays_70 : decode cX12_areWays 70 = .ok (.iadd, 1) := by decide +kernel
theorem dX12_areWays_71 : decode cX12_areWays 71 = .ok (.iaload, 1) := by decide +kernel
theorem dX12_areWays_72 : decode cX12_areWays 72 = .ok (.bipush (-9), 2) := by decide +kernel
theorem dX12_areWays_74 : decode cX12_areWays 74 = .ok (.bipush 9, 2) := by decide +kernel
theorem dX12_areWays_76 : decode cX12_areWays 76 = .ok (.invokestatic 87, 3) := by decide +kernel
theorem dX12_areWays_79 : decode cX12_areWays 79 = .ok (.ifCond .eq 21, 3) := by decide +kernel
theorem dX12_areWays_82 : decode cX12_areWays 82 = .ok (.aload_n 0, 1) := by decide +kernel
theorem dX12_areWays_83 : decode cX12_areWays 83 = .ok (.getfield 44, 3) := by decide +kernel
theorem dX12_areWays_86 : decode cX12_areWays 86 = .ok (.iload_n 2, 1) := by decide +kernel
theorem dX12_areWays_87 : decode cX12_areWays 87 = .ok (.iconst 2, 1) := by decide +kernel
theorem dX12_areWays_88 : decode cX12_areWays 88 = .ok (.iadd, 1) := by decide +kernel
theorem dX12_areWays_89 : decode cX12_areWays 89 = .ok (.iaload, 1) := by decide +kernel
theorem dX12_areWays_90 : decode cX12_areWays 90 = .ok (.bipush (-9), 2) := by decide +kernel
theorem dX12_areWays_92 : decode cX12_areWays 92 = .ok (.bipush 9, 2) := by decide +kernel
theorem dX12_areWays_94 : decode cX12_areWays 94 = .ok (.invokestatic 87, 3) := by decide +kernel
theorem dX12_areWays_97 : decode cX12_areWays 97 = .ok (.ifCond .ne 5, 3) := by decide +kernel
theorem dX12_areWays_100 : decode cX12_areWays 100 = .ok (.iconst 0, 1) := by decide +kernel
theorem dX12_areWays_101 : decode cX12_areWays 101 = .ok (.ireturn, 1) := by decide +kernel
theorem dX12_areWays_102 : decode cX12_areWays 102 = .ok (.iinc 2 3, 3) := by decide +kernel
theorem dX12_areWays_105 : decode cX12_areWays 105 = .ok (.goto (-103), 3) := by decide +kernel
theorem dX12_areWays_108 : decode cX12_areWays 108 = .ok (.iconst 1, 1) := by decide +kernel
theorem dX12_areWays_109 : decode cX12_areWays 109 = .ok (.ireturn, 1) := by decide +kernel
set_option maxRecDepth 20000 in
theorem ggX12_sight_X12_isMeteor : GoodIn wsX12_sight wsX12_isMeteor := goodIn_r _ [13, 14, 15, 12, 16] (by decide +kernel) (by decide +kernel)
set_option maxRecDepth 20000 in
theorem gX12_sight_X12_isMeteor : GoodIn wsX12_sight (va_wsS RX12 160 yX12_isMeteor wsX12_isMeteor) := goodIn_app (goodIn_of _ (by decide +kernel)) ggX12_sight_X12_isMeteor
set_option maxRecDepth 20000 in
theorem ggX12_sight_X12_in : GoodIn wsX12_sight wsX12_in := goodIn_r _ [16] (by decide +kernel) (by decide +kernel)
set_option maxRecDepth 20000 in
theorem gX12_sight_X12_in : GoodIn wsX12_sight (va_wsS RX12 87 yX12_in wsX12_in) := goodIn_app (goodIn_of _ (by decide +kernel)) ggX12_sight_X12_in
set_option maxRecDepth 20000 in
theorem ggX12_sight_X12_isStation : GoodIn wsX12_sight wsX12_isStation := goodIn_r _ [19, 14, 15, 12, 16] (by decide +kernel) (by decide +kernel)
set_option maxRecDepth 20000 in
theorem gX12_sight_X12_isStation : GoodIn wsX12_sight (va_wsS RX12 164 yX12_isStation wsX12_isStation) := goodIn_app (goodIn_of _ (by decide +kernel)) ggX12_sight_X12_isStation
set_option maxRecDepth 20000 in
theorem ggX12_sight_X12_finding : GoodIn wsX12_sight wsX12_finding := goodIn_r _ [23, 24, 25, 30, 31, 32, 33, 34, 35, 36, 37, 38, 39, 40, 41, 42, 43, 44, 45, 46, 47, 48, 49, 50, 51, 52, 53, 54, 55, 56] (by decide +kernel) (by decide +kernel)
set_option maxRecDepth 20000 in
theorem gX12_sight_X12_finding : GoodIn wsX12_sight (wsV RX12 93 RX12 yX12_finding wsX12_finding) := goodIn_app (goodIn_of _ (by decide +kernel)) ggX12_sight_X12_finding
set_option maxRecDepth 20000 in
theorem ggX12_sight_X12_areWays : GoodIn wsX12_sight wsX12_areWays := goodIn_r _ [29, 9, 14, 15, 12, 16, 30, 31, 32, 33, 34, 35, 36, 37, 38, 39, 40, 41, 42, 43, 44, 45, 46, 47, 48, 49, 50, 51, 52, 53, 54, 55, 56] (by decide +kernel) (by decide +kernel)
set_option maxRecDepth 20000 in
theorem gX12_sight_X12_areWays : GoodIn wsX12_sight (wsV RX12 170 RX12 yX12_areWays wsX12_areWays) := goodIn_app (goodIn_of _ (by decide +kernel)) ggX12_sight_X12_areWays
theorem dX12_sight_0 : decode cX12_sight 0 = .ok (.iload_n 1, 1) := by decide +kernel
theorem dX12_sight_1 : decode cX12_sight 1 = .ok (.invokestatic 160, 3) := by decide +kernel
theorem dX12_sight_4 : decode cX12_sight 4 = .ok (.ifCond .eq 19, 3) := by decide +kernel
theorem dX12_sight_7 : decode cX12_sight 7 = .ok (.iload_n 2, 1) := by decide +kernel
theorem dX12_sight_8 : decode cX12_sight 8 = .ok (.iconst 0, 1) := by decide +kernel
theorem dX12_sight_9 : decode cX12_sight 9 = .ok (.iconst 2, 1) := by decide +kernel
theorem dX12_sight_10 : decode cX12_sight 10 = .ok (.invokestatic 87, 3) := by decide +kernel
theorem dX12_sight_13 : decode cX12_sight 13 = .ok (.ifCond .eq 10, 3) := by decide +kernel
theorem dX12_sight_16 : decode cX12_sight 16 = .ok (.iload_n 3, 1) := by decide +kernel
theorem dX12_sight_17 : decode cX12_sight 17 = .ok (.invokestatic 164, 3) := by decide +kernel
theorem dX12_sight_20 : decode cX12_sight 20 = .ok (.ifCond .ne 11, 3) := by decide +kernel
theorem dX12_sight_23 : decode cX12_sight 23 = .ok (.aload_n 0, 1) := by decide +kernel
theorem dX12_sight_24 : decode cX12_sight 24 = .ok (.ldc2_w 91, 3) := by decide +kernel
theorem dX12_sight_27 : decode cX12_sight 27 = .ok (.invokevirtual 93, 3) := by decide +kernel
theorem dX12_sight_30 : decode cX12_sight 30 = .ok (.lreturn, 1) := by decide +kernel
theorem dX12_sight_31 : decode cX12_sight 31 = .ok (.aload_n 0, 1) := by decide +kernel
theorem dX12_sight_32 : decode cX12_sight 32 = .ok (.getfield 167, 3) := by decide +kernel
theorem dX12_sight_35 : decode cX12_sight 35 = .ok (.istore 4, 2) := by decide +kernel
theorem dX12_sight_37 : decode cX12_sight 37 = .ok (.aload_n 0, 1) := by decide +kernel
theorem dX12_sight_38 : decode cX12_sight 38 = .ok (.iconst 0, 1) := by decide +kernel
theorem dX12_sight_39 : decode cX12_sight 39 = .ok (.putfield 167, 3) := by decide +kernel
theorem dX12_sight_42 : decode cX12_sight 42 = .ok (.iload 4, 2) := by decide +kernel
theorem dX12_sight_44 : decode cX12_sight 44 = .ok (.iload_n 2, 1) := by decide +kernel
theorem dX12_sight_45 : decode cX12_sight 45 = .ok (.iconst 1, 1) := by decide +kernel
theorem dX12_sight_46 : decode cX12_sight 46 = .ok (.if_icmp .ne 8, 3) := by decide +kernel
theorem dX12_sight_49 : decode cX12_sight 49 = .ok (.bipush 9, 2) := by decide +kernel
theorem dX12_sight_51 : decode cX12_sight 51 = .ok (.goto 5, 3) := by decide +kernel
theorem dX12_sight_54 : decode cX12_sight 54 = .ok (.bipush 6, 2) := by decide +kernel
theorem dX12_sight_56 : decode cX12_sight 56 = .ok (.if_icmp .eq 11, 3) := by decide +kernel
theorem dX12_sight_59 : decode cX12_sight 59 = .ok (.aload_n 0, 1) := by decide +kernel
theorem dX12_sight_60 : decode cX12_sight 60 = .ok (.ldc2_w 104, 3) := by decide +kernel
theorem dX12_sight_63 : decode cX12_sight 63 = .ok (.invokevirtual 93, 3) := by decide +kernel
theorem dX12_sight_66 : decode cX12_sight 66 = .ok (.lreturn, 1) := by decide +kernel
theorem dX12_sight_67 : decode cX12_sight 67 = .ok (.aload_n 0, 1) := by decide +kernel
theorem dX12_sight_68 : decode cX12_sight 68 = .ok (.iload 4, 2) := by decide +kernel
theorem dX12_sight_70 : decode cX12_sight 70 = .ok (.invokevirtual 170, 3) := by decide +kernel
theorem dX12_sight_73 : decode cX12_sight 73 = .ok (.ifCond .ne 11, 3) := by decide +kernel
theorem dX12_sight_76 : decode cX12_sight 76 = .ok (.aload_n 0, 1) := by decide +kernel
theorem dX12_sight_77 : decode cX12_sight 77 = .ok (.ldc2_w 91, 3) := by decide +kernel
theorem dX12_sight_80 : decode cX12_sight 80 = .ok (.invokevirtual 93, 3) := by decide +kernel
theorem dX12_sight_83 : decode cX12_sight 83 = .ok (.lreturn, 1) := by decide +kernel
theorem dX12_sight_84 : decode cX12_sight 84 = .ok (.aload_n 0, 1) := by decide +kernel
theorem dX12_sight_85 : decode cX12_sight 85 = .ok (.getfield 29, 3) := by decide +kernel
theorem dX12_sight_88 : decode cX12_sight 88 = .ok (.iload_n 1, 1) := by decide +kernel
theorem dX12_sight_89 : decode cX12_sight 89 = .ok (.iaload, 1) := by decide +kernel
theorem dX12_sight_90 : decode cX12_sight 90 = .ok (.iconst 4, 1) := by decide +kernel
theorem dX12_sight_91 : decode cX12_sight 91 = .ok (.if_icmp .ne 11, 3) := by decide +kernel
theorem dX12_sight_94 : decode cX12_sight 94 = .ok (.aload_n 0, 1) := by decide +kernel
theorem dX12_sight_95 : decode cX12_sight 95 = .ok (.ldc2_w 99, 3) := by decide +kernel
theorem dX12_sight_98 : decode cX12_sight 98 = .ok (.invokevirtual 93, 3) := by decide +kernel
theorem dX12_sight_101 : decode cX12_sight 101 = .ok (.lreturn, 1) := by decide +kernel
theorem dX12_sight_102 : decode cX12_sight 102 = .ok (.iconst 4, 1) := by decide +kernel
theorem dX12_sight_103 : decode cX12_sight 103 = .ok (.iload_n 1, 1) := by decide +kernel
theorem dX12_sight_104 : decode cX12_sight 104 = .ok (.imul, 1) := by decide +kernel
theorem dX12_sight_105 : decode cX12_sight 105 = .ok (.aload_n 0, 1) := by decide +kernel
theorem dX12_sight_106 : decode cX12_sight 106 = .ok (.getfield 29, 3) := by decide +kernel
theorem dX12_sight_109 : decode cX12_sight 109 = .ok (.iload_n 1, 1) := by decide +kernel
theorem dX12_sight_110 : decode cX12_sight 110 = .ok (.iaload, 1) := by decide +kernel
theorem dX12_sight_111 : decode cX12_sight 111 = .ok (.iadd, 1) := by decide +kernel
theorem dX12_sight_112 : decode cX12_sight 112 = .ok (.istore 5, 2) := by decide +kernel
theorem dX12_sight_114 : decode cX12_sight 114 = .ok (.aload_n 0, 1) := by decide +kernel
theorem dX12_sight_115 : decode cX12_sight 115 = .ok (.getfield 32, 3) := by decide +kernel
theorem dX12_sight_118 : decode cX12_sight 118 = .ok (.iload 5, 2) := by decide +kernel
theorem dX12_sight_120 : decode cX12_sight 120 = .ok (.iload_n 2, 1) := by decide +kernel
theorem dX12_sight_121 : decode cX12_sight 121 = .ok (.iastore, 1) := by decide +kernel
theorem dX12_sight_122 : decode cX12_sight 122 = .ok (.aload_n 0, 1) := by decide +kernel
theorem dX12_sight_123 : decode cX12_sight 123 = .ok (.getfield 35, 3) := by decide +kernel
theorem dX12_sight_126 : decode cX12_sight 126 = .ok (.iload 5, 2) := by decide +kernel
theorem dX12_sight_128 : decode cX12_sight 128 = .ok (.iload_n 3, 1) := by decide +kernel
theorem dX12_sight_129 : decode cX12_sight 129 = .ok (.iastore, 1) := by decide +kernel
theorem dX12_sight_130 : decode cX12_sight 130 = .ok (.iconst 0, 1) := by decide +kernel
theorem dX12_sight_131 : decode cX12_sight 131 = .ok (.istore 6, 2) := by decide +kernel
theorem dX12_sight_133 : decode cX12_sight 133 = .ok (.iload 6, 2) := by decide +kernel
theorem dX12_sight_135 : decode cX12_sight 135 = .ok (.iload 4, 2) := by decide +kernel
theorem dX12_sight_137 : decode cX12_sight 137 = .ok (.if_icmp .ge 29, 3) := by decide +kernel
theorem dX12_sight_140 : decode cX12_sight 140 = .ok (.aload_n 0, 1) := by decide +kernel
theorem dX12_sight_141 : decode cX12_sight 141 = .ok (.getfield 38, 3) := by decide +kernel
theorem dX12_sight_144 : decode cX12_sight 144 = .ok (.bipush 9, 2) := by decide +kernel
theorem dX12_sight_146 : decode cX12_sight 146 = .ok (.iload 5, 2) := by decide +kernel
theorem dX12_sight_148 : decode cX12_sight 148 = .ok (.imul, 1) := by decide +kernel
theorem dX12_sight_149 : decode cX12_sight 149 = .ok (.iload 6, 2) := by decide +kernel
theorem dX12_sight_151 : decode cX12_sight 151 = .ok (.iadd, 1) := by decide +kernel
theorem dX12_sight_152 : decode cX12_sight 152 = .ok (.aload_n 0, 1) := by decide +kernel
theorem dX12_sight_153 : decode cX12_sight 153 = .ok (.getfield 44, 3) := by decide +kernel
theorem dX12_sight_156 : decode cX12_sight 156 = .ok (.iload 6, 2) := by decide +kernel
theorem dX12_sight_158 : decode cX12_sight 158 = .ok (.iaload, 1) := by decide +kernel
theorem dX12_sight_159 : decode cX12_sight 159 = .ok (.iastore, 1) := by decide +kernel
theorem dX12_sight_160 : decode cX12_sight 160 = .ok (.iinc 6 1, 3) := by decide +kernel
theorem dX12_sight_163 : decode cX12_sight 163 = .ok (.goto (-30), 3) := by decide +kernel
theorem dX12_sight_166 : decode cX12_sight 166 = .ok (.aload_n 0, 1) := by decide +kernel
theorem dX12_sight_167 : decode cX12_sight 167 = .ok (.getfield 29, 3) := by decide +kernel
theorem dX12_sight_170 : decode cX12_sight 170 = .ok (.iload_n 1, 1) := by decide +kernel
theorem dX12_sight_171 : decode cX12_sight 171 = .ok (.dup2, 1) := by decide +kernel
theorem dX12_sight_172 : decode cX12_sight 172 = .ok (.iaload, 1) := by decide +kernel
theorem dX12_sight_173 : decode cX12_sight 173 = .ok (.iconst 1, 1) := by decide +kernel
theorem dX12_sight_174 : decode cX12_sight 174 = .ok (.iadd, 1) := by decide +kernel
theorem dX12_sight_175 : decode cX12_sight 175 = .ok (.iastore, 1) := by decide +kernel
theorem dX12_sight_176 : decode cX12_sight 176 = .ok (.aload_n 0, 1) := by decide +kernel
theorem dX12_sight_177 : decode cX12_sight 177 = .ok (.getfield 29, 3) := by decide +kernel
theorem dX12_sight_180 : decode cX12_sight 180 = .ok (.iload_n 1, 1) := by decide +kernel
theorem dX12_sight_181 : decode cX12_sight 181 = .ok (.iaload, 1) := by decide +kernel
theorem dX12_sight_182 : decode cX12_sight 182 = .ok (.iconst 1, 1) := by decide +kernel
theorem dX12_sight_183 : decode cX12_sight 183 = .ok (.isub, 1) := by decide +kernel
theorem dX12_sight_184 : decode cX12_sight 184 = .ok (.i2l, 1) := by decide +kernel
theorem dX12_sight_185 : decode cX12_sight 185 = .ok (.lreturn, 1) := by decide +kernel
set_option maxRecDepth 20000 in
theorem ggX12_drop_X12_isMeteor : GoodIn wsX12_drop wsX12_isMeteor := goodIn_r _ [7, 8, 9, 6, 10] (by decide +kernel) (by decide +kernel)
set_option maxRecDepth 20000 in
theorem gX12_drop_X12_isMeteor : GoodIn wsX12_drop (va_wsS RX12 160 yX12_isMeteor wsX12_isMeteor) := goodIn_app (goodIn_of _ (by decide +kernel)) ggX12_drop_X12_isMeteor
set_option maxRecDepth 20000 in
theorem ggX12_drop_X12_finding : GoodIn wsX12_drop wsX12_finding := goodIn_r _ [14, 15, 16, 17, 18, 19, 20, 21, 22, 23, 24, 25, 26, 27, 28, 29, 30, 31, 32, 33, 34, 35, 36, 37, 38, 39, 40, 41, 42, 43] (by decide +kernel) (by decide +kernel)
set_option maxRecDepth 20000 in
theorem gX12_drop_X12_finding : GoodIn wsX12_drop (wsV RX12 93 RX12 yX12_finding wsX12_finding) := goodIn_app (goodIn_of _ (by decide +kernel)) ggX12_drop_X12_finding
theorem dX12_drop_0 : decode cX12_drop 0 = .ok (.iload_n 1, 1) := by decide +kernel
theorem dX12_drop_1 : decode cX12_drop 1 = .ok (.invokestatic 160, 3) := by decide +kernel
theorem dX12_drop_4 : decode cX12_drop 4 = .ok (.ifCond .ne 11, 3) := by decide +kernel
theorem dX12_drop_7 : decode cX12_drop 7 = .ok (.aload_n 0, 1) := by decide +kernel
theorem dX12_drop_8 : decode cX12_drop 8 = .ok (.ldc2_w 91, 3) := by decide +kernel
theorem dX12_drop_11 : decode cX12_drop 11 = .ok (.invokevirtual 93, 3) := by decide +kernel
theorem dX12_drop_14 : decode cX12_drop 14 = .ok (.lreturn, 1) := by decide +kernel
theorem dX12_drop_15 : decode cX12_drop 15 = .ok (.aload_n 0, 1) := by decide +kernel
theorem dX12_drop_16 : decode cX12_drop 16 = .ok (.getfield 29, 3) := by decide +kernel
theorem dX12_drop_19 : decode cX12_drop 19 = .ok (.iload_n 1, 1) := by decide +kernel
theorem dX12_drop_20 : decode cX12_drop 20 = .ok (.iaload, 1) := by decide +kernel
theorem dX12_drop_21 : decode cX12_drop 21 = .ok (.ifCond .ne 11, 3) := by decide +kernel
theorem dX12_drop_24 : decode cX12_drop 24 = .ok (.aload_n 0, 1) := by decide +kernel
theorem dX12_drop_25 : decode cX12_drop 25 = .ok (.ldc2_w 106, 3) := by decide +kernel
theorem dX12_drop_28 : decode cX12_drop 28 = .ok (.invokevirtual 93, 3) := by decide +kernel
theorem dX12_drop_31 : decode cX12_drop 31 = .ok (.lreturn, 1) := by decide +kernel
theorem dX12_drop_32 : decode cX12_drop 32 = .ok (.aload_n 0, 1) := by decide +kernel
theorem dX12_drop_33 : decode cX12_drop 33 = .ok (.getfield 29, 3) := by decide +kernel
theorem dX12_drop_36 : decode cX12_drop 36 = .ok (.iload_n 1, 1) := by decide +kernel
theorem dX12_drop_37 : decode cX12_drop 37 = .ok (.dup2, 1) := by decide +kernel
theorem dX12_drop_38 : decode cX12_drop 38 = .ok (.iaload, 1) := by decide +kernel
theorem dX12_drop_39 : decode cX12_drop 39 = .ok (.iconst 1, 1) := by decide +kernel
theorem dX12_drop_40 : decode cX12_drop 40 = .ok (.isub, 1) := by decide +kernel
theorem dX12_drop_41 : decode cX12_drop 41 = .ok (.iastore, 1) := by decide +kernel
theorem dX12_drop_42 : decode cX12_drop 42 = .ok (.aload_n 0, 1) := by decide +kernel
theorem dX12_drop_43 : decode cX12_drop 43 = .ok (.getfield 29, 3) := by decide +kernel
theorem dX12_drop_46 : decode cX12_drop 46 = .ok (.iload_n 1, 1) := by decide +kernel
theorem dX12_drop_47 : decode cX12_drop 47 = .ok (.iaload, 1) := by decide +kernel
theorem dX12_drop_48 : decode cX12_drop 48 = .ok (.i2l, 1) := by decide +kernel
theorem dX12_drop_49 : decode cX12_drop 49 = .ok (.lreturn, 1) := by decide +kernel
theorem dX12_way_0 : decode cX12_way 0 = .ok (.aload_n 0, 1) := by decide +kernel
theorem dX12_way_1 : decode cX12_way 1 = .ok (.getfield 38, 3) := by decide +kernel
theorem dX12_way_4 : decode cX12_way 4 = .ok (.bipush 9, 2) := by decide +kernel
theorem dX12_way_6 : decode cX12_way 6 = .ok (.iload_n 1, 1) := by decide +kernel
theorem dX12_way_7 : decode cX12_way 7 = .ok (.imul, 1) := by decide +kernel
theorem dX12_way_8 : decode cX12_way 8 = .ok (.iconst 3, 1) := by decide +kernel
theorem dX12_way_9 : decode cX12_way 9 = .ok (.iload_n 2, 1) := by decide +kernel
theorem dX12_way_10 : decode cX12_way 10 = .ok (.imul, 1) := by decide +kernel
theorem dX12_way_11 : decode cX12_way 11 = .ok (.iadd, 1) := by decide +kernel
theorem dX12_way_12 : decode cX12_way 12 = .ok (.iload_n 3, 1) := by decide +kernel
theorem dX12_way_13 : decode cX12_way 13 = .ok (.iadd, 1) := by decide +kernel
theorem dX12_way_14 : decode cX12_way 14 = .ok (.iaload, 1) := by decide +kernel
theorem dX12_way_15 : decode cX12_way 15 = .ok (.i2l, 1) := by decide +kernel
theorem dX12_way_16 : decode cX12_way 16 = .ok (.lreturn, 1) := by decide +kernel
set_option maxRecDepth 20000 in
theorem ggX12_plane_X12_way : GoodIn wsX12_plane wsX12_way := goodIn_r _ [5, 6, 7, 8, 9, 10, 11, 12, 13, 14, 15, 16, 17, 18, 19, 20, 21, 22, 23, 24, 25, 26, 27, 28, 29, 30, 31, 32, 33] (by decide +kernel) (by decide +kernel)
set_option maxRecDepth 20000 in
theorem gX12_plane_X12_way : GoodIn wsX12_plane (wsV RX12 173 RX12 yX12_way wsX12_way) := goodIn_app (goodIn_of _ (by decide +kernel)) ggX12_plane_X12_way
theorem dX12_plane_0 : decode cX12_plane 0 = .ok (.iload_n 2, 1) := by decide +kernel
theorem dX12_plane_1 : decode cX12_plane 1 = .ok (.iconst 1, 1) := by decide +kernel
theorem dX12_plane_2 : decode cX12_plane 2 = .ok (.iadd, 1) := by decide +kernel
theorem dX12_plane_3 : decode cX12_plane 3 = .ok (.iconst 3, 1) := by decide +kernel
theorem dX12_plane_4 : decode cX12_plane 4 = .ok (.irem, 1) := by decide +kernel
theorem dX12_plane_5 : decode cX12_plane 5 = .ok (.istore_n 3, 1) := by decide +kernel
theorem dX12_plane_6 : decode cX12_plane 6 = .ok (.iload_n 2, 1) := by decide +kernel
theorem dX12_plane_7 : decode cX12_plane 7 = .ok (.iconst 2, 1) := by decide +kernel
theorem dX12_plane_8 : decode cX12_plane 8 = .ok (.iadd, 1) := by decide +kernel
theorem dX12_plane_9 : decode cX12_plane 9 = .ok (.iconst 3, 1) := by decide +kernel
theorem dX12_plane_10 : decode cX12_plane 10 = .ok (.irem, 1) := by decide +kernel
theorem dX12_plane_11 : decode cX12_plane 11 = .ok (.istore 4, 2) := by decide +kernel
theorem dX12_plane_13 : decode cX12_plane 13 = .ok (.aload_n 0, 1) := by decide +kernel
theorem dX12_plane_14 : decode cX12_plane 14 = .ok (.iload_n 1, 1) := by decide +kernel
theorem dX12_plane_15 : decode cX12_plane 15 = .ok (.iconst 0, 1) := by decide +kernel
theorem dX12_plane_16 : decode cX12_plane 16 = .ok (.iload_n 3, 1) := by decide +kernel
theorem dX12_plane_17 : decode cX12_plane 17 = .ok (.invokevirtual 173, 3) := by decide +kernel
theorem dX12_plane_20 : decode cX12_plane 20 = .ok (.aload_n 0, 1) := by decide +kernel
theorem dX12_plane_21 : decode cX12_plane 21 = .ok (.iload_n 1, 1) := by decide +kernel
theorem dX12_plane_22 : decode cX12_plane 22 = .ok (.iconst 1, 1) := by decide +kernel
theorem dX12_plane_23 : decode cX12_plane 23 = .ok (.iload 4, 2) := by decide +kernel
theorem dX12_plane_25 : decode cX12_plane 25 = .ok (.invokevirtual 173, 3) := by decide +kernel
theorem dX12_plane_28 : decode cX12_plane 28 = .ok (.lmul, 1) := by decide +kernel
theorem dX12_plane_29 : decode cX12_plane 29 = .ok (.aload_n 0, 1) := by decide +kernel
theorem dX12_plane_30 : decode cX12_plane 30 = .ok (.iload_n 1, 1) := by decide +kernel
theorem dX12_plane_31 : decode cX12_plane 31 = .ok (.iconst 0, 1) := by decide +kernel
theorem dX12_plane_32 : decode cX12_plane 32 = .ok (.iload 4, 2) := by decide +kernel
theorem dX12_plane_34 : decode cX12_plane 34 = .ok (.invokevirtual 173, 3) := by decide +kernel
theorem dX12_plane_37 : decode cX12_plane 37 = .ok (.aload_n 0, 1) := by decide +kernel
theorem dX12_plane_38 : decode cX12_plane 38 = .ok (.iload_n 1, 1) := by decide +kernel
theorem dX12_plane_39 : decode cX12_plane 39 = .ok (.iconst 1, 1) := by decide +kernel
theorem dX12_plane_40 : decode cX12_plane 40 = .ok (.iload_n 3, 1) := by decide +kernel
theorem dX12_plane_41 : decode cX12_plane 41 = .ok (.invokevirtual 173, 3) := by decide +kernel
theorem dX12_plane_44 : decode cX12_plane 44 = .ok (.lmul, 1) := by decide +kernel
theorem dX12_plane_45 : decode cX12_plane 45 = .ok (.lsub, 1) := by decide +kernel
theorem dX12_plane_46 : decode cX12_plane 46 = .ok (.lreturn, 1) := by decide +kernel
set_option maxRecDepth 20000 in
theorem ggX12_hasPlane_X12_plane : GoodIn wsX12_hasPlane wsX12_plane := goodIn_r _ [5, 6, 7, 8, 4, 9, 10, 11, 12, 13, 14, 15, 16, 17, 18, 19, 20, 21, 22, 23, 24, 25, 26, 27, 28, 29, 30, 31, 32, 33, 34, 35, 36, 37] (by decide +kernel) (by decide +kernel)
set_option maxRecDepth 20000 in
theorem gX12_hasPlane_X12_plane : GoodIn wsX12_hasPlane (wsV RX12 176 RX12 yX12_plane wsX12_plane) := goodIn_app (goodIn_of _ (by decide +kernel)) ggX12_hasPlane_X12_plane
theorem dX12_hasPlane_0 : decode cX12_hasPlane 0 = .ok (.aload_n 0, 1) := by decide +kernel
theorem dX12_hasPlane_1 : decode cX12_hasPlane 1 = .ok (.iload_n 1, 1) := by decide +kernel
theorem dX12_hasPlane_2 : decode cX12_hasPlane 2 = .ok (.iconst 0, 1) := by decide +kernel
theorem dX12_hasPlane_3 : decode cX12_hasPlane 3 = .ok (.invokevirtual 176, 3) := by decide +kernel
theorem dX12_hasPlane_6 : decode cX12_hasPlane 6 = .ok (.lconst 0, 1) := by decide +kernel
theorem dX12_hasPlane_7 : decode cX12_hasPlane 7 = .ok (.lcmp, 1) := by decide +kernel
theorem dX12_hasPlane_8 : decode cX12_hasPlane 8 = .ok (.ifCond .ne 25, 3) := by decide +kernel
theorem dX12_hasPlane_11 : decode cX12_hasPlane 11 = .ok (.aload_n 0, 1) := by decide +kernel
theorem dX12_hasPlane_12 : decode cX12_hasPlane 12 = .ok (.iload_n 1, 1) := by decide +kernel
theorem dX12_hasPlane_13 : decode cX12_hasPlane 13 = .ok (.iconst 1, 1) := by decide +kernel
theorem dX12_hasPlane_14 : decode cX12_hasPlane 14 = .ok (.invokevirtual 176, 3) := by decide +kernel
theorem dX12_hasPlane_17 : decode cX12_hasPlane 17 = .ok (.lconst 0, 1) := by decide +kernel
theorem dX12_hasPlane_18 : decode cX12_hasPlane 18 = .ok (.lcmp, 1) := by decide +kernel
theorem dX12_hasPlane_19 : decode cX12_hasPlane 19 = .ok (.ifCond .ne 14, 3) := by decide +kernel
theorem dX12_hasPlane_22 : decode cX12_hasPlane 22 = .ok (.aload_n 0, 1) := by decide +kernel
theorem dX12_hasPlane_23 : decode cX12_hasPlane 23 = .ok (.iload_n 1, 1) := by decide +kernel
theorem dX12_hasPlane_24 : decode cX12_hasPlane 24 = .ok (.iconst 2, 1) := by decide +kernel
theorem dX12_hasPlane_25 : decode cX12_hasPlane 25 = .ok (.invokevirtual 176, 3) := by decide +kernel
theorem dX12_hasPlane_28 : decode cX12_hasPlane 28 = .ok (.lconst 0, 1) := by decide +kernel
theorem dX12_hasPlane_29 : decode cX12_hasPlane 29 = .ok (.lcmp, 1) := by decide +kernel
theorem dX12_hasPlane_30 : decode cX12_hasPlane 30 = .ok (.ifCond .eq 7, 3) := by decide +kernel
theorem dX12_hasPlane_33 : decode cX12_hasPlane 33 = .ok (.iconst 1, 1) := by decide +kernel
theorem dX12_hasPlane_34 : decode cX12_hasPlane 34 = .ok (.goto 4, 3) := by decide +kernel
theorem dX12_hasPlane_37 : decode cX12_hasPlane 37 = .ok (.iconst 0, 1) := by decide +kernel
theorem dX12_hasPlane_38 : decode cX12_hasPlane 38 = .ok (.ireturn, 1) := by decide +kernel
set_option maxRecDepth 20000 in
theorem ggX12_about_X12_isSight : GoodIn wsX12_about wsX12_isSight := goodIn_r _ [10, 11, 12, 13, 9, 14, 15, 16, 17, 37, 38, 39, 40, 41, 42, 43, 44, 45, 46, 47, 48, 49, 50, 51, 52, 53, 54, 55, 56, 57, 58, 59, 60, 61, 62, 63] (by decide +kernel) (by decide +kernel)
set_option maxRecDepth 20000 in
theorem gX12_about_X12_isSight : GoodIn wsX12_about (wsV RX12 179 RX12 yX12_isSight wsX12_isSight) := goodIn_app (goodIn_of _ (by decide +kernel)) ggX12_about_X12_isSight
set_option maxRecDepth 20000 in
theorem ggX12_about_X12_in : GoodIn wsX12_about wsX12_in := goodIn_r _ [17] (by decide +kernel) (by decide +kernel)
set_option maxRecDepth 20000 in
theorem gX12_about_X12_in : GoodIn wsX12_about (va_wsS RX12 87 yX12_in wsX12_in) := goodIn_app (goodIn_of _ (by decide +kernel)) ggX12_about_X12_in
set_option maxRecDepth 20000 in
theorem ggX12_about_X12_finding : GoodIn wsX12_about wsX12_finding := goodIn_r _ [21, 22, 23, 37, 38, 39, 40, 41, 42, 43, 44, 45, 46, 47, 48, 49, 50, 51, 52, 53, 54, 55, 56, 57, 58, 59, 60, 61, 62, 63] (by decide +kernel) (by decide +kernel)
set_option maxRecDepth 20000 in
theorem gX12_about_X12_finding : GoodIn wsX12_about (wsV RX12 93 RX12 yX12_finding wsX12_finding) := goodIn_app (goodIn_of _ (by decide +kernel)) ggX12_about_X12_finding
set_option maxRecDepth 20000 in
theorem ggX12_about_X12_hasPlane : GoodIn wsX12_about wsX12_hasPlane := goodIn_r _ [27, 28, 29, 30, 9, 31, 32, 33, 34, 35, 36, 37, 38, 39, 40, 41, 42, 43, 44, 45, 46, 47, 48, 49, 50, 51, 52, 53, 54, 55, 56, 57, 58, 59, 60, 61, 62, 63] (by decide +kernel) (by decide +kernel)
set_option maxRecDepth 20000 in
theorem gX12_about_X12_hasPlane : GoodIn wsX12_about (wsV RX12 185 RX12 yX12_hasPlane wsX12_hasPlane) := goodIn_app (goodIn_of _ (by decide +kernel)) ggX12_about_X12_hasPlane
set_option maxRecDepth 20000 in
theorem ggX12_about_X12_plane : GoodIn wsX12_about wsX12_plane := goodIn_r _ [31, 32, 33, 34, 9, 35, 36, 37, 38, 39, 40, 41, 42, 43, 44, 45, 46, 47, 48, 49, 50, 51, 52, 53, 54, 55, 56, 57, 58, 59, 60, 61, 62, 63] (by decide +kernel) (by decide +kernel)
set_option maxRecDepth 20000 in
theorem gX12_about_X12_plane : GoodIn wsX12_about (wsV RX12 176 RX12 yX12_plane wsX12_plane) := goodIn_app (goodIn_of _ (by decide +kernel)) ggX12_about_X12_plane
set_option maxRecDepth 20000 in
theorem ggX12_about_X12_way : GoodIn wsX12_about wsX12_way := goodIn_r _ [35, 36, 37, 38, 39, 40, 41, 42, 43, 44, 45, 46, 47, 48, 49, 50, 51, 52, 53, 54, 55, 56, 57, 58, 59, 60, 61, 62, 63] (by decide +kernel) (by decide +kernel)
set_option maxRecDepth 20000 in
theorem gX12_about_X12_way : GoodIn wsX12_about (wsV RX12 173 RX12 yX12_way wsX12_way) := goodIn_app (goodIn_of _ (by decide +kernel)) ggX12_about_X12_way
theorem dX12_about_0 : decode cX12_about 0 = .ok (.aload_n 0, 1) := by decide +kernel
theorem dX12_about_1 : decode cX12_about 1 = .ok (.iload_n 1, 1) := by decide +kernel
theorem dX12_about_2 : decode cX12_about 2 = .ok (.iload_n 2, 1) := by decide +kernel
theorem dX12_about_3 : decode cX12_about 3 = .ok (.invokevirtual 179, 3) := by decide +kernel
theorem dX12_about_6 : decode cX12_about 6 = .ok (.ifCond .eq 12, 3) := by decide +kernel
theorem dX12_about_9 : decode cX12_about 9 = .ok (.iload_n 3, 1) := by decide +kernel
theorem dX12_about_10 : decode cX12_about 10 = .ok (.iconst 0, 1) := by decide +kernel
theorem dX12_about_11 : decode cX12_about 11 = .ok (.iconst 5, 1) := by decide +kernel
theorem dX12_about_12 : decode cX12_about 12 = .ok (.invokestatic 87, 3) := by decide +kernel
theorem dX12_about_15 : decode cX12_about 15 = .ok (.ifCond .ne 11, 3) := by decide +kernel
theorem dX12_about_18 : decode cX12_about 18 = .ok (.aload_n 0, 1) := by decide +kernel
theorem dX12_about_19 : decode cX12_about 19 = .ok (.ldc2_w 91, 3) := by decide +kernel
theorem dX12_about_22 : decode cX12_about 22 = .ok (.invokevirtual 93, 3) := by decide +kernel
theorem dX12_about_25 : decode cX12_about 25 = .ok (.lreturn, 1) := by decide +kernel
theorem dX12_about_26 : decode cX12_about 26 = .ok (.iconst 4, 1) := by decide +kernel
theorem dX12_about_27 : decode cX12_about 27 = .ok (.iload_n 1, 1) := by decide +kernel
theorem dX12_about_28 : decode cX12_about 28 = .ok (.imul, 1) := by decide +kernel
theorem dX12_about_29 : decode cX12_about 29 = .ok (.iload_n 2, 1) := by decide +kernel
theorem dX12_about_30 : decode cX12_about 30 = .ok (.iadd, 1) := by decide +kernel
theorem dX12_about_31 : decode cX12_about 31 = .ok (.istore 4, 2) := by decide +kernel
theorem dX12_about_33 : decode cX12_about 33 = .ok (.iload_n 3, 1) := by decide +kernel
theorem dX12_about_34 : decode cX12_about 34 = .ok (.iconst 2, 1) := by decide +kernel
theorem dX12_about_35 : decode cX12_about 35 = .ok (.if_icmp .ge 27, 3) := by decide +kernel
theorem dX12_about_38 : decode cX12_about 38 = .ok (.iload_n 3, 1) := by decide +kernel
theorem dX12_about_39 : decode cX12_about 39 = .ok (.ifCond .ne 14, 3) := by decide +kernel
theorem dX12_about_42 : decode cX12_about 42 = .ok (.aload_n 0, 1) := by decide +kernel
theorem dX12_about_43 : decode cX12_about 43 = .ok (.getfield 32, 3) := by decide +kernel
theorem dX12_about_46 : decode cX12_about 46 = .ok (.iload 4, 2) := by decide +kernel
theorem dX12_about_48 : decode cX12_about 48 = .ok (.iaload, 1) := by decide +kernel
theorem dX12_about_49 : decode cX12_about 49 = .ok (.i2l, 1) := by decide +kernel
theorem dX12_about_50 : decode cX12_about 50 = .ok (.goto 11, 3) := by decide +kernel
theorem dX12_about_53 : decode cX12_about 53 = .ok (.aload_n 0, 1) := by decide +kernel
theorem dX12_about_54 : decode cX12_about 54 = .ok (.getfield 35, 3) := by decide +kernel
theorem dX12_about_57 : decode cX12_about 57 = .ok (.iload 4, 2) := by decide +kernel
theorem dX12_about_59 : decode cX12_about 59 = .ok (.iaload, 1) := by decide +kernel
theorem dX12_about_60 : decode cX12_about 60 = .ok (.i2l, 1) := by decide +kernel
theorem dX12_about_61 : decode cX12_about 61 = .ok (.lreturn, 1) := by decide +kernel
theorem dX12_about_62 : decode cX12_about 62 = .ok (.iload_n 3, 1) := by decide +kernel
theorem dX12_about_63 : decode cX12_about 63 = .ok (.iconst 5, 1) := by decide +kernel
theorem dX12_about_64 : decode cX12_about 64 = .ok (.if_icmp .ne 22, 3) := by decide +kernel
theorem dX12_about_67 : decode cX12_about 67 = .ok (.aload_n 0, 1) := by decide +kernel
theorem dX12_about_68 : decode cX12_about 68 = .ok (.getfield 32, 3) := by decide +kernel
theorem dX12_about_71 : decode cX12_about 71 = .ok (.iload 4, 2) := by decide +kernel
theorem dX12_about_73 : decode cX12_about 73 = .ok (.iaload, 1) := by decide +kernel
theorem dX12_about_74 : decode cX12_about 74 = .ok (.iconst 1, 1) := by decide +kernel
theorem dX12_about_75 : decode cX12_about 75 = .ok (.if_icmp .eq 11, 3) := by decide +kernel
theorem dX12_about_78 : decode cX12_about 78 = .ok (.aload_n 0, 1) := by decide +kernel
theorem dX12_about_79 : decode cX12_about 79 = .ok (.ldc2_w 183, 3) := by decide +kernel
theorem dX12_about_82 : decode cX12_about 82 = .ok (.invokevirtual 93, 3) := by decide +kernel
theorem dX12_about_85 : decode cX12_about 85 = .ok (.lreturn, 1) := by decide +kernel
theorem dX12_about_86 : decode cX12_about 86 = .ok (.aload_n 0, 1) := by decide +kernel
theorem dX12_about_87 : decode cX12_about 87 = .ok (.iload 4, 2) := by decide +kernel
theorem dX12_about_89 : decode cX12_about 89 = .ok (.invokevirtual 185, 3) := by decide +kernel
theorem dX12_about_92 : decode cX12_about 92 = .ok (.ifCond .ne 11, 3) := by decide +kernel
theorem dX12_about_95 : decode cX12_about 95 = .ok (.aload_n 0, 1) := by decide +kernel
theorem dX12_about_96 : decode cX12_about 96 = .ok (.ldc2_w 106, 3) := by decide +kernel
theorem dX12_about_99 : decode cX12_about 99 = .ok (.invokevirtual 93, 3) := by decide +kernel
theorem dX12_about_102 : decode cX12_about 102 = .ok (.lreturn, 1) := by decide +kernel
theorem dX12_about_103 : decode cX12_about 103 = .ok (.iload_n 3, 1) := by decide +kernel
theorem dX12_about_104 : decode cX12_about 104 = .ok (.iconst 5, 1) := by decide +kernel
theorem dX12_about_105 : decode cX12_about 105 = .ok (.if_icmp .ge 15, 3) := by decide +kernel
theorem dX12_about_108 : decode cX12_about 108 = .ok (.aload_n 0, 1) := by decide +kernel
theorem dX12_about_109 : decode cX12_about 109 = .ok (.iload 4, 2) := by decide +kernel
theorem dX12_about_111 : decode cX12_about 111 = .ok (.iload_n 3, 1) := by decide +kernel
theorem dX12_about_112 : decode cX12_about 112 = .ok (.iconst 2, 1) := by decide +kernel
theorem dX12_about_113 : decode cX12_about 113 = .ok (.isub, 1) := by decide +kernel
theorem dX12_about_114 : decode cX12_about 114 = .ok (.invokevirtual 176, 3) := by decide +kernel
theorem dX12_about_117 : decode cX12_about 117 = .ok (.goto 53, 3) := by decide +kernel
theorem dX12_about_120 : decode cX12_about 120 = .ok (.aload_n 0, 1) := by decide +kernel
theorem dX12_about_121 : decode cX12_about 121 = .ok (.iload 4, 2) := by decide +kernel
theorem dX12_about_123 : decode cX12_about 123 = .ok (.iconst 0, 1) := by decide +kernel
theorem dX12_about_124 : decode cX12_about 124 = .ok (.invokevirtual 176, 3) := by decide +kernel
theorem dX12_about_127 : decode cX12_about 127 = .ok (.aload_n 0, 1) := by decide +kernel
theorem dX12_about_128 : decode cX12_about 128 = .ok (.iload 4, 2) := by decide +kernel
theorem dX12_about_130 : decode cX12_about 130 = .ok (.iconst 2, 1) := by decide +kernel
theorem dX12_about_131 : decode cX12_about 131 = .ok (.iconst 0, 1) := by decide +kernel
theorem dX12_about_132 : decode cX12_about 132 = .ok (.invokevirtual 173, 3) := by decide +kernel
theorem dX12_about_135 : decode cX12_about 135 = .ok (.lmul, 1) := by decide +kernel
theorem dX12_about_136 : decode cX12_about 136 = .ok (.aload_n 0, 1) := by decide +kernel
theorem dX12_about_137 : decode cX12_about 137 = .ok (.iload 4, 2) := by decide +kernel
theorem dX12_about_139 : decode cX12_about 139 = .ok (.iconst 1, 1) := by decide +kernel
theorem dX12_about_140 : decode cX12_about 140 = .ok (.invokevirtual 176, 3) := by decide +kernel
theorem dX12_about_143 : decode cX12_about 143 = .ok (.aload_n 0, 1) := by decide +kernel
theorem dX12_about_144 : decode cX12_about 144 = .ok (.iload 4, 2) := by decide +kernel
theorem dX12_about_146 : decode cX12_about 146 = .ok (.iconst 2, 1) := by decide +kernel
theorem dX12_about_147 : decode cX12_about 147 = .ok (.iconst 1, 1) := by decide +kernel
theorem dX12_about_148 : decode cX12_about 148 = .ok (.invokevirtual 173, 3) := by decide +kernel
theorem dX12_about_151 : decode cX12_about 151 = .ok (.lmul, 1) := by decide +kernel
theorem dX12_about_152 : decode cX12_about 152 = .ok (.ladd, 1) := by decide +kernel
theorem dX12_about_153 : decode cX12_about 153 = .ok (.aload_n 0, 1) := by decide +kernel
theorem dX12_about_154 : decode cX12_about 154 = .ok (.iload 4, 2) := by decide +kernel
theorem dX12_about_156 : decode cX12_about 156 = .ok (.iconst 2, 1) := by decide +kernel
theorem dX12_about_157 : decode cX12_about 157 = .ok (.invokevirtual 176, 3) := by decide +kernel
theorem dX12_about_160 : decode cX12_about 160 = .ok (.aload_n 0, 1) := by decide +kernel
theorem dX12_about_161 : decode cX12_about 161 = .ok (.iload 4, 2) := by decide +kernel
theorem dX12_about_163 : decode cX12_about 163 = .ok (.iconst 2, 1) := by decide +kernel
theorem dX12_about_164 : decode cX12_about 164 = .ok (.iconst 2, 1) := by decide +kernel
theorem dX12_about_165 : decode cX12_about 165 = .ok (.invokevirtual 173, 3) := by decide +kernel
theorem dX12_about_168 : decode cX12_about 168 = .ok (.lmul, 1) := by decide +kernel
theorem dX12_about_169 : decode cX12_about 169 = .ok (.ladd, 1) := by decide +kernel
theorem dX12_about_170 : decode cX12_about 170 = .ok (.lreturn, 1) := by decide +kernel
set_option maxRecDepth 20000 in
theorem ggX12_as_X12_isSight : GoodIn wsX12_as wsX12_isSight := goodIn_r _ [9, 10, 11, 12, 8, 13, 14, 15, 16, 23, 24, 25, 26, 27, 28, 29, 30, 31, 32, 33, 34, 35, 36, 37, 38, 39, 40, 41, 42, 43, 44, 45, 46, 47, 48, 49] (by decide +kernel) (by decide +kernel)
set_option maxRecDepth 20000 in
theorem gX12_as_X12_isSight : GoodIn wsX12_as (wsV RX12 179 RX12 yX12_isSight wsX12_isSight) := goodIn_app (goodIn_of _ (by decide +kernel)) ggX12_as_X12_isSight
set_option maxRecDepth 20000 in
theorem ggX12_as_X12_in : GoodIn wsX12_as wsX12_in := goodIn_r _ [16] (by decide +kernel) (by decide +kernel)
set_option maxRecDepth 20000 in
theorem gX12_as_X12_in : GoodIn wsX12_as (va_wsS RX12 87 yX12_in wsX12_in) := goodIn_app (goodIn_of _ (by decide +kernel)) ggX12_as_X12_in
set_option maxRecDepth 20000 in
theorem ggX12_as_X12_finding : GoodIn wsX12_as wsX12_finding := goodIn_r _ [20, 21, 22, 23, 24, 25, 26, 27, 28, 29, 30, 31, 32, 33, 34, 35, 36, 37, 38, 39, 40, 41, 42, 43, 44, 45, 46, 47, 48, 49] (by decide +kernel) (by decide +kernel)
set_option maxRecDepth 20000 in
theorem gX12_as_X12_finding : GoodIn wsX12_as (wsV RX12 93 RX12 yX12_finding wsX12_finding) := goodIn_app (goodIn_of _ (by decide +kernel)) ggX12_as_X12_finding
theorem dX12_as_0 : decode cX12_as 0 = .ok (.aload_n 0, 1) := by decide +kernel
theorem dX12_as_1 : decode cX12_as 1 = .ok (.iload_n 1, 1) := by decide +kernel
theorem dX12_as_2 : decode cX12_as 2 = .ok (.iload_n 2, 1) := by decide +kernel
theorem dX12_as_3 : decode cX12_as 3 = .ok (.invokevirtual 179, 3) := by decide +kernel
theorem dX12_as_6 : decode cX12_as 6 = .ok (.ifCond .eq 12, 3) := by decide +kernel
theorem dX12_as_9 : decode cX12_as 9 = .ok (.iload_n 3, 1) := by decide +kernel
theorem dX12_as_10 : decode cX12_as 10 = .ok (.iconst 0, 1) := by decide +kernel
theorem dX12_as_11 : decode cX12_as 11 = .ok (.iconst 2, 1) := by decide +kernel
theorem dX12_as_12 : decode cX12_as 12 = .ok (.invokestatic 87, 3) := by decide +kernel
theorem dX12_as_15 : decode cX12_as 15 = .ok (.ifCond .ne 11, 3) := by decide +kernel
theorem dX12_as_18 : decode cX12_as 18 = .ok (.aload_n 0, 1) := by decide +kernel
theorem dX12_as_19 : decode cX12_as 19 = .ok (.ldc2_w 91, 3) := by decide +kernel
theorem dX12_as_22 : decode cX12_as 22 = .ok (.invokevirtual 93, 3) := by decide +kernel
theorem dX12_as_25 : decode cX12_as 25 = .ok (.lreturn, 1) := by decide +kernel
theorem dX12_as_26 : decode cX12_as 26 = .ok (.iconst 4, 1) := by decide +kernel
theorem dX12_as_27 : decode cX12_as 27 = .ok (.iload_n 1, 1) := by decide +kernel
theorem dX12_as_28 : decode cX12_as 28 = .ok (.imul, 1) := by decide +kernel
theorem dX12_as_29 : decode cX12_as 29 = .ok (.iload_n 2, 1) := by decide +kernel
theorem dX12_as_30 : decode cX12_as 30 = .ok (.iadd, 1) := by decide +kernel
theorem dX12_as_31 : decode cX12_as 31 = .ok (.istore 4, 2) := by decide +kernel
theorem dX12_as_33 : decode cX12_as 33 = .ok (.iload_n 3, 1) := by decide +kernel
theorem dX12_as_34 : decode cX12_as 34 = .ok (.ifCond .eq 14, 3) := by decide +kernel
theorem dX12_as_37 : decode cX12_as 37 = .ok (.aload_n 0, 1) := by decide +kernel
theorem dX12_as_38 : decode cX12_as 38 = .ok (.getfield 32, 3) := by decide +kernel
theorem dX12_as_41 : decode cX12_as 41 = .ok (.iload 4, 2) := by decide +kernel
theorem dX12_as_43 : decode cX12_as 43 = .ok (.iaload, 1) := by decide +kernel
theorem dX12_as_44 : decode cX12_as 44 = .ok (.iload_n 3, 1) := by decide +kernel
theorem dX12_as_45 : decode cX12_as 45 = .ok (.if_icmp .ne 14, 3) := by decide +kernel
theorem dX12_as_48 : decode cX12_as 48 = .ok (.aload_n 0, 1) := by decide +kernel
theorem dX12_as_49 : decode cX12_as 49 = .ok (.getfield 35, 3) := by decide +kernel
theorem dX12_as_52 : decode cX12_as 52 = .ok (.iload 4, 2) := by decide +kernel
theorem dX12_as_54 : decode cX12_as 54 = .ok (.iaload, 1) := by decide +kernel
theorem dX12_as_55 : decode cX12_as 55 = .ok (.i2l, 1) := by decide +kernel
theorem dX12_as_56 : decode cX12_as 56 = .ok (.goto 10, 3) := by decide +kernel
theorem dX12_as_59 : decode cX12_as 59 = .ok (.aload_n 0, 1) := by decide +kernel
theorem dX12_as_60 : decode cX12_as 60 = .ok (.ldc2_w 183, 3) := by decide +kernel
theorem dX12_as_63 : decode cX12_as 63 = .ok (.invokevirtual 93, 3) := by decide +kernel
theorem dX12_as_66 : decode cX12_as 66 = .ok (.lreturn, 1) := by decide +kernel
set_option maxRecDepth 20000 in
theorem ggX12_areTwo_X12_isSight : GoodIn wsX12_areTwo wsX12_isSight := goodIn_r _ [5, 6, 7, 8, 4, 9, 10, 11, 12, 13, 14, 15, 16, 17, 18, 19, 20, 21, 22, 23, 24, 25, 26, 27, 28, 29, 30, 31, 32, 33, 34, 35, 36, 37, 38, 39] (by decide +kernel) (by decide +kernel)
set_option maxRecDepth 20000 in
theorem gX12_areTwo_X12_isSight : GoodIn wsX12_areTwo (wsV RX12 179 RX12 yX12_isSight wsX12_isSight) := goodIn_app (goodIn_of _ (by decide +kernel)) ggX12_areTwo_X12_isSight
theorem dX12_areTwo_0 : decode cX12_areTwo 0 = .ok (.aload_n 0, 1) := by decide +kernel
theorem dX12_areTwo_1 : decode cX12_areTwo 1 = .ok (.iload_n 1, 1) := by decide +kernel
theorem dX12_areTwo_2 : decode cX12_areTwo 2 = .ok (.iload_n 2, 1) := by decide +kernel
theorem dX12_areTwo_3 : decode cX12_areTwo 3 = .ok (.invokevirtual 179, 3) := by decide +kernel
theorem dX12_areTwo_6 : decode cX12_areTwo 6 = .ok (.ifCond .eq 21, 3) := by decide +kernel
theorem dX12_areTwo_9 : decode cX12_areTwo 9 = .ok (.aload_n 0, 1) := by decide +kernel
theorem dX12_areTwo_10 : decode cX12_areTwo 10 = .ok (.iload_n 1, 1) := by decide +kernel
theorem dX12_areTwo_11 : decode cX12_areTwo 11 = .ok (.iload_n 3, 1) := by decide +kernel
theorem dX12_areTwo_12 : decode cX12_areTwo 12 = .ok (.invokevirtual 179, 3) := by decide +kernel
theorem dX12_areTwo_15 : decode cX12_areTwo 15 = .ok (.ifCond .eq 12, 3) := by decide +kernel
theorem dX12_areTwo_18 : decode cX12_areTwo 18 = .ok (.iload_n 2, 1) := by decide +kernel
theorem dX12_areTwo_19 : decode cX12_areTwo 19 = .ok (.iload_n 3, 1) := by decide +kernel
theorem dX12_areTwo_20 : decode cX12_areTwo 20 = .ok (.if_icmp .eq 7, 3) := by decide +kernel
theorem dX12_areTwo_23 : decode cX12_areTwo 23 = .ok (.iconst 1, 1) := by decide +kernel
theorem dX12_areTwo_24 : decode cX12_areTwo 24 = .ok (.goto 4, 3) := by decide +kernel
theorem dX12_areTwo_27 : decode cX12_areTwo 27 = .ok (.iconst 0, 1) := by decide +kernel
theorem dX12_areTwo_28 : decode cX12_areTwo 28 = .ok (.ireturn, 1) := by decide +kernel
set_option maxRecDepth 20000 in
theorem ggX12_findPoint_X12_hasPlane : GoodIn wsX12_findPoint wsX12_hasPlane := goodIn_r _ [9, 10, 11, 12, 8, 13, 14, 15, 16, 17, 18, 19, 20, 21, 22, 23, 24, 25, 26, 27, 28, 29, 30, 31, 32, 33, 34, 35, 36, 37, 38, 39, 40, 41, 42, 43, 44, 45] (by decide +kernel) (by decide +kernel)
set_option maxRecDepth 20000 in
theorem gX12_findPoint_X12_hasPlane : GoodIn wsX12_findPoint (wsV RX12 185 RX12 yX12_hasPlane wsX12_hasPlane) := goodIn_app (goodIn_of _ (by decide +kernel)) ggX12_findPoint_X12_hasPlane
set_option maxRecDepth 20000 in
theorem ggX12_findPoint_X12_plane : GoodIn wsX12_findPoint wsX12_plane := goodIn_r _ [13, 14, 15, 16, 8, 17, 18, 19, 20, 21, 22, 23, 24, 25, 26, 27, 28, 29, 30, 31, 32, 33, 34, 35, 36, 37, 38, 39, 40, 41, 42, 43, 44, 45] (by decide +kernel) (by decide +kernel)
set_option maxRecDepth 20000 in
theorem gX12_findPoint_X12_plane : GoodIn wsX12_findPoint (wsV RX12 176 RX12 yX12_plane wsX12_plane) := goodIn_app (goodIn_of _ (by decide +kernel)) ggX12_findPoint_X12_plane
set_option maxRecDepth 20000 in
theorem ggX12_findPoint_X12_way : GoodIn wsX12_findPoint wsX12_way := goodIn_r _ [17, 18, 19, 20, 21, 22, 23, 24, 25, 26, 27, 28, 29, 30, 31, 32, 33, 34, 35, 36, 37, 38, 39, 40, 41, 42, 43, 44, 45] (by decide +kernel) (by decide +kernel)
set_option maxRecDepth 20000 in
theorem gX12_findPoint_X12_way : GoodIn wsX12_findPoint (wsV RX12 173 RX12 yX12_way wsX12_way) := goodIn_app (goodIn_of _ (by decide +kernel)) ggX12_findPoint_X12_way
theorem dX12_findPoint_0 : decode cX12_findPoint 0 = .ok (.aload_n 0, 1) := by decide +kernel
theorem dX12_findPoint_1 : decode cX12_findPoint 1 = .ok (.iload_n 2, 1) := by decide +kernel
theorem dX12_findPoint_2 : decode cX12_findPoint 2 = .ok (.invokevirtual 185, 3) := by decide +kernel
theorem dX12_findPoint_5 : decode cX12_findPoint 5 = .ok (.ifCond .ne 5, 3) := by decide +kernel
theorem dX12_findPoint_8 : decode cX12_findPoint 8 = .ok (.iconst 0, 1) := by decide +kernel
theorem dX12_findPoint_9 : decode cX12_findPoint 9 = .ok (.ireturn, 1) := by decide +kernel
theorem dX12_findPoint_10 : decode cX12_findPoint 10 = .ok (.aload_n 0, 1) := by decide +kernel
theorem dX12_findPoint_11 : decode cX12_findPoint 11 = .ok (.lconst 0, 1) := by decide +kernel
theorem dX12_findPoint_12 : decode cX12_findPoint 12 = .ok (.putfield 188, 3) := by decide +kernel
theorem dX12_findPoint_15 : decode cX12_findPoint 15 = .ok (.lconst 0, 1) := by decide +kernel
theorem dX12_findPoint_16 : decode cX12_findPoint 16 = .ok (.lstore 4, 2) := by decide +kernel
theorem dX12_findPoint_18 : decode cX12_findPoint 18 = .ok (.iconst 0, 1) := by decide +kernel
theorem dX12_findPoint_19 : decode cX12_findPoint 19 = .ok (.istore 6, 2) := by decide +kernel
theorem dX12_findPoint_21 : decode cX12_findPoint 21 = .ok (.iload 6, 2) := by decide +kernel
theorem dX12_findPoint_23 : decode cX12_findPoint 23 = .ok (.iconst 3, 1) := by decide +kernel
theorem dX12_findPoint_24 : decode cX12_findPoint 24 = .ok (.if_icmp .ge 81, 3) := by decide +kernel
theorem dX12_findPoint_27 : decode cX12_findPoint 27 = .ok (.aload_n 0, 1) := by decide +kernel
theorem dX12_findPoint_28 : decode cX12_findPoint 28 = .ok (.dup, 1) := by decide +kernel
theorem dX12_findPoint_29 : decode cX12_findPoint 29 = .ok (.getfield 188, 3) := by decide +kernel
theorem dX12_findPoint_32 : decode cX12_findPoint 32 = .ok (.aload_n 0, 1) := by decide +kernel
theorem dX12_findPoint_33 : decode cX12_findPoint 33 = .ok (.iload_n 2, 1) := by decide +kernel
theorem dX12_findPoint_34 : decode cX12_findPoint 34 = .ok (.iload 6, 2) := by decide +kernel
theorem dX12_findPoint_36 : decode cX12_findPoint 36 = .ok (.invokevirtual 176, 3) := by decide +kernel
theorem dX12_findPoint_39 : decode cX12_findPoint 39 = .ok (.aload_n 0, 1) := by decide +kernel
theorem dX12_findPoint_40 : decode cX12_findPoint 40 = .ok (.iload_n 1, 1) := by decide +kernel
theorem dX12_findPoint_41 : decode cX12_findPoint 41 = .ok (.iload_n 3, 1) := by decide +kernel
theorem dX12_findPoint_42 : decode cX12_findPoint 42 = .ok (.iload 6, 2) := by decide +kernel
theorem dX12_findPoint_44 : decode cX12_findPoint 44 = .ok (.invokevirtual 173, 3) := by decide +kernel
theorem dX12_findPoint_47 : decode cX12_findPoint 47 = .ok (.lmul, 1) := by decide +kernel
theorem dX12_findPoint_48 : decode cX12_findPoint 48 = .ok (.ladd, 1) := by decide +kernel
theorem dX12_findPoint_49 : decode cX12_findPoint 49 = .ok (.putfield 188, 3) := by decide +kernel
theorem dX12_findPoint_52 : decode cX12_findPoint 52 = .ok (.lload 4, 2) := by decide +kernel
theorem dX12_findPoint_54 : decode cX12_findPoint 54 = .ok (.aload_n 0, 1) := by decide +kernel
theorem dX12_findPoint_55 : decode cX12_findPoint 55 = .ok (.iload_n 2, 1) := by decide +kernel
theorem dX12_findPoint_56 : decode cX12_findPoint 56 = .ok (.iload 6, 2) := by decide +kernel
theorem dX12_findPoint_58 : decode cX12_findPoint 58 = .ok (.invokevirtual 176, 3) := by decide +kernel
theorem dX12_findPoint_61 : decode cX12_findPoint 61 = .ok (.aload_n 0, 1) := by decide +kernel
theorem dX12_findPoint_62 : decode cX12_findPoint 62 = .ok (.getfield 26, 3) := by decide +kernel
theorem dX12_findPoint_65 : decode cX12_findPoint 65 = .ok (.iconst 3, 1) := by decide +kernel
theorem dX12_findPoint_66 : decode cX12_findPoint 66 = .ok (.aload_n 0, 1) := by decide +kernel
theorem dX12_findPoint_67 : decode cX12_findPoint 67 = .ok (.getfield 35, 3) := by decide +kernel
theorem dX12_findPoint_70 : decode cX12_findPoint 70 = .ok (.iload_n 2, 1) := by decide +kernel
theorem dX12_findPoint_71 : decode cX12_findPoint 71 = .ok (.iaload, 1) := by decide +kernel
theorem dX12_findPoint_72 : decode cX12_findPoint 72 = .ok (.imul, 1) := by decide +kernel
theorem dX12_findPoint_73 : decode cX12_findPoint 73 = .ok (.iload 6, 2) := by decide +kernel
theorem dX12_findPoint_75 : decode cX12_findPoint 75 = .ok (.iadd, 1) := by decide +kernel
theorem dX12_findPoint_76 : decode cX12_findPoint 76 = .ok (.iaload, 1) := by decide +kernel
theorem dX12_findPoint_77 : decode cX12_findPoint 77 = .ok (.aload_n 0, 1) := by decide +kernel
theorem dX12_findPoint_78 : decode cX12_findPoint 78 = .ok (.getfield 26, 3) := by decide +kernel
theorem dX12_findPoint_81 : decode cX12_findPoint 81 = .ok (.iconst 3, 1) := by decide +kernel
theorem dX12_findPoint_82 : decode cX12_findPoint 82 = .ok (.aload_n 0, 1) := by decide +kernel
theorem dX12_findPoint_83 : decode cX12_findPoint 83 = .ok (.getfield 35, 3) := by decide +kernel
theorem dX12_findPoint_86 : decode cX12_findPoint 86 = .ok (.iload_n 1, 1) := by decide +kernel
theorem dX12_findPoint_87 : decode cX12_findPoint 87 = .ok (.iaload, 1) := by decide +kernel
theorem dX12_findPoint_88 : decode cX12_findPoint 88 = .ok (.imul, 1) := by decide +kernel
theorem dX12_findPoint_89 : decode cX12_findPoint 89 = .ok (.iload 6, 2) := by decide +kernel
theorem dX12_findPoint_91 : decode cX12_findPoint 91 = .ok (.iadd, 1) := by decide +kernel
theorem dX12_findPoint_92 : decode cX12_findPoint 92 = .ok (.iaload, 1) := by decide +kernel
theorem dX12_findPoint_93 : decode cX12_findPoint 93 = .ok (.isub, 1) := by decide +kernel
theorem dX12_findPoint_94 : decode cX12_findPoint 94 = .ok (.i2l, 1) := by decide +kernel
theorem dX12_findPoint_95 : decode cX12_findPoint 95 = .ok (.lmul, 1) := by decide +kernel
theorem dX12_findPoint_96 : decode cX12_findPoint 96 = .ok (.ladd, 1) := by decide +kernel
theorem dX12_findPoint_97 : decode cX12_findPoint 97 = .ok (.lstore 4, 2) := by decide +kernel
theorem dX12_findPoint_99 : decode cX12_findPoint 99 = .ok (.iinc 6 1, 3) := by decide +kernel
theorem dX12_findPoint_102 : decode cX12_findPoint 102 = .ok (.goto (-81), 3) := by decide +kernel
theorem dX12_findPoint_105 : decode cX12_findPoint 105 = .ok (.aload_n 0, 1) := by decide +kernel
theorem dX12_findPoint_106 : decode cX12_findPoint 106 = .ok (.getfield 188, 3) := by decide +kernel
theorem dX12_findPoint_109 : decode cX12_findPoint 109 = .ok (.lconst 0, 1) := by decide +kernel
theorem dX12_findPoint_110 : decode cX12_findPoint 110 = .ok (.lcmp, 1) := by decide +kernel
theorem dX12_findPoint_111 : decode cX12_findPoint 111 = .ok (.ifCond .ne 5, 3) := by decide +kernel
theorem dX12_findPoint_114 : decode cX12_findPoint 114 = .ok (.iconst 0, 1) := by decide +kernel
theorem dX12_findPoint_115 : decode cX12_findPoint 115 = .ok (.ireturn, 1) := by decide +kernel
theorem dX12_findPoint_116 : decode cX12_findPoint 116 = .ok (.iconst 0, 1) := by decide +kernel
theorem dX12_findPoint_117 : decode cX12_findPoint 117 = .ok (.istore 6, 2) := by decide +kernel
theorem dX12_findPoint_119 : decode cX12_findPoint 119 = .ok (.iload 6, 2) := by decide +kernel
theorem dX12_findPoint_121 : decode cX12_findPoint 121 = .ok (.iconst 3, 1) := by decide +kernel
theorem dX12_findPoint_122 : decode cX12_findPoint 122 = .ok (.if_icmp .ge 50, 3) := by decide +kernel
theorem dX12_findPoint_125 : decode cX12_findPoint 125 = .ok (.aload_n 0, 1) := by decide +kernel
theorem dX12_findPoint_126 : decode cX12_findPoint 126 = .ok (.getfield 72, 3) := by decide +kernel
theorem dX12_findPoint_129 : decode cX12_findPoint 129 = .ok (.iload 6, 2) := by decide +kernel
theorem dX12_findPoint_131 : decode cX12_findPoint 131 = .ok (.aload_n 0, 1) := by decide +kernel
theorem dX12_findPoint_132 : decode cX12_findPoint 132 = .ok (.getfield 26, 3) := by decide +kernel
theorem dX12_findPoint_135 : decode cX12_findPoint 135 = .ok (.iconst 3, 1) := by decide +kernel
theorem dX12_findPoint_136 : decode cX12_findPoint 136 = .ok (.aload_n 0, 1) := by decide +kernel
theorem dX12_findPoint_137 : decode cX12_findPoint 137 = .ok (.getfield 35, 3) := by decide +kernel
theorem dX12_findPoint_140 : decode cX12_findPoint 140 = .ok (.iload_n 1, 1) := by decide +kernel
theorem dX12_findPoint_141 : decode cX12_findPoint 141 = .ok (.iaload, 1) := by decide +kernel
theorem dX12_findPoint_142 : decode cX12_findPoint 142 = .ok (.imul, 1) := by decide +kernel
theorem dX12_findPoint_143 : decode cX12_findPoint 143 = .ok (.iload 6, 2) := by decide +kernel
theorem dX12_findPoint_145 : decode cX12_findPoint 145 = .ok (.iadd, 1) := by decide +kernel
theorem dX12_findPoint_146 : decode cX12_findPoint 146 = .ok (.iaload, 1) := by decide +kernel
theorem dX12_findPoint_147 : decode cX12_findPoint 147 = .ok (.i2l, 1) := by decide +kernel
theorem dX12_findPoint_148 : decode cX12_findPoint 148 = .ok (.aload_n 0, 1) := by decide +kernel
theorem dX12_findPoint_149 : decode cX12_findPoint 149 = .ok (.getfield 188, 3) := by decide +kernel
theorem dX12_findPoint_152 : decode cX12_findPoint 152 = .ok (.lmul, 1) := by decide +kernel
theorem dX12_findPoint_153 : decode cX12_findPoint 153 = .ok (.lload 4, 2) := by decide +kernel
theorem dX12_findPoint_155 : decode cX12_findPoint 155 = .ok (.aload_n 0, 1) := by decide +kernel
theorem dX12_findPoint_156 : decode cX12_findPoint 156 = .ok (.iload_n 1, 1) := by decide +kernel
theorem dX12_findPoint_157 : decode cX12_findPoint 157 = .ok (.iload_n 3, 1) := by decide +kernel
theorem dX12_findPoint_158 : decode cX12_findPoint 158 = .ok (.iload 6, 2) := by decide +kernel
theorem dX12_findPoint_160 : decode cX12_findPoint 160 = .ok (.invokevirtual 173, 3) := by decide +kernel
theorem dX12_findPoint_163 : decode cX12_findPoint 163 = .ok (.lmul, 1) := by decide +kernel
theorem dX12_findPoint_164 : decode cX12_findPoint 164 = .ok (.ladd, 1) := by decide +kernel
theorem dX12_findPoint_165 : decode cX12_findPoint 165 = .ok (.lastore, 1) := by decide +kernel
theorem dX12_findPoint_166 : decode cX12_findPoint 166 = .ok (.iinc 6 1, 3) := by decide +kernel
theorem dX12_findPoint_169 : decode cX12_findPoint 169 = .ok (.goto (-50), 3) := by decide +kernel
theorem dX12_findPoint_172 : decode cX12_findPoint 172 = .ok (.iconst 1, 1) := by decide +kernel
theorem dX12_findPoint_173 : decode cX12_findPoint 173 = .ok (.ireturn, 1) := by decide +kernel
set_option maxRecDepth 20000 in
theorem ggX12_point_X12_areTwo : GoodIn wsX12_point wsX12_areTwo := goodIn_r _ [11, 12, 13, 14, 10, 15, 16, 17, 18, 19, 20, 21, 22, 58, 59, 60, 61, 62, 63, 64, 65, 66, 67, 68, 69, 70, 71, 72, 73, 74, 75, 76, 77, 78, 79, 80, 81, 82, 83, 84] (by decide +kernel) (by decide +kernel)
set_option maxRecDepth 20000 in
theorem gX12_point_X12_areTwo : GoodIn wsX12_point (wsV RX12 192 RX12 yX12_areTwo wsX12_areTwo) := goodIn_app (goodIn_of _ (by decide +kernel)) ggX12_point_X12_areTwo
set_option maxRecDepth 20000 in
theorem ggX12_point_X12_in : GoodIn wsX12_point wsX12_in := goodIn_r _ [22] (by decide +kernel) (by decide +kernel)
set_option maxRecDepth 20000 in
theorem gX12_point_X12_in : GoodIn wsX12_point (va_wsS RX12 87 yX12_in wsX12_in) := goodIn_app (goodIn_of _ (by decide +kernel)) ggX12_point_X12_in
set_option maxRecDepth 20000 in
theorem ggX12_point_X12_finding : GoodIn wsX12_point wsX12_finding := goodIn_r _ [26, 27, 28, 58, 59, 60, 61, 62, 63, 64, 65, 66, 67, 68, 69, 70, 71, 72, 73, 74, 75, 76, 77, 78, 79, 80, 81, 82, 83, 84] (by decide +kernel) (by decide +kernel)
set_option maxRecDepth 20000 in
theorem gX12_point_X12_finding : GoodIn wsX12_point (wsV RX12 93 RX12 yX12_finding wsX12_finding) := goodIn_app (goodIn_of _ (by decide +kernel)) ggX12_point_X12_finding
set_option maxRecDepth 20000 in
theorem ggX12_point_X12_findPoint : GoodIn wsX12_point wsX12_findPoint := goodIn_r _ [32, 5, 33, 34, 4, 35, 36, 37, 10, 38, 39, 40, 41, 42, 43, 44, 45, 46, 47, 58, 59, 60, 61, 62, 63, 64, 65, 66, 67, 68, 69, 70, 71, 72, 73, 74, 75, 76, 77, 78, 79, 80, 81, 82, 83, 84] (by decide +kernel) (by decide +kernel)
set_option maxRecDepth 20000 in
theorem gX12_point_X12_findPoint : GoodIn wsX12_point (wsV RX12 195 RX12 yX12_findPoint wsX12_findPoint) := goodIn_app (goodIn_of _ (by decide +kernel)) ggX12_point_X12_findPoint
set_option maxRecDepth 20000 in
theorem ggX12_point_X12_part : GoodIn wsX12_point wsX12_part := goodIn_r _ [50, 51, 52, 10, 53, 54, 55, 56, 57] (by decide +kernel) (by decide +kernel)
set_option maxRecDepth 20000 in
theorem gX12_point_X12_part : GoodIn wsX12_point (va_wsS RX12 156 yX12_part wsX12_part) := goodIn_app (goodIn_of _ (by decide +kernel)) ggX12_point_X12_part
theorem dX12_point_0 : decode cX12_point 0 = .ok (.aload_n 0, 1) := by decide +kernel
theorem dX12_point_1 : decode cX12_point 1 = .ok (.iload_n 1, 1) := by decide +kernel
theorem dX12_point_2 : decode cX12_point 2 = .ok (.iload_n 2, 1) := by decide +kernel
theorem dX12_point_3 : decode cX12_point 3 = .ok (.iload_n 3, 1) := by decide +kernel
theorem dX12_point_4 : decode cX12_point 4 = .ok (.invokevirtual 192, 3) := by decide +kernel
theorem dX12_point_7 : decode cX12_point 7 = .ok (.ifCond .eq 13, 3) := by decide +kernel
theorem dX12_point_10 : decode cX12_point 10 = .ok (.iload 5, 2) := by decide +kernel
theorem dX12_point_12 : decode cX12_point 12 = .ok (.iconst 0, 1) := by decide +kernel
theorem dX12_point_13 : decode cX12_point 13 = .ok (.iconst 2, 1) := by decide +kernel
theorem dX12_point_14 : decode cX12_point 14 = .ok (.invokestatic 87, 3) := by decide +kernel
theorem dX12_point_17 : decode cX12_point 17 = .ok (.ifCond .ne 11, 3) := by decide +kernel
theorem dX12_point_20 : decode cX12_point 20 = .ok (.aload_n 0, 1) := by decide +kernel
theorem dX12_point_21 : decode cX12_point 21 = .ok (.ldc2_w 91, 3) := by decide +kernel
theorem dX12_point_24 : decode cX12_point 24 = .ok (.invokevirtual 93, 3) := by decide +kernel
theorem dX12_point_27 : decode cX12_point 27 = .ok (.lreturn, 1) := by decide +kernel
theorem dX12_point_28 : decode cX12_point 28 = .ok (.iconst 4, 1) := by decide +kernel
theorem dX12_point_29 : decode cX12_point 29 = .ok (.iload_n 1, 1) := by decide +kernel
theorem dX12_point_30 : decode cX12_point 30 = .ok (.imul, 1) := by decide +kernel
theorem dX12_point_31 : decode cX12_point 31 = .ok (.istore 7, 2) := by decide +kernel
theorem dX12_point_33 : decode cX12_point 33 = .ok (.aload_n 0, 1) := by decide +kernel
theorem dX12_point_34 : decode cX12_point 34 = .ok (.getfield 32, 3) := by decide +kernel
theorem dX12_point_37 : decode cX12_point 37 = .ok (.iload 7, 2) := by decide +kernel
theorem dX12_point_39 : decode cX12_point 39 = .ok (.iload_n 2, 1) := by decide +kernel
theorem dX12_point_40 : decode cX12_point 40 = .ok (.iadd, 1) := by decide +kernel
theorem dX12_point_41 : decode cX12_point 41 = .ok (.iaload, 1) := by decide +kernel
theorem dX12_point_42 : decode cX12_point 42 = .ok (.iconst 2, 1) := by decide +kernel
theorem dX12_point_43 : decode cX12_point 43 = .ok (.if_icmp .ne 11, 3) := by decide +kernel
theorem dX12_point_46 : decode cX12_point 46 = .ok (.aload_n 0, 1) := by decide +kernel
theorem dX12_point_47 : decode cX12_point 47 = .ok (.ldc2_w 183, 3) := by decide +kernel
theorem dX12_point_50 : decode cX12_point 50 = .ok (.invokevirtual 93, 3) := by decide +kernel
theorem dX12_point_53 : decode cX12_point 53 = .ok (.lreturn, 1) := by decide +kernel
theorem dX12_point_54 : decode cX12_point 54 = .ok (.aload_n 0, 1) := by decide +kernel
theorem dX12_point_55 : decode cX12_point 55 = .ok (.iload 7, 2) := by decide +kernel
theorem dX12_point_57 : decode cX12_point 57 = .ok (.iload_n 2, 1) := by decide +kernel
theorem dX12_point_58 : decode cX12_point 58 = .ok (.iadd, 1) := by decide +kernel
