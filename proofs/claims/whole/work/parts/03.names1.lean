set_option maxRecDepth 20000 in
theorem ggX11_init_X5_init : GoodIn wsX11_init wsX5_init := goodIn_r _ [81, 82, 2, 3, 83, 84, 85, 139, 140] (by decide +kernel) (by decide +kernel)
set_option maxRecDepth 20000 in
theorem gX11_init_X5_init : GoodIn wsX11_init (wsX5_init) := ggX11_init_X5_init
set_option maxRecDepth 20000 in
theorem ggX11_init_X7_init : GoodIn wsX11_init wsX7_init := goodIn_r _ [88, 89, 2, 3, 33, 90, 91, 141, 142] (by decide +kernel) (by decide +kernel)
set_option maxRecDepth 20000 in
theorem gX11_init_X7_init : GoodIn wsX11_init (wsX7_init) := ggX11_init_X7_init
set_option maxRecDepth 20000 in
theorem ggX11_init_X10_init : GoodIn wsX11_init wsX10_init := goodIn_r _ [94, 95, 2, 3, 96, 97, 98, 143, 144, 145] (by decide +kernel) (by decide +kernel)
set_option maxRecDepth 20000 in
theorem gX11_init_X10_init : GoodIn wsX11_init (wsX10_init) := ggX11_init_X10_init
set_option maxRecDepth 20000 in
theorem ggX11_init_X3_init : GoodIn wsX11_init wsX3_init := goodIn_r _ [101, 102, 2, 3, 103, 104, 105, 146, 147] (by decide +kernel) (by decide +kernel)
set_option maxRecDepth 20000 in
theorem gX11_init_X3_init : GoodIn wsX11_init (wsX3_init) := ggX11_init_X3_init
theorem dX11_init_0 : decode cX11_init 0 = .ok (.aload_n 0, 1) := by decide +kernel
theorem dX11_init_1 : decode cX11_init 1 = .ok (.invokespecial 1, 3) := by decide +kernel
theorem dX11_init_4 : decode cX11_init 4 = .ok (.aload_n 0, 1) := by decide +kernel
theorem dX11_init_5 : decode cX11_init 5 = .ok (.new 7, 3) := by decide +kernel
theorem dX11_init_8 : decode cX11_init 8 = .ok (.dup, 1) := by decide +kernel
theorem dX11_init_9 : decode cX11_init 9 = .ok (.bipush 12, 2) := by decide +kernel
theorem dX11_init_11 : decode cX11_init 11 = .ok (.invokespecial 11, 3) := by decide +kernel
theorem dX11_init_14 : decode cX11_init 14 = .ok (.putfield 14, 3) := by decide +kernel
theorem dX11_init_17 : decode cX11_init 17 = .ok (.aload_n 0, 1) := by decide +kernel
theorem dX11_init_18 : decode cX11_init 18 = .ok (.new 7, 3) := by decide +kernel
theorem dX11_init_21 : decode cX11_init 21 = .ok (.dup, 1) := by decide +kernel
theorem dX11_init_22 : decode cX11_init 22 = .ok (.bipush 10, 2) := by decide +kernel
theorem dX11_init_24 : decode cX11_init 24 = .ok (.invokespecial 11, 3) := by decide +kernel
theorem dX11_init_27 : decode cX11_init 27 = .ok (.putfield 18, 3) := by decide +kernel
theorem dX11_init_30 : decode cX11_init 30 = .ok (.aload_n 0, 1) := by decide +kernel
theorem dX11_init_31 : decode cX11_init 31 = .ok (.new 21, 3) := by decide +kernel
theorem dX11_init_34 : decode cX11_init 34 = .ok (.dup, 1) := by decide +kernel
theorem dX11_init_35 : decode cX11_init 35 = .ok (.aload_n 0, 1) := by decide +kernel
theorem dX11_init_36 : decode cX11_init 36 = .ok (.getfield 18, 3) := by decide +kernel
theorem dX11_init_39 : decode cX11_init 39 = .ok (.aload_n 0, 1) := by decide +kernel
theorem dX11_init_40 : decode cX11_init 40 = .ok (.getfield 14, 3) := by decide +kernel
theorem dX11_init_43 : decode cX11_init 43 = .ok (.invokespecial 23, 3) := by decide +kernel
theorem dX11_init_46 : decode cX11_init 46 = .ok (.putfield 26, 3) := by decide +kernel
theorem dX11_init_49 : decode cX11_init 49 = .ok (.aload_n 0, 1) := by decide +kernel
theorem dX11_init_50 : decode cX11_init 50 = .ok (.new 30, 3) := by decide +kernel
theorem dX11_init_53 : decode cX11_init 53 = .ok (.dup, 1) := by decide +kernel
theorem dX11_init_54 : decode cX11_init 54 = .ok (.invokespecial 32, 3) := by decide +kernel
theorem dX11_init_57 : decode cX11_init 57 = .ok (.putfield 33, 3) := by decide +kernel
theorem dX11_init_60 : decode cX11_init 60 = .ok (.aload_n 0, 1) := by decide +kernel
theorem dX11_init_61 : decode cX11_init 61 = .ok (.iconst 2, 1) := by decide +kernel
theorem dX11_init_62 : decode cX11_init 62 = .ok (.anewarray 37, 3) := by decide +kernel
theorem dX11_init_65 : decode cX11_init 65 = .ok (.putfield 39, 3) := by decide +kernel
theorem dX11_init_68 : decode cX11_init 68 = .ok (.iconst 0, 1) := by decide +kernel
theorem dX11_init_69 : decode cX11_init 69 = .ok (.istore_n 1, 1) := by decide +kernel
theorem dX11_init_70 : decode cX11_init 70 = .ok (.iload_n 1, 1) := by decide +kernel
theorem dX11_init_71 : decode cX11_init 71 = .ok (.iconst 2, 1) := by decide +kernel
theorem dX11_init_72 : decode cX11_init 72 = .ok (.if_icmp .ge 22, 3) := by decide +kernel
theorem dX11_init_75 : decode cX11_init 75 = .ok (.aload_n 0, 1) := by decide +kernel
theorem dX11_init_76 : decode cX11_init 76 = .ok (.getfield 39, 3) := by decide +kernel
theorem dX11_init_79 : decode cX11_init 79 = .ok (.iload_n 1, 1) := by decide +kernel
theorem dX11_init_80 : decode cX11_init 80 = .ok (.new 37, 3) := by decide +kernel
theorem dX11_init_83 : decode cX11_init 83 = .ok (.dup, 1) := by decide +kernel
theorem dX11_init_84 : decode cX11_init 84 = .ok (.invokespecial 43, 3) := by decide +kernel
theorem dX11_init_87 : decode cX11_init 87 = .ok (.aastore, 1) := by decide +kernel
theorem dX11_init_88 : decode cX11_init 88 = .ok (.iinc 1 1, 3) := by decide +kernel
theorem dX11_init_91 : decode cX11_init 91 = .ok (.goto (-21), 3) := by decide +kernel
theorem dX11_init_94 : decode cX11_init 94 = .ok (.aload_n 0, 1) := by decide +kernel
theorem dX11_init_95 : decode cX11_init 95 = .ok (.new 44, 3) := by decide +kernel
theorem dX11_init_98 : decode cX11_init 98 = .ok (.dup, 1) := by decide +kernel
theorem dX11_init_99 : decode cX11_init 99 = .ok (.invokespecial 46, 3) := by decide +kernel
theorem dX11_init_102 : decode cX11_init 102 = .ok (.putfield 47, 3) := by decide +kernel
theorem dX11_init_105 : decode cX11_init 105 = .ok (.aload_n 0, 1) := by decide +kernel
theorem dX11_init_106 : decode cX11_init 106 = .ok (.iconst 4, 1) := by decide +kernel
theorem dX11_init_107 : decode cX11_init 107 = .ok (.anewarray 51, 3) := by decide +kernel
theorem dX11_init_110 : decode cX11_init 110 = .ok (.putfield 53, 3) := by decide +kernel
theorem dX11_init_113 : decode cX11_init 113 = .ok (.iconst 0, 1) := by decide +kernel
theorem dX11_init_114 : decode cX11_init 114 = .ok (.istore_n 1, 1) := by decide +kernel
theorem dX11_init_115 : decode cX11_init 115 = .ok (.iload_n 1, 1) := by decide +kernel
theorem dX11_init_116 : decode cX11_init 116 = .ok (.iconst 4, 1) := by decide +kernel
theorem dX11_init_117 : decode cX11_init 117 = .ok (.if_icmp .ge 25, 3) := by decide +kernel
theorem dX11_init_120 : decode cX11_init 120 = .ok (.aload_n 0, 1) := by decide +kernel
theorem dX11_init_121 : decode cX11_init 121 = .ok (.getfield 53, 3) := by decide +kernel
theorem dX11_init_124 : decode cX11_init 124 = .ok (.iload_n 1, 1) := by decide +kernel
theorem dX11_init_125 : decode cX11_init 125 = .ok (.new 51, 3) := by decide +kernel
theorem dX11_init_128 : decode cX11_init 128 = .ok (.dup, 1) := by decide +kernel
theorem dX11_init_129 : decode cX11_init 129 = .ok (.lconst 0, 1) := by decide +kernel
theorem dX11_init_130 : decode cX11_init 130 = .ok (.lconst 0, 1) := by decide +kernel
theorem dX11_init_131 : decode cX11_init 131 = .ok (.lconst 0, 1) := by decide +kernel
theorem dX11_init_132 : decode cX11_init 132 = .ok (.invokespecial 57, 3) := by decide +kernel
theorem dX11_init_135 : decode cX11_init 135 = .ok (.aastore, 1) := by decide +kernel
theorem dX11_init_136 : decode cX11_init 136 = .ok (.iinc 1 1, 3) := by decide +kernel
theorem dX11_init_139 : decode cX11_init 139 = .ok (.goto (-24), 3) := by decide +kernel
theorem dX11_init_142 : decode cX11_init 142 = .ok (.aload_n 0, 1) := by decide +kernel
theorem dX11_init_143 : decode cX11_init 143 = .ok (.bipush 6, 2) := by decide +kernel
theorem dX11_init_145 : decode cX11_init 145 = .ok (.anewarray 60, 3) := by decide +kernel
theorem dX11_init_148 : decode cX11_init 148 = .ok (.putfield 62, 3) := by decide +kernel
theorem dX11_init_151 : decode cX11_init 151 = .ok (.iconst 0, 1) := by decide +kernel
theorem dX11_init_152 : decode cX11_init 152 = .ok (.istore_n 1, 1) := by decide +kernel
theorem dX11_init_153 : decode cX11_init 153 = .ok (.iload_n 1, 1) := by decide +kernel
theorem dX11_init_154 : decode cX11_init 154 = .ok (.bipush 6, 2) := by decide +kernel
theorem dX11_init_156 : decode cX11_init 156 = .ok (.if_icmp .ge 22, 3) := by decide +kernel
theorem dX11_init_159 : decode cX11_init 159 = .ok (.aload_n 0, 1) := by decide +kernel
theorem dX11_init_160 : decode cX11_init 160 = .ok (.getfield 62, 3) := by decide +kernel
theorem dX11_init_163 : decode cX11_init 163 = .ok (.iload_n 1, 1) := by decide +kernel
theorem dX11_init_164 : decode cX11_init 164 = .ok (.new 60, 3) := by decide +kernel
theorem dX11_init_167 : decode cX11_init 167 = .ok (.dup, 1) := by decide +kernel
theorem dX11_init_168 : decode cX11_init 168 = .ok (.invokespecial 66, 3) := by decide +kernel
theorem dX11_init_171 : decode cX11_init 171 = .ok (.aastore, 1) := by decide +kernel
theorem dX11_init_172 : decode cX11_init 172 = .ok (.iinc 1 1, 3) := by decide +kernel
theorem dX11_init_175 : decode cX11_init 175 = .ok (.goto (-22), 3) := by decide +kernel
theorem dX11_init_178 : decode cX11_init 178 = .ok (.aload_n 0, 1) := by decide +kernel
theorem dX11_init_179 : decode cX11_init 179 = .ok (.bipush 10, 2) := by decide +kernel
theorem dX11_init_181 : decode cX11_init 181 = .ok (.newarray .int, 2) := by decide +kernel
theorem dX11_init_183 : decode cX11_init 183 = .ok (.putfield 67, 3) := by decide +kernel
theorem dX11_init_186 : decode cX11_init 186 = .ok (.aload_n 0, 1) := by decide +kernel
theorem dX11_init_187 : decode cX11_init 187 = .ok (.bipush 10, 2) := by decide +kernel
theorem dX11_init_189 : decode cX11_init 189 = .ok (.newarray .int, 2) := by decide +kernel
theorem dX11_init_191 : decode cX11_init 191 = .ok (.putfield 71, 3) := by decide +kernel
theorem dX11_init_194 : decode cX11_init 194 = .ok (.aload_n 0, 1) := by decide +kernel
theorem dX11_init_195 : decode cX11_init 195 = .ok (.bipush 6, 2) := by decide +kernel
theorem dX11_init_197 : decode cX11_init 197 = .ok (.newarray .int, 2) := by decide +kernel
theorem dX11_init_199 : decode cX11_init 199 = .ok (.putfield 74, 3) := by decide +kernel
theorem dX11_init_202 : decode cX11_init 202 = .ok (.return_, 1) := by decide +kernel
set_option maxRecDepth 20000 in
theorem ggX11_star_X11_addPoint : GoodIn wsX11_star wsX11_addPoint := goodIn_r _ [6, 7, 8, 9, 10, 11, 12, 5, 13, 14, 15, 16, 17, 18, 19, 20, 21, 22, 23, 24, 25, 26, 27, 28, 40, 41, 42, 43, 29, 30, 31, 32, 33, 34, 35, 36, 37, 38, 39, 44, 45, 46, 47, 48, 49, 50, 51, 52, 53] (by decide +kernel) (by decide +kernel)
set_option maxRecDepth 20000 in
theorem gX11_star_X11_addPoint : GoodIn wsX11_star (wsV RX11 77 RX11 yX11_addPoint wsX11_addPoint) := goodIn_app (goodIn_of _ (by decide +kernel)) ggX11_star_X11_addPoint
theorem dX11_star_0 : decode cX11_star 0 = .ok (.aload_n 0, 1) := by decide +kernel
theorem dX11_star_1 : decode cX11_star 1 = .ok (.aload_n 0, 1) := by decide +kernel
theorem dX11_star_2 : decode cX11_star 2 = .ok (.getfield 14, 3) := by decide +kernel
theorem dX11_star_5 : decode cX11_star 5 = .ok (.iload_n 1, 1) := by decide +kernel
theorem dX11_star_6 : decode cX11_star 6 = .ok (.iload_n 2, 1) := by decide +kernel
theorem dX11_star_7 : decode cX11_star 7 = .ok (.invokevirtual 77, 3) := by decide +kernel
theorem dX11_star_10 : decode cX11_star 10 = .ok (.lreturn, 1) := by decide +kernel
set_option maxRecDepth 20000 in
theorem ggX11_spot_X11_addPoint : GoodIn wsX11_spot wsX11_addPoint := goodIn_r _ [6, 7, 8, 9, 10, 11, 12, 5, 13, 14, 15, 16, 17, 18, 19, 20, 21, 22, 23, 24, 25, 26, 27, 28, 40, 41, 42, 43, 29, 30, 31, 32, 33, 34, 35, 36, 37, 38, 39, 44, 45, 46, 47, 48, 49, 50, 51, 52, 53] (by decide +kernel) (by decide +kernel)
set_option maxRecDepth 20000 in
theorem gX11_spot_X11_addPoint : GoodIn wsX11_spot (wsV RX11 77 RX11 yX11_addPoint wsX11_addPoint) := goodIn_app (goodIn_of _ (by decide +kernel)) ggX11_spot_X11_addPoint
theorem dX11_spot_0 : decode cX11_spot 0 = .ok (.aload_n 0, 1) := by decide +kernel
theorem dX11_spot_1 : decode cX11_spot 1 = .ok (.aload_n 0, 1) := by decide +kernel
theorem dX11_spot_2 : decode cX11_spot 2 = .ok (.getfield 18, 3) := by decide +kernel
theorem dX11_spot_5 : decode cX11_spot 5 = .ok (.iload_n 1, 1) := by decide +kernel
theorem dX11_spot_6 : decode cX11_spot 6 = .ok (.iload_n 2, 1) := by decide +kernel
theorem dX11_spot_7 : decode cX11_spot 7 = .ok (.invokevirtual 77, 3) := by decide +kernel
theorem dX11_spot_10 : decode cX11_spot 10 = .ok (.lreturn, 1) := by decide +kernel
set_option maxRecDepth 20000 in
theorem ggX11_addPoint_X11_isOnPlate : GoodIn wsX11_addPoint wsX11_isOnPlate := goodIn_r _ [8] (by decide +kernel) (by decide +kernel)
set_option maxRecDepth 20000 in
theorem gX11_addPoint_X11_isOnPlate : GoodIn wsX11_addPoint (va_wsS RX11 81 yX11_isOnPlate wsX11_isOnPlate) := goodIn_app (goodIn_of _ (by decide +kernel)) ggX11_addPoint_X11_isOnPlate
set_option maxRecDepth 20000 in
theorem ggX11_addPoint_X11_finding : GoodIn wsX11_addPoint wsX11_finding := goodIn_r _ [12, 13, 14, 28, 29, 30, 31, 32, 33, 34, 35, 36, 37, 38] (by decide +kernel) (by decide +kernel)
set_option maxRecDepth 20000 in
theorem gX11_addPoint_X11_finding : GoodIn wsX11_addPoint (wsV RX11 85 RX11 yX11_finding wsX11_finding) := goodIn_app (goodIn_of _ (by decide +kernel)) ggX11_addPoint_X11_finding
set_option maxRecDepth 20000 in
theorem ggX11_addPoint_X4_add : GoodIn wsX11_addPoint wsX4_add := goodIn_r _ [19, 20, 21, 22, 23, 24, 25, 26, 27] (by decide +kernel) (by decide +kernel)
set_option maxRecDepth 20000 in
theorem gX11_addPoint_X4_add : GoodIn wsX11_addPoint (wsV RX11 100 RX4 yX4_add wsX4_add) := goodIn_app (goodIn_of _ (by decide +kernel)) ggX11_addPoint_X4_add
theorem dX11_addPoint_0 : decode cX11_addPoint 0 = .ok (.iload_n 2, 1) := by decide +kernel
theorem dX11_addPoint_1 : decode cX11_addPoint 1 = .ok (.invokestatic 81, 3) := by decide +kernel
theorem dX11_addPoint_4 : decode cX11_addPoint 4 = .ok (.ifCond .eq 10, 3) := by decide +kernel
theorem dX11_addPoint_7 : decode cX11_addPoint 7 = .ok (.iload_n 3, 1) := by decide +kernel
theorem dX11_addPoint_8 : decode cX11_addPoint 8 = .ok (.invokestatic 81, 3) := by decide +kernel
theorem dX11_addPoint_11 : decode cX11_addPoint 11 = .ok (.ifCond .ne 9, 3) := by decide +kernel
theorem dX11_addPoint_14 : decode cX11_addPoint 14 = .ok (.aload_n 0, 1) := by decide +kernel
theorem dX11_addPoint_15 : decode cX11_addPoint 15 = .ok (.iconst 1, 1) := by decide +kernel
theorem dX11_addPoint_16 : decode cX11_addPoint 16 = .ok (.invokevirtual 85, 3) := by decide +kernel
theorem dX11_addPoint_19 : decode cX11_addPoint 19 = .ok (.lreturn, 1) := by decide +kernel
theorem dX11_addPoint_20 : decode cX11_addPoint 20 = .ok (.aload_n 1, 1) := by decide +kernel
theorem dX11_addPoint_21 : decode cX11_addPoint 21 = .ok (.getfield 89, 3) := by decide +kernel
theorem dX11_addPoint_24 : decode cX11_addPoint 24 = .ok (.aload_n 1, 1) := by decide +kernel
theorem dX11_addPoint_25 : decode cX11_addPoint 25 = .ok (.getfield 93, 3) := by decide +kernel
theorem dX11_addPoint_28 : decode cX11_addPoint 28 = .ok (.if_icmp .lt 9, 3) := by decide +kernel
theorem dX11_addPoint_31 : decode cX11_addPoint 31 = .ok (.aload_n 0, 1) := by decide +kernel
theorem dX11_addPoint_32 : decode cX11_addPoint 32 = .ok (.iconst 4, 1) := by decide +kernel
theorem dX11_addPoint_33 : decode cX11_addPoint 33 = .ok (.invokevirtual 85, 3) := by decide +kernel
theorem dX11_addPoint_36 : decode cX11_addPoint 36 = .ok (.lreturn, 1) := by decide +kernel
theorem dX11_addPoint_37 : decode cX11_addPoint 37 = .ok (.aload_n 0, 1) := by decide +kernel
theorem dX11_addPoint_38 : decode cX11_addPoint 38 = .ok (.getfield 26, 3) := by decide +kernel
theorem dX11_addPoint_41 : decode cX11_addPoint 41 = .ok (.iconst 0, 1) := by decide +kernel
theorem dX11_addPoint_42 : decode cX11_addPoint 42 = .ok (.putfield 96, 3) := by decide +kernel
theorem dX11_addPoint_45 : decode cX11_addPoint 45 = .ok (.aload_n 1, 1) := by decide +kernel
theorem dX11_addPoint_46 : decode cX11_addPoint 46 = .ok (.iload_n 2, 1) := by decide +kernel
theorem dX11_addPoint_47 : decode cX11_addPoint 47 = .ok (.iload_n 3, 1) := by decide +kernel
theorem dX11_addPoint_48 : decode cX11_addPoint 48 = .ok (.invokevirtual 100, 3) := by decide +kernel
theorem dX11_addPoint_51 : decode cX11_addPoint 51 = .ok (.i2l, 1) := by decide +kernel
theorem dX11_addPoint_52 : decode cX11_addPoint 52 = .ok (.lreturn, 1) := by decide +kernel
set_option maxRecDepth 20000 in
theorem ggX11_row_X11_isRow : GoodIn wsX11_row wsX11_isRow := goodIn_r _ [5] (by decide +kernel) (by decide +kernel)
set_option maxRecDepth 20000 in
theorem gX11_row_X11_isRow : GoodIn wsX11_row (va_wsS RX11 104 yX11_isRow wsX11_isRow) := goodIn_app (goodIn_of _ (by decide +kernel)) ggX11_row_X11_isRow
set_option maxRecDepth 20000 in
theorem ggX11_row_X11_finding : GoodIn wsX11_row wsX11_finding := goodIn_r _ [9, 10, 11, 19, 20, 21, 22, 23, 24, 25, 26, 27, 28, 29] (by decide +kernel) (by decide +kernel)
set_option maxRecDepth 20000 in
theorem gX11_row_X11_finding : GoodIn wsX11_row (wsV RX11 85 RX11 yX11_finding wsX11_finding) := goodIn_app (goodIn_of _ (by decide +kernel)) ggX11_row_X11_finding
set_option maxRecDepth 20000 in
theorem ggX11_row_X5_begin : GoodIn wsX11_row wsX5_begin := goodIn_r _ [16, 17, 18, 30, 31] (by decide +kernel) (by decide +kernel)
set_option maxRecDepth 20000 in
theorem gX11_row_X5_begin : GoodIn wsX11_row (wsV RX11 107 RX5 yX5_begin wsX5_begin) := goodIn_app (goodIn_of _ (by decide +kernel)) ggX11_row_X5_begin
theorem dX11_row_0 : decode cX11_row 0 = .ok (.iload_n 1, 1) := by decide +kernel
theorem dX11_row_1 : decode cX11_row 1 = .ok (.invokestatic 104, 3) := by decide +kernel
theorem dX11_row_4 : decode cX11_row 4 = .ok (.ifCond .ne 9, 3) := by decide +kernel
theorem dX11_row_7 : decode cX11_row 7 = .ok (.aload_n 0, 1) := by decide +kernel
theorem dX11_row_8 : decode cX11_row 8 = .ok (.iconst 1, 1) := by decide +kernel
theorem dX11_row_9 : decode cX11_row 9 = .ok (.invokevirtual 85, 3) := by decide +kernel
theorem dX11_row_12 : decode cX11_row 12 = .ok (.lreturn, 1) := by decide +kernel
theorem dX11_row_13 : decode cX11_row 13 = .ok (.iload_n 2, 1) := by decide +kernel
theorem dX11_row_14 : decode cX11_row 14 = .ok (.iconst (-1), 1) := by decide +kernel
theorem dX11_row_15 : decode cX11_row 15 = .ok (.if_icmp .ge 9, 3) := by decide +kernel
theorem dX11_row_18 : decode cX11_row 18 = .ok (.aload_n 0, 1) := by decide +kernel
theorem dX11_row_19 : decode cX11_row 19 = .ok (.iconst 5, 1) := by decide +kernel
theorem dX11_row_20 : decode cX11_row 20 = .ok (.invokevirtual 85, 3) := by decide +kernel
theorem dX11_row_23 : decode cX11_row 23 = .ok (.lreturn, 1) := by decide +kernel
theorem dX11_row_24 : decode cX11_row 24 = .ok (.iload_n 2, 1) := by decide +kernel
theorem dX11_row_25 : decode cX11_row 25 = .ok (.bipush 24, 2) := by decide +kernel
theorem dX11_row_27 : decode cX11_row 27 = .ok (.if_icmp .le 9, 3) := by decide +kernel
theorem dX11_row_30 : decode cX11_row 30 = .ok (.aload_n 0, 1) := by decide +kernel
theorem dX11_row_31 : decode cX11_row 31 = .ok (.iconst 1, 1) := by decide +kernel
theorem dX11_row_32 : decode cX11_row 32 = .ok (.invokevirtual 85, 3) := by decide +kernel
theorem dX11_row_35 : decode cX11_row 35 = .ok (.lreturn, 1) := by decide +kernel
theorem dX11_row_36 : decode cX11_row 36 = .ok (.aload_n 0, 1) := by decide +kernel
theorem dX11_row_37 : decode cX11_row 37 = .ok (.getfield 39, 3) := by decide +kernel
theorem dX11_row_40 : decode cX11_row 40 = .ok (.iload_n 1, 1) := by decide +kernel
theorem dX11_row_41 : decode cX11_row 41 = .ok (.aaload, 1) := by decide +kernel
theorem dX11_row_42 : decode cX11_row 42 = .ok (.iload_n 2, 1) := by decide +kernel
theorem dX11_row_43 : decode cX11_row 43 = .ok (.invokevirtual 107, 3) := by decide +kernel
theorem dX11_row_46 : decode cX11_row 46 = .ok (.iload_n 2, 1) := by decide +kernel
theorem dX11_row_47 : decode cX11_row 47 = .ok (.i2l, 1) := by decide +kernel
theorem dX11_row_48 : decode cX11_row 48 = .ok (.lreturn, 1) := by decide +kernel
set_option maxRecDepth 20000 in
theorem ggX11_put_X11_isRow : GoodIn wsX11_put wsX11_isRow := goodIn_r _ [7] (by decide +kernel) (by decide +kernel)
set_option maxRecDepth 20000 in
theorem gX11_put_X11_isRow : GoodIn wsX11_put (va_wsS RX11 104 yX11_isRow wsX11_isRow) := goodIn_app (goodIn_of _ (by decide +kernel)) ggX11_put_X11_isRow
set_option maxRecDepth 20000 in
theorem ggX11_put_X11_finding : GoodIn wsX11_put wsX11_finding := goodIn_r _ [11, 12, 13, 20, 21, 22, 23, 24, 25, 26, 27, 28, 29, 30] (by decide +kernel) (by decide +kernel)
set_option maxRecDepth 20000 in
theorem gX11_put_X11_finding : GoodIn wsX11_put (wsV RX11 85 RX11 yX11_finding wsX11_finding) := goodIn_app (goodIn_of _ (by decide +kernel)) ggX11_put_X11_finding
set_option maxRecDepth 20000 in
theorem ggX11_put_X5_isMissing : GoodIn wsX11_put wsX5_isMissing := goodIn_r _ [18, 19, 31, 32] (by decide +kernel) (by decide +kernel)
set_option maxRecDepth 20000 in
theorem gX11_put_X5_isMissing : GoodIn wsX11_put (wsV RX11 110 RX5 yX5_isMissing wsX5_isMissing) := goodIn_app (goodIn_of _ (by decide +kernel)) ggX11_put_X5_isMissing
theorem dX11_put_0 : decode cX11_put 0 = .ok (.iload_n 1, 1) := by decide +kernel
theorem dX11_put_1 : decode cX11_put 1 = .ok (.invokestatic 104, 3) := by decide +kernel
theorem dX11_put_4 : decode cX11_put 4 = .ok (.ifCond .ne 9, 3) := by decide +kernel
theorem dX11_put_7 : decode cX11_put 7 = .ok (.aload_n 0, 1) := by decide +kernel
theorem dX11_put_8 : decode cX11_put 8 = .ok (.iconst 1, 1) := by decide +kernel
theorem dX11_put_9 : decode cX11_put 9 = .ok (.invokevirtual 85, 3) := by decide +kernel
theorem dX11_put_12 : decode cX11_put 12 = .ok (.lreturn, 1) := by decide +kernel
theorem dX11_put_13 : decode cX11_put 13 = .ok (.aload_n 0, 1) := by decide +kernel
theorem dX11_put_14 : decode cX11_put 14 = .ok (.getfield 39, 3) := by decide +kernel
theorem dX11_put_17 : decode cX11_put 17 = .ok (.iload_n 1, 1) := by decide +kernel
theorem dX11_put_18 : decode cX11_put 18 = .ok (.aaload, 1) := by decide +kernel
theorem dX11_put_19 : decode cX11_put 19 = .ok (.astore 4, 2) := by decide +kernel
theorem dX11_put_21 : decode cX11_put 21 = .ok (.aload 4, 2) := by decide +kernel
theorem dX11_put_23 : decode cX11_put 23 = .ok (.invokevirtual 110, 3) := by decide +kernel
theorem dX11_put_26 : decode cX11_put 26 = .ok (.ifCond .eq 9, 3) := by decide +kernel
theorem dX11_put_29 : decode cX11_put 29 = .ok (.aload_n 0, 1) := by decide +kernel
theorem dX11_put_30 : decode cX11_put 30 = .ok (.iconst 2, 1) := by decide +kernel
theorem dX11_put_31 : decode cX11_put 31 = .ok (.invokevirtual 85, 3) := by decide +kernel
theorem dX11_put_34 : decode cX11_put 34 = .ok (.lreturn, 1) := by decide +kernel
theorem dX11_put_35 : decode cX11_put 35 = .ok (.iload_n 2, 1) := by decide +kernel
theorem dX11_put_36 : decode cX11_put 36 = .ok (.ifCond .lt 12, 3) := by decide +kernel
theorem dX11_put_39 : decode cX11_put 39 = .ok (.iload_n 2, 1) := by decide +kernel
theorem dX11_put_40 : decode cX11_put 40 = .ok (.aload 4, 2) := by decide +kernel
theorem dX11_put_42 : decode cX11_put 42 = .ok (.getfield 114, 3) := by decide +kernel
theorem dX11_put_45 : decode cX11_put 45 = .ok (.if_icmp .lt 9, 3) := by decide +kernel
theorem dX11_put_48 : decode cX11_put 48 = .ok (.aload_n 0, 1) := by decide +kernel
theorem dX11_put_49 : decode cX11_put 49 = .ok (.iconst 1, 1) := by decide +kernel
theorem dX11_put_50 : decode cX11_put 50 = .ok (.invokevirtual 85, 3) := by decide +kernel
theorem dX11_put_53 : decode cX11_put 53 = .ok (.lreturn, 1) := by decide +kernel
theorem dX11_put_54 : decode cX11_put 54 = .ok (.aload 4, 2) := by decide +kernel
theorem dX11_put_56 : decode cX11_put 56 = .ok (.getfield 117, 3) := by decide +kernel
theorem dX11_put_59 : decode cX11_put 59 = .ok (.iload_n 2, 1) := by decide +kernel
theorem dX11_put_60 : decode cX11_put 60 = .ok (.iload_n 3, 1) := by decide +kernel
theorem dX11_put_61 : decode cX11_put 61 = .ok (.i2s, 1) := by decide +kernel
theorem dX11_put_62 : decode cX11_put 62 = .ok (.sastore, 1) := by decide +kernel
theorem dX11_put_63 : decode cX11_put 63 = .ok (.aload 4, 2) := by decide +kernel
theorem dX11_put_65 : decode cX11_put 65 = .ok (.getfield 117, 3) := by decide +kernel
theorem dX11_put_68 : decode cX11_put 68 = .ok (.iload_n 2, 1) := by decide +kernel
theorem dX11_put_69 : decode cX11_put 69 = .ok (.saload, 1) := by decide +kernel
theorem dX11_put_70 : decode cX11_put 70 = .ok (.i2l, 1) := by decide +kernel
theorem dX11_put_71 : decode cX11_put 71 = .ok (.lreturn, 1) := by decide +kernel
set_option maxRecDepth 20000 in
theorem ggX11_load_X11_isRow : GoodIn wsX11_load wsX11_isRow := goodIn_r _ [10] (by decide +kernel) (by decide +kernel)
set_option maxRecDepth 20000 in
theorem gX11_load_X11_isRow : GoodIn wsX11_load (va_wsS RX11 104 yX11_isRow wsX11_isRow) := goodIn_app (goodIn_of _ (by decide +kernel)) ggX11_load_X11_isRow
set_option maxRecDepth 20000 in
theorem ggX11_load_X11_finding : GoodIn wsX11_load wsX11_finding := goodIn_r _ [14, 15, 16, 45, 46, 47, 48, 49, 50, 51, 52, 53, 54, 55] (by decide +kernel) (by decide +kernel)
set_option maxRecDepth 20000 in
theorem gX11_load_X11_finding : GoodIn wsX11_load (wsV RX11 85 RX11 yX11_finding wsX11_finding) := goodIn_app (goodIn_of _ (by decide +kernel)) ggX11_load_X11_finding
set_option maxRecDepth 20000 in
theorem ggX11_load_X5_isMissing : GoodIn wsX11_load wsX5_isMissing := goodIn_r _ [21, 22, 70, 71] (by decide +kernel) (by decide +kernel)
set_option maxRecDepth 20000 in
theorem gX11_load_X5_isMissing : GoodIn wsX11_load (wsV RX11 110 RX5 yX5_isMissing wsX5_isMissing) := goodIn_app (goodIn_of _ (by decide +kernel)) ggX11_load_X5_isMissing
set_option maxRecDepth 20000 in
theorem ggX11_load_X5_holdsPlate : GoodIn wsX11_load wsX5_holdsPlate := goodIn_r _ [26, 22, 27, 28, 9, 29, 70, 71] (by decide +kernel) (by decide +kernel)
set_option maxRecDepth 20000 in
theorem gX11_load_X5_holdsPlate : GoodIn wsX11_load (wsV RX11 121 RX5 yX5_holdsPlate wsX5_holdsPlate) := goodIn_app (goodIn_of _ (by decide +kernel)) ggX11_load_X5_holdsPlate
set_option maxRecDepth 20000 in
theorem ggX11_load_X11_pointsOf : GoodIn wsX11_load wsX11_pointsOf := goodIn_r _ [33, 34, 35, 45, 46, 47, 48, 49, 50, 51, 52, 53, 54, 55] (by decide +kernel) (by decide +kernel)
set_option maxRecDepth 20000 in
theorem gX11_load_X11_pointsOf : GoodIn wsX11_load (wsV RX11 125 RX11 yX11_pointsOf wsX11_pointsOf) := goodIn_app (goodIn_of _ (by decide +kernel)) ggX11_load_X11_pointsOf
set_option maxRecDepth 20000 in
theorem ggX11_load_X4_add : GoodIn wsX11_load wsX4_add := goodIn_r _ [40, 41, 42, 43, 44, 56, 57, 58, 59] (by decide +kernel) (by decide +kernel)
set_option maxRecDepth 20000 in
theorem gX11_load_X4_add : GoodIn wsX11_load (wsV RX11 100 RX4 yX4_add wsX4_add) := goodIn_app (goodIn_of _ (by decide +kernel)) ggX11_load_X4_add
theorem dX11_load_0 : decode cX11_load 0 = .ok (.iload_n 1, 1) := by decide +kernel
theorem dX11_load_1 : decode cX11_load 1 = .ok (.invokestatic 104, 3) := by decide +kernel
theorem dX11_load_4 : decode cX11_load 4 = .ok (.ifCond .ne 9, 3) := by decide +kernel
theorem dX11_load_7 : decode cX11_load 7 = .ok (.aload_n 0, 1) := by decide +kernel
theorem dX11_load_8 : decode cX11_load 8 = .ok (.iconst 1, 1) := by decide +kernel
theorem dX11_load_9 : decode cX11_load 9 = .ok (.invokevirtual 85, 3) := by decide +kernel
theorem dX11_load_12 : decode cX11_load 12 = .ok (.lreturn, 1) := by decide +kernel
theorem dX11_load_13 : decode cX11_load 13 = .ok (.aload_n 0, 1) := by decide +kernel
theorem dX11_load_14 : decode cX11_load 14 = .ok (.getfield 39, 3) := by decide +kernel
theorem dX11_load_17 : decode cX11_load 17 = .ok (.iload_n 1, 1) := by decide +kernel
theorem dX11_load_18 : decode cX11_load 18 = .ok (.aaload, 1) := by decide +kernel
theorem dX11_load_19 : decode cX11_load 19 = .ok (.astore 5, 2) := by decide +kernel
theorem dX11_load_21 : decode cX11_load 21 = .ok (.aload 5, 2) := by decide +kernel
theorem dX11_load_23 : decode cX11_load 23 = .ok (.invokevirtual 110, 3) := by decide +kernel
theorem dX11_load_26 : decode cX11_load 26 = .ok (.ifCond .eq 9, 3) := by decide +kernel
theorem dX11_load_29 : decode cX11_load 29 = .ok (.aload_n 0, 1) := by decide +kernel
theorem dX11_load_30 : decode cX11_load 30 = .ok (.iconst 2, 1) := by decide +kernel
theorem dX11_load_31 : decode cX11_load 31 = .ok (.invokevirtual 85, 3) := by decide +kernel
theorem dX11_load_34 : decode cX11_load 34 = .ok (.lreturn, 1) := by decide +kernel
theorem dX11_load_35 : decode cX11_load 35 = .ok (.iload_n 3, 1) := by decide +kernel
theorem dX11_load_36 : decode cX11_load 36 = .ok (.ifCond .lt 9, 3) := by decide +kernel
theorem dX11_load_39 : decode cX11_load 39 = .ok (.iload_n 3, 1) := by decide +kernel
theorem dX11_load_40 : decode cX11_load 40 = .ok (.iconst 2, 1) := by decide +kernel
theorem dX11_load_41 : decode cX11_load 41 = .ok (.irem, 1) := by decide +kernel
theorem dX11_load_42 : decode cX11_load 42 = .ok (.ifCond .eq 9, 3) := by decide +kernel
theorem dX11_load_45 : decode cX11_load 45 = .ok (.aload_n 0, 1) := by decide +kernel
theorem dX11_load_46 : decode cX11_load 46 = .ok (.iconst 5, 1) := by decide +kernel
theorem dX11_load_47 : decode cX11_load 47 = .ok (.invokevirtual 85, 3) := by decide +kernel
theorem dX11_load_50 : decode cX11_load 50 = .ok (.lreturn, 1) := by decide +kernel
theorem dX11_load_51 : decode cX11_load 51 = .ok (.aload 5, 2) := by decide +kernel
theorem dX11_load_53 : decode cX11_load 53 = .ok (.iload_n 2, 1) := by decide +kernel
theorem dX11_load_54 : decode cX11_load 54 = .ok (.iload_n 3, 1) := by decide +kernel
theorem dX11_load_55 : decode cX11_load 55 = .ok (.invokevirtual 121, 3) := by decide +kernel
theorem dX11_load_58 : decode cX11_load 58 = .ok (.ifCond .ne 9, 3) := by decide +kernel
theorem dX11_load_61 : decode cX11_load 61 = .ok (.aload_n 0, 1) := by decide +kernel
theorem dX11_load_62 : decode cX11_load 62 = .ok (.iconst 1, 1) := by decide +kernel
theorem dX11_load_63 : decode cX11_load 63 = .ok (.invokevirtual 85, 3) := by decide +kernel
theorem dX11_load_66 : decode cX11_load 66 = .ok (.lreturn, 1) := by decide +kernel
theorem dX11_load_67 : decode cX11_load 67 = .ok (.aload_n 0, 1) := by decide +kernel
theorem dX11_load_68 : decode cX11_load 68 = .ok (.iload 4, 2) := by decide +kernel
theorem dX11_load_70 : decode cX11_load 70 = .ok (.invokevirtual 125, 3) := by decide +kernel
theorem dX11_load_73 : decode cX11_load 73 = .ok (.astore 6, 2) := by decide +kernel
theorem dX11_load_75 : decode cX11_load 75 = .ok (.iload_n 3, 1) := by decide +kernel
theorem dX11_load_76 : decode cX11_load 76 = .ok (.iconst 2, 1) := by decide +kernel
theorem dX11_load_77 : decode cX11_load 77 = .ok (.idiv, 1) := by decide +kernel
theorem dX11_load_78 : decode cX11_load 78 = .ok (.aload 6, 2) := by decide +kernel
theorem dX11_load_80 : decode cX11_load 80 = .ok (.getfield 93, 3) := by decide +kernel
theorem dX11_load_83 : decode cX11_load 83 = .ok (.if_icmp .le 9, 3) := by decide +kernel
theorem dX11_load_86 : decode cX11_load 86 = .ok (.aload_n 0, 1) := by decide +kernel
theorem dX11_load_87 : decode cX11_load 87 = .ok (.iconst 4, 1) := by decide +kernel
theorem dX11_load_88 : decode cX11_load 88 = .ok (.invokevirtual 85, 3) := by decide +kernel
theorem dX11_load_91 : decode cX11_load 91 = .ok (.lreturn, 1) := by decide +kernel
theorem dX11_load_92 : decode cX11_load 92 = .ok (.aload_n 0, 1) := by decide +kernel
theorem dX11_load_93 : decode cX11_load 93 = .ok (.getfield 26, 3) := by decide +kernel
theorem dX11_load_96 : decode cX11_load 96 = .ok (.iconst 0, 1) := by decide +kernel
theorem dX11_load_97 : decode cX11_load 97 = .ok (.putfield 96, 3) := by decide +kernel
theorem dX11_load_100 : decode cX11_load 100 = .ok (.aload 6, 2) := by decide +kernel
theorem dX11_load_102 : decode cX11_load 102 = .ok (.iconst 0, 1) := by decide +kernel
theorem dX11_load_103 : decode cX11_load 103 = .ok (.putfield 89, 3) := by decide +kernel
theorem dX11_load_106 : decode cX11_load 106 = .ok (.iconst 0, 1) := by decide +kernel
theorem dX11_load_107 : decode cX11_load 107 = .ok (.istore 7, 2) := by decide +kernel
theorem dX11_load_109 : decode cX11_load 109 = .ok (.iload 7, 2) := by decide +kernel
theorem dX11_load_111 : decode cX11_load 111 = .ok (.iload_n 3, 1) := by decide +kernel
theorem dX11_load_112 : decode cX11_load 112 = .ok (.if_icmp .ge 37, 3) := by decide +kernel
theorem dX11_load_115 : decode cX11_load 115 = .ok (.aload 6, 2) := by decide +kernel
theorem dX11_load_117 : decode cX11_load 117 = .ok (.aload 5, 2) := by decide +kernel
theorem dX11_load_119 : decode cX11_load 119 = .ok (.getfield 117, 3) := by decide +kernel
theorem dX11_load_122 : decode cX11_load 122 = .ok (.iload_n 2, 1) := by decide +kernel
theorem dX11_load_123 : decode cX11_load 123 = .ok (.iload 7, 2) := by decide +kernel
theorem dX11_load_125 : decode cX11_load 125 = .ok (.iadd, 1) := by decide +kernel
theorem dX11_load_126 : decode cX11_load 126 = .ok (.saload, 1) := by decide +kernel
theorem dX11_load_127 : decode cX11_load 127 = .ok (.aload 5, 2) := by decide +kernel
theorem dX11_load_129 : decode cX11_load 129 = .ok (.getfield 117, 3) := by decide +kernel
theorem dX11_load_132 : decode cX11_load 132 = .ok (.iload_n 2, 1) := by decide +kernel
theorem dX11_load_133 : decode cX11_load 133 = .ok (.iload 7, 2) := by decide +kernel
theorem dX11_load_135 : decode cX11_load 135 = .ok (.iadd, 1) := by decide +kernel
theorem dX11_load_136 : decode cX11_load 136 = .ok (.iconst 1, 1) := by decide +kernel
theorem dX11_load_137 : decode cX11_load 137 = .ok (.iadd, 1) := by decide +kernel
theorem dX11_load_138 : decode cX11_load 138 = .ok (.saload, 1) := by decide +kernel
theorem dX11_load_139 : decode cX11_load 139 = .ok (.invokevirtual 100, 3) := by decide +kernel
theorem dX11_load_142 : decode cX11_load 142 = .ok (.pop, 1) := by decide +kernel
theorem dX11_load_143 : decode cX11_load 143 = .ok (.iinc 7 2, 3) := by decide +kernel
theorem dX11_load_146 : decode cX11_load 146 = .ok (.goto (-37), 3) := by decide +kernel
theorem dX11_load_149 : decode cX11_load 149 = .ok (.aload 6, 2) := by decide +kernel
theorem dX11_load_151 : decode cX11_load 151 = .ok (.getfield 89, 3) := by decide +kernel
theorem dX11_load_154 : decode cX11_load 154 = .ok (.i2l, 1) := by decide +kernel
theorem dX11_load_155 : decode cX11_load 155 = .ok (.lreturn, 1) := by decide +kernel
set_option maxRecDepth 20000 in
theorem ggX11_clear_X11_pointsOf : GoodIn wsX11_clear wsX11_pointsOf := goodIn_r _ [8, 9, 10, 15, 16, 17, 18, 19, 20, 21, 22, 23, 24, 25] (by decide +kernel) (by decide +kernel)
set_option maxRecDepth 20000 in
theorem gX11_clear_X11_pointsOf : GoodIn wsX11_clear (wsV RX11 125 RX11 yX11_pointsOf wsX11_pointsOf) := goodIn_app (goodIn_of _ (by decide +kernel)) ggX11_clear_X11_pointsOf
theorem dX11_clear_0 : decode cX11_clear 0 = .ok (.aload_n 0, 1) := by decide +kernel
theorem dX11_clear_1 : decode cX11_clear 1 = .ok (.iload_n 1, 1) := by decide +kernel
theorem dX11_clear_2 : decode cX11_clear 2 = .ok (.invokevirtual 125, 3) := by decide +kernel
theorem dX11_clear_5 : decode cX11_clear 5 = .ok (.astore_n 2, 1) := by decide +kernel
theorem dX11_clear_6 : decode cX11_clear 6 = .ok (.aload_n 2, 1) := by decide +kernel
theorem dX11_clear_7 : decode cX11_clear 7 = .ok (.getfield 89, 3) := by decide +kernel
theorem dX11_clear_10 : decode cX11_clear 10 = .ok (.istore_n 3, 1) := by decide +kernel
theorem dX11_clear_11 : decode cX11_clear 11 = .ok (.aload_n 2, 1) := by decide +kernel
theorem dX11_clear_12 : decode cX11_clear 12 = .ok (.iconst 0, 1) := by decide +kernel
theorem dX11_clear_13 : decode cX11_clear 13 = .ok (.putfield 89, 3) := by decide +kernel
theorem dX11_clear_16 : decode cX11_clear 16 = .ok (.aload_n 0, 1) := by decide +kernel
theorem dX11_clear_17 : decode cX11_clear 17 = .ok (.getfield 26, 3) := by decide +kernel
theorem dX11_clear_20 : decode cX11_clear 20 = .ok (.iconst 0, 1) := by decide +kernel
theorem dX11_clear_21 : decode cX11_clear 21 = .ok (.putfield 96, 3) := by decide +kernel
theorem dX11_clear_24 : decode cX11_clear 24 = .ok (.iload_n 3, 1) := by decide +kernel
theorem dX11_clear_25 : decode cX11_clear 25 = .ok (.i2l, 1) := by decide +kernel
theorem dX11_clear_26 : decode cX11_clear 26 = .ok (.lreturn, 1) := by decide +kernel
set_option maxRecDepth 20000 in
theorem ggX11_near_X11_finding : GoodIn wsX11_near wsX11_finding := goodIn_r _ [8, 9, 10, 11, 12, 13, 14, 15, 16, 17, 18, 19, 20, 21] (by decide +kernel) (by decide +kernel)
set_option maxRecDepth 20000 in
theorem gX11_near_X11_finding : GoodIn wsX11_near (wsV RX11 85 RX11 yX11_finding wsX11_finding) := goodIn_app (goodIn_of _ (by decide +kernel)) ggX11_near_X11_finding
theorem dX11_near_0 : decode cX11_near 0 = .ok (.iload_n 1, 1) := by decide +kernel
theorem dX11_near_1 : decode cX11_near 1 = .ok (.ifCond .lt 9, 3) := by decide +kernel
theorem dX11_near_4 : decode cX11_near 4 = .ok (.iload_n 1, 1) := by decide +kernel
theorem dX11_near_5 : decode cX11_near 5 = .ok (.bipush 99, 2) := by decide +kernel
theorem dX11_near_7 : decode cX11_near 7 = .ok (.if_icmp .le 9, 3) := by decide +kernel
theorem dX11_near_10 : decode cX11_near 10 = .ok (.aload_n 0, 1) := by decide +kernel
theorem dX11_near_11 : decode cX11_near 11 = .ok (.iconst 1, 1) := by decide +kernel
theorem dX11_near_12 : decode cX11_near 12 = .ok (.invokevirtual 85, 3) := by decide +kernel
theorem dX11_near_15 : decode cX11_near 15 = .ok (.lreturn, 1) := by decide +kernel
theorem dX11_near_16 : decode cX11_near 16 = .ok (.aload_n 0, 1) := by decide +kernel
theorem dX11_near_17 : decode cX11_near 17 = .ok (.getfield 26, 3) := by decide +kernel
theorem dX11_near_20 : decode cX11_near 20 = .ok (.getfield 129, 3) := by decide +kernel
theorem dX11_near_23 : decode cX11_near 23 = .ok (.istore_n 2, 1) := by decide +kernel
theorem dX11_near_24 : decode cX11_near 24 = .ok (.aload_n 0, 1) := by decide +kernel
theorem dX11_near_25 : decode cX11_near 25 = .ok (.getfield 26, 3) := by decide +kernel
theorem dX11_near_28 : decode cX11_near 28 = .ok (.iload_n 1, 1) := by decide +kernel
theorem dX11_near_29 : decode cX11_near 29 = .ok (.putfield 129, 3) := by decide +kernel
theorem dX11_near_32 : decode cX11_near 32 = .ok (.aload_n 0, 1) := by decide +kernel
theorem dX11_near_33 : decode cX11_near 33 = .ok (.getfield 26, 3) := by decide +kernel
theorem dX11_near_36 : decode cX11_near 36 = .ok (.iconst 0, 1) := by decide +kernel
theorem dX11_near_37 : decode cX11_near 37 = .ok (.putfield 96, 3) := by decide +kernel
theorem dX11_near_40 : decode cX11_near 40 = .ok (.iload_n 2, 1) := by decide +kernel
theorem dX11_near_41 : decode cX11_near 41 = .ok (.i2l, 1) := by decide +kernel
theorem dX11_near_42 : decode cX11_near 42 = .ok (.lreturn, 1) := by decide +kernel
set_option maxRecDepth 20000 in
theorem ggX11_corner_X11_pointsOf : GoodIn wsX11_corner wsX11_pointsOf := goodIn_r _ [7, 8, 9, 65, 66, 67, 68, 69, 70, 71, 72, 73, 74, 75] (by decide +kernel) (by decide +kernel)
set_option maxRecDepth 20000 in
theorem gX11_corner_X11_pointsOf : GoodIn wsX11_corner (wsV RX11 125 RX11 yX11_pointsOf wsX11_pointsOf) := goodIn_app (goodIn_of _ (by decide +kernel)) ggX11_corner_X11_pointsOf
set_option maxRecDepth 20000 in
theorem ggX11_corner_X4_has : GoodIn wsX11_corner wsX4_has := goodIn_r _ [14, 15, 84, 85, 86, 87] (by decide +kernel) (by decide +kernel)
set_option maxRecDepth 20000 in
theorem gX11_corner_X4_has : GoodIn wsX11_corner (wsV RX11 132 RX4 yX4_has wsX4_has) := goodIn_app (goodIn_of _ (by decide +kernel)) ggX11_corner_X4_has
set_option maxRecDepth 20000 in
theorem ggX11_corner_X11_finding : GoodIn wsX11_corner wsX11_finding := goodIn_r _ [19, 20, 21, 65, 66, 67, 68, 69, 70, 71, 72, 73, 74, 75] (by decide +kernel) (by decide +kernel)
set_option maxRecDepth 20000 in
theorem gX11_corner_X11_finding : GoodIn wsX11_corner (wsV RX11 85 RX11 yX11_finding wsX11_finding) := goodIn_app (goodIn_of _ (by decide +kernel)) ggX11_corner_X11_finding
set_option maxRecDepth 20000 in
theorem ggX11_corner_X8_measure : GoodIn wsX11_corner wsX8_measure := goodIn_r _ [26, 27, 28, 29, 30, 31, 32, 33, 34, 35, 36, 37, 13, 38, 39, 40, 41, 42, 43, 25, 44, 45, 46, 47, 48, 49, 50, 51, 52, 53, 54, 55, 56, 57, 58, 59, 60, 76, 77, 78, 79, 80, 81, 82, 83, 84, 85, 86, 87] (by decide +kernel) (by decide +kernel)
set_option maxRecDepth 20000 in
theorem gX11_corner_X8_measure : GoodIn wsX11_corner (wsV RX11 135 RX8 yX8_measure wsX8_measure) := goodIn_app (goodIn_of _ (by decide +kernel)) ggX11_corner_X8_measure
set_option maxRecDepth 20000 in
theorem ggX11_corner_X8_told : GoodIn wsX11_corner wsX8_told := goodIn_r _ [64, 27, 28, 29, 30, 76, 77, 78, 79, 80, 81, 82, 83] (by decide +kernel) (by decide +kernel)
set_option maxRecDepth 20000 in
theorem gX11_corner_X8_told : GoodIn wsX11_corner (wsV RX11 142 RX8 yX8_told wsX8_told) := goodIn_app (goodIn_of _ (by decide +kernel)) ggX11_corner_X8_told
theorem dX11_corner_0 : decode cX11_corner 0 = .ok (.aload_n 0, 1) := by decide +kernel
theorem dX11_corner_1 : decode cX11_corner 1 = .ok (.iload 5, 2) := by decide +kernel
theorem dX11_corner_3 : decode cX11_corner 3 = .ok (.invokevirtual 125, 3) := by decide +kernel
theorem dX11_corner_6 : decode cX11_corner 6 = .ok (.astore 6, 2) := by decide +kernel
theorem dX11_corner_8 : decode cX11_corner 8 = .ok (.aload 6, 2) := by decide +kernel
theorem dX11_corner_10 : decode cX11_corner 10 = .ok (.iload_n 1, 1) := by decide +kernel
theorem dX11_corner_11 : decode cX11_corner 11 = .ok (.invokevirtual 132, 3) := by decide +kernel
theorem dX11_corner_14 : decode cX11_corner 14 = .ok (.ifCond .eq 21, 3) := by decide +kernel
theorem dX11_corner_17 : decode cX11_corner 17 = .ok (.aload 6, 2) := by decide +kernel
theorem dX11_corner_19 : decode cX11_corner 19 = .ok (.iload_n 2, 1) := by decide +kernel
theorem dX11_corner_20 : decode cX11_corner 20 = .ok (.invokevirtual 132, 3) := by decide +kernel
theorem dX11_corner_23 : decode cX11_corner 23 = .ok (.ifCond .eq 12, 3) := by decide +kernel
theorem dX11_corner_26 : decode cX11_corner 26 = .ok (.aload 6, 2) := by decide +kernel
theorem dX11_corner_28 : decode cX11_corner 28 = .ok (.iload_n 3, 1) := by decide +kernel
theorem dX11_corner_29 : decode cX11_corner 29 = .ok (.invokevirtual 132, 3) := by decide +kernel
theorem dX11_corner_32 : decode cX11_corner 32 = .ok (.ifCond .ne 9, 3) := by decide +kernel
theorem dX11_corner_35 : decode cX11_corner 35 = .ok (.aload_n 0, 1) := by decide +kernel
theorem dX11_corner_36 : decode cX11_corner 36 = .ok (.iconst 1, 1) := by decide +kernel
theorem dX11_corner_37 : decode cX11_corner 37 = .ok (.invokevirtual 85, 3) := by decide +kernel
theorem dX11_corner_40 : decode cX11_corner 40 = .ok (.lreturn, 1) := by decide +kernel
theorem dX11_corner_41 : decode cX11_corner 41 = .ok (.iload_n 1, 1) := by decide +kernel
theorem dX11_corner_42 : decode cX11_corner 42 = .ok (.iload_n 2, 1) := by decide +kernel
theorem dX11_corner_43 : decode cX11_corner 43 = .ok (.if_icmp .eq 24, 3) := by decide +kernel
theorem dX11_corner_46 : decode cX11_corner 46 = .ok (.iload_n 2, 1) := by decide +kernel
theorem dX11_corner_47 : decode cX11_corner 47 = .ok (.iload_n 3, 1) := by decide +kernel
theorem dX11_corner_48 : decode cX11_corner 48 = .ok (.if_icmp .eq 19, 3) := by decide +kernel
theorem dX11_corner_51 : decode cX11_corner 51 = .ok (.iload_n 1, 1) := by decide +kernel
theorem dX11_corner_52 : decode cX11_corner 52 = .ok (.iload_n 3, 1) := by decide +kernel
theorem dX11_corner_53 : decode cX11_corner 53 = .ok (.if_icmp .eq 14, 3) := by decide +kernel
theorem dX11_corner_56 : decode cX11_corner 56 = .ok (.iload 4, 2) := by decide +kernel
theorem dX11_corner_58 : decode cX11_corner 58 = .ok (.ifCond .lt 9, 3) := by decide +kernel
theorem dX11_corner_61 : decode cX11_corner 61 = .ok (.iload 4, 2) := by decide +kernel
theorem dX11_corner_63 : decode cX11_corner 63 = .ok (.iconst 3, 1) := by decide +kernel
theorem dX11_corner_64 : decode cX11_corner 64 = .ok (.if_icmp .le 9, 3) := by decide +kernel
theorem dX11_corner_67 : decode cX11_corner 67 = .ok (.aload_n 0, 1) := by decide +kernel
theorem dX11_corner_68 : decode cX11_corner 68 = .ok (.iconst 1, 1) := by decide +kernel
theorem dX11_corner_69 : decode cX11_corner 69 = .ok (.invokevirtual 85, 3) := by decide +kernel
theorem dX11_corner_72 : decode cX11_corner 72 = .ok (.lreturn, 1) := by decide +kernel
theorem dX11_corner_73 : decode cX11_corner 73 = .ok (.aload_n 0, 1) := by decide +kernel
theorem dX11_corner_74 : decode cX11_corner 74 = .ok (.getfield 33, 3) := by decide +kernel
theorem dX11_corner_77 : decode cX11_corner 77 = .ok (.aload 6, 2) := by decide +kernel
theorem dX11_corner_79 : decode cX11_corner 79 = .ok (.iload_n 1, 1) := by decide +kernel
theorem dX11_corner_80 : decode cX11_corner 80 = .ok (.iload_n 2, 1) := by decide +kernel
theorem dX11_corner_81 : decode cX11_corner 81 = .ok (.iload_n 3, 1) := by decide +kernel
theorem dX11_corner_82 : decode cX11_corner 82 = .ok (.invokevirtual 135, 3) := by decide +kernel
theorem dX11_corner_85 : decode cX11_corner 85 = .ok (.aload_n 0, 1) := by decide +kernel
theorem dX11_corner_86 : decode cX11_corner 86 = .ok (.getfield 33, 3) := by decide +kernel
theorem dX11_corner_89 : decode cX11_corner 89 = .ok (.getfield 139, 3) := by decide +kernel
theorem dX11_corner_92 : decode cX11_corner 92 = .ok (.ifCond .ne 9, 3) := by decide +kernel
theorem dX11_corner_95 : decode cX11_corner 95 = .ok (.aload_n 0, 1) := by decide +kernel
theorem dX11_corner_96 : decode cX11_corner 96 = .ok (.iconst 2, 1) := by decide +kernel
theorem dX11_corner_97 : decode cX11_corner 97 = .ok (.invokevirtual 85, 3) := by decide +kernel
theorem dX11_corner_100 : decode cX11_corner 100 = .ok (.lreturn, 1) := by decide +kernel
theorem dX11_corner_101 : decode cX11_corner 101 = .ok (.aload_n 0, 1) := by decide +kernel
theorem dX11_corner_102 : decode cX11_corner 102 = .ok (.getfield 33, 3) := by decide +kernel
theorem dX11_corner_105 : decode cX11_corner 105 = .ok (.iload 4, 2) := by decide +kernel
theorem dX11_corner_107 : decode cX11_corner 107 = .ok (.invokevirtual 142, 3) := by decide +kernel
theorem dX11_corner_110 : decode cX11_corner 110 = .ok (.i2l, 1) := by decide +kernel
theorem dX11_corner_111 : decode cX11_corner 111 = .ok (.lreturn, 1) := by decide +kernel
set_option maxRecDepth 20000 in
theorem ggX11_votes_X4_has : GoodIn wsX11_votes wsX4_has := goodIn_r _ [9, 10, 154, 155, 156, 157] (by decide +kernel) (by decide +kernel)
set_option maxRecDepth 20000 in
theorem gX11_votes_X4_has : GoodIn wsX11_votes (wsV RX11 132 RX4 yX4_has wsX4_has) := goodIn_app (goodIn_of _ (by decide +kernel)) ggX11_votes_X4_has
set_option maxRecDepth 20000 in
theorem ggX11_votes_X11_finding : GoodIn wsX11_votes wsX11_finding := goodIn_r _ [15, 16, 17, 133, 134, 135, 136, 137, 138, 139, 140, 141, 142, 143] (by decide +kernel) (by decide +kernel)
set_option maxRecDepth 20000 in
theorem gX11_votes_X11_finding : GoodIn wsX11_votes (wsV RX11 85 RX11 yX11_finding wsX11_finding) := goodIn_app (goodIn_of _ (by decide +kernel)) ggX11_votes_X11_finding
set_option maxRecDepth 20000 in
theorem ggX11_votes_X1_renew : GoodIn wsX11_votes wsX1_renew := goodIn_r _ [22, 23, 24, 25, 26, 27, 28, 29, 30, 31, 32, 33, 34, 35, 36, 37, 38, 39, 40, 41, 42, 43, 44, 45, 46, 47, 48, 49, 50, 51, 52, 53, 54, 55, 56, 57, 58, 59, 60, 61, 62, 63, 64, 65, 66, 67, 8, 68, 69, 70, 71, 72, 73, 74, 75, 76, 77, 78, 79, 80, 81, 82, 83, 84, 85, 86, 87, 88, 89, 90, 91, 92, 93, 21, 94, 95, 96, 97, 98, 99, 100, 101, 102, 103, 104, 105, 106, 107, 108, 109, 110, 111, 112, 113, 114, 115, 116, 117, 118, 119, 120, 121, 122, 123, 124, 125, 126, 127, 128, 129, 130, 131, 132, 144, 145, 146, 147, 148, 149, 150, 151, 152, 153, 154, 155, 156, 157, 158, 159, 160, 161, 162, 163, 164, 165, 166, 167] (by decide +kernel) (by decide +kernel)
set_option maxRecDepth 20000 in
theorem gX11_votes_X1_renew : GoodIn wsX11_votes (wsV RX11 146 RX1 yX1_renew wsX1_renew) := goodIn_app (goodIn_of _ (by decide +kernel)) ggX11_votes_X1_renew
theorem dX11_votes_0 : decode cX11_votes 0 = .ok (.aload_n 0, 1) := by decide +kernel
theorem dX11_votes_1 : decode cX11_votes 1 = .ok (.getfield 18, 3) := by decide +kernel
theorem dX11_votes_4 : decode cX11_votes 4 = .ok (.iload_n 1, 1) := by decide +kernel
theorem dX11_votes_5 : decode cX11_votes 5 = .ok (.invokevirtual 132, 3) := by decide +kernel
theorem dX11_votes_8 : decode cX11_votes 8 = .ok (.ifCond .eq 14, 3) := by decide +kernel
theorem dX11_votes_11 : decode cX11_votes 11 = .ok (.aload_n 0, 1) := by decide +kernel
theorem dX11_votes_12 : decode cX11_votes 12 = .ok (.getfield 14, 3) := by decide +kernel
theorem dX11_votes_15 : decode cX11_votes 15 = .ok (.iload_n 2, 1) := by decide +kernel
theorem dX11_votes_16 : decode cX11_votes 16 = .ok (.invokevirtual 132, 3) := by decide +kernel
theorem dX11_votes_19 : decode cX11_votes 19 = .ok (.ifCond .ne 9, 3) := by decide +kernel
theorem dX11_votes_22 : decode cX11_votes 22 = .ok (.aload_n 0, 1) := by decide +kernel
theorem dX11_votes_23 : decode cX11_votes 23 = .ok (.iconst 1, 1) := by decide +kernel
theorem dX11_votes_24 : decode cX11_votes 24 = .ok (.invokevirtual 85, 3) := by decide +kernel
theorem dX11_votes_27 : decode cX11_votes 27 = .ok (.lreturn, 1) := by decide +kernel
theorem dX11_votes_28 : decode cX11_votes 28 = .ok (.aload_n 0, 1) := by decide +kernel
theorem dX11_votes_29 : decode cX11_votes 29 = .ok (.getfield 26, 3) := by decide +kernel
theorem dX11_votes_32 : decode cX11_votes 32 = .ok (.invokevirtual 146, 3) := by decide +kernel
theorem dX11_votes_35 : decode cX11_votes 35 = .ok (.aload_n 0, 1) := by decide +kernel
theorem dX11_votes_36 : decode cX11_votes 36 = .ok (.getfield 26, 3) := by decide +kernel
theorem dX11_votes_39 : decode cX11_votes 39 = .ok (.getfield 149, 3) := by decide +kernel
theorem dX11_votes_42 : decode cX11_votes 42 = .ok (.iload_n 1, 1) := by decide +kernel
theorem dX11_votes_43 : decode cX11_votes 43 = .ok (.aaload, 1) := by decide +kernel
theorem dX11_votes_44 : decode cX11_votes 44 = .ok (.iload_n 2, 1) := by decide +kernel
theorem dX11_votes_45 : decode cX11_votes 45 = .ok (.iaload, 1) := by decide +kernel
theorem dX11_votes_46 : decode cX11_votes 46 = .ok (.i2l, 1) := by decide +kernel
theorem dX11_votes_47 : decode cX11_votes 47 = .ok (.lreturn, 1) := by decide +kernel
set_option maxRecDepth 20000 in
theorem ggX11_match_X4_has : GoodIn wsX11_match wsX4_has := goodIn_r _ [8, 9, 153, 154, 155, 156] (by decide +kernel) (by decide +kernel)
set_option maxRecDepth 20000 in
theorem gX11_match_X4_has : GoodIn wsX11_match (wsV RX11 132 RX4 yX4_has wsX4_has) := goodIn_app (goodIn_of _ (by decide +kernel)) ggX11_match_X4_has
set_option maxRecDepth 20000 in
theorem ggX11_match_X11_finding : GoodIn wsX11_match wsX11_finding := goodIn_r _ [14, 15, 16, 132, 133, 134, 135, 136, 137, 138, 139, 140, 141, 142] (by decide +kernel) (by decide +kernel)
set_option maxRecDepth 20000 in
theorem gX11_match_X11_finding : GoodIn wsX11_match (wsV RX11 85 RX11 yX11_finding wsX11_finding) := goodIn_app (goodIn_of _ (by decide +kernel)) ggX11_match_X11_finding
set_option maxRecDepth 20000 in
theorem ggX11_match_X1_renew : GoodIn wsX11_match wsX1_renew := goodIn_r _ [21, 22, 23, 24, 25, 26, 27, 28, 29, 30, 31, 32, 33, 34, 35, 36, 37, 38, 39, 40, 41, 42, 43, 44, 45, 46, 47, 48, 49, 50, 51, 52, 53, 54, 55, 56, 57, 58, 59, 60, 61, 62, 63, 64, 65, 66, 7, 67, 68, 69, 70, 71, 72, 73, 74, 75, 76, 77, 78, 79, 80, 81, 82, 83, 84, 85, 86, 87, 88, 89, 90, 91, 92, 20, 93, 94, 95, 96, 97, 98, 99, 100, 101, 102, 103, 104, 105, 106, 107, 108, 109, 110, 111, 112, 113, 114, 115, 116, 117, 118, 119, 120, 121, 122, 123, 124, 125, 126, 127, 128, 129, 130, 131, 143, 144, 145, 146, 147, 148, 149, 150, 151, 152, 153, 154, 155, 156, 157, 158, 159, 160, 161, 162, 163, 164, 165, 166] (by decide +kernel) (by decide +kernel)
set_option maxRecDepth 20000 in
theorem gX11_match_X1_renew : GoodIn wsX11_match (wsV RX11 146 RX1 yX1_renew wsX1_renew) := goodIn_app (goodIn_of _ (by decide +kernel)) ggX11_match_X1_renew
theorem dX11_match_0 : decode cX11_match 0 = .ok (.aload_n 0, 1) := by decide +kernel
theorem dX11_match_1 : decode cX11_match 1 = .ok (.getfield 18, 3) := by decide +kernel
theorem dX11_match_4 : decode cX11_match 4 = .ok (.iload_n 1, 1) := by decide +kernel
theorem dX11_match_5 : decode cX11_match 5 = .ok (.invokevirtual 132, 3) := by decide +kernel
theorem dX11_match_8 : decode cX11_match 8 = .ok (.ifCond .ne 9, 3) := by decide +kernel
theorem dX11_match_11 : decode cX11_match 11 = .ok (.aload_n 0, 1) := by decide +kernel
theorem dX11_match_12 : decode cX11_match 12 = .ok (.iconst 1, 1) := by decide +kernel
theorem dX11_match_13 : decode cX11_match 13 = .ok (.invokevirtual 85, 3) := by decide +kernel
theorem dX11_match_16 : decode cX11_match 16 = .ok (.lreturn, 1) := by decide +kernel
theorem dX11_match_17 : decode cX11_match 17 = .ok (.aload_n 0, 1) := by decide +kernel
theorem dX11_match_18 : decode cX11_match 18 = .ok (.getfield 26, 3) := by decide +kernel
theorem dX11_match_21 : decode cX11_match 21 = .ok (.invokevirtual 146, 3) := by decide +kernel
theorem dX11_match_24 : decode cX11_match 24 = .ok (.aload_n 0, 1) := by decide +kernel
theorem dX11_match_25 : decode cX11_match 25 = .ok (.getfield 26, 3) := by decide +kernel
theorem dX11_match_28 : decode cX11_match 28 = .ok (.getfield 153, 3) := by decide +kernel
theorem dX11_match_31 : decode cX11_match 31 = .ok (.iload_n 1, 1) := by decide +kernel
theorem dX11_match_32 : decode cX11_match 32 = .ok (.iaload, 1) := by decide +kernel
theorem dX11_match_33 : decode cX11_match 33 = .ok (.istore_n 2, 1) := by decide +kernel
theorem dX11_match_34 : decode cX11_match 34 = .ok (.iload_n 2, 1) := by decide +kernel
theorem dX11_match_35 : decode cX11_match 35 = .ok (.ifCond .ge 11, 3) := by decide +kernel
theorem dX11_match_38 : decode cX11_match 38 = .ok (.aload_n 0, 1) := by decide +kernel
theorem dX11_match_39 : decode cX11_match 39 = .ok (.iconst 2, 1) := by decide +kernel
theorem dX11_match_40 : decode cX11_match 40 = .ok (.invokevirtual 85, 3) := by decide +kernel
theorem dX11_match_43 : decode cX11_match 43 = .ok (.goto 5, 3) := by decide +kernel
theorem dX11_match_46 : decode cX11_match 46 = .ok (.iload_n 2, 1) := by decide +kernel
theorem dX11_match_47 : decode cX11_match 47 = .ok (.i2l, 1) := by decide +kernel
theorem dX11_match_48 : decode cX11_match 48 = .ok (.lreturn, 1) := by decide +kernel
set_option maxRecDepth 20000 in
theorem ggX11_matched_X1_renew : GoodIn wsX11_matched wsX1_renew := goodIn_r _ [6, 7, 8, 9, 10, 11, 12, 13, 14, 15, 16, 17, 18, 19, 20, 21, 22, 23, 24, 25, 26, 27, 28, 29, 30, 31, 32, 33, 34, 35, 36, 37, 38, 39, 40, 41, 42, 43, 44, 45, 46, 47, 48, 49, 50, 51, 52, 53, 54, 55, 56, 57, 58, 59, 60, 61, 62, 63, 64, 65, 66, 67, 68, 69, 70, 71, 72, 73, 74, 75, 76, 77, 78, 5, 79, 80, 81, 82, 83, 84, 85, 86, 87, 88, 89, 90, 91, 92, 93, 94, 95, 96, 97, 98, 99, 100, 101, 102, 103, 104, 105, 106, 107, 108, 109, 110, 111, 112, 113, 114, 115, 116, 117, 133, 134, 135, 136, 137, 138, 139, 140, 141, 142, 143, 144, 145, 146, 147, 148, 149, 150, 151, 152, 153, 154, 155, 156] (by decide +kernel) (by decide +kernel)
set_option maxRecDepth 20000 in
theorem gX11_matched_X1_renew : GoodIn wsX11_matched (wsV RX11 146 RX1 yX1_renew wsX1_renew) := goodIn_app (goodIn_of _ (by decide +kernel)) ggX11_matched_X1_renew
set_option maxRecDepth 20000 in
theorem ggX11_matched_X1_partnered : GoodIn wsX11_matched wsX1_partnered := goodIn_r _ [121, 9, 12, 13, 133, 134, 135, 136, 137, 138, 139, 140, 141, 142, 143, 144, 145, 146] (by decide +kernel) (by decide +kernel)
set_option maxRecDepth 20000 in
theorem gX11_matched_X1_partnered : GoodIn wsX11_matched (wsV RX11 156 RX1 yX1_partnered wsX1_partnered) := goodIn_app (goodIn_of _ (by decide +kernel)) ggX11_matched_X1_partnered
theorem dX11_matched_0 : decode cX11_matched 0 = .ok (.aload_n 0, 1) := by decide +kernel
theorem dX11_matched_1 : decode cX11_matched 1 = .ok (.getfield 26, 3) := by decide +kernel
theorem dX11_matched_4 : decode cX11_matched 4 = .ok (.invokevirtual 146, 3) := by decide +kernel
theorem dX11_matched_7 : decode cX11_matched 7 = .ok (.aload_n 0, 1) := by decide +kernel
theorem dX11_matched_8 : decode cX11_matched 8 = .ok (.getfield 26, 3) := by decide +kernel
theorem dX11_matched_11 : decode cX11_matched 11 = .ok (.invokevirtual 156, 3) := by decide +kernel
theorem dX11_matched_14 : decode cX11_matched 14 = .ok (.i2l, 1) := by decide +kernel
theorem dX11_matched_15 : decode cX11_matched 15 = .ok (.lreturn, 1) := by decide +kernel
set_option maxRecDepth 20000 in
theorem ggX11_table_X11_finding : GoodIn wsX11_table wsX11_finding := goodIn_r _ [8, 9, 10, 127, 128, 129, 130, 131, 132, 133, 134, 135, 136, 137] (by decide +kernel) (by decide +kernel)
set_option maxRecDepth 20000 in
theorem gX11_table_X11_finding : GoodIn wsX11_table (wsV RX11 85 RX11 yX11_finding wsX11_finding) := goodIn_app (goodIn_of _ (by decide +kernel)) ggX11_table_X11_finding
set_option maxRecDepth 20000 in
theorem ggX11_table_X1_renew : GoodIn wsX11_table wsX1_renew := goodIn_r _ [15, 16, 17, 18, 19, 20, 21, 22, 23, 24, 25, 26, 27, 28, 29, 30, 31, 32, 33, 34, 35, 36, 37, 38, 39, 40, 41, 42, 43, 44, 45, 46, 47, 48, 49, 50, 51, 52, 53, 54, 55, 56, 57, 58, 59, 60, 61, 62, 63, 64, 65, 66, 67, 68, 69, 70, 71, 72, 73, 74, 75, 76, 77, 78, 79, 80, 81, 82, 83, 84, 85, 86, 87, 14, 88, 89, 90, 91, 92, 93, 94, 95, 96, 97, 98, 99, 100, 101, 102, 103, 104, 105, 106, 107, 108, 109, 110, 111, 112, 113, 114, 115, 116, 117, 118, 119, 120, 121, 122, 123, 124, 125, 126, 138, 139, 140, 141, 142, 143, 144, 145, 146, 147, 148, 149, 150, 151, 152, 153, 154, 155, 156, 157, 158, 159, 160, 161] (by decide +kernel) (by decide +kernel)
set_option maxRecDepth 20000 in
theorem gX11_table_X1_renew : GoodIn wsX11_table (wsV RX11 146 RX1 yX1_renew wsX1_renew) := goodIn_app (goodIn_of _ (by decide +kernel)) ggX11_table_X1_renew
theorem dX11_table_0 : decode cX11_table 0 = .ok (.iload_n 1, 1) := by decide +kernel
theorem dX11_table_1 : decode cX11_table 1 = .ok (.ifCond .lt 8, 3) := by decide +kernel
theorem dX11_table_4 : decode cX11_table 4 = .ok (.iload_n 1, 1) := by decide +kernel
theorem dX11_table_5 : decode cX11_table 5 = .ok (.iconst 3, 1) := by decide +kernel
theorem dX11_table_6 : decode cX11_table 6 = .ok (.if_icmp .lt 9, 3) := by decide +kernel
theorem dX11_table_9 : decode cX11_table 9 = .ok (.aload_n 0, 1) := by decide +kernel
theorem dX11_table_10 : decode cX11_table 10 = .ok (.iconst 1, 1) := by decide +kernel
theorem dX11_table_11 : decode cX11_table 11 = .ok (.invokevirtual 85, 3) := by decide +kernel
theorem dX11_table_14 : decode cX11_table 14 = .ok (.lreturn, 1) := by decide +kernel
theorem dX11_table_15 : decode cX11_table 15 = .ok (.aload_n 0, 1) := by decide +kernel
theorem dX11_table_16 : decode cX11_table 16 = .ok (.getfield 26, 3) := by decide +kernel
theorem dX11_table_19 : decode cX11_table 19 = .ok (.invokevirtual 146, 3) := by decide +kernel
theorem dX11_table_22 : decode cX11_table 22 = .ok (.aload_n 0, 1) := by decide +kernel
theorem dX11_table_23 : decode cX11_table 23 = .ok (.getfield 26, 3) := by decide +kernel
theorem dX11_table_26 : decode cX11_table 26 = .ok (.getfield 160, 3) := by decide +kernel
theorem dX11_table_29 : decode cX11_table 29 = .ok (.ifCond .eq 16, 3) := by decide +kernel
theorem dX11_table_32 : decode cX11_table 32 = .ok (.aload_n 0, 1) := by decide +kernel
theorem dX11_table_33 : decode cX11_table 33 = .ok (.getfield 26, 3) := by decide +kernel
theorem dX11_table_36 : decode cX11_table 36 = .ok (.getfield 163, 3) := by decide +kernel
theorem dX11_table_39 : decode cX11_table 39 = .ok (.iload_n 1, 1) := by decide +kernel
theorem dX11_table_40 : decode cX11_table 40 = .ok (.iaload, 1) := by decide +kernel
theorem dX11_table_41 : decode cX11_table 41 = .ok (.i2l, 1) := by decide +kernel
theorem dX11_table_42 : decode cX11_table 42 = .ok (.goto 8, 3) := by decide +kernel
theorem dX11_table_45 : decode cX11_table 45 = .ok (.aload_n 0, 1) := by decide +kernel
theorem dX11_table_46 : decode cX11_table 46 = .ok (.iconst 2, 1) := by decide +kernel
theorem dX11_table_47 : decode cX11_table 47 = .ok (.invokevirtual 85, 3) := by decide +kernel
theorem dX11_table_50 : decode cX11_table 50 = .ok (.lreturn, 1) := by decide +kernel
set_option maxRecDepth 20000 in
theorem ggX11_place_X11_isOnPlate : GoodIn wsX11_place wsX11_isOnPlate := goodIn_r _ [6] (by decide +kernel) (by decide +kernel)
set_option maxRecDepth 20000 in
theorem gX11_place_X11_isOnPlate : GoodIn wsX11_place (va_wsS RX11 81 yX11_isOnPlate wsX11_isOnPlate) := goodIn_app (goodIn_of _ (by decide +kernel)) ggX11_place_X11_isOnPlate
set_option maxRecDepth 20000 in
theorem ggX11_place_X11_finding : GoodIn wsX11_place wsX11_finding := goodIn_r _ [10, 11, 12, 157, 158, 159, 160, 161, 162, 163, 164, 165, 166, 167] (by decide +kernel) (by decide +kernel)
set_option maxRecDepth 20000 in
theorem gX11_place_X11_finding : GoodIn wsX11_place (wsV RX11 85 RX11 yX11_finding wsX11_finding) := goodIn_app (goodIn_of _ (by decide +kernel)) ggX11_place_X11_finding
set_option maxRecDepth 20000 in
theorem ggX11_place_X1_renew : GoodIn wsX11_place wsX1_renew := goodIn_r _ [17, 18, 19, 20, 21, 22, 23, 24, 25, 26, 27, 28, 29, 30, 31, 32, 33, 34, 35, 36, 37, 38, 39, 40, 41, 42, 43, 44, 45, 46, 47, 48, 49, 50, 51, 52, 53, 54, 55, 56, 57, 58, 59, 60, 61, 62, 63, 64, 65, 66, 67, 68, 69, 70, 71, 72, 73, 74, 75, 76, 77, 78, 79, 80, 81, 82, 83, 84, 85, 86, 87, 88, 89, 16, 90, 91, 92, 93, 94, 95, 96, 97, 98, 99, 100, 101, 102, 103, 104, 105, 106, 107, 108, 109, 110, 111, 112, 113, 114, 115, 116, 117, 118, 119, 120, 121, 122, 123, 124, 125, 126, 127, 128, 168, 169, 170, 171, 172, 173, 174, 175, 176, 177, 178, 179, 180, 181, 182, 183, 184, 185, 186, 187, 188, 189, 190, 191] (by decide +kernel) (by decide +kernel)
set_option maxRecDepth 20000 in
theorem gX11_place_X1_renew : GoodIn wsX11_place (wsV RX11 146 RX1 yX1_renew wsX1_renew) := goodIn_app (goodIn_of _ (by decide +kernel)) ggX11_place_X1_renew
set_option maxRecDepth 20000 in
theorem ggX11_place_X1_skyOf : GoodIn wsX11_place wsX1_skyOf := goodIn_r _ [132, 123, 22, 133, 134, 24, 20, 135, 136, 137, 128, 80, 81, 63, 82, 65, 66, 83, 84, 85, 86, 138, 139, 140, 141, 142, 46, 47, 143, 107, 108, 109, 144, 145, 146, 147, 148, 149, 150, 151, 152, 168, 169, 170, 171, 172, 173, 174, 175, 176, 177, 178, 179, 180, 181, 192, 193] (by decide +kernel) (by decide +kernel)
set_option maxRecDepth 20000 in
theorem gX11_place_X1_skyOf : GoodIn wsX11_place (wsV RX11 166 RX1 yX1_skyOf wsX1_skyOf) := goodIn_app (goodIn_of _ (by decide +kernel)) ggX11_place_X1_skyOf
set_option maxRecDepth 20000 in
theorem ggX11_place_X0_side : GoodIn wsX11_place wsX0_side := goodIn_r _ [156, 149, 148, 192, 193] (by decide +kernel) (by decide +kernel)
set_option maxRecDepth 20000 in
theorem gX11_place_X0_side : GoodIn wsX11_place (wsV RX11 170 RX0 yX0_side wsX0_side) := goodIn_app (goodIn_of _ (by decide +kernel)) ggX11_place_X0_side
theorem dX11_place_0 : decode cX11_place 0 = .ok (.iload_n 1, 1) := by decide +kernel
theorem dX11_place_1 : decode cX11_place 1 = .ok (.invokestatic 81, 3) := by decide +kernel
theorem dX11_place_4 : decode cX11_place 4 = .ok (.ifCond .eq 10, 3) := by decide +kernel
theorem dX11_place_7 : decode cX11_place 7 = .ok (.iload_n 2, 1) := by decide +kernel
theorem dX11_place_8 : decode cX11_place 8 = .ok (.invokestatic 81, 3) := by decide +kernel
theorem dX11_place_11 : decode cX11_place 11 = .ok (.ifCond .ne 9, 3) := by decide +kernel
theorem dX11_place_14 : decode cX11_place 14 = .ok (.aload_n 0, 1) := by decide +kernel
theorem dX11_place_15 : decode cX11_place 15 = .ok (.iconst 1, 1) := by decide +kernel
theorem dX11_place_16 : decode cX11_place 16 = .ok (.invokevirtual 85, 3) := by decide +kernel
theorem dX11_place_19 : decode cX11_place 19 = .ok (.lreturn, 1) := by decide +kernel
theorem dX11_place_20 : decode cX11_place 20 = .ok (.aload_n 0, 1) := by decide +kernel
theorem dX11_place_21 : decode cX11_place 21 = .ok (.getfield 26, 3) := by decide +kernel
theorem dX11_place_24 : decode cX11_place 24 = .ok (.invokevirtual 146, 3) := by decide +kernel
theorem dX11_place_27 : decode cX11_place 27 = .ok (.aload_n 0, 1) := by decide +kernel
theorem dX11_place_28 : decode cX11_place 28 = .ok (.getfield 26, 3) := by decide +kernel
theorem dX11_place_31 : decode cX11_place 31 = .ok (.getfield 160, 3) := by decide +kernel
theorem dX11_place_34 : decode cX11_place 34 = .ok (.ifCond .ne 9, 3) := by decide +kernel
theorem dX11_place_37 : decode cX11_place 37 = .ok (.aload_n 0, 1) := by decide +kernel
theorem dX11_place_38 : decode cX11_place 38 = .ok (.iconst 2, 1) := by decide +kernel
theorem dX11_place_39 : decode cX11_place 39 = .ok (.invokevirtual 85, 3) := by decide +kernel
theorem dX11_place_42 : decode cX11_place 42 = .ok (.lreturn, 1) := by decide +kernel
theorem dX11_place_43 : decode cX11_place 43 = .ok (.aload_n 0, 1) := by decide +kernel
theorem dX11_place_44 : decode cX11_place 44 = .ok (.getfield 26, 3) := by decide +kernel
theorem dX11_place_47 : decode cX11_place 47 = .ok (.iload_n 1, 1) := by decide +kernel
theorem dX11_place_48 : decode cX11_place 48 = .ok (.iload_n 2, 1) := by decide +kernel
theorem dX11_place_49 : decode cX11_place 49 = .ok (.iload_n 3, 1) := by decide +kernel
theorem dX11_place_50 : decode cX11_place 50 = .ok (.invokevirtual 166, 3) := by decide +kernel
theorem dX11_place_53 : decode cX11_place 53 = .ok (.iload 4, 2) := by decide +kernel
theorem dX11_place_55 : decode cX11_place 55 = .ok (.invokevirtual 170, 3) := by decide +kernel
theorem dX11_place_58 : decode cX11_place 58 = .ok (.lreturn, 1) := by decide +kernel
set_option maxRecDepth 20000 in
theorem ggX11_station_X11_isStation : GoodIn wsX11_station wsX11_isStation := goodIn_r _ [8] (by decide +kernel) (by decide +kernel)
set_option maxRecDepth 20000 in
theorem gX11_station_X11_isStation : GoodIn wsX11_station (va_wsS RX11 176 yX11_isStation wsX11_isStation) := goodIn_app (goodIn_of _ (by decide +kernel)) ggX11_station_X11_isStation
set_option maxRecDepth 20000 in
theorem ggX11_station_X11_within : GoodIn wsX11_station wsX11_within := goodIn_r _ [11] (by decide +kernel) (by decide +kernel)
set_option maxRecDepth 20000 in
theorem gX11_station_X11_within : GoodIn wsX11_station (va_wsS RX11 179 yX11_within wsX11_within) := goodIn_app (goodIn_of _ (by decide +kernel)) ggX11_station_X11_within
set_option maxRecDepth 20000 in
theorem ggX11_station_X11_finding : GoodIn wsX11_station wsX11_finding := goodIn_r _ [15, 16, 17, 27, 28, 29, 30, 31, 32, 33, 34, 35, 36, 37] (by decide +kernel) (by decide +kernel)
set_option maxRecDepth 20000 in
theorem gX11_station_X11_finding : GoodIn wsX11_station (wsV RX11 85 RX11 yX11_finding wsX11_finding) := goodIn_app (goodIn_of _ (by decide +kernel)) ggX11_station_X11_finding
set_option maxRecDepth 20000 in
theorem ggX11_station_X10_init : GoodIn wsX11_station wsX10_init := goodIn_r _ [20, 21, 22, 23, 24, 25, 26, 38, 39, 40] (by decide +kernel) (by decide +kernel)
set_option maxRecDepth 20000 in
theorem gX11_station_X10_init : GoodIn wsX11_station (wsX10_init) := ggX11_station_X10_init
theorem dX11_station_0 : decode cX11_station 0 = .ok (.iload_n 1, 1) := by decide +kernel
theorem dX11_station_1 : decode cX11_station 1 = .ok (.invokestatic 176, 3) := by decide +kernel
theorem dX11_station_4 : decode cX11_station 4 = .ok (.ifCond .eq 21, 3) := by decide +kernel
theorem dX11_station_7 : decode cX11_station 7 = .ok (.iload_n 2, 1) := by decide +kernel
theorem dX11_station_8 : decode cX11_station 8 = .ok (.bipush 99, 2) := by decide +kernel
theorem dX11_station_10 : decode cX11_station 10 = .ok (.invokestatic 179, 3) := by decide +kernel
theorem dX11_station_13 : decode cX11_station 13 = .ok (.ifCond .eq 12, 3) := by decide +kernel
theorem dX11_station_16 : decode cX11_station 16 = .ok (.iload_n 3, 1) := by decide +kernel
theorem dX11_station_17 : decode cX11_station 17 = .ok (.bipush 99, 2) := by decide +kernel
theorem dX11_station_19 : decode cX11_station 19 = .ok (.invokestatic 179, 3) := by decide +kernel
theorem dX11_station_22 : decode cX11_station 22 = .ok (.ifCond .ne 9, 3) := by decide +kernel
theorem dX11_station_25 : decode cX11_station 25 = .ok (.aload_n 0, 1) := by decide +kernel
theorem dX11_station_26 : decode cX11_station 26 = .ok (.iconst 1, 1) := by decide +kernel
theorem dX11_station_27 : decode cX11_station 27 = .ok (.invokevirtual 85, 3) := by decide +kernel
theorem dX11_station_30 : decode cX11_station 30 = .ok (.lreturn, 1) := by decide +kernel
theorem dX11_station_31 : decode cX11_station 31 = .ok (.iload 4, 2) := by decide +kernel
theorem dX11_station_33 : decode cX11_station 33 = .ok (.ifCond .lt 10, 3) := by decide +kernel
theorem dX11_station_36 : decode cX11_station 36 = .ok (.iload 4, 2) := by decide +kernel
theorem dX11_station_38 : decode cX11_station 38 = .ok (.bipush 9, 2) := by decide +kernel
theorem dX11_station_40 : decode cX11_station 40 = .ok (.if_icmp .le 9, 3) := by decide +kernel
theorem dX11_station_43 : decode cX11_station 43 = .ok (.aload_n 0, 1) := by decide +kernel
theorem dX11_station_44 : decode cX11_station 44 = .ok (.iconst 1, 1) := by decide +kernel
theorem dX11_station_45 : decode cX11_station 45 = .ok (.invokevirtual 85, 3) := by decide +kernel
theorem dX11_station_48 : decode cX11_station 48 = .ok (.lreturn, 1) := by decide +kernel
theorem dX11_station_49 : decode cX11_station 49 = .ok (.aload_n 0, 1) := by decide +kernel
theorem dX11_station_50 : decode cX11_station 50 = .ok (.getfield 53, 3) := by decide +kernel
theorem dX11_station_53 : decode cX11_station 53 = .ok (.iload_n 1, 1) := by decide +kernel
theorem dX11_station_54 : decode cX11_station 54 = .ok (.new 51, 3) := by decide +kernel
theorem dX11_station_57 : decode cX11_station 57 = .ok (.dup, 1) := by decide +kernel
theorem dX11_station_58 : decode cX11_station 58 = .ok (.iload_n 2, 1) := by decide +kernel
theorem dX11_station_59 : decode cX11_station 59 = .ok (.i2l, 1) := by decide +kernel
theorem dX11_station_60 : decode cX11_station 60 = .ok (.iload_n 3, 1) := by decide +kernel
theorem dX11_station_61 : decode cX11_station 61 = .ok (.i2l, 1) := by decide +kernel
theorem dX11_station_62 : decode cX11_station 62 = .ok (.iload 4, 2) := by decide +kernel
theorem dX11_station_64 : decode cX11_station 64 = .ok (.i2l, 1) := by decide +kernel
theorem dX11_station_65 : decode cX11_station 65 = .ok (.invokespecial 57, 3) := by decide +kernel
theorem dX11_station_68 : decode cX11_station 68 = .ok (.aastore, 1) := by decide +kernel
theorem dX11_station_69 : decode cX11_station 69 = .ok (.lconst 1, 1) := by decide +kernel
theorem dX11_station_70 : decode cX11_station 70 = .ok (.lreturn, 1) := by decide +kernel
set_option maxRecDepth 20000 in
theorem ggX11_tell_X11_finding : GoodIn wsX11_tell wsX11_finding := goodIn_r _ [8, 9, 10, 11, 12, 13, 14, 15, 16, 17, 18, 19, 20, 21] (by decide +kernel) (by decide +kernel)
set_option maxRecDepth 20000 in
theorem gX11_tell_X11_finding : GoodIn wsX11_tell (wsV RX11 85 RX11 yX11_finding wsX11_finding) := goodIn_app (goodIn_of _ (by decide +kernel)) ggX11_tell_X11_finding
theorem dX11_tell_0 : decode cX11_tell 0 = .ok (.aload_n 0, 1) := by decide +kernel
theorem dX11_tell_1 : decode cX11_tell 1 = .ok (.getfield 47, 3) := by decide +kernel
theorem dX11_tell_4 : decode cX11_tell 4 = .ok (.getfield 182, 3) := by decide +kernel
theorem dX11_tell_7 : decode cX11_tell 7 = .ok (.bipush 9, 2) := by decide +kernel
theorem dX11_tell_9 : decode cX11_tell 9 = .ok (.if_icmp .lt 9, 3) := by decide +kernel
theorem dX11_tell_12 : decode cX11_tell 12 = .ok (.aload_n 0, 1) := by decide +kernel
theorem dX11_tell_13 : decode cX11_tell 13 = .ok (.iconst 4, 1) := by decide +kernel
theorem dX11_tell_14 : decode cX11_tell 14 = .ok (.invokevirtual 85, 3) := by decide +kernel
theorem dX11_tell_17 : decode cX11_tell 17 = .ok (.lreturn, 1) := by decide +kernel
theorem dX11_tell_18 : decode cX11_tell 18 = .ok (.aload_n 0, 1) := by decide +kernel
theorem dX11_tell_19 : decode cX11_tell 19 = .ok (.getfield 47, 3) := by decide +kernel
theorem dX11_tell_22 : decode cX11_tell 22 = .ok (.getfield 183, 3) := by decide +kernel
theorem dX11_tell_25 : decode cX11_tell 25 = .ok (.aload_n 0, 1) := by decide +kernel
theorem dX11_tell_26 : decode cX11_tell 26 = .ok (.getfield 47, 3) := by decide +kernel
theorem dX11_tell_29 : decode cX11_tell 29 = .ok (.getfield 182, 3) := by decide +kernel
theorem dX11_tell_32 : decode cX11_tell 32 = .ok (.iload_n 1, 1) := by decide +kernel
theorem dX11_tell_33 : decode cX11_tell 33 = .ok (.iastore, 1) := by decide +kernel
theorem dX11_tell_34 : decode cX11_tell 34 = .ok (.aload_n 0, 1) := by decide +kernel
theorem dX11_tell_35 : decode cX11_tell 35 = .ok (.getfield 47, 3) := by decide +kernel
theorem dX11_tell_38 : decode cX11_tell 38 = .ok (.dup, 1) := by decide +kernel
theorem dX11_tell_39 : decode cX11_tell 39 = .ok (.getfield 182, 3) := by decide +kernel
theorem dX11_tell_42 : decode cX11_tell 42 = .ok (.iconst 1, 1) := by decide +kernel
theorem dX11_tell_43 : decode cX11_tell 43 = .ok (.iadd, 1) := by decide +kernel
theorem dX11_tell_44 : decode cX11_tell 44 = .ok (.putfield 182, 3) := by decide +kernel
theorem dX11_tell_47 : decode cX11_tell 47 = .ok (.aload_n 0, 1) := by decide +kernel
theorem dX11_tell_48 : decode cX11_tell 48 = .ok (.getfield 47, 3) := by decide +kernel
theorem dX11_tell_51 : decode cX11_tell 51 = .ok (.getfield 182, 3) := by decide +kernel
theorem dX11_tell_54 : decode cX11_tell 54 = .ok (.i2l, 1) := by decide +kernel
theorem dX11_tell_55 : decode cX11_tell 55 = .ok (.lreturn, 1) := by decide +kernel
set_option maxRecDepth 20000 in
theorem ggX11_sight_X11_isMeteor : GoodIn wsX11_sight wsX11_isMeteor := goodIn_r _ [7] (by decide +kernel) (by decide +kernel)
set_option maxRecDepth 20000 in
theorem gX11_sight_X11_isMeteor : GoodIn wsX11_sight (va_wsS RX11 186 yX11_isMeteor wsX11_isMeteor) := goodIn_app (goodIn_of _ (by decide +kernel)) ggX11_sight_X11_isMeteor
set_option maxRecDepth 20000 in
theorem ggX11_sight_X11_isKind : GoodIn wsX11_sight wsX11_isKind := goodIn_r _ [10] (by decide +kernel) (by decide +kernel)
set_option maxRecDepth 20000 in
theorem gX11_sight_X11_isKind : GoodIn wsX11_sight (va_wsS RX11 189 yX11_isKind wsX11_isKind) := goodIn_app (goodIn_of _ (by decide +kernel)) ggX11_sight_X11_isKind
set_option maxRecDepth 20000 in
theorem ggX11_sight_X11_isStation : GoodIn wsX11_sight wsX11_isStation := goodIn_r _ [13] (by decide +kernel) (by decide +kernel)
set_option maxRecDepth 20000 in
theorem gX11_sight_X11_isStation : GoodIn wsX11_sight (va_wsS RX11 176 yX11_isStation wsX11_isStation) := goodIn_app (goodIn_of _ (by decide +kernel)) ggX11_sight_X11_isStation
set_option maxRecDepth 20000 in
theorem ggX11_sight_X11_finding : GoodIn wsX11_sight wsX11_finding := goodIn_r _ [17, 18, 19, 81, 82, 83, 84, 85, 86, 87, 88, 89, 90, 91] (by decide +kernel) (by decide +kernel)
set_option maxRecDepth 20000 in
theorem gX11_sight_X11_finding : GoodIn wsX11_sight (wsV RX11 85 RX11 yX11_finding wsX11_finding) := goodIn_app (goodIn_of _ (by decide +kernel)) ggX11_sight_X11_finding
set_option maxRecDepth 20000 in
theorem ggX11_sight_X11_sightByTape : GoodIn wsX11_sight wsX11_sightByTape := goodIn_r _ [23, 2, 3, 24, 25, 26, 27, 14, 15, 16, 6, 17, 18, 19, 28, 29, 30, 31, 32, 33, 34, 35, 36, 37, 38, 39, 40, 41, 42, 43, 44, 45, 46, 47, 48, 49, 50, 51, 52, 53, 54, 55, 56, 57, 58, 59, 60, 61, 62, 63, 64, 65, 66, 67, 68, 69, 70, 71, 72, 73, 74, 75, 76, 77, 78, 79, 80, 81, 82, 83, 84, 85, 86, 87, 88, 89, 90, 91, 92, 93, 94, 95, 96, 97, 98, 99, 100, 101, 102, 103, 104] (by decide +kernel) (by decide +kernel)
set_option maxRecDepth 20000 in
theorem gX11_sight_X11_sightByTape : GoodIn wsX11_sight (wsV RX11 192 RX11 yX11_sightByTape wsX11_sightByTape) := goodIn_app (goodIn_of _ (by decide +kernel)) ggX11_sight_X11_sightByTape
theorem dX11_sight_0 : decode cX11_sight 0 = .ok (.iload_n 1, 1) := by decide +kernel
theorem dX11_sight_1 : decode cX11_sight 1 = .ok (.invokestatic 186, 3) := by decide +kernel
theorem dX11_sight_4 : decode cX11_sight 4 = .ok (.ifCond .eq 17, 3) := by decide +kernel
theorem dX11_sight_7 : decode cX11_sight 7 = .ok (.iload_n 2, 1) := by decide +kernel
theorem dX11_sight_8 : decode cX11_sight 8 = .ok (.invokestatic 189, 3) := by decide +kernel
theorem dX11_sight_11 : decode cX11_sight 11 = .ok (.ifCond .eq 10, 3) := by decide +kernel
theorem dX11_sight_14 : decode cX11_sight 14 = .ok (.iload_n 3, 1) := by decide +kernel
theorem dX11_sight_15 : decode cX11_sight 15 = .ok (.invokestatic 176, 3) := by decide +kernel
theorem dX11_sight_18 : decode cX11_sight 18 = .ok (.ifCond .ne 9, 3) := by decide +kernel
theorem dX11_sight_21 : decode cX11_sight 21 = .ok (.aload_n 0, 1) := by decide +kernel
theorem dX11_sight_22 : decode cX11_sight 22 = .ok (.iconst 1, 1) := by decide +kernel
theorem dX11_sight_23 : decode cX11_sight 23 = .ok (.invokevirtual 85, 3) := by decide +kernel
theorem dX11_sight_26 : decode cX11_sight 26 = .ok (.lreturn, 1) := by decide +kernel
theorem dX11_sight_27 : decode cX11_sight 27 = .ok (.aload_n 0, 1) := by decide +kernel
theorem dX11_sight_28 : decode cX11_sight 28 = .ok (.aload_n 0, 1) := by decide +kernel
theorem dX11_sight_29 : decode cX11_sight 29 = .ok (.getfield 62, 3) := by decide +kernel
theorem dX11_sight_32 : decode cX11_sight 32 = .ok (.iload_n 1, 1) := by decide +kernel
theorem dX11_sight_33 : decode cX11_sight 33 = .ok (.aaload, 1) := by decide +kernel
theorem dX11_sight_34 : decode cX11_sight 34 = .ok (.iload_n 2, 1) := by decide +kernel
theorem dX11_sight_35 : decode cX11_sight 35 = .ok (.iload_n 3, 1) := by decide +kernel
theorem dX11_sight_36 : decode cX11_sight 36 = .ok (.invokevirtual 192, 3) := by decide +kernel
theorem dX11_sight_39 : decode cX11_sight 39 = .ok (.lstore 4, 2) := by decide +kernel
theorem dX11_sight_41 : decode cX11_sight 41 = .ok (.aload_n 0, 1) := by decide +kernel
theorem dX11_sight_42 : decode cX11_sight 42 = .ok (.getfield 47, 3) := by decide +kernel
theorem dX11_sight_45 : decode cX11_sight 45 = .ok (.iconst 0, 1) := by decide +kernel
theorem dX11_sight_46 : decode cX11_sight 46 = .ok (.putfield 182, 3) := by decide +kernel
theorem dX11_sight_49 : decode cX11_sight 49 = .ok (.lload 4, 2) := by decide +kernel
theorem dX11_sight_51 : decode cX11_sight 51 = .ok (.lreturn, 1) := by decide +kernel
set_option maxRecDepth 20000 in
theorem ggX11_sightByTape_X11_finding : GoodIn wsX11_sightByTape wsX11_finding := goodIn_r _ [11, 12, 13, 67, 68, 69, 70, 71, 72, 73, 74, 75, 76, 77] (by decide +kernel) (by decide +kernel)
set_option maxRecDepth 20000 in
theorem gX11_sightByTape_X11_finding : GoodIn wsX11_sightByTape (wsV RX11 85 RX11 yX11_finding wsX11_finding) := goodIn_app (goodIn_of _ (by decide +kernel)) ggX11_sightByTape_X11_finding
set_option maxRecDepth 20000 in
theorem ggX11_sightByTape_X7_holdsWay : GoodIn wsX11_sightByTape wsX7_holdsWay := goodIn_r _ [18, 19, 20, 10, 21, 78, 79] (by decide +kernel) (by decide +kernel)
set_option maxRecDepth 20000 in
theorem gX11_sightByTape_X7_holdsWay : GoodIn wsX11_sightByTape (wsV RX11 196 RX7 yX7_holdsWay wsX7_holdsWay) := goodIn_app (goodIn_of _ (by decide +kernel)) ggX11_sightByTape_X7_holdsWay
set_option maxRecDepth 20000 in
theorem ggX11_sightByTape_X7_wayAt : GoodIn wsX11_sightByTape wsX7_wayAt := goodIn_r _ [25, 26, 27, 28, 19, 29, 30, 31, 32, 33, 34, 35, 36, 37, 88, 89, 90, 78, 79] (by decide +kernel) (by decide +kernel)
set_option maxRecDepth 20000 in
theorem gX11_sightByTape_X7_wayAt : GoodIn wsX11_sightByTape (wsV RX11 200 RX7 yX7_wayAt wsX7_wayAt) := goodIn_app (goodIn_of _ (by decide +kernel)) ggX11_sightByTape_X7_wayAt
set_option maxRecDepth 20000 in
theorem ggX11_sightByTape_X6_init : GoodIn wsX11_sightByTape wsX6_init := goodIn_r _ [40, 41, 33, 34, 42, 43, 44, 45, 46, 47, 48, 10, 49, 50, 51, 52, 28, 53, 54, 27, 36, 37, 35, 55, 30, 31, 32, 56, 57, 58, 59, 82, 83, 84, 85, 86, 87, 88, 89, 90] (by decide +kernel) (by decide +kernel)
set_option maxRecDepth 20000 in
theorem gX11_sightByTape_X6_init : GoodIn wsX11_sightByTape (wsX6_init) := ggX11_sightByTape_X6_init
set_option maxRecDepth 20000 in
theorem ggX11_sightByTape_X3_add : GoodIn wsX11_sightByTape wsX3_add := goodIn_r _ [64, 65, 66, 80, 81] (by decide +kernel) (by decide +kernel)
set_option maxRecDepth 20000 in
theorem gX11_sightByTape_X3_add : GoodIn wsX11_sightByTape (wsV RX11 209 RX3 yX3_add wsX3_add) := goodIn_app (goodIn_of _ (by decide +kernel)) ggX11_sightByTape_X3_add
theorem dX11_sightByTape_0 : decode cX11_sightByTape 0 = .ok (.iload_n 2, 1) := by decide +kernel
theorem dX11_sightByTape_1 : decode cX11_sightByTape 1 = .ok (.iconst 1, 1) := by decide +kernel
theorem dX11_sightByTape_2 : decode cX11_sightByTape 2 = .ok (.if_icmp .ne 7, 3) := by decide +kernel
theorem dX11_sightByTape_5 : decode cX11_sightByTape 5 = .ok (.iconst 3, 1) := by decide +kernel
theorem dX11_sightByTape_6 : decode cX11_sightByTape 6 = .ok (.goto 4, 3) := by decide +kernel
theorem dX11_sightByTape_9 : decode cX11_sightByTape 9 = .ok (.iconst 2, 1) := by decide +kernel
theorem dX11_sightByTape_10 : decode cX11_sightByTape 10 = .ok (.istore 4, 2) := by decide +kernel
theorem dX11_sightByTape_12 : decode cX11_sightByTape 12 = .ok (.aload_n 0, 1) := by decide +kernel
theorem dX11_sightByTape_13 : decode cX11_sightByTape 13 = .ok (.getfield 47, 3) := by decide +kernel
theorem dX11_sightByTape_16 : decode cX11_sightByTape 16 = .ok (.getfield 182, 3) := by decide +kernel
theorem dX11_sightByTape_19 : decode cX11_sightByTape 19 = .ok (.iconst 3, 1) := by decide +kernel
theorem dX11_sightByTape_20 : decode cX11_sightByTape 20 = .ok (.iload 4, 2) := by decide +kernel
theorem dX11_sightByTape_22 : decode cX11_sightByTape 22 = .ok (.imul, 1) := by decide +kernel
theorem dX11_sightByTape_23 : decode cX11_sightByTape 23 = .ok (.if_icmp .eq 9, 3) := by decide +kernel
theorem dX11_sightByTape_26 : decode cX11_sightByTape 26 = .ok (.aload_n 0, 1) := by decide +kernel
theorem dX11_sightByTape_27 : decode cX11_sightByTape 27 = .ok (.iconst 5, 1) := by decide +kernel
theorem dX11_sightByTape_28 : decode cX11_sightByTape 28 = .ok (.invokevirtual 85, 3) := by decide +kernel
theorem dX11_sightByTape_31 : decode cX11_sightByTape 31 = .ok (.lreturn, 1) := by decide +kernel
theorem dX11_sightByTape_32 : decode cX11_sightByTape 32 = .ok (.iconst 0, 1) := by decide +kernel
theorem dX11_sightByTape_33 : decode cX11_sightByTape 33 = .ok (.istore 5, 2) := by decide +kernel
theorem dX11_sightByTape_35 : decode cX11_sightByTape 35 = .ok (.iload 5, 2) := by decide +kernel
theorem dX11_sightByTape_37 : decode cX11_sightByTape 37 = .ok (.iload 4, 2) := by decide +kernel
theorem dX11_sightByTape_39 : decode cX11_sightByTape 39 = .ok (.if_icmp .ge 27, 3) := by decide +kernel
theorem dX11_sightByTape_42 : decode cX11_sightByTape 42 = .ok (.aload_n 0, 1) := by decide +kernel
theorem dX11_sightByTape_43 : decode cX11_sightByTape 43 = .ok (.getfield 47, 3) := by decide +kernel
theorem dX11_sightByTape_46 : decode cX11_sightByTape 46 = .ok (.iload 5, 2) := by decide +kernel
theorem dX11_sightByTape_48 : decode cX11_sightByTape 48 = .ok (.invokevirtual 196, 3) := by decide +kernel
theorem dX11_sightByTape_51 : decode cX11_sightByTape 51 = .ok (.ifCond .ne 9, 3) := by decide +kernel
theorem dX11_sightByTape_54 : decode cX11_sightByTape 54 = .ok (.aload_n 0, 1) := by decide +kernel
theorem dX11_sightByTape_55 : decode cX11_sightByTape 55 = .ok (.iconst 1, 1) := by decide +kernel
theorem dX11_sightByTape_56 : decode cX11_sightByTape 56 = .ok (.invokevirtual 85, 3) := by decide +kernel
theorem dX11_sightByTape_59 : decode cX11_sightByTape 59 = .ok (.lreturn, 1) := by decide +kernel
theorem dX11_sightByTape_60 : decode cX11_sightByTape 60 = .ok (.iinc 5 1, 3) := by decide +kernel
theorem dX11_sightByTape_63 : decode cX11_sightByTape 63 = .ok (.goto (-28), 3) := by decide +kernel
theorem dX11_sightByTape_66 : decode cX11_sightByTape 66 = .ok (.aload_n 1, 1) := by decide +kernel
theorem dX11_sightByTape_67 : decode cX11_sightByTape 67 = .ok (.getfield 199, 3) := by decide +kernel
theorem dX11_sightByTape_70 : decode cX11_sightByTape 70 = .ok (.iconst 4, 1) := by decide +kernel
theorem dX11_sightByTape_71 : decode cX11_sightByTape 71 = .ok (.if_icmp .lt 9, 3) := by decide +kernel
theorem dX11_sightByTape_74 : decode cX11_sightByTape 74 = .ok (.aload_n 0, 1) := by decide +kernel
theorem dX11_sightByTape_75 : decode cX11_sightByTape 75 = .ok (.iconst 4, 1) := by decide +kernel
theorem dX11_sightByTape_76 : decode cX11_sightByTape 76 = .ok (.invokevirtual 85, 3) := by decide +kernel
theorem dX11_sightByTape_79 : decode cX11_sightByTape 79 = .ok (.lreturn, 1) := by decide +kernel
theorem dX11_sightByTape_80 : decode cX11_sightByTape 80 = .ok (.iload_n 2, 1) := by decide +kernel
theorem dX11_sightByTape_81 : decode cX11_sightByTape 81 = .ok (.iconst 1, 1) := by decide +kernel
theorem dX11_sightByTape_82 : decode cX11_sightByTape 82 = .ok (.if_icmp .ne 14, 3) := by decide +kernel
theorem dX11_sightByTape_85 : decode cX11_sightByTape 85 = .ok (.aload_n 0, 1) := by decide +kernel
theorem dX11_sightByTape_86 : decode cX11_sightByTape 86 = .ok (.getfield 47, 3) := by decide +kernel
theorem dX11_sightByTape_89 : decode cX11_sightByTape 89 = .ok (.iconst 2, 1) := by decide +kernel
theorem dX11_sightByTape_90 : decode cX11_sightByTape 90 = .ok (.invokevirtual 200, 3) := by decide +kernel
theorem dX11_sightByTape_93 : decode cX11_sightByTape 93 = .ok (.goto 4, 3) := by decide +kernel
theorem dX11_sightByTape_96 : decode cX11_sightByTape 96 = .ok (.aconst_null, 1) := by decide +kernel
theorem dX11_sightByTape_97 : decode cX11_sightByTape 97 = .ok (.astore 5, 2) := by decide +kernel
theorem dX11_sightByTape_99 : decode cX11_sightByTape 99 = .ok (.aload_n 1, 1) := by decide +kernel
theorem dX11_sightByTape_100 : decode cX11_sightByTape 100 = .ok (.new 204, 3) := by decide +kernel
theorem dX11_sightByTape_103 : decode cX11_sightByTape 103 = .ok (.dup, 1) := by decide +kernel
theorem dX11_sightByTape_104 : decode cX11_sightByTape 104 = .ok (.iload_n 2, 1) := by decide +kernel
theorem dX11_sightByTape_105 : decode cX11_sightByTape 105 = .ok (.iload_n 3, 1) := by decide +kernel
theorem dX11_sightByTape_106 : decode cX11_sightByTape 106 = .ok (.aload_n 0, 1) := by decide +kernel
theorem dX11_sightByTape_107 : decode cX11_sightByTape 107 = .ok (.getfield 47, 3) := by decide +kernel
theorem dX11_sightByTape_110 : decode cX11_sightByTape 110 = .ok (.iconst 0, 1) := by decide +kernel
theorem dX11_sightByTape_111 : decode cX11_sightByTape 111 = .ok (.invokevirtual 200, 3) := by decide +kernel
theorem dX11_sightByTape_114 : decode cX11_sightByTape 114 = .ok (.aload_n 0, 1) := by decide +kernel
theorem dX11_sightByTape_115 : decode cX11_sightByTape 115 = .ok (.getfield 47, 3) := by decide +kernel
theorem dX11_sightByTape_118 : decode cX11_sightByTape 118 = .ok (.iconst 1, 1) := by decide +kernel
theorem dX11_sightByTape_119 : decode cX11_sightByTape 119 = .ok (.invokevirtual 200, 3) := by decide +kernel
theorem dX11_sightByTape_122 : decode cX11_sightByTape 122 = .ok (.aload 5, 2) := by decide +kernel
theorem dX11_sightByTape_124 : decode cX11_sightByTape 124 = .ok (.invokespecial 206, 3) := by decide +kernel
theorem dX11_sightByTape_127 : decode cX11_sightByTape 127 = .ok (.invokevirtual 209, 3) := by decide +kernel
theorem dX11_sightByTape_130 : decode cX11_sightByTape 130 = .ok (.i2l, 1) := by decide +kernel
theorem dX11_sightByTape_131 : decode cX11_sightByTape 131 = .ok (.lreturn, 1) := by decide +kernel
set_option maxRecDepth 20000 in
theorem ggX11_drop_X11_isMeteor : GoodIn wsX11_drop wsX11_isMeteor := goodIn_r _ [6] (by decide +kernel) (by decide +kernel)
set_option maxRecDepth 20000 in
theorem gX11_drop_X11_isMeteor : GoodIn wsX11_drop (va_wsS RX11 186 yX11_isMeteor wsX11_isMeteor) := goodIn_app (goodIn_of _ (by decide +kernel)) ggX11_drop_X11_isMeteor
set_option maxRecDepth 20000 in
theorem ggX11_drop_X11_finding : GoodIn wsX11_drop wsX11_finding := goodIn_r _ [10, 11, 12, 13, 14, 15, 16, 17, 18, 19, 20, 21, 22, 23] (by decide +kernel) (by decide +kernel)
set_option maxRecDepth 20000 in
theorem gX11_drop_X11_finding : GoodIn wsX11_drop (wsV RX11 85 RX11 yX11_finding wsX11_finding) := goodIn_app (goodIn_of _ (by decide +kernel)) ggX11_drop_X11_finding
theorem dX11_drop_0 : decode cX11_drop 0 = .ok (.iload_n 1, 1) := by decide +kernel
theorem dX11_drop_1 : decode cX11_drop 1 = .ok (.invokestatic 186, 3) := by decide +kernel
theorem dX11_drop_4 : decode cX11_drop 4 = .ok (.ifCond .ne 9, 3) := by decide +kernel
theorem dX11_drop_7 : decode cX11_drop 7 = .ok (.aload_n 0, 1) := by decide +kernel
theorem dX11_drop_8 : decode cX11_drop 8 = .ok (.iconst 1, 1) := by decide +kernel
theorem dX11_drop_9 : decode cX11_drop 9 = .ok (.invokevirtual 85, 3) := by decide +kernel
theorem dX11_drop_12 : decode cX11_drop 12 = .ok (.lreturn, 1) := by decide +kernel
theorem dX11_drop_13 : decode cX11_drop 13 = .ok (.aload_n 0, 1) := by decide +kernel
theorem dX11_drop_14 : decode cX11_drop 14 = .ok (.getfield 62, 3) := by decide +kernel
theorem dX11_drop_17 : decode cX11_drop 17 = .ok (.iload_n 1, 1) := by decide +kernel
theorem dX11_drop_18 : decode cX11_drop 18 = .ok (.aaload, 1) := by decide +kernel
theorem dX11_drop_19 : decode cX11_drop 19 = .ok (.astore_n 2, 1) := by decide +kernel
theorem dX11_drop_20 : decode cX11_drop 20 = .ok (.aload_n 2, 1) := by decide +kernel
theorem dX11_drop_21 : decode cX11_drop 21 = .ok (.getfield 199, 3) := by decide +kernel
theorem dX11_drop_24 : decode cX11_drop 24 = .ok (.ifCond .ne 9, 3) := by decide +kernel
theorem dX11_drop_27 : decode cX11_drop 27 = .ok (.aload_n 0, 1) := by decide +kernel
theorem dX11_drop_28 : decode cX11_drop 28 = .ok (.iconst 2, 1) := by decide +kernel
theorem dX11_drop_29 : decode cX11_drop 29 = .ok (.invokevirtual 85, 3) := by decide +kernel
theorem dX11_drop_32 : decode cX11_drop 32 = .ok (.lreturn, 1) := by decide +kernel
theorem dX11_drop_33 : decode cX11_drop 33 = .ok (.aload_n 2, 1) := by decide +kernel
theorem dX11_drop_34 : decode cX11_drop 34 = .ok (.dup, 1) := by decide +kernel
theorem dX11_drop_35 : decode cX11_drop 35 = .ok (.getfield 199, 3) := by decide +kernel
theorem dX11_drop_38 : decode cX11_drop 38 = .ok (.iconst 1, 1) := by decide +kernel
theorem dX11_drop_39 : decode cX11_drop 39 = .ok (.isub, 1) := by decide +kernel
theorem dX11_drop_40 : decode cX11_drop 40 = .ok (.putfield 199, 3) := by decide +kernel
theorem dX11_drop_43 : decode cX11_drop 43 = .ok (.aload_n 2, 1) := by decide +kernel
theorem dX11_drop_44 : decode cX11_drop 44 = .ok (.getfield 199, 3) := by decide +kernel
theorem dX11_drop_47 : decode cX11_drop 47 = .ok (.i2l, 1) := by decide +kernel
theorem dX11_drop_48 : decode cX11_drop 48 = .ok (.lreturn, 1) := by decide +kernel
set_option maxRecDepth 20000 in
theorem ggX11_about_X11_sightOf : GoodIn wsX11_about wsX11_sightOf := goodIn_r _ [9, 10, 11, 12, 8, 13, 14, 15, 16, 17, 18, 19, 20, 45, 46, 47, 48, 49, 50, 51, 52, 53, 54, 55, 56, 57] (by decide +kernel) (by decide +kernel)
set_option maxRecDepth 20000 in
theorem gX11_about_X11_sightOf : GoodIn wsX11_about (wsV RX11 212 RX11 yX11_sightOf wsX11_sightOf) := goodIn_app (goodIn_of _ (by decide +kernel)) ggX11_about_X11_sightOf
set_option maxRecDepth 20000 in
theorem ggX11_about_X11_finding : GoodIn wsX11_about wsX11_finding := goodIn_r _ [24, 25, 26, 45, 46, 47, 48, 49, 50, 51, 52, 53, 54, 55] (by decide +kernel) (by decide +kernel)
set_option maxRecDepth 20000 in
theorem gX11_about_X11_finding : GoodIn wsX11_about (wsV RX11 85 RX11 yX11_finding wsX11_finding) := goodIn_app (goodIn_of _ (by decide +kernel)) ggX11_about_X11_finding
set_option maxRecDepth 20000 in
theorem ggX11_about_X10_dot : GoodIn wsX11_about wsX10_dot := goodIn_r _ [31, 32, 33, 34, 58, 59, 60] (by decide +kernel) (by decide +kernel)
set_option maxRecDepth 20000 in
theorem gX11_about_X10_dot : GoodIn wsX11_about (wsV RX11 229 RX10 yX10_dot wsX10_dot) := goodIn_app (goodIn_of _ (by decide +kernel)) ggX11_about_X10_dot
set_option maxRecDepth 20000 in
theorem ggX11_about_X10_along : GoodIn wsX11_about wsX10_along := goodIn_r _ [38, 32, 33, 34, 58, 59, 60] (by decide +kernel) (by decide +kernel)
set_option maxRecDepth 20000 in
theorem gX11_about_X10_along : GoodIn wsX11_about (wsV RX11 233 RX10 yX10_along wsX10_along) := goodIn_app (goodIn_of _ (by decide +kernel)) ggX11_about_X10_along
theorem dX11_about_0 : decode cX11_about 0 = .ok (.aload_n 0, 1) := by decide +kernel
theorem dX11_about_1 : decode cX11_about 1 = .ok (.iload_n 1, 1) := by decide +kernel
theorem dX11_about_2 : decode cX11_about 2 = .ok (.iload_n 2, 1) := by decide +kernel
theorem dX11_about_3 : decode cX11_about 3 = .ok (.invokevirtual 212, 3) := by decide +kernel
theorem dX11_about_6 : decode cX11_about 6 = .ok (.astore 4, 2) := by decide +kernel
theorem dX11_about_8 : decode cX11_about 8 = .ok (.aload 4, 2) := by decide +kernel
theorem dX11_about_10 : decode cX11_about 10 = .ok (.ifnull 12, 3) := by decide +kernel
theorem dX11_about_13 : decode cX11_about 13 = .ok (.iload_n 3, 1) := by decide +kernel
theorem dX11_about_14 : decode cX11_about 14 = .ok (.ifCond .lt 8, 3) := by decide +kernel
theorem dX11_about_17 : decode cX11_about 17 = .ok (.iload_n 3, 1) := by decide +kernel
theorem dX11_about_18 : decode cX11_about 18 = .ok (.iconst 5, 1) := by decide +kernel
theorem dX11_about_19 : decode cX11_about 19 = .ok (.if_icmp .le 9, 3) := by decide +kernel
theorem dX11_about_22 : decode cX11_about 22 = .ok (.aload_n 0, 1) := by decide +kernel
theorem dX11_about_23 : decode cX11_about 23 = .ok (.iconst 1, 1) := by decide +kernel
theorem dX11_about_24 : decode cX11_about 24 = .ok (.invokevirtual 85, 3) := by decide +kernel
theorem dX11_about_27 : decode cX11_about 27 = .ok (.lreturn, 1) := by decide +kernel
theorem dX11_about_28 : decode cX11_about 28 = .ok (.iload_n 3, 1) := by decide +kernel
theorem dX11_about_29 : decode cX11_about 29 = .ok (.ifCond .ne 10, 3) := by decide +kernel
theorem dX11_about_32 : decode cX11_about 32 = .ok (.aload 4, 2) := by decide +kernel
theorem dX11_about_34 : decode cX11_about 34 = .ok (.getfield 216, 3) := by decide +kernel
theorem dX11_about_37 : decode cX11_about 37 = .ok (.i2l, 1) := by decide +kernel
theorem dX11_about_38 : decode cX11_about 38 = .ok (.lreturn, 1) := by decide +kernel
theorem dX11_about_39 : decode cX11_about 39 = .ok (.iload_n 3, 1) := by decide +kernel
theorem dX11_about_40 : decode cX11_about 40 = .ok (.iconst 1, 1) := by decide +kernel
theorem dX11_about_41 : decode cX11_about 41 = .ok (.if_icmp .ne 10, 3) := by decide +kernel
theorem dX11_about_44 : decode cX11_about 44 = .ok (.aload 4, 2) := by decide +kernel
theorem dX11_about_46 : decode cX11_about 46 = .ok (.getfield 219, 3) := by decide +kernel
theorem dX11_about_49 : decode cX11_about 49 = .ok (.i2l, 1) := by decide +kernel
theorem dX11_about_50 : decode cX11_about 50 = .ok (.lreturn, 1) := by decide +kernel
theorem dX11_about_51 : decode cX11_about 51 = .ok (.iload_n 3, 1) := by decide +kernel
theorem dX11_about_52 : decode cX11_about 52 = .ok (.iconst 5, 1) := by decide +kernel
theorem dX11_about_53 : decode cX11_about 53 = .ok (.if_icmp .ne 17, 3) := by decide +kernel
theorem dX11_about_56 : decode cX11_about 56 = .ok (.aload 4, 2) := by decide +kernel
theorem dX11_about_58 : decode cX11_about 58 = .ok (.getfield 222, 3) := by decide +kernel
theorem dX11_about_61 : decode cX11_about 61 = .ok (.ifnonnull 9, 3) := by decide +kernel
theorem dX11_about_64 : decode cX11_about 64 = .ok (.aload_n 0, 1) := by decide +kernel
theorem dX11_about_65 : decode cX11_about 65 = .ok (.iconst 3, 1) := by decide +kernel
theorem dX11_about_66 : decode cX11_about 66 = .ok (.invokevirtual 85, 3) := by decide +kernel
theorem dX11_about_69 : decode cX11_about 69 = .ok (.lreturn, 1) := by decide +kernel
theorem dX11_about_70 : decode cX11_about 70 = .ok (.aload 4, 2) := by decide +kernel
theorem dX11_about_72 : decode cX11_about 72 = .ok (.getfield 226, 3) := by decide +kernel
theorem dX11_about_75 : decode cX11_about 75 = .ok (.ifnonnull 9, 3) := by decide +kernel
theorem dX11_about_78 : decode cX11_about 78 = .ok (.aload_n 0, 1) := by decide +kernel
theorem dX11_about_79 : decode cX11_about 79 = .ok (.iconst 2, 1) := by decide +kernel
theorem dX11_about_80 : decode cX11_about 80 = .ok (.invokevirtual 85, 3) := by decide +kernel
theorem dX11_about_83 : decode cX11_about 83 = .ok (.lreturn, 1) := by decide +kernel
theorem dX11_about_84 : decode cX11_about 84 = .ok (.iload_n 3, 1) := by decide +kernel
theorem dX11_about_85 : decode cX11_about 85 = .ok (.iconst 5, 1) := by decide +kernel
theorem dX11_about_86 : decode cX11_about 86 = .ok (.if_icmp .ne 19, 3) := by decide +kernel
theorem dX11_about_89 : decode cX11_about 89 = .ok (.aload 4, 2) := by decide +kernel
theorem dX11_about_91 : decode cX11_about 91 = .ok (.getfield 226, 3) := by decide +kernel
theorem dX11_about_94 : decode cX11_about 94 = .ok (.aload 4, 2) := by decide +kernel
theorem dX11_about_96 : decode cX11_about 96 = .ok (.getfield 222, 3) := by decide +kernel
theorem dX11_about_99 : decode cX11_about 99 = .ok (.invokevirtual 229, 3) := by decide +kernel
theorem dX11_about_102 : decode cX11_about 102 = .ok (.goto 14, 3) := by decide +kernel
theorem dX11_about_105 : decode cX11_about 105 = .ok (.aload 4, 2) := by decide +kernel
theorem dX11_about_107 : decode cX11_about 107 = .ok (.getfield 226, 3) := by decide +kernel
theorem dX11_about_110 : decode cX11_about 110 = .ok (.iload_n 3, 1) := by decide +kernel
theorem dX11_about_111 : decode cX11_about 111 = .ok (.iconst 2, 1) := by decide +kernel
theorem dX11_about_112 : decode cX11_about 112 = .ok (.isub, 1) := by decide +kernel
theorem dX11_about_113 : decode cX11_about 113 = .ok (.invokevirtual 233, 3) := by decide +kernel
theorem dX11_about_116 : decode cX11_about 116 = .ok (.lreturn, 1) := by decide +kernel
set_option maxRecDepth 20000 in
theorem ggX11_as_X11_sightOf : GoodIn wsX11_as wsX11_sightOf := goodIn_r _ [7, 8, 9, 10, 6, 11, 12, 13, 14, 15, 16, 17, 18, 34, 35, 36, 37, 38, 39, 40, 41, 42, 43, 44, 45, 46] (by decide +kernel) (by decide +kernel)
set_option maxRecDepth 20000 in
theorem gX11_as_X11_sightOf : GoodIn wsX11_as (wsV RX11 212 RX11 yX11_sightOf wsX11_sightOf) := goodIn_app (goodIn_of _ (by decide +kernel)) ggX11_as_X11_sightOf
set_option maxRecDepth 20000 in
theorem ggX11_as_X11_isKind : GoodIn wsX11_as wsX11_isKind := goodIn_r _ [21] (by decide +kernel) (by decide +kernel)
set_option maxRecDepth 20000 in
theorem gX11_as_X11_isKind : GoodIn wsX11_as (va_wsS RX11 189 yX11_isKind wsX11_isKind) := goodIn_app (goodIn_of _ (by decide +kernel)) ggX11_as_X11_isKind
set_option maxRecDepth 20000 in
theorem ggX11_as_X11_finding : GoodIn wsX11_as wsX11_finding := goodIn_r _ [25, 26, 27, 34, 35, 36, 37, 38, 39, 40, 41, 42, 43, 44] (by decide +kernel) (by decide +kernel)
set_option maxRecDepth 20000 in
theorem gX11_as_X11_finding : GoodIn wsX11_as (wsV RX11 85 RX11 yX11_finding wsX11_finding) := goodIn_app (goodIn_of _ (by decide +kernel)) ggX11_as_X11_finding
theorem dX11_as_0 : decode cX11_as 0 = .ok (.aload_n 0, 1) := by decide +kernel
theorem dX11_as_1 : decode cX11_as 1 = .ok (.iload_n 1, 1) := by decide +kernel
theorem dX11_as_2 : decode cX11_as 2 = .ok (.iload_n 2, 1) := by decide +kernel
theorem dX11_as_3 : decode cX11_as 3 = .ok (.invokevirtual 212, 3) := by decide +kernel
theorem dX11_as_6 : decode cX11_as 6 = .ok (.astore 4, 2) := by decide +kernel
theorem dX11_as_8 : decode cX11_as 8 = .ok (.aload 4, 2) := by decide +kernel
theorem dX11_as_10 : decode cX11_as 10 = .ok (.ifnull 10, 3) := by decide +kernel
theorem dX11_as_13 : decode cX11_as 13 = .ok (.iload_n 3, 1) := by decide +kernel
theorem dX11_as_14 : decode cX11_as 14 = .ok (.invokestatic 189, 3) := by decide +kernel
theorem dX11_as_17 : decode cX11_as 17 = .ok (.ifCond .ne 9, 3) := by decide +kernel
theorem dX11_as_20 : decode cX11_as 20 = .ok (.aload_n 0, 1) := by decide +kernel
theorem dX11_as_21 : decode cX11_as 21 = .ok (.iconst 1, 1) := by decide +kernel
theorem dX11_as_22 : decode cX11_as 22 = .ok (.invokevirtual 85, 3) := by decide +kernel
theorem dX11_as_25 : decode cX11_as 25 = .ok (.lreturn, 1) := by decide +kernel
theorem dX11_as_26 : decode cX11_as 26 = .ok (.iload_n 3, 1) := by decide +kernel
theorem dX11_as_27 : decode cX11_as 27 = .ok (.ifCond .eq 18, 3) := by decide +kernel
theorem dX11_as_30 : decode cX11_as 30 = .ok (.iload_n 3, 1) := by decide +kernel
theorem dX11_as_31 : decode cX11_as 31 = .ok (.aload 4, 2) := by decide +kernel
theorem dX11_as_33 : decode cX11_as 33 = .ok (.getfield 216, 3) := by decide +kernel
theorem dX11_as_36 : decode cX11_as 36 = .ok (.if_icmp .eq 9, 3) := by decide +kernel
theorem dX11_as_39 : decode cX11_as 39 = .ok (.aload_n 0, 1) := by decide +kernel
theorem dX11_as_40 : decode cX11_as 40 = .ok (.iconst 3, 1) := by decide +kernel
theorem dX11_as_41 : decode cX11_as 41 = .ok (.invokevirtual 85, 3) := by decide +kernel
theorem dX11_as_44 : decode cX11_as 44 = .ok (.lreturn, 1) := by decide +kernel
theorem dX11_as_45 : decode cX11_as 45 = .ok (.aload 4, 2) := by decide +kernel
theorem dX11_as_47 : decode cX11_as 47 = .ok (.getfield 219, 3) := by decide +kernel
theorem dX11_as_50 : decode cX11_as 50 = .ok (.i2l, 1) := by decide +kernel
theorem dX11_as_51 : decode cX11_as 51 = .ok (.lreturn, 1) := by decide +kernel
set_option maxRecDepth 20000 in
theorem ggX11_point_X11_isPair : GoodIn wsX11_point wsX11_isPair := goodIn_r _ [5, 6, 7, 8, 4, 9, 10, 11, 12, 13, 14, 15, 16, 17, 18, 19, 20, 112, 113, 114, 115, 116, 117, 118, 119, 120, 121, 122, 123, 124] (by decide +kernel) (by decide +kernel)
set_option maxRecDepth 20000 in
theorem gX11_point_X11_isPair : GoodIn wsX11_point (wsV RX11 236 RX11 yX11_isPair wsX11_isPair) := goodIn_app (goodIn_of _ (by decide +kernel)) ggX11_point_X11_isPair
set_option maxRecDepth 20000 in
theorem ggX11_point_X11_isAxis : GoodIn wsX11_point wsX11_isAxis := goodIn_r _ [23] (by decide +kernel) (by decide +kernel)
set_option maxRecDepth 20000 in
theorem gX11_point_X11_isAxis : GoodIn wsX11_point (va_wsS RX11 240 yX11_isAxis wsX11_isAxis) := goodIn_app (goodIn_of _ (by decide +kernel)) ggX11_point_X11_isAxis
set_option maxRecDepth 20000 in
theorem ggX11_point_X11_finding : GoodIn wsX11_point wsX11_finding := goodIn_r _ [27, 28, 29, 112, 113, 114, 115, 116, 117, 118, 119, 120, 121, 122] (by decide +kernel) (by decide +kernel)
set_option maxRecDepth 20000 in
theorem gX11_point_X11_finding : GoodIn wsX11_point (wsV RX11 85 RX11 yX11_finding wsX11_finding) := goodIn_app (goodIn_of _ (by decide +kernel)) ggX11_point_X11_finding
set_option maxRecDepth 20000 in
theorem ggX11_point_X11_sightOf : GoodIn wsX11_point wsX11_sightOf := goodIn_r _ [9, 10, 11, 12, 4, 13, 14, 15, 16, 17, 18, 19, 20, 112, 113, 114, 115, 116, 117, 118, 119, 120, 121, 122, 123, 124] (by decide +kernel) (by decide +kernel)
set_option maxRecDepth 20000 in
theorem gX11_point_X11_sightOf : GoodIn wsX11_point (wsV RX11 212 RX11 yX11_sightOf wsX11_sightOf) := goodIn_app (goodIn_of _ (by decide +kernel)) ggX11_point_X11_sightOf
set_option maxRecDepth 20000 in
theorem ggX11_point_X11_isBlurred : GoodIn wsX11_point wsX11_isBlurred := goodIn_r _ [32, 33, 125, 126, 127, 128, 129, 130] (by decide +kernel) (by decide +kernel)
set_option maxRecDepth 20000 in
theorem gX11_point_X11_isBlurred : GoodIn wsX11_point (va_wsS RX11 243 yX11_isBlurred wsX11_isBlurred) := goodIn_app (goodIn_of _ (by decide +kernel)) ggX11_point_X11_isBlurred
set_option maxRecDepth 20000 in
theorem ggX11_point_X11_meetingOf : GoodIn wsX11_point wsX11_meetingOf := goodIn_r _ [37, 38, 39, 40, 41, 42, 43, 44, 45, 46, 47, 48, 49, 50, 51, 52, 53, 54, 55, 56, 57, 58, 59, 60, 61, 62, 63, 64, 65, 66, 67, 68, 69, 70, 71, 72, 73, 74, 75, 76, 77, 78, 79, 125, 126, 127, 128, 129, 130, 112, 113, 114, 115, 116, 117, 118, 119, 120, 121, 122, 131, 132, 133, 134, 135] (by decide +kernel) (by decide +kernel)
set_option maxRecDepth 20000 in
theorem gX11_point_X11_meetingOf : GoodIn wsX11_point (wsV RX11 247 RX11 yX11_meetingOf wsX11_meetingOf) := goodIn_app (goodIn_of _ (by decide +kernel)) ggX11_point_X11_meetingOf
set_option maxRecDepth 20000 in
theorem ggX11_point_X2_coordinate : GoodIn wsX11_point wsX2_coordinate := goodIn_r _ [83, 84, 85, 86, 78, 79, 87, 88, 89, 49, 90, 51, 52, 53, 91, 92, 93, 94, 64, 65, 95, 96, 97, 98, 99, 100, 101, 102, 103, 104, 105, 106, 107, 136, 137, 131, 132, 133, 134, 135] (by decide +kernel) (by decide +kernel)
set_option maxRecDepth 20000 in
theorem gX11_point_X2_coordinate : GoodIn wsX11_point (wsV RX11 251 RX2 yX2_coordinate wsX2_coordinate) := goodIn_app (goodIn_of _ (by decide +kernel)) ggX11_point_X2_coordinate
set_option maxRecDepth 20000 in
theorem ggX11_point_X0_side : GoodIn wsX11_point wsX0_side := goodIn_r _ [111, 104, 103, 136, 137] (by decide +kernel) (by decide +kernel)
set_option maxRecDepth 20000 in
theorem gX11_point_X0_side : GoodIn wsX11_point (wsV RX11 170 RX0 yX0_side wsX0_side) := goodIn_app (goodIn_of _ (by decide +kernel)) ggX11_point_X0_side
theorem dX11_point_0 : decode cX11_point 0 = .ok (.aload_n 0, 1) := by decide +kernel
theorem dX11_point_1 : decode cX11_point 1 = .ok (.iload_n 1, 1) := by decide +kernel
theorem dX11_point_2 : decode cX11_point 2 = .ok (.iload_n 2, 1) := by decide +kernel
theorem dX11_point_3 : decode cX11_point 3 = .ok (.iload_n 3, 1) := by decide +kernel
theorem dX11_point_4 : decode cX11_point 4 = .ok (.invokevirtual 236, 3) := by decide +kernel
theorem dX11_point_7 : decode cX11_point 7 = .ok (.ifCond .eq 11, 3) := by decide +kernel
theorem dX11_point_10 : decode cX11_point 10 = .ok (.iload 5, 2) := by decide +kernel
theorem dX11_point_12 : decode cX11_point 12 = .ok (.invokestatic 240, 3) := by decide +kernel
theorem dX11_point_15 : decode cX11_point 15 = .ok (.ifCond .ne 9, 3) := by decide +kernel
theorem dX11_point_18 : decode cX11_point 18 = .ok (.aload_n 0, 1) := by decide +kernel
theorem dX11_point_19 : decode cX11_point 19 = .ok (.iconst 1, 1) := by decide +kernel
theorem dX11_point_20 : decode cX11_point 20 = .ok (.invokevirtual 85, 3) := by decide +kernel
theorem dX11_point_23 : decode cX11_point 23 = .ok (.lreturn, 1) := by decide +kernel
theorem dX11_point_24 : decode cX11_point 24 = .ok (.aload_n 0, 1) := by decide +kernel
theorem dX11_point_25 : decode cX11_point 25 = .ok (.iload_n 1, 1) := by decide +kernel
theorem dX11_point_26 : decode cX11_point 26 = .ok (.iload_n 2, 1) := by decide +kernel
theorem dX11_point_27 : decode cX11_point 27 = .ok (.invokevirtual 212, 3) := by decide +kernel
theorem dX11_point_30 : decode cX11_point 30 = .ok (.astore 7, 2) := by decide +kernel
theorem dX11_point_32 : decode cX11_point 32 = .ok (.aload 7, 2) := by decide +kernel
theorem dX11_point_34 : decode cX11_point 34 = .ok (.invokestatic 243, 3) := by decide +kernel
theorem dX11_point_37 : decode cX11_point 37 = .ok (.ifCond .eq 9, 3) := by decide +kernel
theorem dX11_point_40 : decode cX11_point 40 = .ok (.aload_n 0, 1) := by decide +kernel
theorem dX11_point_41 : decode cX11_point 41 = .ok (.iconst 3, 1) := by decide +kernel
theorem dX11_point_42 : decode cX11_point 42 = .ok (.invokevirtual 85, 3) := by decide +kernel
theorem dX11_point_45 : decode cX11_point 45 = .ok (.lreturn, 1) := by decide +kernel
theorem dX11_point_46 : decode cX11_point 46 = .ok (.aload_n 0, 1) := by decide +kernel
theorem dX11_point_47 : decode cX11_point 47 = .ok (.aload 7, 2) := by decide +kernel
theorem dX11_point_49 : decode cX11_point 49 = .ok (.aload_n 0, 1) := by decide +kernel
theorem dX11_point_50 : decode cX11_point 50 = .ok (.iload_n 1, 1) := by decide +kernel
theorem dX11_point_51 : decode cX11_point 51 = .ok (.iload_n 3, 1) := by decide +kernel
theorem dX11_point_52 : decode cX11_point 52 = .ok (.invokevirtual 212, 3) := by decide +kernel
theorem dX11_point_55 : decode cX11_point 55 = .ok (.iload 4, 2) := by decide +kernel
theorem dX11_point_57 : decode cX11_point 57 = .ok (.invokevirtual 247, 3) := by decide +kernel
theorem dX11_point_60 : decode cX11_point 60 = .ok (.astore 8, 2) := by decide +kernel
theorem dX11_point_62 : decode cX11_point 62 = .ok (.aload 8, 2) := by decide +kernel
theorem dX11_point_64 : decode cX11_point 64 = .ok (.ifnonnull 9, 3) := by decide +kernel
theorem dX11_point_67 : decode cX11_point 67 = .ok (.aload_n 0, 1) := by decide +kernel
theorem dX11_point_68 : decode cX11_point 68 = .ok (.iconst 2, 1) := by decide +kernel
theorem dX11_point_69 : decode cX11_point 69 = .ok (.invokevirtual 85, 3) := by decide +kernel
theorem dX11_point_72 : decode cX11_point 72 = .ok (.lreturn, 1) := by decide +kernel
theorem dX11_point_73 : decode cX11_point 73 = .ok (.aload 8, 2) := by decide +kernel
theorem dX11_point_75 : decode cX11_point 75 = .ok (.iload 5, 2) := by decide +kernel
theorem dX11_point_77 : decode cX11_point 77 = .ok (.invokevirtual 251, 3) := by decide +kernel
theorem dX11_point_80 : decode cX11_point 80 = .ok (.iload 6, 2) := by decide +kernel
theorem dX11_point_82 : decode cX11_point 82 = .ok (.invokevirtual 170, 3) := by decide +kernel
theorem dX11_point_85 : decode cX11_point 85 = .ok (.lreturn, 1) := by decide +kernel
set_option maxRecDepth 20000 in
theorem ggX11_fall_X11_isPair : GoodIn wsX11_fall wsX11_isPair := goodIn_r _ [5, 6, 7, 8, 4, 9, 10, 11, 12, 13, 14, 15, 16, 17, 18, 19, 20, 62, 63, 64, 65, 66, 67, 68, 69, 70, 71, 72, 73, 74] (by decide +kernel) (by decide +kernel)
set_option maxRecDepth 20000 in
theorem gX11_fall_X11_isPair : GoodIn wsX11_fall (wsV RX11 236 RX11 yX11_isPair wsX11_isPair) := goodIn_app (goodIn_of _ (by decide +kernel)) ggX11_fall_X11_isPair
set_option maxRecDepth 20000 in
theorem ggX11_fall_X11_isAxis : GoodIn wsX11_fall wsX11_isAxis := goodIn_r _ [23] (by decide +kernel) (by decide +kernel)
set_option maxRecDepth 20000 in
theorem gX11_fall_X11_isAxis : GoodIn wsX11_fall (va_wsS RX11 240 yX11_isAxis wsX11_isAxis) := goodIn_app (goodIn_of _ (by decide +kernel)) ggX11_fall_X11_isAxis
set_option maxRecDepth 20000 in
theorem ggX11_fall_X11_finding : GoodIn wsX11_fall wsX11_finding := goodIn_r _ [27, 28, 29, 62, 63, 64, 65, 66, 67, 68, 69, 70, 71, 72] (by decide +kernel) (by decide +kernel)
set_option maxRecDepth 20000 in
theorem gX11_fall_X11_finding : GoodIn wsX11_fall (wsV RX11 85 RX11 yX11_finding wsX11_finding) := goodIn_app (goodIn_of _ (by decide +kernel)) ggX11_fall_X11_finding
set_option maxRecDepth 20000 in
theorem ggX11_fall_X11_planeOf : GoodIn wsX11_fall wsX11_planeOf := goodIn_r _ [33, 34, 6, 7, 8, 4, 9, 10, 11, 12, 13, 14, 15, 16, 17, 18, 19, 20, 75, 76, 77, 78, 79, 80, 62, 63, 64, 65, 66, 67, 68, 69, 70, 71, 72, 73, 74] (by decide +kernel) (by decide +kernel)
set_option maxRecDepth 20000 in
theorem gX11_fall_X11_planeOf : GoodIn wsX11_fall (wsV RX11 257 RX11 yX11_planeOf wsX11_planeOf) := goodIn_app (goodIn_of _ (by decide +kernel)) ggX11_fall_X11_planeOf
set_option maxRecDepth 20000 in
theorem ggX11_fall_X11_crossing : GoodIn wsX11_fall wsX11_crossing := goodIn_r _ [37, 38, 39, 40, 41, 42, 43, 44, 45, 46, 47, 48, 49, 50, 51, 52, 53, 54, 55, 56, 57, 81, 82, 83] (by decide +kernel) (by decide +kernel)
set_option maxRecDepth 20000 in
theorem gX11_fall_X11_crossing : GoodIn wsX11_fall (va_wsS RX11 261 yX11_crossing wsX11_crossing) := goodIn_app (goodIn_of _ (by decide +kernel)) ggX11_fall_X11_crossing
set_option maxRecDepth 20000 in
theorem ggX11_fall_X10_along : GoodIn wsX11_fall wsX10_along := goodIn_r _ [61, 47, 45, 46, 81, 82, 83] (by decide +kernel) (by decide +kernel)
set_option maxRecDepth 20000 in
theorem gX11_fall_X10_along : GoodIn wsX11_fall (wsV RX11 233 RX10 yX10_along wsX10_along) := goodIn_app (goodIn_of _ (by decide +kernel)) ggX11_fall_X10_along
theorem dX11_fall_0 : decode cX11_fall 0 = .ok (.aload_n 0, 1) := by decide +kernel
theorem dX11_fall_1 : decode cX11_fall 1 = .ok (.iload_n 1, 1) := by decide +kernel
theorem dX11_fall_2 : decode cX11_fall 2 = .ok (.iload_n 2, 1) := by decide +kernel
theorem dX11_fall_3 : decode cX11_fall 3 = .ok (.iload_n 3, 1) := by decide +kernel
theorem dX11_fall_4 : decode cX11_fall 4 = .ok (.invokevirtual 236, 3) := by decide +kernel
theorem dX11_fall_7 : decode cX11_fall 7 = .ok (.ifCond .eq 11, 3) := by decide +kernel
theorem dX11_fall_10 : decode cX11_fall 10 = .ok (.iload 4, 2) := by decide +kernel
theorem dX11_fall_12 : decode cX11_fall 12 = .ok (.invokestatic 240, 3) := by decide +kernel
theorem dX11_fall_15 : decode cX11_fall 15 = .ok (.ifCond .ne 9, 3) := by decide +kernel
theorem dX11_fall_18 : decode cX11_fall 18 = .ok (.aload_n 0, 1) := by decide +kernel
theorem dX11_fall_19 : decode cX11_fall 19 = .ok (.iconst 1, 1) := by decide +kernel
theorem dX11_fall_20 : decode cX11_fall 20 = .ok (.invokevirtual 85, 3) := by decide +kernel
theorem dX11_fall_23 : decode cX11_fall 23 = .ok (.lreturn, 1) := by decide +kernel
theorem dX11_fall_24 : decode cX11_fall 24 = .ok (.aload_n 0, 1) := by decide +kernel
theorem dX11_fall_25 : decode cX11_fall 25 = .ok (.iload_n 1, 1) := by decide +kernel
theorem dX11_fall_26 : decode cX11_fall 26 = .ok (.iload_n 2, 1) := by decide +kernel
theorem dX11_fall_27 : decode cX11_fall 27 = .ok (.invokevirtual 257, 3) := by decide +kernel
theorem dX11_fall_30 : decode cX11_fall 30 = .ok (.aload_n 0, 1) := by decide +kernel
theorem dX11_fall_31 : decode cX11_fall 31 = .ok (.iload_n 1, 1) := by decide +kernel
theorem dX11_fall_32 : decode cX11_fall 32 = .ok (.iload_n 3, 1) := by decide +kernel
theorem dX11_fall_33 : decode cX11_fall 33 = .ok (.invokevirtual 257, 3) := by decide +kernel
theorem dX11_fall_36 : decode cX11_fall 36 = .ok (.invokestatic 261, 3) := by decide +kernel
theorem dX11_fall_39 : decode cX11_fall 39 = .ok (.astore 5, 2) := by decide +kernel
theorem dX11_fall_41 : decode cX11_fall 41 = .ok (.aload 5, 2) := by decide +kernel
theorem dX11_fall_43 : decode cX11_fall 43 = .ok (.ifnonnull 11, 3) := by decide +kernel
theorem dX11_fall_46 : decode cX11_fall 46 = .ok (.aload_n 0, 1) := by decide +kernel
theorem dX11_fall_47 : decode cX11_fall 47 = .ok (.iconst 2, 1) := by decide +kernel
theorem dX11_fall_48 : decode cX11_fall 48 = .ok (.invokevirtual 85, 3) := by decide +kernel
theorem dX11_fall_51 : decode cX11_fall 51 = .ok (.goto 10, 3) := by decide +kernel
theorem dX11_fall_54 : decode cX11_fall 54 = .ok (.aload 5, 2) := by decide +kernel
theorem dX11_fall_56 : decode cX11_fall 56 = .ok (.iload 4, 2) := by decide +kernel
theorem dX11_fall_58 : decode cX11_fall 58 = .ok (.invokevirtual 233, 3) := by decide +kernel
theorem dX11_fall_61 : decode cX11_fall 61 = .ok (.lreturn, 1) := by decide +kernel
set_option maxRecDepth 20000 in
theorem ggX11_angle_X11_isPair : GoodIn wsX11_angle wsX11_isPair := goodIn_r _ [5, 6, 7, 8, 4, 9, 10, 11, 12, 13, 14, 15, 16, 17, 18, 19, 20, 69, 70, 71, 72, 73, 74, 75, 76, 77, 78, 79, 80, 81] (by decide +kernel) (by decide +kernel)
set_option maxRecDepth 20000 in
theorem gX11_angle_X11_isPair : GoodIn wsX11_angle (wsV RX11 236 RX11 yX11_isPair wsX11_isPair) := goodIn_app (goodIn_of _ (by decide +kernel)) ggX11_angle_X11_isPair
set_option maxRecDepth 20000 in
theorem ggX11_angle_X11_finding : GoodIn wsX11_angle wsX11_finding := goodIn_r _ [24, 25, 26, 69, 70, 71, 72, 73, 74, 75, 76, 77, 78, 79] (by decide +kernel) (by decide +kernel)
set_option maxRecDepth 20000 in
theorem gX11_angle_X11_finding : GoodIn wsX11_angle (wsV RX11 85 RX11 yX11_finding wsX11_finding) := goodIn_app (goodIn_of _ (by decide +kernel)) ggX11_angle_X11_finding
set_option maxRecDepth 20000 in
theorem ggX11_angle_X11_planeOf : GoodIn wsX11_angle wsX11_planeOf := goodIn_r _ [30, 31, 6, 7, 8, 4, 9, 10, 11, 12, 13, 14, 15, 16, 17, 18, 19, 20, 82, 83, 84, 85, 86, 87, 69, 70, 71, 72, 73, 74, 75, 76, 77, 78, 79, 80, 81] (by decide +kernel) (by decide +kernel)
set_option maxRecDepth 20000 in
theorem gX11_angle_X11_planeOf : GoodIn wsX11_angle (wsV RX11 257 RX11 yX11_planeOf wsX11_planeOf) := goodIn_app (goodIn_of _ (by decide +kernel)) ggX11_angle_X11_planeOf
set_option maxRecDepth 20000 in
theorem ggX11_angle_X11_angleOf : GoodIn wsX11_angle wsX11_angleOf := goodIn_r _ [34, 35, 36, 37, 38, 39, 40, 41, 42, 43, 44, 45, 46, 47, 48, 49, 50, 51, 52, 53, 54, 55, 56, 57, 58, 59, 60, 61, 62, 63, 64, 88, 89, 90, 91, 92] (by decide +kernel) (by decide +kernel)
set_option maxRecDepth 20000 in
theorem gX11_angle_X11_angleOf : GoodIn wsX11_angle (va_wsS RX11 265 yX11_angleOf wsX11_angleOf) := goodIn_app (goodIn_of _ (by decide +kernel)) ggX11_angle_X11_angleOf
set_option maxRecDepth 20000 in
theorem ggX11_angle_X0_side : GoodIn wsX11_angle wsX0_side := goodIn_r _ [68, 61, 60, 88, 89] (by decide +kernel) (by decide +kernel)
set_option maxRecDepth 20000 in
theorem gX11_angle_X0_side : GoodIn wsX11_angle (wsV RX11 170 RX0 yX0_side wsX0_side) := goodIn_app (goodIn_of _ (by decide +kernel)) ggX11_angle_X0_side
theorem dX11_angle_0 : decode cX11_angle 0 = .ok (.aload_n 0, 1) := by decide +kernel
theorem dX11_angle_1 : decode cX11_angle 1 = .ok (.iload_n 1, 1) := by decide +kernel
theorem dX11_angle_2 : decode cX11_angle 2 = .ok (.iload_n 2, 1) := by decide +kernel
theorem dX11_angle_3 : decode cX11_angle 3 = .ok (.iload_n 3, 1) := by decide +kernel
theorem dX11_angle_4 : decode cX11_angle 4 = .ok (.invokevirtual 236, 3) := by decide +kernel
theorem dX11_angle_7 : decode cX11_angle 7 = .ok (.ifCond .ne 9, 3) := by decide +kernel
theorem dX11_angle_10 : decode cX11_angle 10 = .ok (.aload_n 0, 1) := by decide +kernel
theorem dX11_angle_11 : decode cX11_angle 11 = .ok (.iconst 1, 1) := by decide +kernel
theorem dX11_angle_12 : decode cX11_angle 12 = .ok (.invokevirtual 85, 3) := by decide +kernel
theorem dX11_angle_15 : decode cX11_angle 15 = .ok (.lreturn, 1) := by decide +kernel
theorem dX11_angle_16 : decode cX11_angle 16 = .ok (.aload_n 0, 1) := by decide +kernel
theorem dX11_angle_17 : decode cX11_angle 17 = .ok (.iload_n 1, 1) := by decide +kernel
theorem dX11_angle_18 : decode cX11_angle 18 = .ok (.iload_n 2, 1) := by decide +kernel
theorem dX11_angle_19 : decode cX11_angle 19 = .ok (.invokevirtual 257, 3) := by decide +kernel
theorem dX11_angle_22 : decode cX11_angle 22 = .ok (.aload_n 0, 1) := by decide +kernel
theorem dX11_angle_23 : decode cX11_angle 23 = .ok (.iload_n 1, 1) := by decide +kernel
theorem dX11_angle_24 : decode cX11_angle 24 = .ok (.iload_n 3, 1) := by decide +kernel
theorem dX11_angle_25 : decode cX11_angle 25 = .ok (.invokevirtual 257, 3) := by decide +kernel
theorem dX11_angle_28 : decode cX11_angle 28 = .ok (.invokestatic 265, 3) := by decide +kernel
theorem dX11_angle_31 : decode cX11_angle 31 = .ok (.astore 5, 2) := by decide +kernel
theorem dX11_angle_33 : decode cX11_angle 33 = .ok (.aload 5, 2) := by decide +kernel
theorem dX11_angle_35 : decode cX11_angle 35 = .ok (.ifnonnull 11, 3) := by decide +kernel
theorem dX11_angle_38 : decode cX11_angle 38 = .ok (.aload_n 0, 1) := by decide +kernel
theorem dX11_angle_39 : decode cX11_angle 39 = .ok (.iconst 2, 1) := by decide +kernel
theorem dX11_angle_40 : decode cX11_angle 40 = .ok (.invokevirtual 85, 3) := by decide +kernel
theorem dX11_angle_43 : decode cX11_angle 43 = .ok (.goto 10, 3) := by decide +kernel
theorem dX11_angle_46 : decode cX11_angle 46 = .ok (.aload 5, 2) := by decide +kernel
theorem dX11_angle_48 : decode cX11_angle 48 = .ok (.iload 4, 2) := by decide +kernel
theorem dX11_angle_50 : decode cX11_angle 50 = .ok (.invokevirtual 170, 3) := by decide +kernel
theorem dX11_angle_53 : decode cX11_angle 53 = .ok (.lreturn, 1) := by decide +kernel
set_option maxRecDepth 20000 in
theorem ggX11_best_X11_isMeteor : GoodIn wsX11_best wsX11_isMeteor := goodIn_r _ [7] (by decide +kernel) (by decide +kernel)
set_option maxRecDepth 20000 in
theorem gX11_best_X11_isMeteor : GoodIn wsX11_best (va_wsS RX11 186 yX11_isMeteor wsX11_isMeteor) := goodIn_app (goodIn_of _ (by decide +kernel)) ggX11_best_X11_isMeteor
set_option maxRecDepth 20000 in
theorem ggX11_best_X11_finding : GoodIn wsX11_best wsX11_finding := goodIn_r _ [11, 12, 13, 125, 126, 127, 128, 129, 130, 131, 132, 133, 134, 135] (by decide +kernel) (by decide +kernel)
set_option maxRecDepth 20000 in
theorem gX11_best_X11_finding : GoodIn wsX11_best (wsV RX11 85 RX11 yX11_finding wsX11_finding) := goodIn_app (goodIn_of _ (by decide +kernel)) ggX11_best_X11_finding
set_option maxRecDepth 20000 in
theorem ggX11_best_X11_rank : GoodIn wsX11_best wsX11_rank := goodIn_r _ [17, 18, 19, 20, 6, 21, 22, 23, 24, 25, 1, 4, 5, 7, 26, 27, 28, 29, 30, 31, 32, 33, 34, 35, 36, 37, 38, 39, 40, 41, 42, 43, 44, 45, 46, 47, 48, 49, 50, 51, 52, 53, 54, 55, 56, 57, 58, 59, 60, 61, 62, 63, 64, 65, 66, 67, 68, 69, 70, 71, 72, 73, 74, 75, 76, 77, 78, 79, 80, 81, 82, 83, 84, 85, 86, 87, 88, 89, 90, 91, 92, 93, 94, 95, 96, 97, 98, 99, 100, 101, 102, 103, 104, 105, 106, 107, 108, 109, 110, 111, 112, 113, 114, 115, 116, 117, 118, 119, 120, 125, 126, 127, 128, 129, 130, 131, 132, 133, 134, 135, 136, 137, 138, 139, 140, 141, 142, 143, 144, 145, 146, 147, 148, 149, 150] (by decide +kernel) (by decide +kernel)
set_option maxRecDepth 20000 in
theorem gX11_best_X11_rank : GoodIn wsX11_best (wsV RX11 269 RX11 yX11_rank wsX11_rank) := goodIn_app (goodIn_of _ (by decide +kernel)) ggX11_best_X11_rank
set_option maxRecDepth 20000 in
theorem ggX11_best_X0_isLess : GoodIn wsX11_best wsX0_isLess := goodIn_r _ [124, 116, 117, 149, 150] (by decide +kernel) (by decide +kernel)
set_option maxRecDepth 20000 in
theorem gX11_best_X0_isLess : GoodIn wsX11_best (wsV RX11 273 RX0 yX0_isLess wsX0_isLess) := goodIn_app (goodIn_of _ (by decide +kernel)) ggX11_best_X0_isLess
theorem dX11_best_0 : decode cX11_best 0 = .ok (.iload_n 1, 1) := by decide +kernel
theorem dX11_best_1 : decode cX11_best 1 = .ok (.invokestatic 186, 3) := by decide +kernel
theorem dX11_best_4 : decode cX11_best 4 = .ok (.ifCond .ne 9, 3) := by decide +kernel
theorem dX11_best_7 : decode cX11_best 7 = .ok (.aload_n 0, 1) := by decide +kernel
theorem dX11_best_8 : decode cX11_best 8 = .ok (.iconst 1, 1) := by decide +kernel
theorem dX11_best_9 : decode cX11_best 9 = .ok (.invokevirtual 85, 3) := by decide +kernel
theorem dX11_best_12 : decode cX11_best 12 = .ok (.lreturn, 1) := by decide +kernel
theorem dX11_best_13 : decode cX11_best 13 = .ok (.aload_n 0, 1) := by decide +kernel
theorem dX11_best_14 : decode cX11_best 14 = .ok (.getfield 62, 3) := by decide +kernel
theorem dX11_best_17 : decode cX11_best 17 = .ok (.iload_n 1, 1) := by decide +kernel
theorem dX11_best_18 : decode cX11_best 18 = .ok (.aaload, 1) := by decide +kernel
theorem dX11_best_19 : decode cX11_best 19 = .ok (.getfield 199, 3) := by decide +kernel
theorem dX11_best_22 : decode cX11_best 22 = .ok (.istore_n 2, 1) := by decide +kernel
theorem dX11_best_23 : decode cX11_best 23 = .ok (.aconst_null, 1) := by decide +kernel
theorem dX11_best_24 : decode cX11_best 24 = .ok (.astore_n 3, 1) := by decide +kernel
theorem dX11_best_25 : decode cX11_best 25 = .ok (.lconst 0, 1) := by decide +kernel
theorem dX11_best_26 : decode cX11_best 26 = .ok (.lstore 4, 2) := by decide +kernel
theorem dX11_best_28 : decode cX11_best 28 = .ok (.iconst 0, 1) := by decide +kernel
theorem dX11_best_29 : decode cX11_best 29 = .ok (.istore 6, 2) := by decide +kernel
theorem dX11_best_31 : decode cX11_best 31 = .ok (.iload 6, 2) := by decide +kernel
theorem dX11_best_33 : decode cX11_best 33 = .ok (.iload_n 2, 1) := by decide +kernel
theorem dX11_best_34 : decode cX11_best 34 = .ok (.if_icmp .ge 69, 3) := by decide +kernel
theorem dX11_best_37 : decode cX11_best 37 = .ok (.iconst 0, 1) := by decide +kernel
theorem dX11_best_38 : decode cX11_best 38 = .ok (.istore 7, 2) := by decide +kernel
theorem dX11_best_40 : decode cX11_best 40 = .ok (.iload 7, 2) := by decide +kernel
theorem dX11_best_42 : decode cX11_best 42 = .ok (.iload_n 2, 1) := by decide +kernel
theorem dX11_best_43 : decode cX11_best 43 = .ok (.if_icmp .ge 54, 3) := by decide +kernel
theorem dX11_best_46 : decode cX11_best 46 = .ok (.aload_n 0, 1) := by decide +kernel
theorem dX11_best_47 : decode cX11_best 47 = .ok (.iload_n 1, 1) := by decide +kernel
theorem dX11_best_48 : decode cX11_best 48 = .ok (.iload 6, 2) := by decide +kernel
theorem dX11_best_50 : decode cX11_best 50 = .ok (.iload 7, 2) := by decide +kernel
theorem dX11_best_52 : decode cX11_best 52 = .ok (.invokevirtual 269, 3) := by decide +kernel
theorem dX11_best_55 : decode cX11_best 55 = .ok (.astore 8, 2) := by decide +kernel
theorem dX11_best_57 : decode cX11_best 57 = .ok (.aload 8, 2) := by decide +kernel
theorem dX11_best_59 : decode cX11_best 59 = .ok (.ifnull 32, 3) := by decide +kernel
theorem dX11_best_62 : decode cX11_best 62 = .ok (.aload_n 3, 1) := by decide +kernel
theorem dX11_best_63 : decode cX11_best 63 = .ok (.ifnull 12, 3) := by decide +kernel
theorem dX11_best_66 : decode cX11_best 66 = .ok (.aload 8, 2) := by decide +kernel
theorem dX11_best_68 : decode cX11_best 68 = .ok (.aload_n 3, 1) := by decide +kernel
theorem dX11_best_69 : decode cX11_best 69 = .ok (.invokevirtual 273, 3) := by decide +kernel
theorem dX11_best_72 : decode cX11_best 72 = .ok (.ifCond .eq 19, 3) := by decide +kernel
theorem dX11_best_75 : decode cX11_best 75 = .ok (.aload 8, 2) := by decide +kernel
theorem dX11_best_77 : decode cX11_best 77 = .ok (.astore_n 3, 1) := by decide +kernel
theorem dX11_best_78 : decode cX11_best 78 = .ok (.ldc2_w 277, 3) := by decide +kernel
theorem dX11_best_81 : decode cX11_best 81 = .ok (.iload 6, 2) := by decide +kernel
theorem dX11_best_83 : decode cX11_best 83 = .ok (.i2l, 1) := by decide +kernel
theorem dX11_best_84 : decode cX11_best 84 = .ok (.lmul, 1) := by decide +kernel
theorem dX11_best_85 : decode cX11_best 85 = .ok (.iload 7, 2) := by decide +kernel
theorem dX11_best_87 : decode cX11_best 87 = .ok (.i2l, 1) := by decide +kernel
theorem dX11_best_88 : decode cX11_best 88 = .ok (.ladd, 1) := by decide +kernel
theorem dX11_best_89 : decode cX11_best 89 = .ok (.lstore 4, 2) := by decide +kernel
theorem dX11_best_91 : decode cX11_best 91 = .ok (.iinc 7 1, 3) := by decide +kernel
theorem dX11_best_94 : decode cX11_best 94 = .ok (.goto (-54), 3) := by decide +kernel
theorem dX11_best_97 : decode cX11_best 97 = .ok (.iinc 6 1, 3) := by decide +kernel
theorem dX11_best_100 : decode cX11_best 100 = .ok (.goto (-69), 3) := by decide +kernel
theorem dX11_best_103 : decode cX11_best 103 = .ok (.aload_n 3, 1) := by decide +kernel
theorem dX11_best_104 : decode cX11_best 104 = .ok (.ifnonnull 11, 3) := by decide +kernel
theorem dX11_best_107 : decode cX11_best 107 = .ok (.aload_n 0, 1) := by decide +kernel
theorem dX11_best_108 : decode cX11_best 108 = .ok (.iconst 2, 1) := by decide +kernel
theorem dX11_best_109 : decode cX11_best 109 = .ok (.invokevirtual 85, 3) := by decide +kernel
theorem dX11_best_112 : decode cX11_best 112 = .ok (.goto 5, 3) := by decide +kernel
theorem dX11_best_115 : decode cX11_best 115 = .ok (.lload 4, 2) := by decide +kernel
theorem dX11_best_117 : decode cX11_best 117 = .ok (.lreturn, 1) := by decide +kernel
set_option maxRecDepth 20000 in
theorem ggX11_rank_X11_isPair : GoodIn wsX11_rank wsX11_isPair := goodIn_r _ [5, 6, 7, 8, 4, 9, 10, 11, 12, 13, 14, 15, 16, 17, 18, 19, 20, 109, 110, 111, 112, 113, 114, 115, 116, 117, 118, 119, 120, 121] (by decide +kernel) (by decide +kernel)
set_option maxRecDepth 20000 in
theorem gX11_rank_X11_isPair : GoodIn wsX11_rank (wsV RX11 236 RX11 yX11_isPair wsX11_isPair) := goodIn_app (goodIn_of _ (by decide +kernel)) ggX11_rank_X11_isPair
set_option maxRecDepth 20000 in
theorem ggX11_rank_X11_sightOf : GoodIn wsX11_rank wsX11_sightOf := goodIn_r _ [9, 10, 11, 12, 4, 13, 14, 15, 16, 17, 18, 19, 20, 109, 110, 111, 112, 113, 114, 115, 116, 117, 118, 119, 120, 121] (by decide +kernel) (by decide +kernel)
set_option maxRecDepth 20000 in
theorem gX11_rank_X11_sightOf : GoodIn wsX11_rank (wsV RX11 212 RX11 yX11_sightOf wsX11_sightOf) := goodIn_app (goodIn_of _ (by decide +kernel)) ggX11_rank_X11_sightOf
set_option maxRecDepth 20000 in
theorem ggX11_rank_X11_isBlurred : GoodIn wsX11_rank wsX11_isBlurred := goodIn_r _ [23, 24, 122, 123, 124, 125, 126, 127] (by decide +kernel) (by decide +kernel)
set_option maxRecDepth 20000 in
theorem gX11_rank_X11_isBlurred : GoodIn wsX11_rank (va_wsS RX11 243 yX11_isBlurred wsX11_isBlurred) := goodIn_app (goodIn_of _ (by decide +kernel)) ggX11_rank_X11_isBlurred
set_option maxRecDepth 20000 in
theorem ggX11_rank_X11_meetingOf : GoodIn wsX11_rank wsX11_meetingOf := goodIn_r _ [28, 29, 30, 31, 32, 33, 34, 35, 36, 37, 38, 39, 40, 41, 42, 43, 44, 45, 46, 47, 48, 49, 50, 51, 52, 53, 54, 55, 56, 57, 58, 59, 60, 61, 62, 63, 64, 65, 66, 67, 68, 69, 70, 122, 123, 124, 125, 126, 127, 109, 110, 111, 112, 113, 114, 115, 116, 117, 118, 119, 128, 129, 130, 131, 132] (by decide +kernel) (by decide +kernel)
set_option maxRecDepth 20000 in
theorem gX11_rank_X11_meetingOf : GoodIn wsX11_rank (wsV RX11 247 RX11 yX11_meetingOf wsX11_meetingOf) := goodIn_app (goodIn_of _ (by decide +kernel)) ggX11_rank_X11_meetingOf
set_option maxRecDepth 20000 in
theorem ggX11_rank_X11_planeOf : GoodIn wsX11_rank wsX11_planeOf := goodIn_r _ [74, 29, 6, 7, 8, 4, 9, 10, 11, 12, 13, 14, 15, 16, 17, 18, 19, 20, 122, 123, 124, 125, 126, 127, 109, 110, 111, 112, 113, 114, 115, 116, 117, 118, 119, 120, 121] (by decide +kernel) (by decide +kernel)
set_option maxRecDepth 20000 in
theorem gX11_rank_X11_planeOf : GoodIn wsX11_rank (wsV RX11 257 RX11 yX11_planeOf wsX11_planeOf) := goodIn_app (goodIn_of _ (by decide +kernel)) ggX11_rank_X11_planeOf
set_option maxRecDepth 20000 in
theorem ggX11_rank_X11_crossing : GoodIn wsX11_rank wsX11_crossing := goodIn_r _ [77, 78, 79, 80, 40, 81, 49, 50, 43, 44, 42, 51, 52, 53, 54, 55, 56, 82, 83, 84, 85, 130, 131, 132] (by decide +kernel) (by decide +kernel)
set_option maxRecDepth 20000 in
theorem gX11_rank_X11_crossing : GoodIn wsX11_rank (va_wsS RX11 261 yX11_crossing wsX11_crossing) := goodIn_app (goodIn_of _ (by decide +kernel)) ggX11_rank_X11_crossing
set_option maxRecDepth 20000 in
theorem ggX11_rank_X11_angleOf : GoodIn wsX11_rank wsX11_angleOf := goodIn_r _ [88, 89, 90, 91, 37, 38, 39, 40, 41, 42, 43, 44, 92, 93, 94, 95, 55, 56, 96, 97, 98, 99, 100, 101, 102, 103, 104, 105, 106, 107, 108, 133, 134, 130, 131, 132] (by decide +kernel) (by decide +kernel)
set_option maxRecDepth 20000 in
theorem gX11_rank_X11_angleOf : GoodIn wsX11_rank (va_wsS RX11 265 yX11_angleOf wsX11_angleOf) := goodIn_app (goodIn_of _ (by decide +kernel)) ggX11_rank_X11_angleOf
theorem dX11_rank_0 : decode cX11_rank 0 = .ok (.aload_n 0, 1) := by decide +kernel
theorem dX11_rank_1 : decode cX11_rank 1 = .ok (.iload_n 1, 1) := by decide +kernel
theorem dX11_rank_2 : decode cX11_rank 2 = .ok (.iload_n 2, 1) := by decide +kernel
theorem dX11_rank_3 : decode cX11_rank 3 = .ok (.iload_n 3, 1) := by decide +kernel
theorem dX11_rank_4 : decode cX11_rank 4 = .ok (.invokevirtual 236, 3) := by decide +kernel
theorem dX11_rank_7 : decode cX11_rank 7 = .ok (.ifCond .ne 5, 3) := by decide +kernel
theorem dX11_rank_10 : decode cX11_rank 10 = .ok (.aconst_null, 1) := by decide +kernel
theorem dX11_rank_11 : decode cX11_rank 11 = .ok (.areturn, 1) := by decide +kernel
theorem dX11_rank_12 : decode cX11_rank 12 = .ok (.aload_n 0, 1) := by decide +kernel
theorem dX11_rank_13 : decode cX11_rank 13 = .ok (.iload_n 1, 1) := by decide +kernel
theorem dX11_rank_14 : decode cX11_rank 14 = .ok (.iload_n 2, 1) := by decide +kernel
theorem dX11_rank_15 : decode cX11_rank 15 = .ok (.invokevirtual 212, 3) := by decide +kernel
theorem dX11_rank_18 : decode cX11_rank 18 = .ok (.astore 4, 2) := by decide +kernel
theorem dX11_rank_20 : decode cX11_rank 20 = .ok (.aload_n 0, 1) := by decide +kernel
theorem dX11_rank_21 : decode cX11_rank 21 = .ok (.iload_n 1, 1) := by decide +kernel
theorem dX11_rank_22 : decode cX11_rank 22 = .ok (.iload_n 3, 1) := by decide +kernel
theorem dX11_rank_23 : decode cX11_rank 23 = .ok (.invokevirtual 212, 3) := by decide +kernel
theorem dX11_rank_26 : decode cX11_rank 26 = .ok (.astore 5, 2) := by decide +kernel
theorem dX11_rank_28 : decode cX11_rank 28 = .ok (.aload 4, 2) := by decide +kernel
theorem dX11_rank_30 : decode cX11_rank 30 = .ok (.invokestatic 243, 3) := by decide +kernel
theorem dX11_rank_33 : decode cX11_rank 33 = .ok (.ifCond .ne 15, 3) := by decide +kernel
theorem dX11_rank_36 : decode cX11_rank 36 = .ok (.aload_n 0, 1) := by decide +kernel
theorem dX11_rank_37 : decode cX11_rank 37 = .ok (.aload 4, 2) := by decide +kernel
theorem dX11_rank_39 : decode cX11_rank 39 = .ok (.aload 5, 2) := by decide +kernel
theorem dX11_rank_41 : decode cX11_rank 41 = .ok (.iconst 0, 1) := by decide +kernel
theorem dX11_rank_42 : decode cX11_rank 42 = .ok (.invokevirtual 247, 3) := by decide +kernel
theorem dX11_rank_45 : decode cX11_rank 45 = .ok (.ifnonnull 5, 3) := by decide +kernel
theorem dX11_rank_48 : decode cX11_rank 48 = .ok (.aconst_null, 1) := by decide +kernel
theorem dX11_rank_49 : decode cX11_rank 49 = .ok (.areturn, 1) := by decide +kernel
theorem dX11_rank_50 : decode cX11_rank 50 = .ok (.aload_n 0, 1) := by decide +kernel
theorem dX11_rank_51 : decode cX11_rank 51 = .ok (.iload_n 1, 1) := by decide +kernel
theorem dX11_rank_52 : decode cX11_rank 52 = .ok (.iload_n 2, 1) := by decide +kernel
theorem dX11_rank_53 : decode cX11_rank 53 = .ok (.invokevirtual 257, 3) := by decide +kernel
theorem dX11_rank_56 : decode cX11_rank 56 = .ok (.astore 6, 2) := by decide +kernel
theorem dX11_rank_58 : decode cX11_rank 58 = .ok (.aload_n 0, 1) := by decide +kernel
theorem dX11_rank_59 : decode cX11_rank 59 = .ok (.iload_n 1, 1) := by decide +kernel
theorem dX11_rank_60 : decode cX11_rank 60 = .ok (.iload_n 3, 1) := by decide +kernel
theorem dX11_rank_61 : decode cX11_rank 61 = .ok (.invokevirtual 257, 3) := by decide +kernel
theorem dX11_rank_64 : decode cX11_rank 64 = .ok (.astore 7, 2) := by decide +kernel
theorem dX11_rank_66 : decode cX11_rank 66 = .ok (.aload 6, 2) := by decide +kernel
theorem dX11_rank_68 : decode cX11_rank 68 = .ok (.aload 7, 2) := by decide +kernel
theorem dX11_rank_70 : decode cX11_rank 70 = .ok (.invokestatic 261, 3) := by decide +kernel
theorem dX11_rank_73 : decode cX11_rank 73 = .ok (.ifnonnull 7, 3) := by decide +kernel
theorem dX11_rank_76 : decode cX11_rank 76 = .ok (.aconst_null, 1) := by decide +kernel
theorem dX11_rank_77 : decode cX11_rank 77 = .ok (.goto 10, 3) := by decide +kernel
theorem dX11_rank_80 : decode cX11_rank 80 = .ok (.aload 6, 2) := by decide +kernel
theorem dX11_rank_82 : decode cX11_rank 82 = .ok (.aload 7, 2) := by decide +kernel
theorem dX11_rank_84 : decode cX11_rank 84 = .ok (.invokestatic 265, 3) := by decide +kernel
theorem dX11_rank_87 : decode cX11_rank 87 = .ok (.areturn, 1) := by decide +kernel
set_option maxRecDepth 20000 in
theorem ggX11_land_X11_isPair : GoodIn wsX11_land wsX11_isPair := goodIn_r _ [6, 7, 8, 9, 5, 10, 11, 12, 13, 14, 15, 16, 17, 18, 19, 20, 21, 129, 130, 131, 132, 133, 134, 135, 136, 137, 138, 139, 140, 141] (by decide +kernel) (by decide +kernel)
set_option maxRecDepth 20000 in
theorem gX11_land_X11_isPair : GoodIn wsX11_land (wsV RX11 236 RX11 yX11_isPair wsX11_isPair) := goodIn_app (goodIn_of _ (by decide +kernel)) ggX11_land_X11_isPair
set_option maxRecDepth 20000 in
theorem ggX11_land_X11_finding : GoodIn wsX11_land wsX11_finding := goodIn_r _ [25, 26, 27, 129, 130, 131, 132, 133, 134, 135, 136, 137, 138, 139] (by decide +kernel) (by decide +kernel)
set_option maxRecDepth 20000 in
theorem gX11_land_X11_finding : GoodIn wsX11_land (wsV RX11 85 RX11 yX11_finding wsX11_finding) := goodIn_app (goodIn_of _ (by decide +kernel)) ggX11_land_X11_finding
set_option maxRecDepth 20000 in
theorem ggX11_land_X11_sightOf : GoodIn wsX11_land wsX11_sightOf := goodIn_r _ [10, 11, 12, 13, 5, 14, 15, 16, 17, 18, 19, 20, 21, 129, 130, 131, 132, 133, 134, 135, 136, 137, 138, 139, 140, 141] (by decide +kernel) (by decide +kernel)
set_option maxRecDepth 20000 in
theorem gX11_land_X11_sightOf : GoodIn wsX11_land (wsV RX11 212 RX11 yX11_sightOf wsX11_sightOf) := goodIn_app (goodIn_of _ (by decide +kernel)) ggX11_land_X11_sightOf
set_option maxRecDepth 20000 in
theorem ggX11_land_X11_isBlurred : GoodIn wsX11_land wsX11_isBlurred := goodIn_r _ [30, 31, 142, 143, 144, 145, 146, 147] (by decide +kernel) (by decide +kernel)
set_option maxRecDepth 20000 in
theorem gX11_land_X11_isBlurred : GoodIn wsX11_land (va_wsS RX11 243 yX11_isBlurred wsX11_isBlurred) := goodIn_app (goodIn_of _ (by decide +kernel)) ggX11_land_X11_isBlurred
set_option maxRecDepth 20000 in
theorem ggX11_land_X11_meetingOf : GoodIn wsX11_land wsX11_meetingOf := goodIn_r _ [35, 36, 37, 38, 39, 40, 41, 42, 43, 44, 45, 46, 47, 48, 49, 50, 51, 52, 53, 54, 55, 56, 57, 58, 59, 60, 61, 62, 63, 64, 65, 66, 67, 68, 69, 70, 71, 72, 73, 74, 75, 76, 77, 142, 143, 144, 145, 146, 147, 129, 130, 131, 132, 133, 134, 135, 136, 137, 138, 139, 148, 149, 126, 127, 128] (by decide +kernel) (by decide +kernel)
set_option maxRecDepth 20000 in
theorem gX11_land_X11_meetingOf : GoodIn wsX11_land (wsV RX11 247 RX11 yX11_meetingOf wsX11_meetingOf) := goodIn_app (goodIn_of _ (by decide +kernel)) ggX11_land_X11_meetingOf
set_option maxRecDepth 20000 in
theorem ggX11_land_X11_planeOf : GoodIn wsX11_land wsX11_planeOf := goodIn_r _ [81, 36, 7, 8, 9, 5, 10, 11, 12, 13, 14, 15, 16, 17, 18, 19, 20, 21, 142, 143, 144, 145, 146, 147, 129, 130, 131, 132, 133, 134, 135, 136, 137, 138, 139, 140, 141] (by decide +kernel) (by decide +kernel)
set_option maxRecDepth 20000 in
theorem gX11_land_X11_planeOf : GoodIn wsX11_land (wsV RX11 257 RX11 yX11_planeOf wsX11_planeOf) := goodIn_app (goodIn_of _ (by decide +kernel)) ggX11_land_X11_planeOf
set_option maxRecDepth 20000 in
theorem ggX11_land_X11_crossing : GoodIn wsX11_land wsX11_crossing := goodIn_r _ [84, 85, 86, 87, 47, 88, 56, 57, 50, 51, 49, 58, 59, 60, 61, 62, 63, 89, 90, 91, 92, 126, 127, 128] (by decide +kernel) (by decide +kernel)
set_option maxRecDepth 20000 in
theorem gX11_land_X11_crossing : GoodIn wsX11_land (va_wsS RX11 261 yX11_crossing wsX11_crossing) := goodIn_app (goodIn_of _ (by decide +kernel)) ggX11_land_X11_crossing
set_option maxRecDepth 20000 in
theorem ggX11_land_X11_landing : GoodIn wsX11_land wsX11_landing := goodIn_r _ [95, 96, 1, 97, 98, 99, 100, 101, 102, 103, 47, 104, 49, 50, 51, 105, 106, 107, 108, 62, 63, 109, 110, 111, 112, 113, 114, 115, 116, 117, 118, 119, 120, 121, 148, 149, 126, 127, 128, 150, 151] (by decide +kernel) (by decide +kernel)
set_option maxRecDepth 20000 in
theorem gX11_land_X11_landing : GoodIn wsX11_land (va_wsS RX11 283 yX11_landing wsX11_landing) := goodIn_app (goodIn_of _ (by decide +kernel)) ggX11_land_X11_landing
set_option maxRecDepth 20000 in
theorem ggX11_land_X0_side : GoodIn wsX11_land wsX0_side := goodIn_r _ [125, 118, 117, 150, 151] (by decide +kernel) (by decide +kernel)
set_option maxRecDepth 20000 in
theorem gX11_land_X0_side : GoodIn wsX11_land (wsV RX11 170 RX0 yX0_side wsX0_side) := goodIn_app (goodIn_of _ (by decide +kernel)) ggX11_land_X0_side
theorem dX11_land_0 : decode cX11_land 0 = .ok (.aload_n 0, 1) := by decide +kernel
theorem dX11_land_1 : decode cX11_land 1 = .ok (.iload_n 1, 1) := by decide +kernel
theorem dX11_land_2 : decode cX11_land 2 = .ok (.iload_n 2, 1) := by decide +kernel
theorem dX11_land_3 : decode cX11_land 3 = .ok (.iload_n 3, 1) := by decide +kernel
theorem dX11_land_4 : decode cX11_land 4 = .ok (.invokevirtual 236, 3) := by decide +kernel
theorem dX11_land_7 : decode cX11_land 7 = .ok (.ifCond .ne 9, 3) := by decide +kernel
theorem dX11_land_10 : decode cX11_land 10 = .ok (.aload_n 0, 1) := by decide +kernel
theorem dX11_land_11 : decode cX11_land 11 = .ok (.iconst 1, 1) := by decide +kernel
theorem dX11_land_12 : decode cX11_land 12 = .ok (.invokevirtual 85, 3) := by decide +kernel
theorem dX11_land_15 : decode cX11_land 15 = .ok (.lreturn, 1) := by decide +kernel
theorem dX11_land_16 : decode cX11_land 16 = .ok (.aload_n 0, 1) := by decide +kernel
theorem dX11_land_17 : decode cX11_land 17 = .ok (.iload_n 1, 1) := by decide +kernel
theorem dX11_land_18 : decode cX11_land 18 = .ok (.iload_n 2, 1) := by decide +kernel
theorem dX11_land_19 : decode cX11_land 19 = .ok (.invokevirtual 212, 3) := by decide +kernel
theorem dX11_land_22 : decode cX11_land 22 = .ok (.astore 6, 2) := by decide +kernel
theorem dX11_land_24 : decode cX11_land 24 = .ok (.aload 6, 2) := by decide +kernel
theorem dX11_land_26 : decode cX11_land 26 = .ok (.invokestatic 243, 3) := by decide +kernel
theorem dX11_land_29 : decode cX11_land 29 = .ok (.ifCond .eq 9, 3) := by decide +kernel
theorem dX11_land_32 : decode cX11_land 32 = .ok (.aload_n 0, 1) := by decide +kernel
theorem dX11_land_33 : decode cX11_land 33 = .ok (.iconst 3, 1) := by decide +kernel
theorem dX11_land_34 : decode cX11_land 34 = .ok (.invokevirtual 85, 3) := by decide +kernel
theorem dX11_land_37 : decode cX11_land 37 = .ok (.lreturn, 1) := by decide +kernel
theorem dX11_land_38 : decode cX11_land 38 = .ok (.aload_n 0, 1) := by decide +kernel
theorem dX11_land_39 : decode cX11_land 39 = .ok (.aload 6, 2) := by decide +kernel
theorem dX11_land_41 : decode cX11_land 41 = .ok (.aload_n 0, 1) := by decide +kernel
theorem dX11_land_42 : decode cX11_land 42 = .ok (.iload_n 1, 1) := by decide +kernel
theorem dX11_land_43 : decode cX11_land 43 = .ok (.iload_n 3, 1) := by decide +kernel
theorem dX11_land_44 : decode cX11_land 44 = .ok (.invokevirtual 212, 3) := by decide +kernel
theorem dX11_land_47 : decode cX11_land 47 = .ok (.iconst 0, 1) := by decide +kernel
theorem dX11_land_48 : decode cX11_land 48 = .ok (.invokevirtual 247, 3) := by decide +kernel
theorem dX11_land_51 : decode cX11_land 51 = .ok (.astore 7, 2) := by decide +kernel
theorem dX11_land_53 : decode cX11_land 53 = .ok (.aload_n 0, 1) := by decide +kernel
theorem dX11_land_54 : decode cX11_land 54 = .ok (.iload_n 1, 1) := by decide +kernel
theorem dX11_land_55 : decode cX11_land 55 = .ok (.iload_n 2, 1) := by decide +kernel
theorem dX11_land_56 : decode cX11_land 56 = .ok (.invokevirtual 257, 3) := by decide +kernel
theorem dX11_land_59 : decode cX11_land 59 = .ok (.aload_n 0, 1) := by decide +kernel
theorem dX11_land_60 : decode cX11_land 60 = .ok (.iload_n 1, 1) := by decide +kernel
theorem dX11_land_61 : decode cX11_land 61 = .ok (.iload_n 3, 1) := by decide +kernel
theorem dX11_land_62 : decode cX11_land 62 = .ok (.invokevirtual 257, 3) := by decide +kernel
theorem dX11_land_65 : decode cX11_land 65 = .ok (.invokestatic 261, 3) := by decide +kernel
theorem dX11_land_68 : decode cX11_land 68 = .ok (.astore 8, 2) := by decide +kernel
theorem dX11_land_70 : decode cX11_land 70 = .ok (.aload 7, 2) := by decide +kernel
theorem dX11_land_72 : decode cX11_land 72 = .ok (.ifnull 18, 3) := by decide +kernel
theorem dX11_land_75 : decode cX11_land 75 = .ok (.aload 8, 2) := by decide +kernel
theorem dX11_land_77 : decode cX11_land 77 = .ok (.ifnull 13, 3) := by decide +kernel
theorem dX11_land_80 : decode cX11_land 80 = .ok (.aload 8, 2) := by decide +kernel
theorem dX11_land_82 : decode cX11_land 82 = .ok (.getfield 279, 3) := by decide +kernel
theorem dX11_land_85 : decode cX11_land 85 = .ok (.lconst 0, 1) := by decide +kernel
theorem dX11_land_86 : decode cX11_land 86 = .ok (.lcmp, 1) := by decide +kernel
theorem dX11_land_87 : decode cX11_land 87 = .ok (.ifCond .ne 9, 3) := by decide +kernel
theorem dX11_land_90 : decode cX11_land 90 = .ok (.aload_n 0, 1) := by decide +kernel
theorem dX11_land_91 : decode cX11_land 91 = .ok (.iconst 2, 1) := by decide +kernel
theorem dX11_land_92 : decode cX11_land 92 = .ok (.invokevirtual 85, 3) := by decide +kernel
theorem dX11_land_95 : decode cX11_land 95 = .ok (.lreturn, 1) := by decide +kernel
theorem dX11_land_96 : decode cX11_land 96 = .ok (.aload 7, 2) := by decide +kernel
theorem dX11_land_98 : decode cX11_land 98 = .ok (.aload 8, 2) := by decide +kernel
theorem dX11_land_100 : decode cX11_land 100 = .ok (.iload 4, 2) := by decide +kernel
theorem dX11_land_102 : decode cX11_land 102 = .ok (.ifCond .eq 7, 3) := by decide +kernel
theorem dX11_land_105 : decode cX11_land 105 = .ok (.iconst 1, 1) := by decide +kernel
theorem dX11_land_106 : decode cX11_land 106 = .ok (.goto 4, 3) := by decide +kernel
theorem dX11_land_109 : decode cX11_land 109 = .ok (.iconst 0, 1) := by decide +kernel
theorem dX11_land_110 : decode cX11_land 110 = .ok (.invokestatic 283, 3) := by decide +kernel
theorem dX11_land_113 : decode cX11_land 113 = .ok (.iload 5, 2) := by decide +kernel
theorem dX11_land_115 : decode cX11_land 115 = .ok (.invokevirtual 170, 3) := by decide +kernel
theorem dX11_land_118 : decode cX11_land 118 = .ok (.lreturn, 1) := by decide +kernel
set_option maxRecDepth 20000 in
theorem ggX11_landing_X10_along : GoodIn wsX11_landing wsX10_along := goodIn_r _ [11, 12, 13, 14, 36, 37, 38] (by decide +kernel) (by decide +kernel)
set_option maxRecDepth 20000 in
theorem gX11_landing_X10_along : GoodIn wsX11_landing (wsV RX11 233 RX10 yX10_along wsX10_along) := goodIn_app (goodIn_of _ (by decide +kernel)) ggX11_landing_X10_along
set_option maxRecDepth 20000 in
theorem ggX11_landing_X0_init : GoodIn wsX11_landing wsX0_init := goodIn_r _ [17, 18, 19, 20, 21, 22, 23, 24, 25, 26, 27, 28, 29, 30, 31, 32, 5, 33, 39, 40] (by decide +kernel) (by decide +kernel)
set_option maxRecDepth 20000 in
theorem gX11_landing_X0_init : GoodIn wsX11_landing (wsX0_init) := ggX11_landing_X0_init
theorem dX11_landing_0 : decode cX11_landing 0 = .ok (.aload_n 0, 1) := by decide +kernel
theorem dX11_landing_1 : decode cX11_landing 1 = .ok (.getfield 287, 3) := by decide +kernel
theorem dX11_landing_4 : decode cX11_landing 4 = .ok (.iload_n 2, 1) := by decide +kernel
theorem dX11_landing_5 : decode cX11_landing 5 = .ok (.invokevirtual 233, 3) := by decide +kernel
theorem dX11_landing_8 : decode cX11_landing 8 = .ok (.aload_n 1, 1) := by decide +kernel
theorem dX11_landing_9 : decode cX11_landing 9 = .ok (.getfield 279, 3) := by decide +kernel
theorem dX11_landing_12 : decode cX11_landing 12 = .ok (.lmul, 1) := by decide +kernel
theorem dX11_landing_13 : decode cX11_landing 13 = .ok (.aload_n 0, 1) := by decide +kernel
theorem dX11_landing_14 : decode cX11_landing 14 = .ok (.getfield 287, 3) := by decide +kernel
theorem dX11_landing_17 : decode cX11_landing 17 = .ok (.getfield 279, 3) := by decide +kernel
theorem dX11_landing_20 : decode cX11_landing 20 = .ok (.aload_n 1, 1) := by decide +kernel
theorem dX11_landing_21 : decode cX11_landing 21 = .ok (.iload_n 2, 1) := by decide +kernel
theorem dX11_landing_22 : decode cX11_landing 22 = .ok (.invokevirtual 233, 3) := by decide +kernel
theorem dX11_landing_25 : decode cX11_landing 25 = .ok (.lmul, 1) := by decide +kernel
theorem dX11_landing_26 : decode cX11_landing 26 = .ok (.lsub, 1) := by decide +kernel
theorem dX11_landing_27 : decode cX11_landing 27 = .ok (.lstore_n 3, 1) := by decide +kernel
theorem dX11_landing_28 : decode cX11_landing 28 = .ok (.new 171, 3) := by decide +kernel
theorem dX11_landing_31 : decode cX11_landing 31 = .ok (.dup, 1) := by decide +kernel
theorem dX11_landing_32 : decode cX11_landing 32 = .ok (.lload_n 3, 1) := by decide +kernel
theorem dX11_landing_33 : decode cX11_landing 33 = .ok (.aload_n 0, 1) := by decide +kernel
theorem dX11_landing_34 : decode cX11_landing 34 = .ok (.getfield 290, 3) := by decide +kernel
theorem dX11_landing_37 : decode cX11_landing 37 = .ok (.aload_n 1, 1) := by decide +kernel
theorem dX11_landing_38 : decode cX11_landing 38 = .ok (.getfield 279, 3) := by decide +kernel
theorem dX11_landing_41 : decode cX11_landing 41 = .ok (.lmul, 1) := by decide +kernel
theorem dX11_landing_42 : decode cX11_landing 42 = .ok (.invokespecial 293, 3) := by decide +kernel
theorem dX11_landing_45 : decode cX11_landing 45 = .ok (.areturn, 1) := by decide +kernel
set_option maxRecDepth 20000 in
theorem ggX11_wind_X11_within : GoodIn wsX11_wind wsX11_within := goodIn_r _ [6] (by decide +kernel) (by decide +kernel)
set_option maxRecDepth 20000 in
theorem gX11_wind_X11_within : GoodIn wsX11_wind (va_wsS RX11 179 yX11_within wsX11_within) := goodIn_app (goodIn_of _ (by decide +kernel)) ggX11_wind_X11_within
set_option maxRecDepth 20000 in
theorem ggX11_wind_X11_finding : GoodIn wsX11_wind wsX11_finding := goodIn_r _ [10, 11, 12, 13, 14, 15, 16, 17, 18, 19, 20, 21, 22, 23] (by decide +kernel) (by decide +kernel)
set_option maxRecDepth 20000 in
theorem gX11_wind_X11_finding : GoodIn wsX11_wind (wsV RX11 85 RX11 yX11_finding wsX11_finding) := goodIn_app (goodIn_of _ (by decide +kernel)) ggX11_wind_X11_finding
theorem dX11_wind_0 : decode cX11_wind 0 = .ok (.iload_n 1, 1) := by decide +kernel
theorem dX11_wind_1 : decode cX11_wind 1 = .ok (.ifCond .lt 27, 3) := by decide +kernel
theorem dX11_wind_4 : decode cX11_wind 4 = .ok (.iload_n 1, 1) := by decide +kernel
theorem dX11_wind_5 : decode cX11_wind 5 = .ok (.bipush 10, 2) := by decide +kernel
theorem dX11_wind_7 : decode cX11_wind 7 = .ok (.if_icmp .ge 21, 3) := by decide +kernel
theorem dX11_wind_10 : decode cX11_wind 10 = .ok (.iload_n 2, 1) := by decide +kernel
theorem dX11_wind_11 : decode cX11_wind 11 = .ok (.bipush 9, 2) := by decide +kernel
theorem dX11_wind_13 : decode cX11_wind 13 = .ok (.invokestatic 179, 3) := by decide +kernel
theorem dX11_wind_16 : decode cX11_wind 16 = .ok (.ifCond .eq 12, 3) := by decide +kernel
theorem dX11_wind_19 : decode cX11_wind 19 = .ok (.iload_n 3, 1) := by decide +kernel
theorem dX11_wind_20 : decode cX11_wind 20 = .ok (.bipush 9, 2) := by decide +kernel
theorem dX11_wind_22 : decode cX11_wind 22 = .ok (.invokestatic 179, 3) := by decide +kernel
theorem dX11_wind_25 : decode cX11_wind 25 = .ok (.ifCond .ne 9, 3) := by decide +kernel
theorem dX11_wind_28 : decode cX11_wind 28 = .ok (.aload_n 0, 1) := by decide +kernel
theorem dX11_wind_29 : decode cX11_wind 29 = .ok (.iconst 1, 1) := by decide +kernel
theorem dX11_wind_30 : decode cX11_wind 30 = .ok (.invokevirtual 85, 3) := by decide +kernel
theorem dX11_wind_33 : decode cX11_wind 33 = .ok (.lreturn, 1) := by decide +kernel
theorem dX11_wind_34 : decode cX11_wind 34 = .ok (.aload_n 0, 1) := by decide +kernel
theorem dX11_wind_35 : decode cX11_wind 35 = .ok (.getfield 67, 3) := by decide +kernel
theorem dX11_wind_38 : decode cX11_wind 38 = .ok (.iload_n 1, 1) := by decide +kernel
theorem dX11_wind_39 : decode cX11_wind 39 = .ok (.iload_n 2, 1) := by decide +kernel
theorem dX11_wind_40 : decode cX11_wind 40 = .ok (.iastore, 1) := by decide +kernel
theorem dX11_wind_41 : decode cX11_wind 41 = .ok (.aload_n 0, 1) := by decide +kernel
theorem dX11_wind_42 : decode cX11_wind 42 = .ok (.getfield 71, 3) := by decide +kernel
theorem dX11_wind_45 : decode cX11_wind 45 = .ok (.iload_n 1, 1) := by decide +kernel
theorem dX11_wind_46 : decode cX11_wind 46 = .ok (.iload_n 3, 1) := by decide +kernel
theorem dX11_wind_47 : decode cX11_wind 47 = .ok (.iastore, 1) := by decide +kernel
theorem dX11_wind_48 : decode cX11_wind 48 = .ok (.lconst 1, 1) := by decide +kernel
theorem dX11_wind_49 : decode cX11_wind 49 = .ok (.lreturn, 1) := by decide +kernel
set_option maxRecDepth 20000 in
theorem ggX11_drift_X11_isPair : GoodIn wsX11_drift wsX11_isPair := goodIn_r _ [10, 11, 12, 13, 9, 14, 15, 16, 17, 18, 19, 20, 21, 22, 23, 24, 25, 125, 126, 127, 128, 129, 130, 131, 132, 133, 134, 135, 136, 137] (by decide +kernel) (by decide +kernel)
set_option maxRecDepth 20000 in
theorem gX11_drift_X11_isPair : GoodIn wsX11_drift (wsV RX11 236 RX11 yX11_isPair wsX11_isPair) := goodIn_app (goodIn_of _ (by decide +kernel)) ggX11_drift_X11_isPair
set_option maxRecDepth 20000 in
theorem ggX11_drift_X11_finding : GoodIn wsX11_drift wsX11_finding := goodIn_r _ [29, 30, 31, 125, 126, 127, 128, 129, 130, 131, 132, 133, 134, 135] (by decide +kernel) (by decide +kernel)
set_option maxRecDepth 20000 in
theorem gX11_drift_X11_finding : GoodIn wsX11_drift (wsV RX11 85 RX11 yX11_finding wsX11_finding) := goodIn_app (goodIn_of _ (by decide +kernel)) ggX11_drift_X11_finding
set_option maxRecDepth 20000 in
theorem ggX11_drift_X11_sightOf : GoodIn wsX11_drift wsX11_sightOf := goodIn_r _ [14, 15, 16, 17, 9, 18, 19, 20, 21, 22, 23, 24, 25, 125, 126, 127, 128, 129, 130, 131, 132, 133, 134, 135, 136, 137] (by decide +kernel) (by decide +kernel)
set_option maxRecDepth 20000 in
theorem gX11_drift_X11_sightOf : GoodIn wsX11_drift (wsV RX11 212 RX11 yX11_sightOf wsX11_sightOf) := goodIn_app (goodIn_of _ (by decide +kernel)) ggX11_drift_X11_sightOf
set_option maxRecDepth 20000 in
theorem ggX11_drift_X11_isBlurred : GoodIn wsX11_drift wsX11_isBlurred := goodIn_r _ [34, 35, 138, 139, 140, 141, 142, 143] (by decide +kernel) (by decide +kernel)
set_option maxRecDepth 20000 in
theorem gX11_drift_X11_isBlurred : GoodIn wsX11_drift (va_wsS RX11 243 yX11_isBlurred wsX11_isBlurred) := goodIn_app (goodIn_of _ (by decide +kernel)) ggX11_drift_X11_isBlurred
set_option maxRecDepth 20000 in
theorem ggX11_drift_X11_meetingOf : GoodIn wsX11_drift wsX11_meetingOf := goodIn_r _ [39, 40, 41, 42, 43, 44, 45, 46, 47, 48, 49, 50, 51, 52, 53, 54, 55, 56, 57, 58, 59, 60, 61, 62, 63, 64, 65, 66, 67, 68, 69, 70, 71, 72, 73, 74, 75, 76, 77, 78, 79, 80, 81, 138, 139, 140, 141, 142, 143, 125, 126, 127, 128, 129, 130, 131, 132, 133, 134, 135, 144, 145, 146, 147, 148] (by decide +kernel) (by decide +kernel)
set_option maxRecDepth 20000 in
theorem gX11_drift_X11_meetingOf : GoodIn wsX11_drift (wsV RX11 247 RX11 yX11_meetingOf wsX11_meetingOf) := goodIn_app (goodIn_of _ (by decide +kernel)) ggX11_drift_X11_meetingOf
set_option maxRecDepth 20000 in
theorem ggX11_drift_X2_coordinate : GoodIn wsX11_drift wsX2_coordinate := goodIn_r _ [85, 86, 87, 88, 80, 81, 89, 90, 91, 51, 92, 53, 54, 55, 93, 94, 95, 96, 66, 67, 97, 98, 99, 100, 101, 102, 103, 104, 105, 106, 107, 108, 109, 123, 124, 144, 145, 146, 147, 148] (by decide +kernel) (by decide +kernel)
set_option maxRecDepth 20000 in
theorem gX11_drift_X2_coordinate : GoodIn wsX11_drift (wsV RX11 251 RX2 yX2_coordinate wsX2_coordinate) := goodIn_app (goodIn_of _ (by decide +kernel)) ggX11_drift_X2_coordinate
set_option maxRecDepth 20000 in
theorem ggX11_drift_X11_driftFrom : GoodIn wsX11_drift wsX11_driftFrom := goodIn_r _ [112, 3, 2, 1, 113, 102, 99, 103, 114, 115, 116, 117, 87, 88, 118, 94, 95, 96, 66, 67, 97, 98, 100, 101, 104, 105, 106, 107, 108, 109, 123, 124] (by decide +kernel) (by decide +kernel)
set_option maxRecDepth 20000 in
theorem gX11_drift_X11_driftFrom : GoodIn wsX11_drift (va_wsS RX11 299 yX11_driftFrom wsX11_driftFrom) := goodIn_app (goodIn_of _ (by decide +kernel)) ggX11_drift_X11_driftFrom
set_option maxRecDepth 20000 in
theorem ggX11_drift_X0_side : GoodIn wsX11_drift wsX0_side := goodIn_r _ [122, 106, 105, 123, 124] (by decide +kernel) (by decide +kernel)
set_option maxRecDepth 20000 in
theorem gX11_drift_X0_side : GoodIn wsX11_drift (wsV RX11 170 RX0 yX0_side wsX0_side) := goodIn_app (goodIn_of _ (by decide +kernel)) ggX11_drift_X0_side
theorem dX11_drift_0 : decode cX11_drift 0 = .ok (.aload_n 0, 1) := by decide +kernel
theorem dX11_drift_1 : decode cX11_drift 1 = .ok (.iload_n 1, 1) := by decide +kernel
theorem dX11_drift_2 : decode cX11_drift 2 = .ok (.iload_n 2, 1) := by decide +kernel
theorem dX11_drift_3 : decode cX11_drift 3 = .ok (.iload_n 3, 1) := by decide +kernel
theorem dX11_drift_4 : decode cX11_drift 4 = .ok (.invokevirtual 236, 3) := by decide +kernel
theorem dX11_drift_7 : decode cX11_drift 7 = .ok (.ifCond .ne 9, 3) := by decide +kernel
theorem dX11_drift_10 : decode cX11_drift 10 = .ok (.aload_n 0, 1) := by decide +kernel
theorem dX11_drift_11 : decode cX11_drift 11 = .ok (.iconst 1, 1) := by decide +kernel
theorem dX11_drift_12 : decode cX11_drift 12 = .ok (.invokevirtual 85, 3) := by decide +kernel
theorem dX11_drift_15 : decode cX11_drift 15 = .ok (.lreturn, 1) := by decide +kernel
theorem dX11_drift_16 : decode cX11_drift 16 = .ok (.aload_n 0, 1) := by decide +kernel
theorem dX11_drift_17 : decode cX11_drift 17 = .ok (.iload_n 1, 1) := by decide +kernel
theorem dX11_drift_18 : decode cX11_drift 18 = .ok (.iload_n 2, 1) := by decide +kernel
theorem dX11_drift_19 : decode cX11_drift 19 = .ok (.invokevirtual 212, 3) := by decide +kernel
theorem dX11_drift_22 : decode cX11_drift 22 = .ok (.astore 6, 2) := by decide +kernel
theorem dX11_drift_24 : decode cX11_drift 24 = .ok (.aload 6, 2) := by decide +kernel
theorem dX11_drift_26 : decode cX11_drift 26 = .ok (.invokestatic 243, 3) := by decide +kernel
theorem dX11_drift_29 : decode cX11_drift 29 = .ok (.ifCond .eq 9, 3) := by decide +kernel
theorem dX11_drift_32 : decode cX11_drift 32 = .ok (.aload_n 0, 1) := by decide +kernel
theorem dX11_drift_33 : decode cX11_drift 33 = .ok (.iconst 3, 1) := by decide +kernel
theorem dX11_drift_34 : decode cX11_drift 34 = .ok (.invokevirtual 85, 3) := by decide +kernel
theorem dX11_drift_37 : decode cX11_drift 37 = .ok (.lreturn, 1) := by decide +kernel
theorem dX11_drift_38 : decode cX11_drift 38 = .ok (.aload_n 0, 1) := by decide +kernel
theorem dX11_drift_39 : decode cX11_drift 39 = .ok (.aload 6, 2) := by decide +kernel
theorem dX11_drift_41 : decode cX11_drift 41 = .ok (.aload_n 0, 1) := by decide +kernel
theorem dX11_drift_42 : decode cX11_drift 42 = .ok (.iload_n 1, 1) := by decide +kernel
theorem dX11_drift_43 : decode cX11_drift 43 = .ok (.iload_n 3, 1) := by decide +kernel
theorem dX11_drift_44 : decode cX11_drift 44 = .ok (.invokevirtual 212, 3) := by decide +kernel
theorem dX11_drift_47 : decode cX11_drift 47 = .ok (.iconst 1, 1) := by decide +kernel
theorem dX11_drift_48 : decode cX11_drift 48 = .ok (.invokevirtual 247, 3) := by decide +kernel
