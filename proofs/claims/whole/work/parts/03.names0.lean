set_option maxRecDepth 20000 in
theorem ggX0_init_X0_commonDivisor : GoodIn wsX0_init wsX0_commonDivisor := goodIn_r _ [17] (by decide +kernel) (by decide +kernel)
set_option maxRecDepth 20000 in
theorem gX0_init_X0_commonDivisor : GoodIn wsX0_init (va_wsS RX0 13 yX0_commonDivisor wsX0_commonDivisor) := goodIn_app (goodIn_of _ (by decide +kernel)) ggX0_init_X0_commonDivisor
theorem dX0_init_0 : decode cX0_init 0 = .ok (.aload_n 0, 1) := by decide +kernel
theorem dX0_init_1 : decode cX0_init 1 = .ok (.invokespecial 1, 3) := by decide +kernel
theorem dX0_init_4 : decode cX0_init 4 = .ok (.lconst 1, 1) := by decide +kernel
theorem dX0_init_5 : decode cX0_init 5 = .ok (.lload_n 1, 1) := by decide +kernel
theorem dX0_init_6 : decode cX0_init 6 = .ok (.invokestatic 7, 3) := by decide +kernel
theorem dX0_init_9 : decode cX0_init 9 = .ok (.lload_n 3, 1) := by decide +kernel
theorem dX0_init_10 : decode cX0_init 10 = .ok (.invokestatic 7, 3) := by decide +kernel
theorem dX0_init_13 : decode cX0_init 13 = .ok (.invokestatic 13, 3) := by decide +kernel
theorem dX0_init_16 : decode cX0_init 16 = .ok (.invokestatic 19, 3) := by decide +kernel
theorem dX0_init_19 : decode cX0_init 19 = .ok (.lstore 5, 2) := by decide +kernel
theorem dX0_init_21 : decode cX0_init 21 = .ok (.lload_n 3, 1) := by decide +kernel
theorem dX0_init_22 : decode cX0_init 22 = .ok (.lconst 0, 1) := by decide +kernel
theorem dX0_init_23 : decode cX0_init 23 = .ok (.lcmp, 1) := by decide +kernel
theorem dX0_init_24 : decode cX0_init 24 = .ok (.ifCond .ge 9, 3) := by decide +kernel
theorem dX0_init_27 : decode cX0_init 27 = .ok (.ldc2_w 22, 3) := by decide +kernel
theorem dX0_init_30 : decode cX0_init 30 = .ok (.goto 4, 3) := by decide +kernel
theorem dX0_init_33 : decode cX0_init 33 = .ok (.lconst 1, 1) := by decide +kernel
theorem dX0_init_34 : decode cX0_init 34 = .ok (.lstore 7, 2) := by decide +kernel
theorem dX0_init_36 : decode cX0_init 36 = .ok (.aload_n 0, 1) := by decide +kernel
theorem dX0_init_37 : decode cX0_init 37 = .ok (.lload 7, 2) := by decide +kernel
theorem dX0_init_39 : decode cX0_init 39 = .ok (.lload_n 1, 1) := by decide +kernel
theorem dX0_init_40 : decode cX0_init 40 = .ok (.lload 5, 2) := by decide +kernel
theorem dX0_init_42 : decode cX0_init 42 = .ok (.ldiv, 1) := by decide +kernel
theorem dX0_init_43 : decode cX0_init 43 = .ok (.lmul, 1) := by decide +kernel
theorem dX0_init_44 : decode cX0_init 44 = .ok (.putfield 24, 3) := by decide +kernel
theorem dX0_init_47 : decode cX0_init 47 = .ok (.aload_n 0, 1) := by decide +kernel
theorem dX0_init_48 : decode cX0_init 48 = .ok (.lload 7, 2) := by decide +kernel
theorem dX0_init_50 : decode cX0_init 50 = .ok (.lload_n 3, 1) := by decide +kernel
theorem dX0_init_51 : decode cX0_init 51 = .ok (.lload 5, 2) := by decide +kernel
theorem dX0_init_53 : decode cX0_init 53 = .ok (.ldiv, 1) := by decide +kernel
theorem dX0_init_54 : decode cX0_init 54 = .ok (.lmul, 1) := by decide +kernel
theorem dX0_init_55 : decode cX0_init 55 = .ok (.putfield 28, 3) := by decide +kernel
theorem dX0_init_58 : decode cX0_init 58 = .ok (.return_, 1) := by decide +kernel
theorem dX0_side_0 : decode cX0_side 0 = .ok (.iload_n 1, 1) := by decide +kernel
theorem dX0_side_1 : decode cX0_side 1 = .ok (.ifCond .eq 10, 3) := by decide +kernel
theorem dX0_side_4 : decode cX0_side 4 = .ok (.aload_n 0, 1) := by decide +kernel
theorem dX0_side_5 : decode cX0_side 5 = .ok (.getfield 28, 3) := by decide +kernel
theorem dX0_side_8 : decode cX0_side 8 = .ok (.goto 7, 3) := by decide +kernel
theorem dX0_side_11 : decode cX0_side 11 = .ok (.aload_n 0, 1) := by decide +kernel
theorem dX0_side_12 : decode cX0_side 12 = .ok (.getfield 24, 3) := by decide +kernel
theorem dX0_side_15 : decode cX0_side 15 = .ok (.lreturn, 1) := by decide +kernel
theorem dX0_isLess_0 : decode cX0_isLess 0 = .ok (.aload_n 0, 1) := by decide +kernel
theorem dX0_isLess_1 : decode cX0_isLess 1 = .ok (.getfield 24, 3) := by decide +kernel
theorem dX0_isLess_4 : decode cX0_isLess 4 = .ok (.aload_n 1, 1) := by decide +kernel
theorem dX0_isLess_5 : decode cX0_isLess 5 = .ok (.getfield 28, 3) := by decide +kernel
theorem dX0_isLess_8 : decode cX0_isLess 8 = .ok (.lmul, 1) := by decide +kernel
theorem dX0_isLess_9 : decode cX0_isLess 9 = .ok (.aload_n 1, 1) := by decide +kernel
theorem dX0_isLess_10 : decode cX0_isLess 10 = .ok (.getfield 24, 3) := by decide +kernel
theorem dX0_isLess_13 : decode cX0_isLess 13 = .ok (.aload_n 0, 1) := by decide +kernel
theorem dX0_isLess_14 : decode cX0_isLess 14 = .ok (.getfield 28, 3) := by decide +kernel
theorem dX0_isLess_17 : decode cX0_isLess 17 = .ok (.lmul, 1) := by decide +kernel
theorem dX0_isLess_18 : decode cX0_isLess 18 = .ok (.lcmp, 1) := by decide +kernel
theorem dX0_isLess_19 : decode cX0_isLess 19 = .ok (.ifCond .ge 7, 3) := by decide +kernel
theorem dX0_isLess_22 : decode cX0_isLess 22 = .ok (.iconst 1, 1) := by decide +kernel
theorem dX0_isLess_23 : decode cX0_isLess 23 = .ok (.goto 4, 3) := by decide +kernel
theorem dX0_isLess_26 : decode cX0_isLess 26 = .ok (.iconst 0, 1) := by decide +kernel
theorem dX0_isLess_27 : decode cX0_isLess 27 = .ok (.ireturn, 1) := by decide +kernel
theorem dX0_commonDivisor_0 : decode cX0_commonDivisor 0 = .ok (.lload_n 0, 1) := by decide +kernel
theorem dX0_commonDivisor_1 : decode cX0_commonDivisor 1 = .ok (.lstore 4, 2) := by decide +kernel
theorem dX0_commonDivisor_3 : decode cX0_commonDivisor 3 = .ok (.lload_n 2, 1) := by decide +kernel
theorem dX0_commonDivisor_4 : decode cX0_commonDivisor 4 = .ok (.lstore 6, 2) := by decide +kernel
theorem dX0_commonDivisor_6 : decode cX0_commonDivisor 6 = .ok (.iconst 0, 1) := by decide +kernel
theorem dX0_commonDivisor_7 : decode cX0_commonDivisor 7 = .ok (.istore 8, 2) := by decide +kernel
theorem dX0_commonDivisor_9 : decode cX0_commonDivisor 9 = .ok (.iload 8, 2) := by decide +kernel
theorem dX0_commonDivisor_11 : decode cX0_commonDivisor 11 = .ok (.bipush 100, 2) := by decide +kernel
theorem dX0_commonDivisor_13 : decode cX0_commonDivisor 13 = .ok (.if_icmp .ge 31, 3) := by decide +kernel
theorem dX0_commonDivisor_16 : decode cX0_commonDivisor 16 = .ok (.lload 6, 2) := by decide +kernel
theorem dX0_commonDivisor_18 : decode cX0_commonDivisor 18 = .ok (.lconst 0, 1) := by decide +kernel
theorem dX0_commonDivisor_19 : decode cX0_commonDivisor 19 = .ok (.lcmp, 1) := by decide +kernel
theorem dX0_commonDivisor_20 : decode cX0_commonDivisor 20 = .ok (.ifCond .eq 24, 3) := by decide +kernel
theorem dX0_commonDivisor_23 : decode cX0_commonDivisor 23 = .ok (.lload 4, 2) := by decide +kernel
theorem dX0_commonDivisor_25 : decode cX0_commonDivisor 25 = .ok (.lload 6, 2) := by decide +kernel
theorem dX0_commonDivisor_27 : decode cX0_commonDivisor 27 = .ok (.lrem, 1) := by decide +kernel
theorem dX0_commonDivisor_28 : decode cX0_commonDivisor 28 = .ok (.lstore 9, 2) := by decide +kernel
theorem dX0_commonDivisor_30 : decode cX0_commonDivisor 30 = .ok (.lload 6, 2) := by decide +kernel
theorem dX0_commonDivisor_32 : decode cX0_commonDivisor 32 = .ok (.lstore 4, 2) := by decide +kernel
theorem dX0_commonDivisor_34 : decode cX0_commonDivisor 34 = .ok (.lload 9, 2) := by decide +kernel
theorem dX0_commonDivisor_36 : decode cX0_commonDivisor 36 = .ok (.lstore 6, 2) := by decide +kernel
theorem dX0_commonDivisor_38 : decode cX0_commonDivisor 38 = .ok (.iinc 8 1, 3) := by decide +kernel
theorem dX0_commonDivisor_41 : decode cX0_commonDivisor 41 = .ok (.goto (-32), 3) := by decide +kernel
theorem dX0_commonDivisor_44 : decode cX0_commonDivisor 44 = .ok (.lload 4, 2) := by decide +kernel
theorem dX0_commonDivisor_46 : decode cX0_commonDivisor 46 = .ok (.lreturn, 1) := by decide +kernel
set_option maxRecDepth 20000 in
theorem ggX1_init_X9_init : GoodIn wsX1_init wsX9_init := goodIn_r _ [21, 22, 2, 3, 23, 24, 25, 26, 27, 28, 29, 40, 41] (by decide +kernel) (by decide +kernel)
set_option maxRecDepth 20000 in
theorem gX1_init_X9_init : GoodIn wsX1_init (wsX9_init) := ggX1_init_X9_init
theorem dX1_init_0 : decode cX1_init 0 = .ok (.aload_n 0, 1) := by decide +kernel
theorem dX1_init_1 : decode cX1_init 1 = .ok (.invokespecial 3, 3) := by decide +kernel
theorem dX1_init_4 : decode cX1_init 4 = .ok (.aload_n 0, 1) := by decide +kernel
theorem dX1_init_5 : decode cX1_init 5 = .ok (.aload_n 1, 1) := by decide +kernel
theorem dX1_init_6 : decode cX1_init 6 = .ok (.putfield 9, 3) := by decide +kernel
theorem dX1_init_9 : decode cX1_init 9 = .ok (.aload_n 0, 1) := by decide +kernel
theorem dX1_init_10 : decode cX1_init 10 = .ok (.aload_n 2, 1) := by decide +kernel
theorem dX1_init_11 : decode cX1_init 11 = .ok (.putfield 15, 3) := by decide +kernel
theorem dX1_init_14 : decode cX1_init 14 = .ok (.aload_n 0, 1) := by decide +kernel
theorem dX1_init_15 : decode cX1_init 15 = .ok (.new 18, 3) := by decide +kernel
theorem dX1_init_18 : decode cX1_init 18 = .ok (.dup, 1) := by decide +kernel
theorem dX1_init_19 : decode cX1_init 19 = .ok (.bipush 10, 2) := by decide +kernel
theorem dX1_init_21 : decode cX1_init 21 = .ok (.invokespecial 20, 3) := by decide +kernel
theorem dX1_init_24 : decode cX1_init 24 = .ok (.putfield 23, 3) := by decide +kernel
theorem dX1_init_27 : decode cX1_init 27 = .ok (.aload_n 0, 1) := by decide +kernel
theorem dX1_init_28 : decode cX1_init 28 = .ok (.new 18, 3) := by decide +kernel
theorem dX1_init_31 : decode cX1_init 31 = .ok (.dup, 1) := by decide +kernel
theorem dX1_init_32 : decode cX1_init 32 = .ok (.bipush 12, 2) := by decide +kernel
theorem dX1_init_34 : decode cX1_init 34 = .ok (.invokespecial 20, 3) := by decide +kernel
theorem dX1_init_37 : decode cX1_init 37 = .ok (.putfield 27, 3) := by decide +kernel
theorem dX1_init_40 : decode cX1_init 40 = .ok (.aload_n 0, 1) := by decide +kernel
theorem dX1_init_41 : decode cX1_init 41 = .ok (.bipush 10, 2) := by decide +kernel
theorem dX1_init_43 : decode cX1_init 43 = .ok (.bipush 12, 2) := by decide +kernel
theorem dX1_init_45 : decode cX1_init 45 = .ok (.multianewarray 30 2, 4) := by decide +kernel
theorem dX1_init_49 : decode cX1_init 49 = .ok (.putfield 32, 3) := by decide +kernel
theorem dX1_init_52 : decode cX1_init 52 = .ok (.aload_n 0, 1) := by decide +kernel
theorem dX1_init_53 : decode cX1_init 53 = .ok (.bipush 10, 2) := by decide +kernel
theorem dX1_init_55 : decode cX1_init 55 = .ok (.newarray .int, 2) := by decide +kernel
theorem dX1_init_57 : decode cX1_init 57 = .ok (.putfield 35, 3) := by decide +kernel
theorem dX1_init_60 : decode cX1_init 60 = .ok (.aload_n 0, 1) := by decide +kernel
theorem dX1_init_61 : decode cX1_init 61 = .ok (.iconst 3, 1) := by decide +kernel
theorem dX1_init_62 : decode cX1_init 62 = .ok (.newarray .int, 2) := by decide +kernel
theorem dX1_init_64 : decode cX1_init 64 = .ok (.putfield 39, 3) := by decide +kernel
theorem dX1_init_67 : decode cX1_init 67 = .ok (.aload_n 0, 1) := by decide +kernel
theorem dX1_init_68 : decode cX1_init 68 = .ok (.iconst 0, 1) := by decide +kernel
theorem dX1_init_69 : decode cX1_init 69 = .ok (.putfield 42, 3) := by decide +kernel
theorem dX1_init_72 : decode cX1_init 72 = .ok (.aload_n 0, 1) := by decide +kernel
theorem dX1_init_73 : decode cX1_init 73 = .ok (.iconst 0, 1) := by decide +kernel
theorem dX1_init_74 : decode cX1_init 74 = .ok (.putfield 46, 3) := by decide +kernel
theorem dX1_init_77 : decode cX1_init 77 = .ok (.aload_n 0, 1) := by decide +kernel
theorem dX1_init_78 : decode cX1_init 78 = .ok (.iconst 5, 1) := by decide +kernel
theorem dX1_init_79 : decode cX1_init 79 = .ok (.putfield 49, 3) := by decide +kernel
theorem dX1_init_82 : decode cX1_init 82 = .ok (.return_, 1) := by decide +kernel
set_option maxRecDepth 20000 in
theorem ggX1_renew_X9_gather : GoodIn wsX1_renew wsX9_gather := goodIn_r _ [13, 14, 15, 16, 17, 18, 19, 12, 20, 21, 22, 23, 24, 25, 26, 27, 28, 29, 30, 31, 32, 33, 34, 35, 36, 37, 38, 39, 40, 41, 42, 43, 44, 45, 46, 47, 48, 49, 50, 51, 52, 53, 54, 55, 56, 57, 58, 59, 60, 61, 62, 63, 64, 65, 66, 67, 68, 69, 127, 128, 123, 124, 125, 126, 129, 130, 131, 132, 133, 134, 135, 136] (by decide +kernel) (by decide +kernel)
set_option maxRecDepth 20000 in
theorem gX1_renew_X9_gather : GoodIn wsX1_renew (wsV RX1 53 RX9 yX9_gather wsX9_gather) := goodIn_app (goodIn_of _ (by decide +kernel)) ggX1_renew_X9_gather
set_option maxRecDepth 20000 in
theorem ggX1_renew_X1_countBallots : GoodIn wsX1_renew wsX1_countBallots := goodIn_r _ [74, 75, 2, 76, 77, 78, 79, 80, 73, 81, 4, 82, 83, 84, 85, 86, 87, 88, 23, 89, 39, 42, 40, 90, 91, 92, 93, 94, 41, 113, 114, 115, 116, 117, 118, 119, 120, 121, 122, 127, 128, 129, 130, 131, 132, 133, 134, 135, 136] (by decide +kernel) (by decide +kernel)
set_option maxRecDepth 20000 in
theorem gX1_renew_X1_countBallots : GoodIn wsX1_renew (wsV RX1 57 RX1 yX1_countBallots wsX1_countBallots) := goodIn_app (goodIn_of _ (by decide +kernel)) ggX1_renew_X1_countBallots
set_option maxRecDepth 20000 in
theorem ggX1_renew_X1_partnerOf : GoodIn wsX1_renew wsX1_partnerOf := goodIn_r _ [98, 5, 6, 75, 99, 100, 101, 73, 102, 3, 113, 114, 115, 116, 117, 118, 119, 120, 121, 122, 123, 124, 125, 126] (by decide +kernel) (by decide +kernel)
set_option maxRecDepth 20000 in
theorem gX1_renew_X1_partnerOf : GoodIn wsX1_renew (wsV RX1 65 RX1 yX1_partnerOf wsX1_partnerOf) := goodIn_app (goodIn_of _ (by decide +kernel)) ggX1_renew_X1_partnerOf
set_option maxRecDepth 20000 in
theorem ggX1_renew_X1_findBase : GoodIn wsX1_renew wsX1_findBase := goodIn_r _ [106, 3, 6, 107, 108, 109, 110, 73, 111, 7, 112, 63, 64, 46, 65, 48, 49, 66, 67, 68, 69, 113, 114, 115, 116, 117, 118, 119, 120, 121, 122, 123, 124, 125, 126] (by decide +kernel) (by decide +kernel)
set_option maxRecDepth 20000 in
theorem gX1_renew_X1_findBase : GoodIn wsX1_renew (wsV RX1 69 RX1 yX1_findBase wsX1_findBase) := goodIn_app (goodIn_of _ (by decide +kernel)) ggX1_renew_X1_findBase
theorem dX1_renew_0 : decode cX1_renew 0 = .ok (.aload_n 0, 1) := by decide +kernel
theorem dX1_renew_1 : decode cX1_renew 1 = .ok (.getfield 46, 3) := by decide +kernel
theorem dX1_renew_4 : decode cX1_renew 4 = .ok (.ifCond .eq 4, 3) := by decide +kernel
theorem dX1_renew_7 : decode cX1_renew 7 = .ok (.return_, 1) := by decide +kernel
theorem dX1_renew_8 : decode cX1_renew 8 = .ok (.aload_n 0, 1) := by decide +kernel
theorem dX1_renew_9 : decode cX1_renew 9 = .ok (.getfield 23, 3) := by decide +kernel
theorem dX1_renew_12 : decode cX1_renew 12 = .ok (.aload_n 0, 1) := by decide +kernel
theorem dX1_renew_13 : decode cX1_renew 13 = .ok (.getfield 9, 3) := by decide +kernel
theorem dX1_renew_16 : decode cX1_renew 16 = .ok (.invokevirtual 53, 3) := by decide +kernel
theorem dX1_renew_19 : decode cX1_renew 19 = .ok (.aload_n 0, 1) := by decide +kernel
theorem dX1_renew_20 : decode cX1_renew 20 = .ok (.getfield 27, 3) := by decide +kernel
theorem dX1_renew_23 : decode cX1_renew 23 = .ok (.aload_n 0, 1) := by decide +kernel
theorem dX1_renew_24 : decode cX1_renew 24 = .ok (.getfield 15, 3) := by decide +kernel
theorem dX1_renew_27 : decode cX1_renew 27 = .ok (.invokevirtual 53, 3) := by decide +kernel
theorem dX1_renew_30 : decode cX1_renew 30 = .ok (.aload_n 0, 1) := by decide +kernel
theorem dX1_renew_31 : decode cX1_renew 31 = .ok (.invokevirtual 57, 3) := by decide +kernel
theorem dX1_renew_34 : decode cX1_renew 34 = .ok (.iconst 0, 1) := by decide +kernel
theorem dX1_renew_35 : decode cX1_renew 35 = .ok (.istore_n 1, 1) := by decide +kernel
theorem dX1_renew_36 : decode cX1_renew 36 = .ok (.iload_n 1, 1) := by decide +kernel
theorem dX1_renew_37 : decode cX1_renew 37 = .ok (.aload_n 0, 1) := by decide +kernel
theorem dX1_renew_38 : decode cX1_renew 38 = .ok (.getfield 9, 3) := by decide +kernel
theorem dX1_renew_41 : decode cX1_renew 41 = .ok (.getfield 60, 3) := by decide +kernel
theorem dX1_renew_44 : decode cX1_renew 44 = .ok (.if_icmp .ge 20, 3) := by decide +kernel
theorem dX1_renew_47 : decode cX1_renew 47 = .ok (.aload_n 0, 1) := by decide +kernel
theorem dX1_renew_48 : decode cX1_renew 48 = .ok (.getfield 35, 3) := by decide +kernel
theorem dX1_renew_51 : decode cX1_renew 51 = .ok (.iload_n 1, 1) := by decide +kernel
theorem dX1_renew_52 : decode cX1_renew 52 = .ok (.aload_n 0, 1) := by decide +kernel
theorem dX1_renew_53 : decode cX1_renew 53 = .ok (.iload_n 1, 1) := by decide +kernel
theorem dX1_renew_54 : decode cX1_renew 54 = .ok (.invokevirtual 65, 3) := by decide +kernel
theorem dX1_renew_57 : decode cX1_renew 57 = .ok (.iastore, 1) := by decide +kernel
theorem dX1_renew_58 : decode cX1_renew 58 = .ok (.iinc 1 1, 3) := by decide +kernel
theorem dX1_renew_61 : decode cX1_renew 61 = .ok (.goto (-25), 3) := by decide +kernel
theorem dX1_renew_64 : decode cX1_renew 64 = .ok (.aload_n 0, 1) := by decide +kernel
theorem dX1_renew_65 : decode cX1_renew 65 = .ok (.aload_n 0, 1) := by decide +kernel
theorem dX1_renew_66 : decode cX1_renew 66 = .ok (.invokevirtual 69, 3) := by decide +kernel
theorem dX1_renew_69 : decode cX1_renew 69 = .ok (.putfield 42, 3) := by decide +kernel
theorem dX1_renew_72 : decode cX1_renew 72 = .ok (.aload_n 0, 1) := by decide +kernel
theorem dX1_renew_73 : decode cX1_renew 73 = .ok (.iconst 1, 1) := by decide +kernel
theorem dX1_renew_74 : decode cX1_renew 74 = .ok (.putfield 46, 3) := by decide +kernel
theorem dX1_renew_77 : decode cX1_renew 77 = .ok (.return_, 1) := by decide +kernel
set_option maxRecDepth 20000 in
theorem ggX1_countBallots_X1_castBallots : GoodIn wsX1_countBallots wsX1_castBallots := goodIn_r _ [9, 10, 3, 4, 11, 1, 12, 13, 14, 15, 16, 17, 18, 19, 20, 21, 22, 23, 24, 25, 26, 27, 28, 29, 30, 31, 32, 33, 34, 35, 36, 37, 38, 39, 40, 41, 42, 43, 44, 45, 46, 47, 48] (by decide +kernel) (by decide +kernel)
set_option maxRecDepth 20000 in
theorem gX1_countBallots_X1_castBallots : GoodIn wsX1_countBallots (wsV RX1 78 RX1 yX1_castBallots wsX1_castBallots) := goodIn_app (goodIn_of _ (by decide +kernel)) ggX1_countBallots_X1_castBallots
theorem dX1_countBallots_0 : decode cX1_countBallots 0 = .ok (.iconst 0, 1) := by decide +kernel
theorem dX1_countBallots_1 : decode cX1_countBallots 1 = .ok (.istore_n 1, 1) := by decide +kernel
theorem dX1_countBallots_2 : decode cX1_countBallots 2 = .ok (.iload_n 1, 1) := by decide +kernel
theorem dX1_countBallots_3 : decode cX1_countBallots 3 = .ok (.bipush 10, 2) := by decide +kernel
theorem dX1_countBallots_5 : decode cX1_countBallots 5 = .ok (.if_icmp .ge 32, 3) := by decide +kernel
theorem dX1_countBallots_8 : decode cX1_countBallots 8 = .ok (.iconst 0, 1) := by decide +kernel
theorem dX1_countBallots_9 : decode cX1_countBallots 9 = .ok (.istore_n 2, 1) := by decide +kernel
theorem dX1_countBallots_10 : decode cX1_countBallots 10 = .ok (.iload_n 2, 1) := by decide +kernel
theorem dX1_countBallots_11 : decode cX1_countBallots 11 = .ok (.bipush 12, 2) := by decide +kernel
theorem dX1_countBallots_13 : decode cX1_countBallots 13 = .ok (.if_icmp .ge 18, 3) := by decide +kernel
theorem dX1_countBallots_16 : decode cX1_countBallots 16 = .ok (.aload_n 0, 1) := by decide +kernel
theorem dX1_countBallots_17 : decode cX1_countBallots 17 = .ok (.getfield 32, 3) := by decide +kernel
theorem dX1_countBallots_20 : decode cX1_countBallots 20 = .ok (.iload_n 1, 1) := by decide +kernel
theorem dX1_countBallots_21 : decode cX1_countBallots 21 = .ok (.aaload, 1) := by decide +kernel
theorem dX1_countBallots_22 : decode cX1_countBallots 22 = .ok (.iload_n 2, 1) := by decide +kernel
theorem dX1_countBallots_23 : decode cX1_countBallots 23 = .ok (.iconst 0, 1) := by decide +kernel
theorem dX1_countBallots_24 : decode cX1_countBallots 24 = .ok (.iastore, 1) := by decide +kernel
theorem dX1_countBallots_25 : decode cX1_countBallots 25 = .ok (.iinc 2 1, 3) := by decide +kernel
theorem dX1_countBallots_28 : decode cX1_countBallots 28 = .ok (.goto (-18), 3) := by decide +kernel
theorem dX1_countBallots_31 : decode cX1_countBallots 31 = .ok (.iinc 1 1, 3) := by decide +kernel
theorem dX1_countBallots_34 : decode cX1_countBallots 34 = .ok (.goto (-32), 3) := by decide +kernel
theorem dX1_countBallots_37 : decode cX1_countBallots 37 = .ok (.iconst 0, 1) := by decide +kernel
theorem dX1_countBallots_38 : decode cX1_countBallots 38 = .ok (.istore_n 1, 1) := by decide +kernel
theorem dX1_countBallots_39 : decode cX1_countBallots 39 = .ok (.iload_n 1, 1) := by decide +kernel
theorem dX1_countBallots_40 : decode cX1_countBallots 40 = .ok (.aload_n 0, 1) := by decide +kernel
theorem dX1_countBallots_41 : decode cX1_countBallots 41 = .ok (.getfield 23, 3) := by decide +kernel
theorem dX1_countBallots_44 : decode cX1_countBallots 44 = .ok (.getfield 73, 3) := by decide +kernel
theorem dX1_countBallots_47 : decode cX1_countBallots 47 = .ok (.if_icmp .ge 22, 3) := by decide +kernel
theorem dX1_countBallots_50 : decode cX1_countBallots 50 = .ok (.aload_n 0, 1) := by decide +kernel
theorem dX1_countBallots_51 : decode cX1_countBallots 51 = .ok (.aload_n 0, 1) := by decide +kernel
theorem dX1_countBallots_52 : decode cX1_countBallots 52 = .ok (.getfield 23, 3) := by decide +kernel
theorem dX1_countBallots_55 : decode cX1_countBallots 55 = .ok (.getfield 74, 3) := by decide +kernel
theorem dX1_countBallots_58 : decode cX1_countBallots 58 = .ok (.iload_n 1, 1) := by decide +kernel
theorem dX1_countBallots_59 : decode cX1_countBallots 59 = .ok (.aaload, 1) := by decide +kernel
theorem dX1_countBallots_60 : decode cX1_countBallots 60 = .ok (.invokevirtual 78, 3) := by decide +kernel
theorem dX1_countBallots_63 : decode cX1_countBallots 63 = .ok (.iinc 1 1, 3) := by decide +kernel
theorem dX1_countBallots_66 : decode cX1_countBallots 66 = .ok (.goto (-27), 3) := by decide +kernel
theorem dX1_countBallots_69 : decode cX1_countBallots 69 = .ok (.return_, 1) := by decide +kernel
set_option maxRecDepth 20000 in
theorem ggX1_castBallots_X8_isLike : GoodIn wsX1_castBallots wsX8_isLike := goodIn_r _ [13, 14, 15, 16, 17, 18, 19, 20, 21, 22, 35, 36, 37, 38, 39, 40, 41, 42] (by decide +kernel) (by decide +kernel)
set_option maxRecDepth 20000 in
theorem gX1_castBallots_X8_isLike : GoodIn wsX1_castBallots (wsV RX1 82 RX8 yX8_isLike wsX8_isLike) := goodIn_app (goodIn_of _ (by decide +kernel)) ggX1_castBallots_X8_isLike
theorem dX1_castBallots_0 : decode cX1_castBallots 0 = .ok (.iconst 0, 1) := by decide +kernel
theorem dX1_castBallots_1 : decode cX1_castBallots 1 = .ok (.istore_n 2, 1) := by decide +kernel
theorem dX1_castBallots_2 : decode cX1_castBallots 2 = .ok (.iload_n 2, 1) := by decide +kernel
theorem dX1_castBallots_3 : decode cX1_castBallots 3 = .ok (.aload_n 0, 1) := by decide +kernel
theorem dX1_castBallots_4 : decode cX1_castBallots 4 = .ok (.getfield 27, 3) := by decide +kernel
theorem dX1_castBallots_7 : decode cX1_castBallots 7 = .ok (.getfield 73, 3) := by decide +kernel
theorem dX1_castBallots_10 : decode cX1_castBallots 10 = .ok (.if_icmp .ge 85, 3) := by decide +kernel
theorem dX1_castBallots_13 : decode cX1_castBallots 13 = .ok (.aload_n 0, 1) := by decide +kernel
theorem dX1_castBallots_14 : decode cX1_castBallots 14 = .ok (.getfield 27, 3) := by decide +kernel
theorem dX1_castBallots_17 : decode cX1_castBallots 17 = .ok (.getfield 74, 3) := by decide +kernel
theorem dX1_castBallots_20 : decode cX1_castBallots 20 = .ok (.iload_n 2, 1) := by decide +kernel
theorem dX1_castBallots_21 : decode cX1_castBallots 21 = .ok (.aaload, 1) := by decide +kernel
theorem dX1_castBallots_22 : decode cX1_castBallots 22 = .ok (.astore_n 3, 1) := by decide +kernel
theorem dX1_castBallots_23 : decode cX1_castBallots 23 = .ok (.aload_n 1, 1) := by decide +kernel
theorem dX1_castBallots_24 : decode cX1_castBallots 24 = .ok (.aload_n 3, 1) := by decide +kernel
theorem dX1_castBallots_25 : decode cX1_castBallots 25 = .ok (.aload_n 0, 1) := by decide +kernel
theorem dX1_castBallots_26 : decode cX1_castBallots 26 = .ok (.getfield 49, 3) := by decide +kernel
theorem dX1_castBallots_29 : decode cX1_castBallots 29 = .ok (.invokevirtual 82, 3) := by decide +kernel
theorem dX1_castBallots_32 : decode cX1_castBallots 32 = .ok (.ifCond .eq 57, 3) := by decide +kernel
theorem dX1_castBallots_35 : decode cX1_castBallots 35 = .ok (.aload_n 0, 1) := by decide +kernel
theorem dX1_castBallots_36 : decode cX1_castBallots 36 = .ok (.getfield 32, 3) := by decide +kernel
theorem dX1_castBallots_39 : decode cX1_castBallots 39 = .ok (.aload_n 1, 1) := by decide +kernel
theorem dX1_castBallots_40 : decode cX1_castBallots 40 = .ok (.getfield 88, 3) := by decide +kernel
theorem dX1_castBallots_43 : decode cX1_castBallots 43 = .ok (.aaload, 1) := by decide +kernel
theorem dX1_castBallots_44 : decode cX1_castBallots 44 = .ok (.aload_n 3, 1) := by decide +kernel
theorem dX1_castBallots_45 : decode cX1_castBallots 45 = .ok (.getfield 88, 3) := by decide +kernel
theorem dX1_castBallots_48 : decode cX1_castBallots 48 = .ok (.dup2, 1) := by decide +kernel
theorem dX1_castBallots_49 : decode cX1_castBallots 49 = .ok (.iaload, 1) := by decide +kernel
theorem dX1_castBallots_50 : decode cX1_castBallots 50 = .ok (.iconst 1, 1) := by decide +kernel
theorem dX1_castBallots_51 : decode cX1_castBallots 51 = .ok (.iadd, 1) := by decide +kernel
theorem dX1_castBallots_52 : decode cX1_castBallots 52 = .ok (.iastore, 1) := by decide +kernel
theorem dX1_castBallots_53 : decode cX1_castBallots 53 = .ok (.aload_n 0, 1) := by decide +kernel
theorem dX1_castBallots_54 : decode cX1_castBallots 54 = .ok (.getfield 32, 3) := by decide +kernel
theorem dX1_castBallots_57 : decode cX1_castBallots 57 = .ok (.aload_n 1, 1) := by decide +kernel
theorem dX1_castBallots_58 : decode cX1_castBallots 58 = .ok (.getfield 91, 3) := by decide +kernel
theorem dX1_castBallots_61 : decode cX1_castBallots 61 = .ok (.aaload, 1) := by decide +kernel
theorem dX1_castBallots_62 : decode cX1_castBallots 62 = .ok (.aload_n 3, 1) := by decide +kernel
theorem dX1_castBallots_63 : decode cX1_castBallots 63 = .ok (.getfield 91, 3) := by decide +kernel
theorem dX1_castBallots_66 : decode cX1_castBallots 66 = .ok (.dup2, 1) := by decide +kernel
theorem dX1_castBallots_67 : decode cX1_castBallots 67 = .ok (.iaload, 1) := by decide +kernel
theorem dX1_castBallots_68 : decode cX1_castBallots 68 = .ok (.iconst 1, 1) := by decide +kernel
theorem dX1_castBallots_69 : decode cX1_castBallots 69 = .ok (.iadd, 1) := by decide +kernel
theorem dX1_castBallots_70 : decode cX1_castBallots 70 = .ok (.iastore, 1) := by decide +kernel
theorem dX1_castBallots_71 : decode cX1_castBallots 71 = .ok (.aload_n 0, 1) := by decide +kernel
theorem dX1_castBallots_72 : decode cX1_castBallots 72 = .ok (.getfield 32, 3) := by decide +kernel
theorem dX1_castBallots_75 : decode cX1_castBallots 75 = .ok (.aload_n 1, 1) := by decide +kernel
theorem dX1_castBallots_76 : decode cX1_castBallots 76 = .ok (.getfield 94, 3) := by decide +kernel
theorem dX1_castBallots_79 : decode cX1_castBallots 79 = .ok (.aaload, 1) := by decide +kernel
theorem dX1_castBallots_80 : decode cX1_castBallots 80 = .ok (.aload_n 3, 1) := by decide +kernel
theorem dX1_castBallots_81 : decode cX1_castBallots 81 = .ok (.getfield 94, 3) := by decide +kernel
theorem dX1_castBallots_84 : decode cX1_castBallots 84 = .ok (.dup2, 1) := by decide +kernel
theorem dX1_castBallots_85 : decode cX1_castBallots 85 = .ok (.iaload, 1) := by decide +kernel
theorem dX1_castBallots_86 : decode cX1_castBallots 86 = .ok (.iconst 1, 1) := by decide +kernel
theorem dX1_castBallots_87 : decode cX1_castBallots 87 = .ok (.iadd, 1) := by decide +kernel
theorem dX1_castBallots_88 : decode cX1_castBallots 88 = .ok (.iastore, 1) := by decide +kernel
theorem dX1_castBallots_89 : decode cX1_castBallots 89 = .ok (.iinc 2 1, 3) := by decide +kernel
theorem dX1_castBallots_92 : decode cX1_castBallots 92 = .ok (.goto (-90), 3) := by decide +kernel
theorem dX1_castBallots_95 : decode cX1_castBallots 95 = .ok (.return_, 1) := by decide +kernel
set_option maxRecDepth 20000 in
theorem ggX1_partnerOf_X1_isAlone : GoodIn wsX1_partnerOf wsX1_isAlone := goodIn_r _ [8, 3, 1, 2, 9, 10, 11, 12, 13, 14, 15, 16, 17, 18, 19, 20, 21, 22, 23] (by decide +kernel) (by decide +kernel)
set_option maxRecDepth 20000 in
theorem gX1_partnerOf_X1_isAlone : GoodIn wsX1_partnerOf (wsV RX1 97 RX1 yX1_isAlone wsX1_isAlone) := goodIn_app (goodIn_of _ (by decide +kernel)) ggX1_partnerOf_X1_isAlone
theorem dX1_partnerOf_0 : decode cX1_partnerOf 0 = .ok (.iconst (-1), 1) := by decide +kernel
theorem dX1_partnerOf_1 : decode cX1_partnerOf 1 = .ok (.istore_n 2, 1) := by decide +kernel
theorem dX1_partnerOf_2 : decode cX1_partnerOf 2 = .ok (.iconst 1, 1) := by decide +kernel
theorem dX1_partnerOf_3 : decode cX1_partnerOf 3 = .ok (.istore_n 3, 1) := by decide +kernel
theorem dX1_partnerOf_4 : decode cX1_partnerOf 4 = .ok (.iconst 0, 1) := by decide +kernel
theorem dX1_partnerOf_5 : decode cX1_partnerOf 5 = .ok (.istore 4, 2) := by decide +kernel
theorem dX1_partnerOf_7 : decode cX1_partnerOf 7 = .ok (.iload 4, 2) := by decide +kernel
theorem dX1_partnerOf_9 : decode cX1_partnerOf 9 = .ok (.aload_n 0, 1) := by decide +kernel
theorem dX1_partnerOf_10 : decode cX1_partnerOf 10 = .ok (.getfield 15, 3) := by decide +kernel
theorem dX1_partnerOf_13 : decode cX1_partnerOf 13 = .ok (.getfield 60, 3) := by decide +kernel
theorem dX1_partnerOf_16 : decode cX1_partnerOf 16 = .ok (.if_icmp .ge 35, 3) := by decide +kernel
theorem dX1_partnerOf_19 : decode cX1_partnerOf 19 = .ok (.aload_n 0, 1) := by decide +kernel
theorem dX1_partnerOf_20 : decode cX1_partnerOf 20 = .ok (.getfield 32, 3) := by decide +kernel
theorem dX1_partnerOf_23 : decode cX1_partnerOf 23 = .ok (.iload_n 1, 1) := by decide +kernel
theorem dX1_partnerOf_24 : decode cX1_partnerOf 24 = .ok (.aaload, 1) := by decide +kernel
theorem dX1_partnerOf_25 : decode cX1_partnerOf 25 = .ok (.iload 4, 2) := by decide +kernel
theorem dX1_partnerOf_27 : decode cX1_partnerOf 27 = .ok (.iaload, 1) := by decide +kernel
theorem dX1_partnerOf_28 : decode cX1_partnerOf 28 = .ok (.iload_n 3, 1) := by decide +kernel
theorem dX1_partnerOf_29 : decode cX1_partnerOf 29 = .ok (.if_icmp .le 16, 3) := by decide +kernel
theorem dX1_partnerOf_32 : decode cX1_partnerOf 32 = .ok (.iload 4, 2) := by decide +kernel
theorem dX1_partnerOf_34 : decode cX1_partnerOf 34 = .ok (.istore_n 2, 1) := by decide +kernel
theorem dX1_partnerOf_35 : decode cX1_partnerOf 35 = .ok (.aload_n 0, 1) := by decide +kernel
theorem dX1_partnerOf_36 : decode cX1_partnerOf 36 = .ok (.getfield 32, 3) := by decide +kernel
theorem dX1_partnerOf_39 : decode cX1_partnerOf 39 = .ok (.iload_n 1, 1) := by decide +kernel
theorem dX1_partnerOf_40 : decode cX1_partnerOf 40 = .ok (.aaload, 1) := by decide +kernel
theorem dX1_partnerOf_41 : decode cX1_partnerOf 41 = .ok (.iload 4, 2) := by decide +kernel
theorem dX1_partnerOf_43 : decode cX1_partnerOf 43 = .ok (.iaload, 1) := by decide +kernel
theorem dX1_partnerOf_44 : decode cX1_partnerOf 44 = .ok (.istore_n 3, 1) := by decide +kernel
theorem dX1_partnerOf_45 : decode cX1_partnerOf 45 = .ok (.iinc 4 1, 3) := by decide +kernel
theorem dX1_partnerOf_48 : decode cX1_partnerOf 48 = .ok (.goto (-41), 3) := by decide +kernel
theorem dX1_partnerOf_51 : decode cX1_partnerOf 51 = .ok (.iload_n 2, 1) := by decide +kernel
theorem dX1_partnerOf_52 : decode cX1_partnerOf 52 = .ok (.ifCond .lt 16, 3) := by decide +kernel
theorem dX1_partnerOf_55 : decode cX1_partnerOf 55 = .ok (.aload_n 0, 1) := by decide +kernel
theorem dX1_partnerOf_56 : decode cX1_partnerOf 56 = .ok (.iload_n 1, 1) := by decide +kernel
theorem dX1_partnerOf_57 : decode cX1_partnerOf 57 = .ok (.iload_n 2, 1) := by decide +kernel
theorem dX1_partnerOf_58 : decode cX1_partnerOf 58 = .ok (.invokevirtual 97, 3) := by decide +kernel
theorem dX1_partnerOf_61 : decode cX1_partnerOf 61 = .ok (.ifCond .eq 7, 3) := by decide +kernel
theorem dX1_partnerOf_64 : decode cX1_partnerOf 64 = .ok (.iload_n 2, 1) := by decide +kernel
theorem dX1_partnerOf_65 : decode cX1_partnerOf 65 = .ok (.goto 4, 3) := by decide +kernel
theorem dX1_partnerOf_68 : decode cX1_partnerOf 68 = .ok (.iconst (-1), 1) := by decide +kernel
theorem dX1_partnerOf_69 : decode cX1_partnerOf 69 = .ok (.ireturn, 1) := by decide +kernel
theorem dX1_isAlone_0 : decode cX1_isAlone 0 = .ok (.aload_n 0, 1) := by decide +kernel
theorem dX1_isAlone_1 : decode cX1_isAlone 1 = .ok (.getfield 32, 3) := by decide +kernel
theorem dX1_isAlone_4 : decode cX1_isAlone 4 = .ok (.iload_n 1, 1) := by decide +kernel
theorem dX1_isAlone_5 : decode cX1_isAlone 5 = .ok (.aaload, 1) := by decide +kernel
theorem dX1_isAlone_6 : decode cX1_isAlone 6 = .ok (.iload_n 2, 1) := by decide +kernel
theorem dX1_isAlone_7 : decode cX1_isAlone 7 = .ok (.iaload, 1) := by decide +kernel
theorem dX1_isAlone_8 : decode cX1_isAlone 8 = .ok (.istore_n 3, 1) := by decide +kernel
theorem dX1_isAlone_9 : decode cX1_isAlone 9 = .ok (.iconst 0, 1) := by decide +kernel
theorem dX1_isAlone_10 : decode cX1_isAlone 10 = .ok (.istore 4, 2) := by decide +kernel
theorem dX1_isAlone_12 : decode cX1_isAlone 12 = .ok (.iload 4, 2) := by decide +kernel
theorem dX1_isAlone_14 : decode cX1_isAlone 14 = .ok (.aload_n 0, 1) := by decide +kernel
theorem dX1_isAlone_15 : decode cX1_isAlone 15 = .ok (.getfield 15, 3) := by decide +kernel
theorem dX1_isAlone_18 : decode cX1_isAlone 18 = .ok (.getfield 60, 3) := by decide +kernel
theorem dX1_isAlone_21 : decode cX1_isAlone 21 = .ok (.if_icmp .ge 30, 3) := by decide +kernel
theorem dX1_isAlone_24 : decode cX1_isAlone 24 = .ok (.iload 4, 2) := by decide +kernel
theorem dX1_isAlone_26 : decode cX1_isAlone 26 = .ok (.iload_n 2, 1) := by decide +kernel
theorem dX1_isAlone_27 : decode cX1_isAlone 27 = .ok (.if_icmp .eq 18, 3) := by decide +kernel
theorem dX1_isAlone_30 : decode cX1_isAlone 30 = .ok (.aload_n 0, 1) := by decide +kernel
theorem dX1_isAlone_31 : decode cX1_isAlone 31 = .ok (.getfield 32, 3) := by decide +kernel
theorem dX1_isAlone_34 : decode cX1_isAlone 34 = .ok (.iload_n 1, 1) := by decide +kernel
theorem dX1_isAlone_35 : decode cX1_isAlone 35 = .ok (.aaload, 1) := by decide +kernel
theorem dX1_isAlone_36 : decode cX1_isAlone 36 = .ok (.iload 4, 2) := by decide +kernel
theorem dX1_isAlone_38 : decode cX1_isAlone 38 = .ok (.iaload, 1) := by decide +kernel
theorem dX1_isAlone_39 : decode cX1_isAlone 39 = .ok (.iload_n 3, 1) := by decide +kernel
theorem dX1_isAlone_40 : decode cX1_isAlone 40 = .ok (.if_icmp .lt 5, 3) := by decide +kernel
theorem dX1_isAlone_43 : decode cX1_isAlone 43 = .ok (.iconst 0, 1) := by decide +kernel
theorem dX1_isAlone_44 : decode cX1_isAlone 44 = .ok (.ireturn, 1) := by decide +kernel
theorem dX1_isAlone_45 : decode cX1_isAlone 45 = .ok (.iinc 4 1, 3) := by decide +kernel
theorem dX1_isAlone_48 : decode cX1_isAlone 48 = .ok (.goto (-36), 3) := by decide +kernel
theorem dX1_isAlone_51 : decode cX1_isAlone 51 = .ok (.iconst 0, 1) := by decide +kernel
theorem dX1_isAlone_52 : decode cX1_isAlone 52 = .ok (.istore 4, 2) := by decide +kernel
theorem dX1_isAlone_54 : decode cX1_isAlone 54 = .ok (.iload 4, 2) := by decide +kernel
theorem dX1_isAlone_56 : decode cX1_isAlone 56 = .ok (.aload_n 0, 1) := by decide +kernel
theorem dX1_isAlone_57 : decode cX1_isAlone 57 = .ok (.getfield 9, 3) := by decide +kernel
theorem dX1_isAlone_60 : decode cX1_isAlone 60 = .ok (.getfield 60, 3) := by decide +kernel
theorem dX1_isAlone_63 : decode cX1_isAlone 63 = .ok (.if_icmp .ge 30, 3) := by decide +kernel
theorem dX1_isAlone_66 : decode cX1_isAlone 66 = .ok (.iload 4, 2) := by decide +kernel
theorem dX1_isAlone_68 : decode cX1_isAlone 68 = .ok (.iload_n 1, 1) := by decide +kernel
theorem dX1_isAlone_69 : decode cX1_isAlone 69 = .ok (.if_icmp .eq 18, 3) := by decide +kernel
theorem dX1_isAlone_72 : decode cX1_isAlone 72 = .ok (.aload_n 0, 1) := by decide +kernel
theorem dX1_isAlone_73 : decode cX1_isAlone 73 = .ok (.getfield 32, 3) := by decide +kernel
theorem dX1_isAlone_76 : decode cX1_isAlone 76 = .ok (.iload 4, 2) := by decide +kernel
theorem dX1_isAlone_78 : decode cX1_isAlone 78 = .ok (.aaload, 1) := by decide +kernel
theorem dX1_isAlone_79 : decode cX1_isAlone 79 = .ok (.iload_n 2, 1) := by decide +kernel
theorem dX1_isAlone_80 : decode cX1_isAlone 80 = .ok (.iaload, 1) := by decide +kernel
theorem dX1_isAlone_81 : decode cX1_isAlone 81 = .ok (.iload_n 3, 1) := by decide +kernel
theorem dX1_isAlone_82 : decode cX1_isAlone 82 = .ok (.if_icmp .lt 5, 3) := by decide +kernel
theorem dX1_isAlone_85 : decode cX1_isAlone 85 = .ok (.iconst 0, 1) := by decide +kernel
theorem dX1_isAlone_86 : decode cX1_isAlone 86 = .ok (.ireturn, 1) := by decide +kernel
theorem dX1_isAlone_87 : decode cX1_isAlone 87 = .ok (.iinc 4 1, 3) := by decide +kernel
theorem dX1_isAlone_90 : decode cX1_isAlone 90 = .ok (.goto (-36), 3) := by decide +kernel
theorem dX1_isAlone_93 : decode cX1_isAlone 93 = .ok (.iconst 1, 1) := by decide +kernel
theorem dX1_isAlone_94 : decode cX1_isAlone 94 = .ok (.ireturn, 1) := by decide +kernel
theorem dX1_partnered_0 : decode cX1_partnered 0 = .ok (.iconst 0, 1) := by decide +kernel
theorem dX1_partnered_1 : decode cX1_partnered 1 = .ok (.istore_n 1, 1) := by decide +kernel
theorem dX1_partnered_2 : decode cX1_partnered 2 = .ok (.iconst 0, 1) := by decide +kernel
theorem dX1_partnered_3 : decode cX1_partnered 3 = .ok (.istore_n 2, 1) := by decide +kernel
theorem dX1_partnered_4 : decode cX1_partnered 4 = .ok (.iload_n 2, 1) := by decide +kernel
theorem dX1_partnered_5 : decode cX1_partnered 5 = .ok (.aload_n 0, 1) := by decide +kernel
theorem dX1_partnered_6 : decode cX1_partnered 6 = .ok (.getfield 9, 3) := by decide +kernel
theorem dX1_partnered_9 : decode cX1_partnered 9 = .ok (.getfield 60, 3) := by decide +kernel
theorem dX1_partnered_12 : decode cX1_partnered 12 = .ok (.if_icmp .ge 21, 3) := by decide +kernel
theorem dX1_partnered_15 : decode cX1_partnered 15 = .ok (.aload_n 0, 1) := by decide +kernel
theorem dX1_partnered_16 : decode cX1_partnered 16 = .ok (.getfield 35, 3) := by decide +kernel
theorem dX1_partnered_19 : decode cX1_partnered 19 = .ok (.iload_n 2, 1) := by decide +kernel
theorem dX1_partnered_20 : decode cX1_partnered 20 = .ok (.iaload, 1) := by decide +kernel
theorem dX1_partnered_21 : decode cX1_partnered 21 = .ok (.ifCond .lt 6, 3) := by decide +kernel
theorem dX1_partnered_24 : decode cX1_partnered 24 = .ok (.iinc 1 1, 3) := by decide +kernel
theorem dX1_partnered_27 : decode cX1_partnered 27 = .ok (.iinc 2 1, 3) := by decide +kernel
theorem dX1_partnered_30 : decode cX1_partnered 30 = .ok (.goto (-26), 3) := by decide +kernel
theorem dX1_partnered_33 : decode cX1_partnered 33 = .ok (.iload_n 1, 1) := by decide +kernel
theorem dX1_partnered_34 : decode cX1_partnered 34 = .ok (.ireturn, 1) := by decide +kernel
set_option maxRecDepth 20000 in
theorem ggX1_findBase_X1_isBase : GoodIn wsX1_findBase wsX1_isBase := goodIn_r _ [8, 9, 1, 10, 11, 12, 13, 14, 15, 16, 17, 18, 19, 20, 21, 22, 23, 24, 25, 26, 27, 28, 29, 30, 31, 32, 33, 34] (by decide +kernel) (by decide +kernel)
set_option maxRecDepth 20000 in
theorem gX1_findBase_X1_isBase : GoodIn wsX1_findBase (wsV RX1 101 RX1 yX1_isBase wsX1_isBase) := goodIn_app (goodIn_of _ (by decide +kernel)) ggX1_findBase_X1_isBase
theorem dX1_findBase_0 : decode cX1_findBase 0 = .ok (.iconst 0, 1) := by decide +kernel
theorem dX1_findBase_1 : decode cX1_findBase 1 = .ok (.istore_n 1, 1) := by decide +kernel
theorem dX1_findBase_2 : decode cX1_findBase 2 = .ok (.iload_n 1, 1) := by decide +kernel
theorem dX1_findBase_3 : decode cX1_findBase 3 = .ok (.aload_n 0, 1) := by decide +kernel
theorem dX1_findBase_4 : decode cX1_findBase 4 = .ok (.getfield 9, 3) := by decide +kernel
theorem dX1_findBase_7 : decode cX1_findBase 7 = .ok (.getfield 60, 3) := by decide +kernel
theorem dX1_findBase_10 : decode cX1_findBase 10 = .ok (.if_icmp .ge 84, 3) := by decide +kernel
theorem dX1_findBase_13 : decode cX1_findBase 13 = .ok (.iload_n 1, 1) := by decide +kernel
theorem dX1_findBase_14 : decode cX1_findBase 14 = .ok (.iconst 1, 1) := by decide +kernel
theorem dX1_findBase_15 : decode cX1_findBase 15 = .ok (.iadd, 1) := by decide +kernel
theorem dX1_findBase_16 : decode cX1_findBase 16 = .ok (.istore_n 2, 1) := by decide +kernel
theorem dX1_findBase_17 : decode cX1_findBase 17 = .ok (.iload_n 2, 1) := by decide +kernel
theorem dX1_findBase_18 : decode cX1_findBase 18 = .ok (.aload_n 0, 1) := by decide +kernel
theorem dX1_findBase_19 : decode cX1_findBase 19 = .ok (.getfield 9, 3) := by decide +kernel
theorem dX1_findBase_22 : decode cX1_findBase 22 = .ok (.getfield 60, 3) := by decide +kernel
theorem dX1_findBase_25 : decode cX1_findBase 25 = .ok (.if_icmp .ge 63, 3) := by decide +kernel
theorem dX1_findBase_28 : decode cX1_findBase 28 = .ok (.iload_n 2, 1) := by decide +kernel
theorem dX1_findBase_29 : decode cX1_findBase 29 = .ok (.iconst 1, 1) := by decide +kernel
theorem dX1_findBase_30 : decode cX1_findBase 30 = .ok (.iadd, 1) := by decide +kernel
theorem dX1_findBase_31 : decode cX1_findBase 31 = .ok (.istore_n 3, 1) := by decide +kernel
theorem dX1_findBase_32 : decode cX1_findBase 32 = .ok (.iload_n 3, 1) := by decide +kernel
theorem dX1_findBase_33 : decode cX1_findBase 33 = .ok (.aload_n 0, 1) := by decide +kernel
theorem dX1_findBase_34 : decode cX1_findBase 34 = .ok (.getfield 9, 3) := by decide +kernel
theorem dX1_findBase_37 : decode cX1_findBase 37 = .ok (.getfield 60, 3) := by decide +kernel
theorem dX1_findBase_40 : decode cX1_findBase 40 = .ok (.if_icmp .ge 42, 3) := by decide +kernel
theorem dX1_findBase_43 : decode cX1_findBase 43 = .ok (.aload_n 0, 1) := by decide +kernel
theorem dX1_findBase_44 : decode cX1_findBase 44 = .ok (.iload_n 1, 1) := by decide +kernel
theorem dX1_findBase_45 : decode cX1_findBase 45 = .ok (.iload_n 2, 1) := by decide +kernel
theorem dX1_findBase_46 : decode cX1_findBase 46 = .ok (.iload_n 3, 1) := by decide +kernel
theorem dX1_findBase_47 : decode cX1_findBase 47 = .ok (.invokevirtual 101, 3) := by decide +kernel
theorem dX1_findBase_50 : decode cX1_findBase 50 = .ok (.ifCond .eq 26, 3) := by decide +kernel
theorem dX1_findBase_53 : decode cX1_findBase 53 = .ok (.aload_n 0, 1) := by decide +kernel
theorem dX1_findBase_54 : decode cX1_findBase 54 = .ok (.getfield 39, 3) := by decide +kernel
theorem dX1_findBase_57 : decode cX1_findBase 57 = .ok (.iconst 0, 1) := by decide +kernel
theorem dX1_findBase_58 : decode cX1_findBase 58 = .ok (.iload_n 1, 1) := by decide +kernel
theorem dX1_findBase_59 : decode cX1_findBase 59 = .ok (.iastore, 1) := by decide +kernel
theorem dX1_findBase_60 : decode cX1_findBase 60 = .ok (.aload_n 0, 1) := by decide +kernel
theorem dX1_findBase_61 : decode cX1_findBase 61 = .ok (.getfield 39, 3) := by decide +kernel
theorem dX1_findBase_64 : decode cX1_findBase 64 = .ok (.iconst 1, 1) := by decide +kernel
theorem dX1_findBase_65 : decode cX1_findBase 65 = .ok (.iload_n 2, 1) := by decide +kernel
theorem dX1_findBase_66 : decode cX1_findBase 66 = .ok (.iastore, 1) := by decide +kernel
theorem dX1_findBase_67 : decode cX1_findBase 67 = .ok (.aload_n 0, 1) := by decide +kernel
theorem dX1_findBase_68 : decode cX1_findBase 68 = .ok (.getfield 39, 3) := by decide +kernel
theorem dX1_findBase_71 : decode cX1_findBase 71 = .ok (.iconst 2, 1) := by decide +kernel
theorem dX1_findBase_72 : decode cX1_findBase 72 = .ok (.iload_n 3, 1) := by decide +kernel
theorem dX1_findBase_73 : decode cX1_findBase 73 = .ok (.iastore, 1) := by decide +kernel
theorem dX1_findBase_74 : decode cX1_findBase 74 = .ok (.iconst 1, 1) := by decide +kernel
theorem dX1_findBase_75 : decode cX1_findBase 75 = .ok (.ireturn, 1) := by decide +kernel
theorem dX1_findBase_76 : decode cX1_findBase 76 = .ok (.iinc 3 1, 3) := by decide +kernel
theorem dX1_findBase_79 : decode cX1_findBase 79 = .ok (.goto (-47), 3) := by decide +kernel
theorem dX1_findBase_82 : decode cX1_findBase 82 = .ok (.iinc 2 1, 3) := by decide +kernel
theorem dX1_findBase_85 : decode cX1_findBase 85 = .ok (.goto (-68), 3) := by decide +kernel
theorem dX1_findBase_88 : decode cX1_findBase 88 = .ok (.iinc 1 1, 3) := by decide +kernel
theorem dX1_findBase_91 : decode cX1_findBase 91 = .ok (.goto (-89), 3) := by decide +kernel
theorem dX1_findBase_94 : decode cX1_findBase 94 = .ok (.iconst 0, 1) := by decide +kernel
theorem dX1_findBase_95 : decode cX1_findBase 95 = .ok (.ireturn, 1) := by decide +kernel
set_option maxRecDepth 20000 in
theorem ggX1_isBase_X4_spread : GoodIn wsX1_isBase wsX4_spread := goodIn_r _ [7, 8, 9, 10, 11, 12, 6, 13, 24, 25, 26, 27] (by decide +kernel) (by decide +kernel)
set_option maxRecDepth 20000 in
theorem gX1_isBase_X4_spread : GoodIn wsX1_isBase (wsV RX1 105 RX4 yX4_spread wsX4_spread) := goodIn_app (goodIn_of _ (by decide +kernel)) ggX1_isBase_X4_spread
theorem dX1_isBase_0 : decode cX1_isBase 0 = .ok (.aload_n 0, 1) := by decide +kernel
theorem dX1_isBase_1 : decode cX1_isBase 1 = .ok (.getfield 35, 3) := by decide +kernel
theorem dX1_isBase_4 : decode cX1_isBase 4 = .ok (.iload_n 1, 1) := by decide +kernel
theorem dX1_isBase_5 : decode cX1_isBase 5 = .ok (.iaload, 1) := by decide +kernel
theorem dX1_isBase_6 : decode cX1_isBase 6 = .ok (.ifCond .lt 40, 3) := by decide +kernel
theorem dX1_isBase_9 : decode cX1_isBase 9 = .ok (.aload_n 0, 1) := by decide +kernel
theorem dX1_isBase_10 : decode cX1_isBase 10 = .ok (.getfield 35, 3) := by decide +kernel
theorem dX1_isBase_13 : decode cX1_isBase 13 = .ok (.iload_n 2, 1) := by decide +kernel
theorem dX1_isBase_14 : decode cX1_isBase 14 = .ok (.iaload, 1) := by decide +kernel
theorem dX1_isBase_15 : decode cX1_isBase 15 = .ok (.ifCond .lt 31, 3) := by decide +kernel
theorem dX1_isBase_18 : decode cX1_isBase 18 = .ok (.aload_n 0, 1) := by decide +kernel
theorem dX1_isBase_19 : decode cX1_isBase 19 = .ok (.getfield 35, 3) := by decide +kernel
theorem dX1_isBase_22 : decode cX1_isBase 22 = .ok (.iload_n 3, 1) := by decide +kernel
theorem dX1_isBase_23 : decode cX1_isBase 23 = .ok (.iaload, 1) := by decide +kernel
theorem dX1_isBase_24 : decode cX1_isBase 24 = .ok (.ifCond .lt 22, 3) := by decide +kernel
theorem dX1_isBase_27 : decode cX1_isBase 27 = .ok (.aload_n 0, 1) := by decide +kernel
theorem dX1_isBase_28 : decode cX1_isBase 28 = .ok (.getfield 9, 3) := by decide +kernel
theorem dX1_isBase_31 : decode cX1_isBase 31 = .ok (.iload_n 1, 1) := by decide +kernel
theorem dX1_isBase_32 : decode cX1_isBase 32 = .ok (.iload_n 2, 1) := by decide +kernel
theorem dX1_isBase_33 : decode cX1_isBase 33 = .ok (.iload_n 3, 1) := by decide +kernel
theorem dX1_isBase_34 : decode cX1_isBase 34 = .ok (.invokevirtual 105, 3) := by decide +kernel
theorem dX1_isBase_37 : decode cX1_isBase 37 = .ok (.lconst 0, 1) := by decide +kernel
theorem dX1_isBase_38 : decode cX1_isBase 38 = .ok (.lcmp, 1) := by decide +kernel
theorem dX1_isBase_39 : decode cX1_isBase 39 = .ok (.ifCond .eq 7, 3) := by decide +kernel
theorem dX1_isBase_42 : decode cX1_isBase 42 = .ok (.iconst 1, 1) := by decide +kernel
theorem dX1_isBase_43 : decode cX1_isBase 43 = .ok (.goto 4, 3) := by decide +kernel
theorem dX1_isBase_46 : decode cX1_isBase 46 = .ok (.iconst 0, 1) := by decide +kernel
theorem dX1_isBase_47 : decode cX1_isBase 47 = .ok (.ireturn, 1) := by decide +kernel
set_option maxRecDepth 20000 in
theorem ggX1_skyOf_X4_spread : GoodIn wsX1_skyOf wsX4_spread := goodIn_r _ [14, 15, 16, 17, 18, 19, 13, 20, 51, 52, 53, 54] (by decide +kernel) (by decide +kernel)
set_option maxRecDepth 20000 in
theorem gX1_skyOf_X4_spread : GoodIn wsX1_skyOf (wsV RX1 105 RX4 yX4_spread wsX4_spread) := goodIn_app (goodIn_of _ (by decide +kernel)) ggX1_skyOf_X4_spread
set_option maxRecDepth 20000 in
theorem ggX1_skyOf_X4_spreadFrom : GoodIn wsX1_skyOf wsX4_spreadFrom := goodIn_r _ [20, 15, 16, 51, 52, 53, 54] (by decide +kernel) (by decide +kernel)
set_option maxRecDepth 20000 in
theorem gX1_skyOf_X4_spreadFrom : GoodIn wsX1_skyOf (wsV RX1 115 RX4 yX4_spreadFrom wsX4_spreadFrom) := goodIn_app (goodIn_of _ (by decide +kernel)) ggX1_skyOf_X4_spreadFrom
set_option maxRecDepth 20000 in
theorem ggX1_skyOf_X0_init : GoodIn wsX1_skyOf wsX0_init := goodIn_r _ [24, 25, 26, 27, 28, 29, 30, 31, 32, 33, 34, 35, 36, 37, 38, 39, 9, 40, 55, 56] (by decide +kernel) (by decide +kernel)
set_option maxRecDepth 20000 in
theorem gX1_skyOf_X0_init : GoodIn wsX1_skyOf (wsX0_init) := ggX1_skyOf_X0_init
theorem dX1_skyOf_0 : decode cX1_skyOf 0 = .ok (.aload_n 0, 1) := by decide +kernel
theorem dX1_skyOf_1 : decode cX1_skyOf 1 = .ok (.getfield 39, 3) := by decide +kernel
theorem dX1_skyOf_4 : decode cX1_skyOf 4 = .ok (.iconst 0, 1) := by decide +kernel
theorem dX1_skyOf_5 : decode cX1_skyOf 5 = .ok (.iaload, 1) := by decide +kernel
theorem dX1_skyOf_6 : decode cX1_skyOf 6 = .ok (.istore 4, 2) := by decide +kernel
theorem dX1_skyOf_8 : decode cX1_skyOf 8 = .ok (.aload_n 0, 1) := by decide +kernel
theorem dX1_skyOf_9 : decode cX1_skyOf 9 = .ok (.getfield 39, 3) := by decide +kernel
theorem dX1_skyOf_12 : decode cX1_skyOf 12 = .ok (.iconst 1, 1) := by decide +kernel
theorem dX1_skyOf_13 : decode cX1_skyOf 13 = .ok (.iaload, 1) := by decide +kernel
theorem dX1_skyOf_14 : decode cX1_skyOf 14 = .ok (.istore 5, 2) := by decide +kernel
theorem dX1_skyOf_16 : decode cX1_skyOf 16 = .ok (.aload_n 0, 1) := by decide +kernel
theorem dX1_skyOf_17 : decode cX1_skyOf 17 = .ok (.getfield 39, 3) := by decide +kernel
theorem dX1_skyOf_20 : decode cX1_skyOf 20 = .ok (.iconst 2, 1) := by decide +kernel
theorem dX1_skyOf_21 : decode cX1_skyOf 21 = .ok (.iaload, 1) := by decide +kernel
theorem dX1_skyOf_22 : decode cX1_skyOf 22 = .ok (.istore 6, 2) := by decide +kernel
theorem dX1_skyOf_24 : decode cX1_skyOf 24 = .ok (.iload_n 3, 1) := by decide +kernel
theorem dX1_skyOf_25 : decode cX1_skyOf 25 = .ok (.ifCond .eq 13, 3) := by decide +kernel
theorem dX1_skyOf_28 : decode cX1_skyOf 28 = .ok (.aload_n 0, 1) := by decide +kernel
theorem dX1_skyOf_29 : decode cX1_skyOf 29 = .ok (.getfield 15, 3) := by decide +kernel
theorem dX1_skyOf_32 : decode cX1_skyOf 32 = .ok (.getfield 109, 3) := by decide +kernel
theorem dX1_skyOf_35 : decode cX1_skyOf 35 = .ok (.goto 10, 3) := by decide +kernel
theorem dX1_skyOf_38 : decode cX1_skyOf 38 = .ok (.aload_n 0, 1) := by decide +kernel
theorem dX1_skyOf_39 : decode cX1_skyOf 39 = .ok (.getfield 15, 3) := by decide +kernel
theorem dX1_skyOf_42 : decode cX1_skyOf 42 = .ok (.getfield 112, 3) := by decide +kernel
theorem dX1_skyOf_45 : decode cX1_skyOf 45 = .ok (.astore 7, 2) := by decide +kernel
theorem dX1_skyOf_47 : decode cX1_skyOf 47 = .ok (.aload 7, 2) := by decide +kernel
theorem dX1_skyOf_49 : decode cX1_skyOf 49 = .ok (.aload_n 0, 1) := by decide +kernel
theorem dX1_skyOf_50 : decode cX1_skyOf 50 = .ok (.getfield 35, 3) := by decide +kernel
theorem dX1_skyOf_53 : decode cX1_skyOf 53 = .ok (.iload 4, 2) := by decide +kernel
theorem dX1_skyOf_55 : decode cX1_skyOf 55 = .ok (.iaload, 1) := by decide +kernel
theorem dX1_skyOf_56 : decode cX1_skyOf 56 = .ok (.iaload, 1) := by decide +kernel
theorem dX1_skyOf_57 : decode cX1_skyOf 57 = .ok (.i2l, 1) := by decide +kernel
theorem dX1_skyOf_58 : decode cX1_skyOf 58 = .ok (.lstore 8, 2) := by decide +kernel
theorem dX1_skyOf_60 : decode cX1_skyOf 60 = .ok (.aload_n 0, 1) := by decide +kernel
theorem dX1_skyOf_61 : decode cX1_skyOf 61 = .ok (.getfield 9, 3) := by decide +kernel
theorem dX1_skyOf_64 : decode cX1_skyOf 64 = .ok (.iload 4, 2) := by decide +kernel
theorem dX1_skyOf_66 : decode cX1_skyOf 66 = .ok (.iload 5, 2) := by decide +kernel
theorem dX1_skyOf_68 : decode cX1_skyOf 68 = .ok (.iload 6, 2) := by decide +kernel
theorem dX1_skyOf_70 : decode cX1_skyOf 70 = .ok (.invokevirtual 105, 3) := by decide +kernel
theorem dX1_skyOf_73 : decode cX1_skyOf 73 = .ok (.lstore 10, 2) := by decide +kernel
theorem dX1_skyOf_75 : decode cX1_skyOf 75 = .ok (.aload_n 0, 1) := by decide +kernel
theorem dX1_skyOf_76 : decode cX1_skyOf 76 = .ok (.getfield 9, 3) := by decide +kernel
theorem dX1_skyOf_79 : decode cX1_skyOf 79 = .ok (.iload 4, 2) := by decide +kernel
theorem dX1_skyOf_81 : decode cX1_skyOf 81 = .ok (.iload_n 1, 1) := by decide +kernel
theorem dX1_skyOf_82 : decode cX1_skyOf 82 = .ok (.i2l, 1) := by decide +kernel
theorem dX1_skyOf_83 : decode cX1_skyOf 83 = .ok (.iload_n 2, 1) := by decide +kernel
theorem dX1_skyOf_84 : decode cX1_skyOf 84 = .ok (.i2l, 1) := by decide +kernel
theorem dX1_skyOf_85 : decode cX1_skyOf 85 = .ok (.aload_n 0, 1) := by decide +kernel
theorem dX1_skyOf_86 : decode cX1_skyOf 86 = .ok (.getfield 9, 3) := by decide +kernel
theorem dX1_skyOf_89 : decode cX1_skyOf 89 = .ok (.getfield 112, 3) := by decide +kernel
theorem dX1_skyOf_92 : decode cX1_skyOf 92 = .ok (.iload 6, 2) := by decide +kernel
theorem dX1_skyOf_94 : decode cX1_skyOf 94 = .ok (.iaload, 1) := by decide +kernel
theorem dX1_skyOf_95 : decode cX1_skyOf 95 = .ok (.i2l, 1) := by decide +kernel
theorem dX1_skyOf_96 : decode cX1_skyOf 96 = .ok (.aload_n 0, 1) := by decide +kernel
theorem dX1_skyOf_97 : decode cX1_skyOf 97 = .ok (.getfield 9, 3) := by decide +kernel
theorem dX1_skyOf_100 : decode cX1_skyOf 100 = .ok (.getfield 109, 3) := by decide +kernel
theorem dX1_skyOf_103 : decode cX1_skyOf 103 = .ok (.iload 6, 2) := by decide +kernel
theorem dX1_skyOf_105 : decode cX1_skyOf 105 = .ok (.iaload, 1) := by decide +kernel
theorem dX1_skyOf_106 : decode cX1_skyOf 106 = .ok (.i2l, 1) := by decide +kernel
theorem dX1_skyOf_107 : decode cX1_skyOf 107 = .ok (.invokevirtual 115, 3) := by decide +kernel
theorem dX1_skyOf_110 : decode cX1_skyOf 110 = .ok (.lstore 12, 2) := by decide +kernel
theorem dX1_skyOf_112 : decode cX1_skyOf 112 = .ok (.aload_n 0, 1) := by decide +kernel
theorem dX1_skyOf_113 : decode cX1_skyOf 113 = .ok (.getfield 9, 3) := by decide +kernel
theorem dX1_skyOf_116 : decode cX1_skyOf 116 = .ok (.iload 4, 2) := by decide +kernel
theorem dX1_skyOf_118 : decode cX1_skyOf 118 = .ok (.aload_n 0, 1) := by decide +kernel
theorem dX1_skyOf_119 : decode cX1_skyOf 119 = .ok (.getfield 9, 3) := by decide +kernel
theorem dX1_skyOf_122 : decode cX1_skyOf 122 = .ok (.getfield 112, 3) := by decide +kernel
theorem dX1_skyOf_125 : decode cX1_skyOf 125 = .ok (.iload 5, 2) := by decide +kernel
theorem dX1_skyOf_127 : decode cX1_skyOf 127 = .ok (.iaload, 1) := by decide +kernel
theorem dX1_skyOf_128 : decode cX1_skyOf 128 = .ok (.i2l, 1) := by decide +kernel
theorem dX1_skyOf_129 : decode cX1_skyOf 129 = .ok (.aload_n 0, 1) := by decide +kernel
theorem dX1_skyOf_130 : decode cX1_skyOf 130 = .ok (.getfield 9, 3) := by decide +kernel
theorem dX1_skyOf_133 : decode cX1_skyOf 133 = .ok (.getfield 109, 3) := by decide +kernel
theorem dX1_skyOf_136 : decode cX1_skyOf 136 = .ok (.iload 5, 2) := by decide +kernel
theorem dX1_skyOf_138 : decode cX1_skyOf 138 = .ok (.iaload, 1) := by decide +kernel
theorem dX1_skyOf_139 : decode cX1_skyOf 139 = .ok (.i2l, 1) := by decide +kernel
theorem dX1_skyOf_140 : decode cX1_skyOf 140 = .ok (.iload_n 1, 1) := by decide +kernel
theorem dX1_skyOf_141 : decode cX1_skyOf 141 = .ok (.i2l, 1) := by decide +kernel
theorem dX1_skyOf_142 : decode cX1_skyOf 142 = .ok (.iload_n 2, 1) := by decide +kernel
theorem dX1_skyOf_143 : decode cX1_skyOf 143 = .ok (.i2l, 1) := by decide +kernel
theorem dX1_skyOf_144 : decode cX1_skyOf 144 = .ok (.invokevirtual 115, 3) := by decide +kernel
theorem dX1_skyOf_147 : decode cX1_skyOf 147 = .ok (.lstore 14, 2) := by decide +kernel
theorem dX1_skyOf_149 : decode cX1_skyOf 149 = .ok (.lload 8, 2) := by decide +kernel
theorem dX1_skyOf_151 : decode cX1_skyOf 151 = .ok (.lload 10, 2) := by decide +kernel
theorem dX1_skyOf_153 : decode cX1_skyOf 153 = .ok (.lmul, 1) := by decide +kernel
theorem dX1_skyOf_154 : decode cX1_skyOf 154 = .ok (.aload 7, 2) := by decide +kernel
theorem dX1_skyOf_156 : decode cX1_skyOf 156 = .ok (.aload_n 0, 1) := by decide +kernel
theorem dX1_skyOf_157 : decode cX1_skyOf 157 = .ok (.getfield 35, 3) := by decide +kernel
theorem dX1_skyOf_160 : decode cX1_skyOf 160 = .ok (.iload 5, 2) := by decide +kernel
theorem dX1_skyOf_162 : decode cX1_skyOf 162 = .ok (.iaload, 1) := by decide +kernel
theorem dX1_skyOf_163 : decode cX1_skyOf 163 = .ok (.iaload, 1) := by decide +kernel
theorem dX1_skyOf_164 : decode cX1_skyOf 164 = .ok (.i2l, 1) := by decide +kernel
theorem dX1_skyOf_165 : decode cX1_skyOf 165 = .ok (.lload 8, 2) := by decide +kernel
theorem dX1_skyOf_167 : decode cX1_skyOf 167 = .ok (.lsub, 1) := by decide +kernel
theorem dX1_skyOf_168 : decode cX1_skyOf 168 = .ok (.lload 12, 2) := by decide +kernel
theorem dX1_skyOf_170 : decode cX1_skyOf 170 = .ok (.lmul, 1) := by decide +kernel
theorem dX1_skyOf_171 : decode cX1_skyOf 171 = .ok (.ladd, 1) := by decide +kernel
theorem dX1_skyOf_172 : decode cX1_skyOf 172 = .ok (.aload 7, 2) := by decide +kernel
theorem dX1_skyOf_174 : decode cX1_skyOf 174 = .ok (.aload_n 0, 1) := by decide +kernel
theorem dX1_skyOf_175 : decode cX1_skyOf 175 = .ok (.getfield 35, 3) := by decide +kernel
theorem dX1_skyOf_178 : decode cX1_skyOf 178 = .ok (.iload 6, 2) := by decide +kernel
theorem dX1_skyOf_180 : decode cX1_skyOf 180 = .ok (.iaload, 1) := by decide +kernel
theorem dX1_skyOf_181 : decode cX1_skyOf 181 = .ok (.iaload, 1) := by decide +kernel
theorem dX1_skyOf_182 : decode cX1_skyOf 182 = .ok (.i2l, 1) := by decide +kernel
theorem dX1_skyOf_183 : decode cX1_skyOf 183 = .ok (.lload 8, 2) := by decide +kernel
theorem dX1_skyOf_185 : decode cX1_skyOf 185 = .ok (.lsub, 1) := by decide +kernel
theorem dX1_skyOf_186 : decode cX1_skyOf 186 = .ok (.lload 14, 2) := by decide +kernel
theorem dX1_skyOf_188 : decode cX1_skyOf 188 = .ok (.lmul, 1) := by decide +kernel
theorem dX1_skyOf_189 : decode cX1_skyOf 189 = .ok (.ladd, 1) := by decide +kernel
theorem dX1_skyOf_190 : decode cX1_skyOf 190 = .ok (.lstore 16, 2) := by decide +kernel
theorem dX1_skyOf_192 : decode cX1_skyOf 192 = .ok (.new 119, 3) := by decide +kernel
theorem dX1_skyOf_195 : decode cX1_skyOf 195 = .ok (.dup, 1) := by decide +kernel
theorem dX1_skyOf_196 : decode cX1_skyOf 196 = .ok (.lload 16, 2) := by decide +kernel
theorem dX1_skyOf_198 : decode cX1_skyOf 198 = .ok (.lload 10, 2) := by decide +kernel
theorem dX1_skyOf_200 : decode cX1_skyOf 200 = .ok (.invokespecial 121, 3) := by decide +kernel
theorem dX1_skyOf_203 : decode cX1_skyOf 203 = .ok (.areturn, 1) := by decide +kernel
theorem dX2_init_0 : decode cX2_init 0 = .ok (.aload_n 0, 1) := by decide +kernel
theorem dX2_init_1 : decode cX2_init 1 = .ok (.invokespecial 1, 3) := by decide +kernel
theorem dX2_init_4 : decode cX2_init 4 = .ok (.aload_n 0, 1) := by decide +kernel
theorem dX2_init_5 : decode cX2_init 5 = .ok (.aload_n 1, 1) := by decide +kernel
theorem dX2_init_6 : decode cX2_init 6 = .ok (.putfield 7, 3) := by decide +kernel
theorem dX2_init_9 : decode cX2_init 9 = .ok (.aload_n 0, 1) := by decide +kernel
theorem dX2_init_10 : decode cX2_init 10 = .ok (.lload_n 2, 1) := by decide +kernel
theorem dX2_init_11 : decode cX2_init 11 = .ok (.putfield 13, 3) := by decide +kernel
theorem dX2_init_14 : decode cX2_init 14 = .ok (.return_, 1) := by decide +kernel
set_option maxRecDepth 20000 in
theorem ggX2_coordinate_X10_along : GoodIn wsX2_coordinate wsX10_along := goodIn_r _ [10, 11, 12, 13, 37, 38, 39] (by decide +kernel) (by decide +kernel)
set_option maxRecDepth 20000 in
theorem gX2_coordinate_X10_along : GoodIn wsX2_coordinate (wsV RX2 19 RX10 yX10_along wsX10_along) := goodIn_app (goodIn_of _ (by decide +kernel)) ggX2_coordinate_X10_along
set_option maxRecDepth 20000 in
theorem ggX2_coordinate_X0_init : GoodIn wsX2_coordinate wsX0_init := goodIn_r _ [16, 17, 18, 19, 20, 21, 22, 23, 24, 25, 26, 27, 28, 29, 30, 31, 3, 32, 33, 34] (by decide +kernel) (by decide +kernel)
set_option maxRecDepth 20000 in
theorem gX2_coordinate_X0_init : GoodIn wsX2_coordinate (wsX0_init) := ggX2_coordinate_X0_init
theorem dX2_coordinate_0 : decode cX2_coordinate 0 = .ok (.new 17, 3) := by decide +kernel
theorem dX2_coordinate_3 : decode cX2_coordinate 3 = .ok (.dup, 1) := by decide +kernel
theorem dX2_coordinate_4 : decode cX2_coordinate 4 = .ok (.aload_n 0, 1) := by decide +kernel
theorem dX2_coordinate_5 : decode cX2_coordinate 5 = .ok (.getfield 7, 3) := by decide +kernel
theorem dX2_coordinate_8 : decode cX2_coordinate 8 = .ok (.iload_n 1, 1) := by decide +kernel
theorem dX2_coordinate_9 : decode cX2_coordinate 9 = .ok (.invokevirtual 19, 3) := by decide +kernel
theorem dX2_coordinate_12 : decode cX2_coordinate 12 = .ok (.aload_n 0, 1) := by decide +kernel
theorem dX2_coordinate_13 : decode cX2_coordinate 13 = .ok (.getfield 13, 3) := by decide +kernel
theorem dX2_coordinate_16 : decode cX2_coordinate 16 = .ok (.invokespecial 25, 3) := by decide +kernel
theorem dX2_coordinate_19 : decode cX2_coordinate 19 = .ok (.areturn, 1) := by decide +kernel
theorem dX3_init_0 : decode cX3_init 0 = .ok (.aload_n 0, 1) := by decide +kernel
theorem dX3_init_1 : decode cX3_init 1 = .ok (.invokespecial 3, 3) := by decide +kernel
theorem dX3_init_4 : decode cX3_init 4 = .ok (.aload_n 0, 1) := by decide +kernel
theorem dX3_init_5 : decode cX3_init 5 = .ok (.iconst 4, 1) := by decide +kernel
theorem dX3_init_6 : decode cX3_init 6 = .ok (.anewarray 9, 3) := by decide +kernel
theorem dX3_init_9 : decode cX3_init 9 = .ok (.putfield 11, 3) := by decide +kernel
theorem dX3_init_12 : decode cX3_init 12 = .ok (.aload_n 0, 1) := by decide +kernel
theorem dX3_init_13 : decode cX3_init 13 = .ok (.iconst 0, 1) := by decide +kernel
theorem dX3_init_14 : decode cX3_init 14 = .ok (.putfield 17, 3) := by decide +kernel
theorem dX3_init_17 : decode cX3_init 17 = .ok (.return_, 1) := by decide +kernel
theorem dX3_sightAt_0 : decode cX3_sightAt 0 = .ok (.iload_n 1, 1) := by decide +kernel
theorem dX3_sightAt_1 : decode cX3_sightAt 1 = .ok (.ifCond .lt 20, 3) := by decide +kernel
theorem dX3_sightAt_4 : decode cX3_sightAt 4 = .ok (.iload_n 1, 1) := by decide +kernel
theorem dX3_sightAt_5 : decode cX3_sightAt 5 = .ok (.aload_n 0, 1) := by decide +kernel
theorem dX3_sightAt_6 : decode cX3_sightAt 6 = .ok (.getfield 17, 3) := by decide +kernel
theorem dX3_sightAt_9 : decode cX3_sightAt 9 = .ok (.if_icmp .ge 12, 3) := by decide +kernel
theorem dX3_sightAt_12 : decode cX3_sightAt 12 = .ok (.aload_n 0, 1) := by decide +kernel
theorem dX3_sightAt_13 : decode cX3_sightAt 13 = .ok (.getfield 11, 3) := by decide +kernel
theorem dX3_sightAt_16 : decode cX3_sightAt 16 = .ok (.iload_n 1, 1) := by decide +kernel
theorem dX3_sightAt_17 : decode cX3_sightAt 17 = .ok (.aaload, 1) := by decide +kernel
theorem dX3_sightAt_18 : decode cX3_sightAt 18 = .ok (.goto 4, 3) := by decide +kernel
theorem dX3_sightAt_21 : decode cX3_sightAt 21 = .ok (.aconst_null, 1) := by decide +kernel
theorem dX3_sightAt_22 : decode cX3_sightAt 22 = .ok (.areturn, 1) := by decide +kernel
theorem dX3_add_0 : decode cX3_add 0 = .ok (.aload_n 0, 1) := by decide +kernel
theorem dX3_add_1 : decode cX3_add 1 = .ok (.getfield 17, 3) := by decide +kernel
theorem dX3_add_4 : decode cX3_add 4 = .ok (.iconst 4, 1) := by decide +kernel
theorem dX3_add_5 : decode cX3_add 5 = .ok (.if_icmp .lt 5, 3) := by decide +kernel
theorem dX3_add_8 : decode cX3_add 8 = .ok (.iconst (-1), 1) := by decide +kernel
theorem dX3_add_9 : decode cX3_add 9 = .ok (.ireturn, 1) := by decide +kernel
theorem dX3_add_10 : decode cX3_add 10 = .ok (.aload_n 0, 1) := by decide +kernel
theorem dX3_add_11 : decode cX3_add 11 = .ok (.getfield 11, 3) := by decide +kernel
theorem dX3_add_14 : decode cX3_add 14 = .ok (.aload_n 0, 1) := by decide +kernel
theorem dX3_add_15 : decode cX3_add 15 = .ok (.getfield 17, 3) := by decide +kernel
theorem dX3_add_18 : decode cX3_add 18 = .ok (.aload_n 1, 1) := by decide +kernel
theorem dX3_add_19 : decode cX3_add 19 = .ok (.aastore, 1) := by decide +kernel
theorem dX3_add_20 : decode cX3_add 20 = .ok (.aload_n 0, 1) := by decide +kernel
theorem dX3_add_21 : decode cX3_add 21 = .ok (.dup, 1) := by decide +kernel
theorem dX3_add_22 : decode cX3_add 22 = .ok (.getfield 17, 3) := by decide +kernel
theorem dX3_add_25 : decode cX3_add 25 = .ok (.iconst 1, 1) := by decide +kernel
theorem dX3_add_26 : decode cX3_add 26 = .ok (.iadd, 1) := by decide +kernel
theorem dX3_add_27 : decode cX3_add 27 = .ok (.putfield 17, 3) := by decide +kernel
theorem dX3_add_30 : decode cX3_add 30 = .ok (.aload_n 0, 1) := by decide +kernel
theorem dX3_add_31 : decode cX3_add 31 = .ok (.getfield 17, 3) := by decide +kernel
theorem dX3_add_34 : decode cX3_add 34 = .ok (.iconst 1, 1) := by decide +kernel
theorem dX3_add_35 : decode cX3_add 35 = .ok (.isub, 1) := by decide +kernel
theorem dX3_add_36 : decode cX3_add 36 = .ok (.ireturn, 1) := by decide +kernel
set_option maxRecDepth 20000 in
theorem ggX3_firstPlane_X3_planeAt : GoodIn wsX3_firstPlane wsX3_planeAt := goodIn_r _ [6, 7, 8, 9, 10, 5, 11, 1, 12, 15, 16, 17, 18, 19, 20, 13, 14] (by decide +kernel) (by decide +kernel)
set_option maxRecDepth 20000 in
theorem gX3_firstPlane_X3_planeAt : GoodIn wsX3_firstPlane (wsV RX3 21 RX3 yX3_planeAt wsX3_planeAt) := goodIn_app (goodIn_of _ (by decide +kernel)) ggX3_firstPlane_X3_planeAt
theorem dX3_firstPlane_0 : decode cX3_firstPlane 0 = .ok (.iconst 0, 1) := by decide +kernel
theorem dX3_firstPlane_1 : decode cX3_firstPlane 1 = .ok (.istore_n 1, 1) := by decide +kernel
theorem dX3_firstPlane_2 : decode cX3_firstPlane 2 = .ok (.iload_n 1, 1) := by decide +kernel
theorem dX3_firstPlane_3 : decode cX3_firstPlane 3 = .ok (.aload_n 0, 1) := by decide +kernel
theorem dX3_firstPlane_4 : decode cX3_firstPlane 4 = .ok (.getfield 17, 3) := by decide +kernel
theorem dX3_firstPlane_7 : decode cX3_firstPlane 7 = .ok (.if_icmp .ge 21, 3) := by decide +kernel
theorem dX3_firstPlane_10 : decode cX3_firstPlane 10 = .ok (.aload_n 0, 1) := by decide +kernel
theorem dX3_firstPlane_11 : decode cX3_firstPlane 11 = .ok (.iload_n 1, 1) := by decide +kernel
theorem dX3_firstPlane_12 : decode cX3_firstPlane 12 = .ok (.invokevirtual 21, 3) := by decide +kernel
theorem dX3_firstPlane_15 : decode cX3_firstPlane 15 = .ok (.astore_n 2, 1) := by decide +kernel
theorem dX3_firstPlane_16 : decode cX3_firstPlane 16 = .ok (.aload_n 2, 1) := by decide +kernel
theorem dX3_firstPlane_17 : decode cX3_firstPlane 17 = .ok (.ifnull 5, 3) := by decide +kernel
theorem dX3_firstPlane_20 : decode cX3_firstPlane 20 = .ok (.aload_n 2, 1) := by decide +kernel
theorem dX3_firstPlane_21 : decode cX3_firstPlane 21 = .ok (.areturn, 1) := by decide +kernel
theorem dX3_firstPlane_22 : decode cX3_firstPlane 22 = .ok (.iinc 1 1, 3) := by decide +kernel
theorem dX3_firstPlane_25 : decode cX3_firstPlane 25 = .ok (.goto (-23), 3) := by decide +kernel
theorem dX3_firstPlane_28 : decode cX3_firstPlane 28 = .ok (.aconst_null, 1) := by decide +kernel
theorem dX3_firstPlane_29 : decode cX3_firstPlane 29 = .ok (.areturn, 1) := by decide +kernel
set_option maxRecDepth 20000 in
theorem ggX3_comesFrom_X3_planeAt : GoodIn wsX3_comesFrom wsX3_planeAt := goodIn_r _ [6, 7, 8, 9, 10, 5, 11, 1, 12, 27, 28, 29, 30, 31, 32, 25, 26] (by decide +kernel) (by decide +kernel)
set_option maxRecDepth 20000 in
theorem gX3_comesFrom_X3_planeAt : GoodIn wsX3_comesFrom (wsV RX3 21 RX3 yX3_planeAt wsX3_planeAt) := goodIn_app (goodIn_of _ (by decide +kernel)) ggX3_comesFrom_X3_planeAt
set_option maxRecDepth 20000 in
theorem ggX3_comesFrom_X10_dot : GoodIn wsX3_comesFrom wsX10_dot := goodIn_r _ [17, 18, 19, 20, 33, 34, 35] (by decide +kernel) (by decide +kernel)
set_option maxRecDepth 20000 in
theorem gX3_comesFrom_X10_dot : GoodIn wsX3_comesFrom (wsV RX3 25 RX10 yX10_dot wsX10_dot) := goodIn_app (goodIn_of _ (by decide +kernel)) ggX3_comesFrom_X10_dot
set_option maxRecDepth 20000 in
theorem ggX3_comesFrom_X3_firstPlane : GoodIn wsX3_comesFrom wsX3_firstPlane := goodIn_r _ [24, 1, 2, 3, 4, 5, 6, 7, 8, 9, 10, 11, 12, 25, 26, 27, 28, 29, 30, 31, 32] (by decide +kernel) (by decide +kernel)
set_option maxRecDepth 20000 in
theorem gX3_comesFrom_X3_firstPlane : GoodIn wsX3_comesFrom (wsV RX3 31 RX3 yX3_firstPlane wsX3_firstPlane) := goodIn_app (goodIn_of _ (by decide +kernel)) ggX3_comesFrom_X3_firstPlane
theorem dX3_comesFrom_0 : decode cX3_comesFrom 0 = .ok (.iconst 0, 1) := by decide +kernel
theorem dX3_comesFrom_1 : decode cX3_comesFrom 1 = .ok (.istore_n 2, 1) := by decide +kernel
theorem dX3_comesFrom_2 : decode cX3_comesFrom 2 = .ok (.iload_n 2, 1) := by decide +kernel
theorem dX3_comesFrom_3 : decode cX3_comesFrom 3 = .ok (.aload_n 0, 1) := by decide +kernel
theorem dX3_comesFrom_4 : decode cX3_comesFrom 4 = .ok (.getfield 17, 3) := by decide +kernel
theorem dX3_comesFrom_7 : decode cX3_comesFrom 7 = .ok (.if_icmp .ge 31, 3) := by decide +kernel
theorem dX3_comesFrom_10 : decode cX3_comesFrom 10 = .ok (.aload_n 0, 1) := by decide +kernel
theorem dX3_comesFrom_11 : decode cX3_comesFrom 11 = .ok (.iload_n 2, 1) := by decide +kernel
theorem dX3_comesFrom_12 : decode cX3_comesFrom 12 = .ok (.invokevirtual 21, 3) := by decide +kernel
theorem dX3_comesFrom_15 : decode cX3_comesFrom 15 = .ok (.astore_n 3, 1) := by decide +kernel
theorem dX3_comesFrom_16 : decode cX3_comesFrom 16 = .ok (.aload_n 3, 1) := by decide +kernel
theorem dX3_comesFrom_17 : decode cX3_comesFrom 17 = .ok (.ifnull 15, 3) := by decide +kernel
theorem dX3_comesFrom_20 : decode cX3_comesFrom 20 = .ok (.aload_n 3, 1) := by decide +kernel
theorem dX3_comesFrom_21 : decode cX3_comesFrom 21 = .ok (.aload_n 1, 1) := by decide +kernel
theorem dX3_comesFrom_22 : decode cX3_comesFrom 22 = .ok (.invokevirtual 25, 3) := by decide +kernel
theorem dX3_comesFrom_25 : decode cX3_comesFrom 25 = .ok (.lconst 0, 1) := by decide +kernel
theorem dX3_comesFrom_26 : decode cX3_comesFrom 26 = .ok (.lcmp, 1) := by decide +kernel
theorem dX3_comesFrom_27 : decode cX3_comesFrom 27 = .ok (.ifCond .eq 5, 3) := by decide +kernel
theorem dX3_comesFrom_30 : decode cX3_comesFrom 30 = .ok (.iconst 0, 1) := by decide +kernel
theorem dX3_comesFrom_31 : decode cX3_comesFrom 31 = .ok (.ireturn, 1) := by decide +kernel
theorem dX3_comesFrom_32 : decode cX3_comesFrom 32 = .ok (.iinc 2 1, 3) := by decide +kernel
theorem dX3_comesFrom_35 : decode cX3_comesFrom 35 = .ok (.goto (-33), 3) := by decide +kernel
theorem dX3_comesFrom_38 : decode cX3_comesFrom 38 = .ok (.aload_n 0, 1) := by decide +kernel
theorem dX3_comesFrom_39 : decode cX3_comesFrom 39 = .ok (.invokevirtual 31, 3) := by decide +kernel
theorem dX3_comesFrom_42 : decode cX3_comesFrom 42 = .ok (.ifnull 7, 3) := by decide +kernel
theorem dX3_comesFrom_45 : decode cX3_comesFrom 45 = .ok (.iconst 1, 1) := by decide +kernel
theorem dX3_comesFrom_46 : decode cX3_comesFrom 46 = .ok (.goto 4, 3) := by decide +kernel
theorem dX3_comesFrom_49 : decode cX3_comesFrom 49 = .ok (.iconst 0, 1) := by decide +kernel
theorem dX3_comesFrom_50 : decode cX3_comesFrom 50 = .ok (.ireturn, 1) := by decide +kernel
set_option maxRecDepth 20000 in
theorem ggX3_planeAt_X3_sightAt : GoodIn wsX3_planeAt wsX3_sightAt := goodIn_r _ [6, 7, 8, 15, 16] (by decide +kernel) (by decide +kernel)
set_option maxRecDepth 20000 in
theorem gX3_planeAt_X3_sightAt : GoodIn wsX3_planeAt (wsV RX3 35 RX3 yX3_sightAt wsX3_sightAt) := goodIn_app (goodIn_of _ (by decide +kernel)) ggX3_planeAt_X3_sightAt
theorem dX3_planeAt_0 : decode cX3_planeAt 0 = .ok (.aload_n 0, 1) := by decide +kernel
theorem dX3_planeAt_1 : decode cX3_planeAt 1 = .ok (.iload_n 1, 1) := by decide +kernel
theorem dX3_planeAt_2 : decode cX3_planeAt 2 = .ok (.invokevirtual 35, 3) := by decide +kernel
theorem dX3_planeAt_5 : decode cX3_planeAt 5 = .ok (.astore_n 2, 1) := by decide +kernel
theorem dX3_planeAt_6 : decode cX3_planeAt 6 = .ok (.aload_n 2, 1) := by decide +kernel
theorem dX3_planeAt_7 : decode cX3_planeAt 7 = .ok (.ifnonnull 7, 3) := by decide +kernel
theorem dX3_planeAt_10 : decode cX3_planeAt 10 = .ok (.aconst_null, 1) := by decide +kernel
theorem dX3_planeAt_11 : decode cX3_planeAt 11 = .ok (.goto 7, 3) := by decide +kernel
theorem dX3_planeAt_14 : decode cX3_planeAt 14 = .ok (.aload_n 2, 1) := by decide +kernel
theorem dX3_planeAt_15 : decode cX3_planeAt 15 = .ok (.getfield 39, 3) := by decide +kernel
theorem dX3_planeAt_18 : decode cX3_planeAt 18 = .ok (.areturn, 1) := by decide +kernel
theorem dX4_init_0 : decode cX4_init 0 = .ok (.aload_n 0, 1) := by decide +kernel
theorem dX4_init_1 : decode cX4_init 1 = .ok (.invokespecial 1, 3) := by decide +kernel
theorem dX4_init_4 : decode cX4_init 4 = .ok (.aload_n 0, 1) := by decide +kernel
theorem dX4_init_5 : decode cX4_init 5 = .ok (.iload_n 1, 1) := by decide +kernel
theorem dX4_init_6 : decode cX4_init 6 = .ok (.putfield 7, 3) := by decide +kernel
theorem dX4_init_9 : decode cX4_init 9 = .ok (.aload_n 0, 1) := by decide +kernel
theorem dX4_init_10 : decode cX4_init 10 = .ok (.iload_n 1, 1) := by decide +kernel
theorem dX4_init_11 : decode cX4_init 11 = .ok (.newarray .int, 2) := by decide +kernel
theorem dX4_init_13 : decode cX4_init 13 = .ok (.putfield 13, 3) := by decide +kernel
theorem dX4_init_16 : decode cX4_init 16 = .ok (.aload_n 0, 1) := by decide +kernel
theorem dX4_init_17 : decode cX4_init 17 = .ok (.iload_n 1, 1) := by decide +kernel
theorem dX4_init_18 : decode cX4_init 18 = .ok (.newarray .int, 2) := by decide +kernel
theorem dX4_init_20 : decode cX4_init 20 = .ok (.putfield 17, 3) := by decide +kernel
theorem dX4_init_23 : decode cX4_init 23 = .ok (.aload_n 0, 1) := by decide +kernel
theorem dX4_init_24 : decode cX4_init 24 = .ok (.iconst 0, 1) := by decide +kernel
theorem dX4_init_25 : decode cX4_init 25 = .ok (.putfield 20, 3) := by decide +kernel
theorem dX4_init_28 : decode cX4_init 28 = .ok (.return_, 1) := by decide +kernel
theorem dX4_has_0 : decode cX4_has 0 = .ok (.iload_n 1, 1) := by decide +kernel
theorem dX4_has_1 : decode cX4_has 1 = .ok (.ifCond .lt 15, 3) := by decide +kernel
theorem dX4_has_4 : decode cX4_has 4 = .ok (.iload_n 1, 1) := by decide +kernel
theorem dX4_has_5 : decode cX4_has 5 = .ok (.aload_n 0, 1) := by decide +kernel
theorem dX4_has_6 : decode cX4_has 6 = .ok (.getfield 20, 3) := by decide +kernel
theorem dX4_has_9 : decode cX4_has 9 = .ok (.if_icmp .ge 7, 3) := by decide +kernel
theorem dX4_has_12 : decode cX4_has 12 = .ok (.iconst 1, 1) := by decide +kernel
theorem dX4_has_13 : decode cX4_has 13 = .ok (.goto 4, 3) := by decide +kernel
theorem dX4_has_16 : decode cX4_has 16 = .ok (.iconst 0, 1) := by decide +kernel
theorem dX4_has_17 : decode cX4_has 17 = .ok (.ireturn, 1) := by decide +kernel
theorem dX4_add_0 : decode cX4_add 0 = .ok (.aload_n 0, 1) := by decide +kernel
theorem dX4_add_1 : decode cX4_add 1 = .ok (.getfield 20, 3) := by decide +kernel
theorem dX4_add_4 : decode cX4_add 4 = .ok (.aload_n 0, 1) := by decide +kernel
theorem dX4_add_5 : decode cX4_add 5 = .ok (.getfield 7, 3) := by decide +kernel
theorem dX4_add_8 : decode cX4_add 8 = .ok (.if_icmp .lt 5, 3) := by decide +kernel
theorem dX4_add_11 : decode cX4_add 11 = .ok (.iconst (-1), 1) := by decide +kernel
theorem dX4_add_12 : decode cX4_add 12 = .ok (.ireturn, 1) := by decide +kernel
theorem dX4_add_13 : decode cX4_add 13 = .ok (.aload_n 0, 1) := by decide +kernel
theorem dX4_add_14 : decode cX4_add 14 = .ok (.getfield 13, 3) := by decide +kernel
theorem dX4_add_17 : decode cX4_add 17 = .ok (.aload_n 0, 1) := by decide +kernel
theorem dX4_add_18 : decode cX4_add 18 = .ok (.getfield 20, 3) := by decide +kernel
theorem dX4_add_21 : decode cX4_add 21 = .ok (.iload_n 1, 1) := by decide +kernel
theorem dX4_add_22 : decode cX4_add 22 = .ok (.iastore, 1) := by decide +kernel
theorem dX4_add_23 : decode cX4_add 23 = .ok (.aload_n 0, 1) := by decide +kernel
theorem dX4_add_24 : decode cX4_add 24 = .ok (.getfield 17, 3) := by decide +kernel
theorem dX4_add_27 : decode cX4_add 27 = .ok (.aload_n 0, 1) := by decide +kernel
theorem dX4_add_28 : decode cX4_add 28 = .ok (.getfield 20, 3) := by decide +kernel
theorem dX4_add_31 : decode cX4_add 31 = .ok (.iload_n 2, 1) := by decide +kernel
theorem dX4_add_32 : decode cX4_add 32 = .ok (.iastore, 1) := by decide +kernel
theorem dX4_add_33 : decode cX4_add 33 = .ok (.aload_n 0, 1) := by decide +kernel
theorem dX4_add_34 : decode cX4_add 34 = .ok (.dup, 1) := by decide +kernel
theorem dX4_add_35 : decode cX4_add 35 = .ok (.getfield 20, 3) := by decide +kernel
theorem dX4_add_38 : decode cX4_add 38 = .ok (.iconst 1, 1) := by decide +kernel
theorem dX4_add_39 : decode cX4_add 39 = .ok (.iadd, 1) := by decide +kernel
theorem dX4_add_40 : decode cX4_add 40 = .ok (.putfield 20, 3) := by decide +kernel
theorem dX4_add_43 : decode cX4_add 43 = .ok (.aload_n 0, 1) := by decide +kernel
theorem dX4_add_44 : decode cX4_add 44 = .ok (.getfield 20, 3) := by decide +kernel
theorem dX4_add_47 : decode cX4_add 47 = .ok (.iconst 1, 1) := by decide +kernel
theorem dX4_add_48 : decode cX4_add 48 = .ok (.isub, 1) := by decide +kernel
theorem dX4_add_49 : decode cX4_add 49 = .ok (.ireturn, 1) := by decide +kernel
theorem dX4_squareBetween_0 : decode cX4_squareBetween 0 = .ok (.aload_n 0, 1) := by decide +kernel
theorem dX4_squareBetween_1 : decode cX4_squareBetween 1 = .ok (.getfield 13, 3) := by decide +kernel
theorem dX4_squareBetween_4 : decode cX4_squareBetween 4 = .ok (.iload_n 2, 1) := by decide +kernel
theorem dX4_squareBetween_5 : decode cX4_squareBetween 5 = .ok (.iaload, 1) := by decide +kernel
theorem dX4_squareBetween_6 : decode cX4_squareBetween 6 = .ok (.aload_n 0, 1) := by decide +kernel
theorem dX4_squareBetween_7 : decode cX4_squareBetween 7 = .ok (.getfield 13, 3) := by decide +kernel
theorem dX4_squareBetween_10 : decode cX4_squareBetween 10 = .ok (.iload_n 1, 1) := by decide +kernel
theorem dX4_squareBetween_11 : decode cX4_squareBetween 11 = .ok (.iaload, 1) := by decide +kernel
theorem dX4_squareBetween_12 : decode cX4_squareBetween 12 = .ok (.isub, 1) := by decide +kernel
theorem dX4_squareBetween_13 : decode cX4_squareBetween 13 = .ok (.i2l, 1) := by decide +kernel
theorem dX4_squareBetween_14 : decode cX4_squareBetween 14 = .ok (.lstore_n 3, 1) := by decide +kernel
theorem dX4_squareBetween_15 : decode cX4_squareBetween 15 = .ok (.aload_n 0, 1) := by decide +kernel
theorem dX4_squareBetween_16 : decode cX4_squareBetween 16 = .ok (.getfield 17, 3) := by decide +kernel
theorem dX4_squareBetween_19 : decode cX4_squareBetween 19 = .ok (.iload_n 2, 1) := by decide +kernel
theorem dX4_squareBetween_20 : decode cX4_squareBetween 20 = .ok (.iaload, 1) := by decide +kernel
theorem dX4_squareBetween_21 : decode cX4_squareBetween 21 = .ok (.aload_n 0, 1) := by decide +kernel
theorem dX4_squareBetween_22 : decode cX4_squareBetween 22 = .ok (.getfield 17, 3) := by decide +kernel
theorem dX4_squareBetween_25 : decode cX4_squareBetween 25 = .ok (.iload_n 1, 1) := by decide +kernel
theorem dX4_squareBetween_26 : decode cX4_squareBetween 26 = .ok (.iaload, 1) := by decide +kernel
theorem dX4_squareBetween_27 : decode cX4_squareBetween 27 = .ok (.isub, 1) := by decide +kernel
theorem dX4_squareBetween_28 : decode cX4_squareBetween 28 = .ok (.i2l, 1) := by decide +kernel
theorem dX4_squareBetween_29 : decode cX4_squareBetween 29 = .ok (.lstore 5, 2) := by decide +kernel
theorem dX4_squareBetween_31 : decode cX4_squareBetween 31 = .ok (.lload_n 3, 1) := by decide +kernel
theorem dX4_squareBetween_32 : decode cX4_squareBetween 32 = .ok (.lload_n 3, 1) := by decide +kernel
theorem dX4_squareBetween_33 : decode cX4_squareBetween 33 = .ok (.lmul, 1) := by decide +kernel
theorem dX4_squareBetween_34 : decode cX4_squareBetween 34 = .ok (.lload 5, 2) := by decide +kernel
theorem dX4_squareBetween_36 : decode cX4_squareBetween 36 = .ok (.lload 5, 2) := by decide +kernel
theorem dX4_squareBetween_38 : decode cX4_squareBetween 38 = .ok (.lmul, 1) := by decide +kernel
theorem dX4_squareBetween_39 : decode cX4_squareBetween 39 = .ok (.ladd, 1) := by decide +kernel
theorem dX4_squareBetween_40 : decode cX4_squareBetween 40 = .ok (.lreturn, 1) := by decide +kernel
set_option maxRecDepth 20000 in
theorem ggX4_spread_X4_spreadFrom : GoodIn wsX4_spread wsX4_spreadFrom := goodIn_r _ [7, 1, 2, 8, 9, 10, 11] (by decide +kernel) (by decide +kernel)
set_option maxRecDepth 20000 in
theorem gX4_spread_X4_spreadFrom : GoodIn wsX4_spread (wsV RX4 23 RX4 yX4_spreadFrom wsX4_spreadFrom) := goodIn_app (goodIn_of _ (by decide +kernel)) ggX4_spread_X4_spreadFrom
theorem dX4_spread_0 : decode cX4_spread 0 = .ok (.aload_n 0, 1) := by decide +kernel
theorem dX4_spread_1 : decode cX4_spread 1 = .ok (.iload_n 1, 1) := by decide +kernel
theorem dX4_spread_2 : decode cX4_spread 2 = .ok (.aload_n 0, 1) := by decide +kernel
theorem dX4_spread_3 : decode cX4_spread 3 = .ok (.getfield 13, 3) := by decide +kernel
theorem dX4_spread_6 : decode cX4_spread 6 = .ok (.iload_n 2, 1) := by decide +kernel
theorem dX4_spread_7 : decode cX4_spread 7 = .ok (.iaload, 1) := by decide +kernel
theorem dX4_spread_8 : decode cX4_spread 8 = .ok (.i2l, 1) := by decide +kernel
theorem dX4_spread_9 : decode cX4_spread 9 = .ok (.aload_n 0, 1) := by decide +kernel
theorem dX4_spread_10 : decode cX4_spread 10 = .ok (.getfield 17, 3) := by decide +kernel
theorem dX4_spread_13 : decode cX4_spread 13 = .ok (.iload_n 2, 1) := by decide +kernel
theorem dX4_spread_14 : decode cX4_spread 14 = .ok (.iaload, 1) := by decide +kernel
theorem dX4_spread_15 : decode cX4_spread 15 = .ok (.i2l, 1) := by decide +kernel
theorem dX4_spread_16 : decode cX4_spread 16 = .ok (.aload_n 0, 1) := by decide +kernel
theorem dX4_spread_17 : decode cX4_spread 17 = .ok (.getfield 13, 3) := by decide +kernel
theorem dX4_spread_20 : decode cX4_spread 20 = .ok (.iload_n 3, 1) := by decide +kernel
theorem dX4_spread_21 : decode cX4_spread 21 = .ok (.iaload, 1) := by decide +kernel
theorem dX4_spread_22 : decode cX4_spread 22 = .ok (.i2l, 1) := by decide +kernel
theorem dX4_spread_23 : decode cX4_spread 23 = .ok (.aload_n 0, 1) := by decide +kernel
theorem dX4_spread_24 : decode cX4_spread 24 = .ok (.getfield 17, 3) := by decide +kernel
theorem dX4_spread_27 : decode cX4_spread 27 = .ok (.iload_n 3, 1) := by decide +kernel
theorem dX4_spread_28 : decode cX4_spread 28 = .ok (.iaload, 1) := by decide +kernel
theorem dX4_spread_29 : decode cX4_spread 29 = .ok (.i2l, 1) := by decide +kernel
theorem dX4_spread_30 : decode cX4_spread 30 = .ok (.invokevirtual 23, 3) := by decide +kernel
theorem dX4_spread_33 : decode cX4_spread 33 = .ok (.lreturn, 1) := by decide +kernel
theorem dX4_spreadFrom_0 : decode cX4_spreadFrom 0 = .ok (.lload_n 2, 1) := by decide +kernel
theorem dX4_spreadFrom_1 : decode cX4_spreadFrom 1 = .ok (.aload_n 0, 1) := by decide +kernel
theorem dX4_spreadFrom_2 : decode cX4_spreadFrom 2 = .ok (.getfield 13, 3) := by decide +kernel
theorem dX4_spreadFrom_5 : decode cX4_spreadFrom 5 = .ok (.iload_n 1, 1) := by decide +kernel
theorem dX4_spreadFrom_6 : decode cX4_spreadFrom 6 = .ok (.iaload, 1) := by decide +kernel
theorem dX4_spreadFrom_7 : decode cX4_spreadFrom 7 = .ok (.i2l, 1) := by decide +kernel
theorem dX4_spreadFrom_8 : decode cX4_spreadFrom 8 = .ok (.lsub, 1) := by decide +kernel
theorem dX4_spreadFrom_9 : decode cX4_spreadFrom 9 = .ok (.lload 8, 2) := by decide +kernel
theorem dX4_spreadFrom_11 : decode cX4_spreadFrom 11 = .ok (.aload_n 0, 1) := by decide +kernel
theorem dX4_spreadFrom_12 : decode cX4_spreadFrom 12 = .ok (.getfield 17, 3) := by decide +kernel
theorem dX4_spreadFrom_15 : decode cX4_spreadFrom 15 = .ok (.iload_n 1, 1) := by decide +kernel
theorem dX4_spreadFrom_16 : decode cX4_spreadFrom 16 = .ok (.iaload, 1) := by decide +kernel
theorem dX4_spreadFrom_17 : decode cX4_spreadFrom 17 = .ok (.i2l, 1) := by decide +kernel
theorem dX4_spreadFrom_18 : decode cX4_spreadFrom 18 = .ok (.lsub, 1) := by decide +kernel
theorem dX4_spreadFrom_19 : decode cX4_spreadFrom 19 = .ok (.lmul, 1) := by decide +kernel
theorem dX4_spreadFrom_20 : decode cX4_spreadFrom 20 = .ok (.lload 4, 2) := by decide +kernel
theorem dX4_spreadFrom_22 : decode cX4_spreadFrom 22 = .ok (.aload_n 0, 1) := by decide +kernel
theorem dX4_spreadFrom_23 : decode cX4_spreadFrom 23 = .ok (.getfield 17, 3) := by decide +kernel
theorem dX4_spreadFrom_26 : decode cX4_spreadFrom 26 = .ok (.iload_n 1, 1) := by decide +kernel
theorem dX4_spreadFrom_27 : decode cX4_spreadFrom 27 = .ok (.iaload, 1) := by decide +kernel
theorem dX4_spreadFrom_28 : decode cX4_spreadFrom 28 = .ok (.i2l, 1) := by decide +kernel
theorem dX4_spreadFrom_29 : decode cX4_spreadFrom 29 = .ok (.lsub, 1) := by decide +kernel
theorem dX4_spreadFrom_30 : decode cX4_spreadFrom 30 = .ok (.lload 6, 2) := by decide +kernel
theorem dX4_spreadFrom_32 : decode cX4_spreadFrom 32 = .ok (.aload_n 0, 1) := by decide +kernel
theorem dX4_spreadFrom_33 : decode cX4_spreadFrom 33 = .ok (.getfield 13, 3) := by decide +kernel
theorem dX4_spreadFrom_36 : decode cX4_spreadFrom 36 = .ok (.iload_n 1, 1) := by decide +kernel
theorem dX4_spreadFrom_37 : decode cX4_spreadFrom 37 = .ok (.iaload, 1) := by decide +kernel
theorem dX4_spreadFrom_38 : decode cX4_spreadFrom 38 = .ok (.i2l, 1) := by decide +kernel
theorem dX4_spreadFrom_39 : decode cX4_spreadFrom 39 = .ok (.lsub, 1) := by decide +kernel
theorem dX4_spreadFrom_40 : decode cX4_spreadFrom 40 = .ok (.lmul, 1) := by decide +kernel
theorem dX4_spreadFrom_41 : decode cX4_spreadFrom 41 = .ok (.lsub, 1) := by decide +kernel
theorem dX4_spreadFrom_42 : decode cX4_spreadFrom 42 = .ok (.lreturn, 1) := by decide +kernel
theorem dX5_init_0 : decode cX5_init 0 = .ok (.aload_n 0, 1) := by decide +kernel
theorem dX5_init_1 : decode cX5_init 1 = .ok (.invokespecial 3, 3) := by decide +kernel
theorem dX5_init_4 : decode cX5_init 4 = .ok (.aload_n 0, 1) := by decide +kernel
theorem dX5_init_5 : decode cX5_init 5 = .ok (.bipush 24, 2) := by decide +kernel
theorem dX5_init_7 : decode cX5_init 7 = .ok (.newarray .short, 2) := by decide +kernel
theorem dX5_init_9 : decode cX5_init 9 = .ok (.putfield 9, 3) := by decide +kernel
theorem dX5_init_12 : decode cX5_init 12 = .ok (.aload_n 0, 1) := by decide +kernel
theorem dX5_init_13 : decode cX5_init 13 = .ok (.iconst (-1), 1) := by decide +kernel
theorem dX5_init_14 : decode cX5_init 14 = .ok (.putfield 15, 3) := by decide +kernel
theorem dX5_init_17 : decode cX5_init 17 = .ok (.return_, 1) := by decide +kernel
theorem dX5_isMissing_0 : decode cX5_isMissing 0 = .ok (.aload_n 0, 1) := by decide +kernel
theorem dX5_isMissing_1 : decode cX5_isMissing 1 = .ok (.getfield 15, 3) := by decide +kernel
theorem dX5_isMissing_4 : decode cX5_isMissing 4 = .ok (.ifCond .ge 7, 3) := by decide +kernel
theorem dX5_isMissing_7 : decode cX5_isMissing 7 = .ok (.iconst 1, 1) := by decide +kernel
theorem dX5_isMissing_8 : decode cX5_isMissing 8 = .ok (.goto 4, 3) := by decide +kernel
theorem dX5_isMissing_11 : decode cX5_isMissing 11 = .ok (.iconst 0, 1) := by decide +kernel
theorem dX5_isMissing_12 : decode cX5_isMissing 12 = .ok (.ireturn, 1) := by decide +kernel
theorem dX5_begin_0 : decode cX5_begin 0 = .ok (.aload_n 0, 1) := by decide +kernel
theorem dX5_begin_1 : decode cX5_begin 1 = .ok (.iload_n 1, 1) := by decide +kernel
theorem dX5_begin_2 : decode cX5_begin 2 = .ok (.putfield 15, 3) := by decide +kernel
theorem dX5_begin_5 : decode cX5_begin 5 = .ok (.iconst 0, 1) := by decide +kernel
theorem dX5_begin_6 : decode cX5_begin 6 = .ok (.istore_n 2, 1) := by decide +kernel
theorem dX5_begin_7 : decode cX5_begin 7 = .ok (.iload_n 2, 1) := by decide +kernel
theorem dX5_begin_8 : decode cX5_begin 8 = .ok (.aload_n 0, 1) := by decide +kernel
theorem dX5_begin_9 : decode cX5_begin 9 = .ok (.getfield 9, 3) := by decide +kernel
theorem dX5_begin_12 : decode cX5_begin 12 = .ok (.arraylength, 1) := by decide +kernel
theorem dX5_begin_13 : decode cX5_begin 13 = .ok (.if_icmp .ge 16, 3) := by decide +kernel
theorem dX5_begin_16 : decode cX5_begin 16 = .ok (.aload_n 0, 1) := by decide +kernel
theorem dX5_begin_17 : decode cX5_begin 17 = .ok (.getfield 9, 3) := by decide +kernel
theorem dX5_begin_20 : decode cX5_begin 20 = .ok (.iload_n 2, 1) := by decide +kernel
theorem dX5_begin_21 : decode cX5_begin 21 = .ok (.iconst (-1), 1) := by decide +kernel
theorem dX5_begin_22 : decode cX5_begin 22 = .ok (.sastore, 1) := by decide +kernel
theorem dX5_begin_23 : decode cX5_begin 23 = .ok (.iinc 2 1, 3) := by decide +kernel
theorem dX5_begin_26 : decode cX5_begin 26 = .ok (.goto (-19), 3) := by decide +kernel
theorem dX5_begin_29 : decode cX5_begin 29 = .ok (.return_, 1) := by decide +kernel
set_option maxRecDepth 20000 in
theorem ggX5_holdsPlate_X11_isOnPlate : GoodIn wsX5_holdsPlate wsX11_isOnPlate := goodIn_r _ [5] (by decide +kernel) (by decide +kernel)
set_option maxRecDepth 20000 in
theorem gX5_holdsPlate_X11_isOnPlate_n19 : GoodIn wsX5_holdsPlate (wsX11_isOnPlate) := ggX5_holdsPlate_X11_isOnPlate
theorem dX5_holdsPlate_0 : decode cX5_holdsPlate 0 = .ok (.iload_n 1, 1) := by decide +kernel
theorem dX5_holdsPlate_1 : decode cX5_holdsPlate 1 = .ok (.ifCond .lt 17, 3) := by decide +kernel
theorem dX5_holdsPlate_4 : decode cX5_holdsPlate 4 = .ok (.iload_n 2, 1) := by decide +kernel
theorem dX5_holdsPlate_5 : decode cX5_holdsPlate 5 = .ok (.ifCond .lt 13, 3) := by decide +kernel
theorem dX5_holdsPlate_8 : decode cX5_holdsPlate 8 = .ok (.iload_n 1, 1) := by decide +kernel
theorem dX5_holdsPlate_9 : decode cX5_holdsPlate 9 = .ok (.aload_n 0, 1) := by decide +kernel
theorem dX5_holdsPlate_10 : decode cX5_holdsPlate 10 = .ok (.getfield 15, 3) := by decide +kernel
theorem dX5_holdsPlate_13 : decode cX5_holdsPlate 13 = .ok (.iload_n 2, 1) := by decide +kernel
theorem dX5_holdsPlate_14 : decode cX5_holdsPlate 14 = .ok (.isub, 1) := by decide +kernel
theorem dX5_holdsPlate_15 : decode cX5_holdsPlate 15 = .ok (.if_icmp .le 5, 3) := by decide +kernel
theorem dX5_holdsPlate_18 : decode cX5_holdsPlate 18 = .ok (.iconst 0, 1) := by decide +kernel
theorem dX5_holdsPlate_19 : decode cX5_holdsPlate 19 = .ok (.ireturn, 1) := by decide +kernel
theorem dX5_holdsPlate_20 : decode cX5_holdsPlate 20 = .ok (.iconst 0, 1) := by decide +kernel
theorem dX5_holdsPlate_21 : decode cX5_holdsPlate 21 = .ok (.istore_n 3, 1) := by decide +kernel
theorem dX5_holdsPlate_22 : decode cX5_holdsPlate 22 = .ok (.iload_n 3, 1) := by decide +kernel
theorem dX5_holdsPlate_23 : decode cX5_holdsPlate 23 = .ok (.iload_n 2, 1) := by decide +kernel
theorem dX5_holdsPlate_24 : decode cX5_holdsPlate 24 = .ok (.if_icmp .ge 25, 3) := by decide +kernel
theorem dX5_holdsPlate_27 : decode cX5_holdsPlate 27 = .ok (.aload_n 0, 1) := by decide +kernel
theorem dX5_holdsPlate_28 : decode cX5_holdsPlate 28 = .ok (.getfield 9, 3) := by decide +kernel
theorem dX5_holdsPlate_31 : decode cX5_holdsPlate 31 = .ok (.iload_n 1, 1) := by decide +kernel
theorem dX5_holdsPlate_32 : decode cX5_holdsPlate 32 = .ok (.iload_n 3, 1) := by decide +kernel
theorem dX5_holdsPlate_33 : decode cX5_holdsPlate 33 = .ok (.iadd, 1) := by decide +kernel
theorem dX5_holdsPlate_34 : decode cX5_holdsPlate 34 = .ok (.saload, 1) := by decide +kernel
theorem dX5_holdsPlate_35 : decode cX5_holdsPlate 35 = .ok (.invokestatic 19, 3) := by decide +kernel
theorem dX5_holdsPlate_38 : decode cX5_holdsPlate 38 = .ok (.ifCond .ne 5, 3) := by decide +kernel
theorem dX5_holdsPlate_41 : decode cX5_holdsPlate 41 = .ok (.iconst 0, 1) := by decide +kernel
theorem dX5_holdsPlate_42 : decode cX5_holdsPlate 42 = .ok (.ireturn, 1) := by decide +kernel
theorem dX5_holdsPlate_43 : decode cX5_holdsPlate 43 = .ok (.iinc 3 1, 3) := by decide +kernel
theorem dX5_holdsPlate_46 : decode cX5_holdsPlate 46 = .ok (.goto (-24), 3) := by decide +kernel
theorem dX5_holdsPlate_49 : decode cX5_holdsPlate 49 = .ok (.iconst 1, 1) := by decide +kernel
theorem dX5_holdsPlate_50 : decode cX5_holdsPlate 50 = .ok (.ireturn, 1) := by decide +kernel
set_option maxRecDepth 20000 in
theorem ggX6_init_X11_crossing : GoodIn wsX6_init wsX11_crossing := goodIn_r _ [12, 13, 14, 15, 16, 17, 18, 19, 20, 21, 22, 23, 24, 25, 26, 2, 3, 27, 28, 29, 30, 37, 38, 39] (by decide +kernel) (by decide +kernel)
set_option maxRecDepth 20000 in
theorem gX6_init_X11_crossing_n26 : GoodIn wsX6_init (wsX11_crossing) := ggX6_init_X11_crossing
theorem dX6_init_0 : decode cX6_init 0 = .ok (.aload_n 0, 1) := by decide +kernel
theorem dX6_init_1 : decode cX6_init 1 = .ok (.invokespecial 1, 3) := by decide +kernel
theorem dX6_init_4 : decode cX6_init 4 = .ok (.aload_n 0, 1) := by decide +kernel
theorem dX6_init_5 : decode cX6_init 5 = .ok (.iload_n 1, 1) := by decide +kernel
theorem dX6_init_6 : decode cX6_init 6 = .ok (.putfield 7, 3) := by decide +kernel
theorem dX6_init_9 : decode cX6_init 9 = .ok (.aload_n 0, 1) := by decide +kernel
theorem dX6_init_10 : decode cX6_init 10 = .ok (.iload_n 2, 1) := by decide +kernel
theorem dX6_init_11 : decode cX6_init 11 = .ok (.putfield 13, 3) := by decide +kernel
theorem dX6_init_14 : decode cX6_init 14 = .ok (.aload_n 0, 1) := by decide +kernel
theorem dX6_init_15 : decode cX6_init 15 = .ok (.aload_n 3, 1) := by decide +kernel
theorem dX6_init_16 : decode cX6_init 16 = .ok (.putfield 16, 3) := by decide +kernel
theorem dX6_init_19 : decode cX6_init 19 = .ok (.aload_n 0, 1) := by decide +kernel
theorem dX6_init_20 : decode cX6_init 20 = .ok (.aload 4, 2) := by decide +kernel
theorem dX6_init_22 : decode cX6_init 22 = .ok (.putfield 20, 3) := by decide +kernel
theorem dX6_init_25 : decode cX6_init 25 = .ok (.aload_n 0, 1) := by decide +kernel
theorem dX6_init_26 : decode cX6_init 26 = .ok (.aload 5, 2) := by decide +kernel
theorem dX6_init_28 : decode cX6_init 28 = .ok (.putfield 23, 3) := by decide +kernel
theorem dX6_init_31 : decode cX6_init 31 = .ok (.aload_n 0, 1) := by decide +kernel
theorem dX6_init_32 : decode cX6_init 32 = .ok (.aload_n 3, 1) := by decide +kernel
theorem dX6_init_33 : decode cX6_init 33 = .ok (.aload 4, 2) := by decide +kernel
theorem dX6_init_35 : decode cX6_init 35 = .ok (.invokestatic 26, 3) := by decide +kernel
theorem dX6_init_38 : decode cX6_init 38 = .ok (.putfield 32, 3) := by decide +kernel
theorem dX6_init_41 : decode cX6_init 41 = .ok (.return_, 1) := by decide +kernel
theorem dX7_init_0 : decode cX7_init 0 = .ok (.aload_n 0, 1) := by decide +kernel
theorem dX7_init_1 : decode cX7_init 1 = .ok (.invokespecial 3, 3) := by decide +kernel
theorem dX7_init_4 : decode cX7_init 4 = .ok (.aload_n 0, 1) := by decide +kernel
theorem dX7_init_5 : decode cX7_init 5 = .ok (.bipush 9, 2) := by decide +kernel
theorem dX7_init_7 : decode cX7_init 7 = .ok (.newarray .int, 2) := by decide +kernel
theorem dX7_init_9 : decode cX7_init 9 = .ok (.putfield 9, 3) := by decide +kernel
theorem dX7_init_12 : decode cX7_init 12 = .ok (.aload_n 0, 1) := by decide +kernel
theorem dX7_init_13 : decode cX7_init 13 = .ok (.iconst 0, 1) := by decide +kernel
theorem dX7_init_14 : decode cX7_init 14 = .ok (.putfield 15, 3) := by decide +kernel
theorem dX7_init_17 : decode cX7_init 17 = .ok (.return_, 1) := by decide +kernel
set_option maxRecDepth 20000 in
theorem ggX7_holdsWay_X11_within : GoodIn wsX7_holdsWay wsX11_within := goodIn_r _ [4] (by decide +kernel) (by decide +kernel)
set_option maxRecDepth 20000 in
theorem gX7_holdsWay_X11_within_n19 : GoodIn wsX7_holdsWay (wsX11_within) := ggX7_holdsWay_X11_within
theorem dX7_holdsWay_0 : decode cX7_holdsWay 0 = .ok (.iconst 0, 1) := by decide +kernel
theorem dX7_holdsWay_1 : decode cX7_holdsWay 1 = .ok (.istore_n 2, 1) := by decide +kernel
theorem dX7_holdsWay_2 : decode cX7_holdsWay 2 = .ok (.iconst 3, 1) := by decide +kernel
theorem dX7_holdsWay_3 : decode cX7_holdsWay 3 = .ok (.iload_n 1, 1) := by decide +kernel
theorem dX7_holdsWay_4 : decode cX7_holdsWay 4 = .ok (.imul, 1) := by decide +kernel
theorem dX7_holdsWay_5 : decode cX7_holdsWay 5 = .ok (.istore_n 3, 1) := by decide +kernel
theorem dX7_holdsWay_6 : decode cX7_holdsWay 6 = .ok (.iload_n 3, 1) := by decide +kernel
theorem dX7_holdsWay_7 : decode cX7_holdsWay 7 = .ok (.iconst 3, 1) := by decide +kernel
theorem dX7_holdsWay_8 : decode cX7_holdsWay 8 = .ok (.iload_n 1, 1) := by decide +kernel
theorem dX7_holdsWay_9 : decode cX7_holdsWay 9 = .ok (.imul, 1) := by decide +kernel
theorem dX7_holdsWay_10 : decode cX7_holdsWay 10 = .ok (.iconst 3, 1) := by decide +kernel
theorem dX7_holdsWay_11 : decode cX7_holdsWay 11 = .ok (.iadd, 1) := by decide +kernel
theorem dX7_holdsWay_12 : decode cX7_holdsWay 12 = .ok (.if_icmp .ge 44, 3) := by decide +kernel
theorem dX7_holdsWay_15 : decode cX7_holdsWay 15 = .ok (.aload_n 0, 1) := by decide +kernel
theorem dX7_holdsWay_16 : decode cX7_holdsWay 16 = .ok (.getfield 9, 3) := by decide +kernel
theorem dX7_holdsWay_19 : decode cX7_holdsWay 19 = .ok (.iload_n 3, 1) := by decide +kernel
theorem dX7_holdsWay_20 : decode cX7_holdsWay 20 = .ok (.iaload, 1) := by decide +kernel
theorem dX7_holdsWay_21 : decode cX7_holdsWay 21 = .ok (.bipush 9, 2) := by decide +kernel
theorem dX7_holdsWay_23 : decode cX7_holdsWay 23 = .ok (.invokestatic 19, 3) := by decide +kernel
theorem dX7_holdsWay_26 : decode cX7_holdsWay 26 = .ok (.ifCond .ne 5, 3) := by decide +kernel
theorem dX7_holdsWay_29 : decode cX7_holdsWay 29 = .ok (.iconst 0, 1) := by decide +kernel
theorem dX7_holdsWay_30 : decode cX7_holdsWay 30 = .ok (.ireturn, 1) := by decide +kernel
theorem dX7_holdsWay_31 : decode cX7_holdsWay 31 = .ok (.iload_n 2, 1) := by decide +kernel
theorem dX7_holdsWay_32 : decode cX7_holdsWay 32 = .ok (.ifCond .ne 12, 3) := by decide +kernel
theorem dX7_holdsWay_35 : decode cX7_holdsWay 35 = .ok (.aload_n 0, 1) := by decide +kernel
theorem dX7_holdsWay_36 : decode cX7_holdsWay 36 = .ok (.getfield 9, 3) := by decide +kernel
theorem dX7_holdsWay_39 : decode cX7_holdsWay 39 = .ok (.iload_n 3, 1) := by decide +kernel
theorem dX7_holdsWay_40 : decode cX7_holdsWay 40 = .ok (.iaload, 1) := by decide +kernel
theorem dX7_holdsWay_41 : decode cX7_holdsWay 41 = .ok (.ifCond .eq 7, 3) := by decide +kernel
theorem dX7_holdsWay_44 : decode cX7_holdsWay 44 = .ok (.iconst 1, 1) := by decide +kernel
theorem dX7_holdsWay_45 : decode cX7_holdsWay 45 = .ok (.goto 4, 3) := by decide +kernel
theorem dX7_holdsWay_48 : decode cX7_holdsWay 48 = .ok (.iconst 0, 1) := by decide +kernel
theorem dX7_holdsWay_49 : decode cX7_holdsWay 49 = .ok (.istore_n 2, 1) := by decide +kernel
theorem dX7_holdsWay_50 : decode cX7_holdsWay 50 = .ok (.iinc 3 1, 3) := by decide +kernel
theorem dX7_holdsWay_53 : decode cX7_holdsWay 53 = .ok (.goto (-47), 3) := by decide +kernel
theorem dX7_holdsWay_56 : decode cX7_holdsWay 56 = .ok (.iload_n 2, 1) := by decide +kernel
theorem dX7_holdsWay_57 : decode cX7_holdsWay 57 = .ok (.ireturn, 1) := by decide +kernel
set_option maxRecDepth 20000 in
theorem ggX7_wayAt_X10_init : GoodIn wsX7_wayAt wsX10_init := goodIn_r _ [7, 8, 9, 10, 11, 12, 13, 14, 15, 16] (by decide +kernel) (by decide +kernel)
set_option maxRecDepth 20000 in
theorem gX7_wayAt_X10_init : GoodIn wsX7_wayAt (wsX10_init) := ggX7_wayAt_X10_init
theorem dX7_wayAt_0 : decode cX7_wayAt 0 = .ok (.new 23, 3) := by decide +kernel
theorem dX7_wayAt_3 : decode cX7_wayAt 3 = .ok (.dup, 1) := by decide +kernel
theorem dX7_wayAt_4 : decode cX7_wayAt 4 = .ok (.aload_n 0, 1) := by decide +kernel
theorem dX7_wayAt_5 : decode cX7_wayAt 5 = .ok (.getfield 9, 3) := by decide +kernel
theorem dX7_wayAt_8 : decode cX7_wayAt 8 = .ok (.iconst 3, 1) := by decide +kernel
theorem dX7_wayAt_9 : decode cX7_wayAt 9 = .ok (.iload_n 1, 1) := by decide +kernel
theorem dX7_wayAt_10 : decode cX7_wayAt 10 = .ok (.imul, 1) := by decide +kernel
theorem dX7_wayAt_11 : decode cX7_wayAt 11 = .ok (.iaload, 1) := by decide +kernel
theorem dX7_wayAt_12 : decode cX7_wayAt 12 = .ok (.i2l, 1) := by decide +kernel
theorem dX7_wayAt_13 : decode cX7_wayAt 13 = .ok (.aload_n 0, 1) := by decide +kernel
theorem dX7_wayAt_14 : decode cX7_wayAt 14 = .ok (.getfield 9, 3) := by decide +kernel
theorem dX7_wayAt_17 : decode cX7_wayAt 17 = .ok (.iconst 3, 1) := by decide +kernel
theorem dX7_wayAt_18 : decode cX7_wayAt 18 = .ok (.iload_n 1, 1) := by decide +kernel
theorem dX7_wayAt_19 : decode cX7_wayAt 19 = .ok (.imul, 1) := by decide +kernel
theorem dX7_wayAt_20 : decode cX7_wayAt 20 = .ok (.iconst 1, 1) := by decide +kernel
theorem dX7_wayAt_21 : decode cX7_wayAt 21 = .ok (.iadd, 1) := by decide +kernel
theorem dX7_wayAt_22 : decode cX7_wayAt 22 = .ok (.iaload, 1) := by decide +kernel
theorem dX7_wayAt_23 : decode cX7_wayAt 23 = .ok (.i2l, 1) := by decide +kernel
theorem dX7_wayAt_24 : decode cX7_wayAt 24 = .ok (.aload_n 0, 1) := by decide +kernel
theorem dX7_wayAt_25 : decode cX7_wayAt 25 = .ok (.getfield 9, 3) := by decide +kernel
theorem dX7_wayAt_28 : decode cX7_wayAt 28 = .ok (.iconst 3, 1) := by decide +kernel
theorem dX7_wayAt_29 : decode cX7_wayAt 29 = .ok (.iload_n 1, 1) := by decide +kernel
theorem dX7_wayAt_30 : decode cX7_wayAt 30 = .ok (.imul, 1) := by decide +kernel
theorem dX7_wayAt_31 : decode cX7_wayAt 31 = .ok (.iconst 2, 1) := by decide +kernel
theorem dX7_wayAt_32 : decode cX7_wayAt 32 = .ok (.iadd, 1) := by decide +kernel
theorem dX7_wayAt_33 : decode cX7_wayAt 33 = .ok (.iaload, 1) := by decide +kernel
theorem dX7_wayAt_34 : decode cX7_wayAt 34 = .ok (.i2l, 1) := by decide +kernel
theorem dX7_wayAt_35 : decode cX7_wayAt 35 = .ok (.invokespecial 25, 3) := by decide +kernel
theorem dX7_wayAt_38 : decode cX7_wayAt 38 = .ok (.areturn, 1) := by decide +kernel
theorem dX8_init_0 : decode cX8_init 0 = .ok (.aload_n 0, 1) := by decide +kernel
theorem dX8_init_1 : decode cX8_init 1 = .ok (.invokespecial 1, 3) := by decide +kernel
theorem dX8_init_4 : decode cX8_init 4 = .ok (.aload_n 0, 1) := by decide +kernel
theorem dX8_init_5 : decode cX8_init 5 = .ok (.iconst 0, 1) := by decide +kernel
theorem dX8_init_6 : decode cX8_init 6 = .ok (.putfield 7, 3) := by decide +kernel
theorem dX8_init_9 : decode cX8_init 9 = .ok (.return_, 1) := by decide +kernel
set_option maxRecDepth 20000 in
theorem ggX8_measure_X4_squareBetween : GoodIn wsX8_measure wsX4_squareBetween := goodIn_r _ [13, 14, 15, 45, 46, 47, 48] (by decide +kernel) (by decide +kernel)
set_option maxRecDepth 20000 in
theorem gX8_measure_X4_squareBetween : GoodIn wsX8_measure (wsV RX8 13 RX4 yX4_squareBetween wsX4_squareBetween) := goodIn_app (goodIn_of _ (by decide +kernel)) ggX8_measure_X4_squareBetween
set_option maxRecDepth 20000 in
theorem ggX8_measure_X8_setCorners : GoodIn wsX8_measure wsX8_setCorners := goodIn_r _ [20, 1, 5, 2, 6, 3, 7, 21, 22, 23, 19, 24, 25, 26, 27, 28, 37, 38, 39, 40, 41, 42, 43, 44] (by decide +kernel) (by decide +kernel)
set_option maxRecDepth 20000 in
theorem gX8_measure_X8_setCorners : GoodIn wsX8_measure (wsV RX8 19 RX8 yX8_setCorners wsX8_setCorners) := goodIn_app (goodIn_of _ (by decide +kernel)) ggX8_measure_X8_setCorners
set_option maxRecDepth 20000 in
theorem ggX8_measure_X4_spread : GoodIn wsX8_measure wsX4_spread := goodIn_r _ [32, 14, 15, 33, 34, 35, 12, 36, 45, 46, 47, 48] (by decide +kernel) (by decide +kernel)
set_option maxRecDepth 20000 in
theorem gX8_measure_X4_spread : GoodIn wsX8_measure (wsV RX8 33 RX4 yX4_spread wsX4_spread) := goodIn_app (goodIn_of _ (by decide +kernel)) ggX8_measure_X4_spread
theorem dX8_measure_0 : decode cX8_measure 0 = .ok (.aload_n 0, 1) := by decide +kernel
theorem dX8_measure_1 : decode cX8_measure 1 = .ok (.iload_n 2, 1) := by decide +kernel
theorem dX8_measure_2 : decode cX8_measure 2 = .ok (.aload_n 1, 1) := by decide +kernel
theorem dX8_measure_3 : decode cX8_measure 3 = .ok (.iload_n 3, 1) := by decide +kernel
theorem dX8_measure_4 : decode cX8_measure 4 = .ok (.iload 4, 2) := by decide +kernel
theorem dX8_measure_6 : decode cX8_measure 6 = .ok (.invokevirtual 13, 3) := by decide +kernel
theorem dX8_measure_9 : decode cX8_measure 9 = .ok (.iload_n 3, 1) := by decide +kernel
theorem dX8_measure_10 : decode cX8_measure 10 = .ok (.aload_n 1, 1) := by decide +kernel
theorem dX8_measure_11 : decode cX8_measure 11 = .ok (.iload_n 2, 1) := by decide +kernel
theorem dX8_measure_12 : decode cX8_measure 12 = .ok (.iload 4, 2) := by decide +kernel
theorem dX8_measure_14 : decode cX8_measure 14 = .ok (.invokevirtual 13, 3) := by decide +kernel
theorem dX8_measure_17 : decode cX8_measure 17 = .ok (.iload 4, 2) := by decide +kernel
theorem dX8_measure_19 : decode cX8_measure 19 = .ok (.aload_n 1, 1) := by decide +kernel
theorem dX8_measure_20 : decode cX8_measure 20 = .ok (.iload_n 2, 1) := by decide +kernel
theorem dX8_measure_21 : decode cX8_measure 21 = .ok (.iload_n 3, 1) := by decide +kernel
theorem dX8_measure_22 : decode cX8_measure 22 = .ok (.invokevirtual 13, 3) := by decide +kernel
theorem dX8_measure_25 : decode cX8_measure 25 = .ok (.invokevirtual 19, 3) := by decide +kernel
theorem dX8_measure_28 : decode cX8_measure 28 = .ok (.aload_n 1, 1) := by decide +kernel
theorem dX8_measure_29 : decode cX8_measure 29 = .ok (.aload_n 0, 1) := by decide +kernel
theorem dX8_measure_30 : decode cX8_measure 30 = .ok (.getfield 23, 3) := by decide +kernel
theorem dX8_measure_33 : decode cX8_measure 33 = .ok (.aload_n 0, 1) := by decide +kernel
theorem dX8_measure_34 : decode cX8_measure 34 = .ok (.getfield 27, 3) := by decide +kernel
theorem dX8_measure_37 : decode cX8_measure 37 = .ok (.aload_n 0, 1) := by decide +kernel
theorem dX8_measure_38 : decode cX8_measure 38 = .ok (.getfield 30, 3) := by decide +kernel
theorem dX8_measure_41 : decode cX8_measure 41 = .ok (.invokevirtual 33, 3) := by decide +kernel
theorem dX8_measure_44 : decode cX8_measure 44 = .ok (.lstore 5, 2) := by decide +kernel
theorem dX8_measure_46 : decode cX8_measure 46 = .ok (.aload_n 0, 1) := by decide +kernel
theorem dX8_measure_47 : decode cX8_measure 47 = .ok (.lload 5, 2) := by decide +kernel
theorem dX8_measure_49 : decode cX8_measure 49 = .ok (.lconst 0, 1) := by decide +kernel
theorem dX8_measure_50 : decode cX8_measure 50 = .ok (.lcmp, 1) := by decide +kernel
theorem dX8_measure_51 : decode cX8_measure 51 = .ok (.ifCond .le 7, 3) := by decide +kernel
theorem dX8_measure_54 : decode cX8_measure 54 = .ok (.iconst 1, 1) := by decide +kernel
theorem dX8_measure_55 : decode cX8_measure 55 = .ok (.goto 4, 3) := by decide +kernel
theorem dX8_measure_58 : decode cX8_measure 58 = .ok (.iconst (-1), 1) := by decide +kernel
theorem dX8_measure_59 : decode cX8_measure 59 = .ok (.putfield 37, 3) := by decide +kernel
theorem dX8_measure_62 : decode cX8_measure 62 = .ok (.aload_n 0, 1) := by decide +kernel
theorem dX8_measure_63 : decode cX8_measure 63 = .ok (.lload 5, 2) := by decide +kernel
theorem dX8_measure_65 : decode cX8_measure 65 = .ok (.lconst 0, 1) := by decide +kernel
theorem dX8_measure_66 : decode cX8_measure 66 = .ok (.lcmp, 1) := by decide +kernel
theorem dX8_measure_67 : decode cX8_measure 67 = .ok (.ifCond .eq 31, 3) := by decide +kernel
theorem dX8_measure_70 : decode cX8_measure 70 = .ok (.aload_n 0, 1) := by decide +kernel
theorem dX8_measure_71 : decode cX8_measure 71 = .ok (.getfield 40, 3) := by decide +kernel
theorem dX8_measure_74 : decode cX8_measure 74 = .ok (.aload_n 0, 1) := by decide +kernel
theorem dX8_measure_75 : decode cX8_measure 75 = .ok (.getfield 44, 3) := by decide +kernel
theorem dX8_measure_78 : decode cX8_measure 78 = .ok (.lcmp, 1) := by decide +kernel
theorem dX8_measure_79 : decode cX8_measure 79 = .ok (.ifCond .eq 19, 3) := by decide +kernel
theorem dX8_measure_82 : decode cX8_measure 82 = .ok (.aload_n 0, 1) := by decide +kernel
theorem dX8_measure_83 : decode cX8_measure 83 = .ok (.getfield 44, 3) := by decide +kernel
theorem dX8_measure_86 : decode cX8_measure 86 = .ok (.aload_n 0, 1) := by decide +kernel
theorem dX8_measure_87 : decode cX8_measure 87 = .ok (.getfield 47, 3) := by decide +kernel
theorem dX8_measure_90 : decode cX8_measure 90 = .ok (.lcmp, 1) := by decide +kernel
theorem dX8_measure_91 : decode cX8_measure 91 = .ok (.ifCond .eq 7, 3) := by decide +kernel
theorem dX8_measure_94 : decode cX8_measure 94 = .ok (.iconst 1, 1) := by decide +kernel
theorem dX8_measure_95 : decode cX8_measure 95 = .ok (.goto 4, 3) := by decide +kernel
theorem dX8_measure_98 : decode cX8_measure 98 = .ok (.iconst 0, 1) := by decide +kernel
theorem dX8_measure_99 : decode cX8_measure 99 = .ok (.putfield 7, 3) := by decide +kernel
theorem dX8_measure_102 : decode cX8_measure 102 = .ok (.return_, 1) := by decide +kernel
set_option maxRecDepth 20000 in
theorem ggX8_setCorners_X8_swapLower : GoodIn wsX8_setCorners wsX8_swapLower := goodIn_r _ [11, 1, 3, 2, 4, 16, 17, 18, 19, 20, 21, 22, 23] (by decide +kernel) (by decide +kernel)
set_option maxRecDepth 20000 in
theorem gX8_setCorners_X8_swapLower : GoodIn wsX8_setCorners (wsV RX8 50 RX8 yX8_swapLower wsX8_swapLower) := goodIn_app (goodIn_of _ (by decide +kernel)) ggX8_setCorners_X8_swapLower
set_option maxRecDepth 20000 in
theorem ggX8_setCorners_X8_swapUpper : GoodIn wsX8_setCorners wsX8_swapUpper := goodIn_r _ [15, 3, 5, 4, 6, 16, 17, 18, 19, 20, 21, 22, 23] (by decide +kernel) (by decide +kernel)
set_option maxRecDepth 20000 in
theorem gX8_setCorners_X8_swapUpper : GoodIn wsX8_setCorners (wsV RX8 53 RX8 yX8_swapUpper wsX8_swapUpper) := goodIn_app (goodIn_of _ (by decide +kernel)) ggX8_setCorners_X8_swapUpper
theorem dX8_setCorners_0 : decode cX8_setCorners 0 = .ok (.aload_n 0, 1) := by decide +kernel
theorem dX8_setCorners_1 : decode cX8_setCorners 1 = .ok (.iload_n 1, 1) := by decide +kernel
theorem dX8_setCorners_2 : decode cX8_setCorners 2 = .ok (.putfield 23, 3) := by decide +kernel
theorem dX8_setCorners_5 : decode cX8_setCorners 5 = .ok (.aload_n 0, 1) := by decide +kernel
theorem dX8_setCorners_6 : decode cX8_setCorners 6 = .ok (.lload_n 2, 1) := by decide +kernel
theorem dX8_setCorners_7 : decode cX8_setCorners 7 = .ok (.putfield 40, 3) := by decide +kernel
theorem dX8_setCorners_10 : decode cX8_setCorners 10 = .ok (.aload_n 0, 1) := by decide +kernel
theorem dX8_setCorners_11 : decode cX8_setCorners 11 = .ok (.iload 4, 2) := by decide +kernel
theorem dX8_setCorners_13 : decode cX8_setCorners 13 = .ok (.putfield 27, 3) := by decide +kernel
theorem dX8_setCorners_16 : decode cX8_setCorners 16 = .ok (.aload_n 0, 1) := by decide +kernel
theorem dX8_setCorners_17 : decode cX8_setCorners 17 = .ok (.lload 5, 2) := by decide +kernel
theorem dX8_setCorners_19 : decode cX8_setCorners 19 = .ok (.putfield 44, 3) := by decide +kernel
theorem dX8_setCorners_22 : decode cX8_setCorners 22 = .ok (.aload_n 0, 1) := by decide +kernel
theorem dX8_setCorners_23 : decode cX8_setCorners 23 = .ok (.iload 7, 2) := by decide +kernel
theorem dX8_setCorners_25 : decode cX8_setCorners 25 = .ok (.putfield 30, 3) := by decide +kernel
theorem dX8_setCorners_28 : decode cX8_setCorners 28 = .ok (.aload_n 0, 1) := by decide +kernel
theorem dX8_setCorners_29 : decode cX8_setCorners 29 = .ok (.lload 8, 2) := by decide +kernel
theorem dX8_setCorners_31 : decode cX8_setCorners 31 = .ok (.putfield 47, 3) := by decide +kernel
theorem dX8_setCorners_34 : decode cX8_setCorners 34 = .ok (.aload_n 0, 1) := by decide +kernel
theorem dX8_setCorners_35 : decode cX8_setCorners 35 = .ok (.getfield 40, 3) := by decide +kernel
theorem dX8_setCorners_38 : decode cX8_setCorners 38 = .ok (.aload_n 0, 1) := by decide +kernel
theorem dX8_setCorners_39 : decode cX8_setCorners 39 = .ok (.getfield 44, 3) := by decide +kernel
theorem dX8_setCorners_42 : decode cX8_setCorners 42 = .ok (.lcmp, 1) := by decide +kernel
theorem dX8_setCorners_43 : decode cX8_setCorners 43 = .ok (.ifCond .le 7, 3) := by decide +kernel
theorem dX8_setCorners_46 : decode cX8_setCorners 46 = .ok (.aload_n 0, 1) := by decide +kernel
theorem dX8_setCorners_47 : decode cX8_setCorners 47 = .ok (.invokevirtual 50, 3) := by decide +kernel
theorem dX8_setCorners_50 : decode cX8_setCorners 50 = .ok (.aload_n 0, 1) := by decide +kernel
theorem dX8_setCorners_51 : decode cX8_setCorners 51 = .ok (.getfield 44, 3) := by decide +kernel
theorem dX8_setCorners_54 : decode cX8_setCorners 54 = .ok (.aload_n 0, 1) := by decide +kernel
theorem dX8_setCorners_55 : decode cX8_setCorners 55 = .ok (.getfield 47, 3) := by decide +kernel
theorem dX8_setCorners_58 : decode cX8_setCorners 58 = .ok (.lcmp, 1) := by decide +kernel
theorem dX8_setCorners_59 : decode cX8_setCorners 59 = .ok (.ifCond .le 7, 3) := by decide +kernel
theorem dX8_setCorners_62 : decode cX8_setCorners 62 = .ok (.aload_n 0, 1) := by decide +kernel
theorem dX8_setCorners_63 : decode cX8_setCorners 63 = .ok (.invokevirtual 53, 3) := by decide +kernel
theorem dX8_setCorners_66 : decode cX8_setCorners 66 = .ok (.aload_n 0, 1) := by decide +kernel
theorem dX8_setCorners_67 : decode cX8_setCorners 67 = .ok (.getfield 40, 3) := by decide +kernel
theorem dX8_setCorners_70 : decode cX8_setCorners 70 = .ok (.aload_n 0, 1) := by decide +kernel
theorem dX8_setCorners_71 : decode cX8_setCorners 71 = .ok (.getfield 44, 3) := by decide +kernel
theorem dX8_setCorners_74 : decode cX8_setCorners 74 = .ok (.lcmp, 1) := by decide +kernel
theorem dX8_setCorners_75 : decode cX8_setCorners 75 = .ok (.ifCond .le 7, 3) := by decide +kernel
theorem dX8_setCorners_78 : decode cX8_setCorners 78 = .ok (.aload_n 0, 1) := by decide +kernel
theorem dX8_setCorners_79 : decode cX8_setCorners 79 = .ok (.invokevirtual 50, 3) := by decide +kernel
theorem dX8_setCorners_82 : decode cX8_setCorners 82 = .ok (.return_, 1) := by decide +kernel
theorem dX8_swapLower_0 : decode cX8_swapLower 0 = .ok (.aload_n 0, 1) := by decide +kernel
theorem dX8_swapLower_1 : decode cX8_swapLower 1 = .ok (.getfield 23, 3) := by decide +kernel
theorem dX8_swapLower_4 : decode cX8_swapLower 4 = .ok (.istore_n 1, 1) := by decide +kernel
theorem dX8_swapLower_5 : decode cX8_swapLower 5 = .ok (.aload_n 0, 1) := by decide +kernel
theorem dX8_swapLower_6 : decode cX8_swapLower 6 = .ok (.aload_n 0, 1) := by decide +kernel
theorem dX8_swapLower_7 : decode cX8_swapLower 7 = .ok (.getfield 27, 3) := by decide +kernel
theorem dX8_swapLower_10 : decode cX8_swapLower 10 = .ok (.putfield 23, 3) := by decide +kernel
theorem dX8_swapLower_13 : decode cX8_swapLower 13 = .ok (.aload_n 0, 1) := by decide +kernel
theorem dX8_swapLower_14 : decode cX8_swapLower 14 = .ok (.iload_n 1, 1) := by decide +kernel
theorem dX8_swapLower_15 : decode cX8_swapLower 15 = .ok (.putfield 27, 3) := by decide +kernel
theorem dX8_swapLower_18 : decode cX8_swapLower 18 = .ok (.aload_n 0, 1) := by decide +kernel
theorem dX8_swapLower_19 : decode cX8_swapLower 19 = .ok (.getfield 40, 3) := by decide +kernel
theorem dX8_swapLower_22 : decode cX8_swapLower 22 = .ok (.lstore_n 2, 1) := by decide +kernel
theorem dX8_swapLower_23 : decode cX8_swapLower 23 = .ok (.aload_n 0, 1) := by decide +kernel
theorem dX8_swapLower_24 : decode cX8_swapLower 24 = .ok (.aload_n 0, 1) := by decide +kernel
theorem dX8_swapLower_25 : decode cX8_swapLower 25 = .ok (.getfield 44, 3) := by decide +kernel
theorem dX8_swapLower_28 : decode cX8_swapLower 28 = .ok (.putfield 40, 3) := by decide +kernel
theorem dX8_swapLower_31 : decode cX8_swapLower 31 = .ok (.aload_n 0, 1) := by decide +kernel
theorem dX8_swapLower_32 : decode cX8_swapLower 32 = .ok (.lload_n 2, 1) := by decide +kernel
theorem dX8_swapLower_33 : decode cX8_swapLower 33 = .ok (.putfield 44, 3) := by decide +kernel
theorem dX8_swapLower_36 : decode cX8_swapLower 36 = .ok (.return_, 1) := by decide +kernel
theorem dX8_swapUpper_0 : decode cX8_swapUpper 0 = .ok (.aload_n 0, 1) := by decide +kernel
theorem dX8_swapUpper_1 : decode cX8_swapUpper 1 = .ok (.getfield 27, 3) := by decide +kernel
theorem dX8_swapUpper_4 : decode cX8_swapUpper 4 = .ok (.istore_n 1, 1) := by decide +kernel
theorem dX8_swapUpper_5 : decode cX8_swapUpper 5 = .ok (.aload_n 0, 1) := by decide +kernel
theorem dX8_swapUpper_6 : decode cX8_swapUpper 6 = .ok (.aload_n 0, 1) := by decide +kernel
theorem dX8_swapUpper_7 : decode cX8_swapUpper 7 = .ok (.getfield 30, 3) := by decide +kernel
theorem dX8_swapUpper_10 : decode cX8_swapUpper 10 = .ok (.putfield 27, 3) := by decide +kernel
theorem dX8_swapUpper_13 : decode cX8_swapUpper 13 = .ok (.aload_n 0, 1) := by decide +kernel
theorem dX8_swapUpper_14 : decode cX8_swapUpper 14 = .ok (.iload_n 1, 1) := by decide +kernel
theorem dX8_swapUpper_15 : decode cX8_swapUpper 15 = .ok (.putfield 30, 3) := by decide +kernel
theorem dX8_swapUpper_18 : decode cX8_swapUpper 18 = .ok (.aload_n 0, 1) := by decide +kernel
theorem dX8_swapUpper_19 : decode cX8_swapUpper 19 = .ok (.getfield 44, 3) := by decide +kernel
theorem dX8_swapUpper_22 : decode cX8_swapUpper 22 = .ok (.lstore_n 2, 1) := by decide +kernel
theorem dX8_swapUpper_23 : decode cX8_swapUpper 23 = .ok (.aload_n 0, 1) := by decide +kernel
theorem dX8_swapUpper_24 : decode cX8_swapUpper 24 = .ok (.aload_n 0, 1) := by decide +kernel
theorem dX8_swapUpper_25 : decode cX8_swapUpper 25 = .ok (.getfield 47, 3) := by decide +kernel
theorem dX8_swapUpper_28 : decode cX8_swapUpper 28 = .ok (.putfield 44, 3) := by decide +kernel
theorem dX8_swapUpper_31 : decode cX8_swapUpper 31 = .ok (.aload_n 0, 1) := by decide +kernel
theorem dX8_swapUpper_32 : decode cX8_swapUpper 32 = .ok (.lload_n 2, 1) := by decide +kernel
theorem dX8_swapUpper_33 : decode cX8_swapUpper 33 = .ok (.putfield 47, 3) := by decide +kernel
theorem dX8_swapUpper_36 : decode cX8_swapUpper 36 = .ok (.return_, 1) := by decide +kernel
theorem dX8_told_0 : decode cX8_told 0 = .ok (.iload_n 1, 1) := by decide +kernel
theorem dX8_told_1 : decode cX8_told 1 = .ok (.ifCond .ne 8, 3) := by decide +kernel
theorem dX8_told_4 : decode cX8_told 4 = .ok (.aload_n 0, 1) := by decide +kernel
theorem dX8_told_5 : decode cX8_told 5 = .ok (.getfield 23, 3) := by decide +kernel
theorem dX8_told_8 : decode cX8_told 8 = .ok (.ireturn, 1) := by decide +kernel
theorem dX8_told_9 : decode cX8_told 9 = .ok (.iload_n 1, 1) := by decide +kernel
theorem dX8_told_10 : decode cX8_told 10 = .ok (.iconst 1, 1) := by decide +kernel
theorem dX8_told_11 : decode cX8_told 11 = .ok (.if_icmp .ne 8, 3) := by decide +kernel
theorem dX8_told_14 : decode cX8_told 14 = .ok (.aload_n 0, 1) := by decide +kernel
theorem dX8_told_15 : decode cX8_told 15 = .ok (.getfield 27, 3) := by decide +kernel
theorem dX8_told_18 : decode cX8_told 18 = .ok (.ireturn, 1) := by decide +kernel
theorem dX8_told_19 : decode cX8_told 19 = .ok (.iload_n 1, 1) := by decide +kernel
theorem dX8_told_20 : decode cX8_told 20 = .ok (.iconst 2, 1) := by decide +kernel
theorem dX8_told_21 : decode cX8_told 21 = .ok (.if_icmp .ne 10, 3) := by decide +kernel
theorem dX8_told_24 : decode cX8_told 24 = .ok (.aload_n 0, 1) := by decide +kernel
theorem dX8_told_25 : decode cX8_told 25 = .ok (.getfield 30, 3) := by decide +kernel
theorem dX8_told_28 : decode cX8_told 28 = .ok (.goto 7, 3) := by decide +kernel
theorem dX8_told_31 : decode cX8_told 31 = .ok (.aload_n 0, 1) := by decide +kernel
theorem dX8_told_32 : decode cX8_told 32 = .ok (.getfield 37, 3) := by decide +kernel
theorem dX8_told_35 : decode cX8_told 35 = .ok (.ireturn, 1) := by decide +kernel
theorem dX8_isLike_0 : decode cX8_isLike 0 = .ok (.aload_n 0, 1) := by decide +kernel
theorem dX8_isLike_1 : decode cX8_isLike 1 = .ok (.getfield 37, 3) := by decide +kernel
theorem dX8_isLike_4 : decode cX8_isLike 4 = .ok (.aload_n 1, 1) := by decide +kernel
theorem dX8_isLike_5 : decode cX8_isLike 5 = .ok (.getfield 37, 3) := by decide +kernel
theorem dX8_isLike_8 : decode cX8_isLike 8 = .ok (.if_icmp .eq 5, 3) := by decide +kernel
theorem dX8_isLike_11 : decode cX8_isLike 11 = .ok (.iconst 0, 1) := by decide +kernel
theorem dX8_isLike_12 : decode cX8_isLike 12 = .ok (.ireturn, 1) := by decide +kernel
theorem dX8_isLike_13 : decode cX8_isLike 13 = .ok (.iload_n 2, 1) := by decide +kernel
theorem dX8_isLike_14 : decode cX8_isLike 14 = .ok (.i2l, 1) := by decide +kernel
theorem dX8_isLike_15 : decode cX8_isLike 15 = .ok (.aload_n 0, 1) := by decide +kernel
theorem dX8_isLike_16 : decode cX8_isLike 16 = .ok (.getfield 47, 3) := by decide +kernel
theorem dX8_isLike_19 : decode cX8_isLike 19 = .ok (.lmul, 1) := by decide +kernel
theorem dX8_isLike_20 : decode cX8_isLike 20 = .ok (.aload_n 1, 1) := by decide +kernel
theorem dX8_isLike_21 : decode cX8_isLike 21 = .ok (.getfield 47, 3) := by decide +kernel
theorem dX8_isLike_24 : decode cX8_isLike 24 = .ok (.lmul, 1) := by decide +kernel
theorem dX8_isLike_25 : decode cX8_isLike 25 = .ok (.lstore_n 3, 1) := by decide +kernel
theorem dX8_isLike_26 : decode cX8_isLike 26 = .ok (.aload_n 0, 1) := by decide +kernel
theorem dX8_isLike_27 : decode cX8_isLike 27 = .ok (.getfield 40, 3) := by decide +kernel
theorem dX8_isLike_30 : decode cX8_isLike 30 = .ok (.aload_n 1, 1) := by decide +kernel
theorem dX8_isLike_31 : decode cX8_isLike 31 = .ok (.getfield 47, 3) := by decide +kernel
theorem dX8_isLike_34 : decode cX8_isLike 34 = .ok (.lmul, 1) := by decide +kernel
theorem dX8_isLike_35 : decode cX8_isLike 35 = .ok (.aload_n 1, 1) := by decide +kernel
theorem dX8_isLike_36 : decode cX8_isLike 36 = .ok (.getfield 40, 3) := by decide +kernel
theorem dX8_isLike_39 : decode cX8_isLike 39 = .ok (.aload_n 0, 1) := by decide +kernel
theorem dX8_isLike_40 : decode cX8_isLike 40 = .ok (.getfield 47, 3) := by decide +kernel
theorem dX8_isLike_43 : decode cX8_isLike 43 = .ok (.lmul, 1) := by decide +kernel
theorem dX8_isLike_44 : decode cX8_isLike 44 = .ok (.lsub, 1) := by decide +kernel
theorem dX8_isLike_45 : decode cX8_isLike 45 = .ok (.invokestatic 56, 3) := by decide +kernel
theorem dX8_isLike_48 : decode cX8_isLike 48 = .ok (.ldc2_w 62, 3) := by decide +kernel
theorem dX8_isLike_51 : decode cX8_isLike 51 = .ok (.lmul, 1) := by decide +kernel
theorem dX8_isLike_52 : decode cX8_isLike 52 = .ok (.lload_n 3, 1) := by decide +kernel
theorem dX8_isLike_53 : decode cX8_isLike 53 = .ok (.lcmp, 1) := by decide +kernel
theorem dX8_isLike_54 : decode cX8_isLike 54 = .ok (.ifCond .gt 38, 3) := by decide +kernel
theorem dX8_isLike_57 : decode cX8_isLike 57 = .ok (.aload_n 0, 1) := by decide +kernel
theorem dX8_isLike_58 : decode cX8_isLike 58 = .ok (.getfield 44, 3) := by decide +kernel
theorem dX8_isLike_61 : decode cX8_isLike 61 = .ok (.aload_n 1, 1) := by decide +kernel
theorem dX8_isLike_62 : decode cX8_isLike 62 = .ok (.getfield 47, 3) := by decide +kernel
theorem dX8_isLike_65 : decode cX8_isLike 65 = .ok (.lmul, 1) := by decide +kernel
theorem dX8_isLike_66 : decode cX8_isLike 66 = .ok (.aload_n 1, 1) := by decide +kernel
theorem dX8_isLike_67 : decode cX8_isLike 67 = .ok (.getfield 44, 3) := by decide +kernel
theorem dX8_isLike_70 : decode cX8_isLike 70 = .ok (.aload_n 0, 1) := by decide +kernel
theorem dX8_isLike_71 : decode cX8_isLike 71 = .ok (.getfield 47, 3) := by decide +kernel
theorem dX8_isLike_74 : decode cX8_isLike 74 = .ok (.lmul, 1) := by decide +kernel
theorem dX8_isLike_75 : decode cX8_isLike 75 = .ok (.lsub, 1) := by decide +kernel
theorem dX8_isLike_76 : decode cX8_isLike 76 = .ok (.invokestatic 56, 3) := by decide +kernel
theorem dX8_isLike_79 : decode cX8_isLike 79 = .ok (.ldc2_w 62, 3) := by decide +kernel
theorem dX8_isLike_82 : decode cX8_isLike 82 = .ok (.lmul, 1) := by decide +kernel
theorem dX8_isLike_83 : decode cX8_isLike 83 = .ok (.lload_n 3, 1) := by decide +kernel
theorem dX8_isLike_84 : decode cX8_isLike 84 = .ok (.lcmp, 1) := by decide +kernel
theorem dX8_isLike_85 : decode cX8_isLike 85 = .ok (.ifCond .gt 7, 3) := by decide +kernel
theorem dX8_isLike_88 : decode cX8_isLike 88 = .ok (.iconst 1, 1) := by decide +kernel
theorem dX8_isLike_89 : decode cX8_isLike 89 = .ok (.goto 4, 3) := by decide +kernel
theorem dX8_isLike_92 : decode cX8_isLike 92 = .ok (.iconst 0, 1) := by decide +kernel
theorem dX8_isLike_93 : decode cX8_isLike 93 = .ok (.ireturn, 1) := by decide +kernel
theorem dX9_init_0 : decode cX9_init 0 = .ok (.aload_n 0, 1) := by decide +kernel
theorem dX9_init_1 : decode cX9_init 1 = .ok (.invokespecial 1, 3) := by decide +kernel
theorem dX9_init_4 : decode cX9_init 4 = .ok (.iload_n 1, 1) := by decide +kernel
theorem dX9_init_5 : decode cX9_init 5 = .ok (.iload_n 1, 1) := by decide +kernel
theorem dX9_init_6 : decode cX9_init 6 = .ok (.iconst 1, 1) := by decide +kernel
theorem dX9_init_7 : decode cX9_init 7 = .ok (.isub, 1) := by decide +kernel
theorem dX9_init_8 : decode cX9_init 8 = .ok (.imul, 1) := by decide +kernel
theorem dX9_init_9 : decode cX9_init 9 = .ok (.iload_n 1, 1) := by decide +kernel
theorem dX9_init_10 : decode cX9_init 10 = .ok (.iconst 2, 1) := by decide +kernel
theorem dX9_init_11 : decode cX9_init 11 = .ok (.isub, 1) := by decide +kernel
theorem dX9_init_12 : decode cX9_init 12 = .ok (.imul, 1) := by decide +kernel
theorem dX9_init_13 : decode cX9_init 13 = .ok (.bipush 6, 2) := by decide +kernel
theorem dX9_init_15 : decode cX9_init 15 = .ok (.idiv, 1) := by decide +kernel
theorem dX9_init_16 : decode cX9_init 16 = .ok (.istore_n 2, 1) := by decide +kernel
theorem dX9_init_17 : decode cX9_init 17 = .ok (.aload_n 0, 1) := by decide +kernel
theorem dX9_init_18 : decode cX9_init 18 = .ok (.iconst 0, 1) := by decide +kernel
theorem dX9_init_19 : decode cX9_init 19 = .ok (.iload_n 2, 1) := by decide +kernel
theorem dX9_init_20 : decode cX9_init 20 = .ok (.invokestatic 7, 3) := by decide +kernel
theorem dX9_init_23 : decode cX9_init 23 = .ok (.anewarray 13, 3) := by decide +kernel
theorem dX9_init_26 : decode cX9_init 26 = .ok (.putfield 15, 3) := by decide +kernel
theorem dX9_init_29 : decode cX9_init 29 = .ok (.aload_n 0, 1) := by decide +kernel
theorem dX9_init_30 : decode cX9_init 30 = .ok (.iconst 0, 1) := by decide +kernel
theorem dX9_init_31 : decode cX9_init 31 = .ok (.putfield 21, 3) := by decide +kernel
theorem dX9_init_34 : decode cX9_init 34 = .ok (.return_, 1) := by decide +kernel
set_option maxRecDepth 20000 in
theorem ggX9_gather_X9_keepIfGood : GoodIn wsX9_gather wsX9_keepIfGood := goodIn_r _ [8, 3, 1, 9, 10, 11, 12, 13, 14, 15, 16, 17, 18, 19, 20, 21, 22, 23, 24, 25, 26, 27, 28, 29, 30, 31, 32, 33, 34, 35, 36, 37, 38, 39, 40, 41, 42, 43, 44, 45, 46, 47, 48, 49, 50, 51, 52, 53, 54, 55, 56, 57, 58, 59, 64, 65, 66, 67, 68, 69, 70, 71, 60, 61, 62, 63] (by decide +kernel) (by decide +kernel)
set_option maxRecDepth 20000 in
theorem gX9_gather_X9_keepIfGood : GoodIn wsX9_gather (wsV RX9 28 RX9 yX9_keepIfGood wsX9_keepIfGood) := goodIn_app (goodIn_of _ (by decide +kernel)) ggX9_gather_X9_keepIfGood
theorem dX9_gather_0 : decode cX9_gather 0 = .ok (.aload_n 0, 1) := by decide +kernel
theorem dX9_gather_1 : decode cX9_gather 1 = .ok (.iconst 0, 1) := by decide +kernel
theorem dX9_gather_2 : decode cX9_gather 2 = .ok (.putfield 21, 3) := by decide +kernel
theorem dX9_gather_5 : decode cX9_gather 5 = .ok (.iconst 0, 1) := by decide +kernel
theorem dX9_gather_6 : decode cX9_gather 6 = .ok (.istore_n 2, 1) := by decide +kernel
theorem dX9_gather_7 : decode cX9_gather 7 = .ok (.iload_n 2, 1) := by decide +kernel
theorem dX9_gather_8 : decode cX9_gather 8 = .ok (.aload_n 1, 1) := by decide +kernel
theorem dX9_gather_9 : decode cX9_gather 9 = .ok (.getfield 25, 3) := by decide +kernel
theorem dX9_gather_12 : decode cX9_gather 12 = .ok (.if_icmp .ge 68, 3) := by decide +kernel
theorem dX9_gather_15 : decode cX9_gather 15 = .ok (.iload_n 2, 1) := by decide +kernel
theorem dX9_gather_16 : decode cX9_gather 16 = .ok (.iconst 1, 1) := by decide +kernel
theorem dX9_gather_17 : decode cX9_gather 17 = .ok (.iadd, 1) := by decide +kernel
theorem dX9_gather_18 : decode cX9_gather 18 = .ok (.istore_n 3, 1) := by decide +kernel
theorem dX9_gather_19 : decode cX9_gather 19 = .ok (.iload_n 3, 1) := by decide +kernel
theorem dX9_gather_20 : decode cX9_gather 20 = .ok (.aload_n 1, 1) := by decide +kernel
theorem dX9_gather_21 : decode cX9_gather 21 = .ok (.getfield 25, 3) := by decide +kernel
theorem dX9_gather_24 : decode cX9_gather 24 = .ok (.if_icmp .ge 50, 3) := by decide +kernel
theorem dX9_gather_27 : decode cX9_gather 27 = .ok (.iload_n 3, 1) := by decide +kernel
theorem dX9_gather_28 : decode cX9_gather 28 = .ok (.iconst 1, 1) := by decide +kernel
theorem dX9_gather_29 : decode cX9_gather 29 = .ok (.iadd, 1) := by decide +kernel
theorem dX9_gather_30 : decode cX9_gather 30 = .ok (.istore 4, 2) := by decide +kernel
theorem dX9_gather_32 : decode cX9_gather 32 = .ok (.iload 4, 2) := by decide +kernel
theorem dX9_gather_34 : decode cX9_gather 34 = .ok (.aload_n 1, 1) := by decide +kernel
theorem dX9_gather_35 : decode cX9_gather 35 = .ok (.getfield 25, 3) := by decide +kernel
theorem dX9_gather_38 : decode cX9_gather 38 = .ok (.if_icmp .ge 30, 3) := by decide +kernel
theorem dX9_gather_41 : decode cX9_gather 41 = .ok (.aload_n 0, 1) := by decide +kernel
theorem dX9_gather_42 : decode cX9_gather 42 = .ok (.getfield 21, 3) := by decide +kernel
theorem dX9_gather_45 : decode cX9_gather 45 = .ok (.aload_n 0, 1) := by decide +kernel
theorem dX9_gather_46 : decode cX9_gather 46 = .ok (.getfield 15, 3) := by decide +kernel
theorem dX9_gather_49 : decode cX9_gather 49 = .ok (.arraylength, 1) := by decide +kernel
theorem dX9_gather_50 : decode cX9_gather 50 = .ok (.if_icmp .ge 18, 3) := by decide +kernel
theorem dX9_gather_53 : decode cX9_gather 53 = .ok (.aload_n 0, 1) := by decide +kernel
theorem dX9_gather_54 : decode cX9_gather 54 = .ok (.aload_n 1, 1) := by decide +kernel
theorem dX9_gather_55 : decode cX9_gather 55 = .ok (.iload_n 2, 1) := by decide +kernel
theorem dX9_gather_56 : decode cX9_gather 56 = .ok (.iload_n 3, 1) := by decide +kernel
theorem dX9_gather_57 : decode cX9_gather 57 = .ok (.iload 4, 2) := by decide +kernel
theorem dX9_gather_59 : decode cX9_gather 59 = .ok (.invokevirtual 28, 3) := by decide +kernel
theorem dX9_gather_62 : decode cX9_gather 62 = .ok (.iinc 4 1, 3) := by decide +kernel
theorem dX9_gather_65 : decode cX9_gather 65 = .ok (.goto (-33), 3) := by decide +kernel
theorem dX9_gather_68 : decode cX9_gather 68 = .ok (.iinc 3 1, 3) := by decide +kernel
theorem dX9_gather_71 : decode cX9_gather 71 = .ok (.goto (-52), 3) := by decide +kernel
theorem dX9_gather_74 : decode cX9_gather 74 = .ok (.iinc 2 1, 3) := by decide +kernel
theorem dX9_gather_77 : decode cX9_gather 77 = .ok (.goto (-70), 3) := by decide +kernel
theorem dX9_gather_80 : decode cX9_gather 80 = .ok (.return_, 1) := by decide +kernel
set_option maxRecDepth 20000 in
theorem ggX9_keepIfGood_X8_init : GoodIn wsX9_keepIfGood wsX8_init := goodIn_r _ [9, 10, 11, 12, 13, 54, 55, 56, 57, 58, 59, 60, 61] (by decide +kernel) (by decide +kernel)
set_option maxRecDepth 20000 in
theorem gX9_keepIfGood_X8_init : GoodIn wsX9_keepIfGood (wsX8_init) := ggX9_keepIfGood_X8_init
set_option maxRecDepth 20000 in
theorem ggX9_keepIfGood_X8_measure : GoodIn wsX9_keepIfGood wsX8_measure := goodIn_r _ [17, 18, 19, 20, 21, 22, 23, 24, 13, 25, 26, 27, 28, 29, 30, 31, 32, 33, 34, 5, 35, 36, 37, 38, 39, 40, 41, 42, 43, 44, 45, 46, 47, 48, 49, 50, 51, 54, 55, 56, 57, 58, 59, 60, 61, 62, 63, 64, 65] (by decide +kernel) (by decide +kernel)
set_option maxRecDepth 20000 in
theorem gX9_keepIfGood_X8_measure : GoodIn wsX9_keepIfGood (wsV RX9 33 RX8 yX8_measure wsX8_measure) := goodIn_app (goodIn_of _ (by decide +kernel)) ggX9_keepIfGood_X8_measure
theorem dX9_keepIfGood_0 : decode cX9_keepIfGood 0 = .ok (.aload_n 0, 1) := by decide +kernel
theorem dX9_keepIfGood_1 : decode cX9_keepIfGood 1 = .ok (.getfield 15, 3) := by decide +kernel
theorem dX9_keepIfGood_4 : decode cX9_keepIfGood 4 = .ok (.aload_n 0, 1) := by decide +kernel
theorem dX9_keepIfGood_5 : decode cX9_keepIfGood 5 = .ok (.getfield 21, 3) := by decide +kernel
theorem dX9_keepIfGood_8 : decode cX9_keepIfGood 8 = .ok (.aaload, 1) := by decide +kernel
theorem dX9_keepIfGood_9 : decode cX9_keepIfGood 9 = .ok (.ifnonnull 19, 3) := by decide +kernel
theorem dX9_keepIfGood_12 : decode cX9_keepIfGood 12 = .ok (.aload_n 0, 1) := by decide +kernel
theorem dX9_keepIfGood_13 : decode cX9_keepIfGood 13 = .ok (.getfield 15, 3) := by decide +kernel
theorem dX9_keepIfGood_16 : decode cX9_keepIfGood 16 = .ok (.aload_n 0, 1) := by decide +kernel
theorem dX9_keepIfGood_17 : decode cX9_keepIfGood 17 = .ok (.getfield 21, 3) := by decide +kernel
theorem dX9_keepIfGood_20 : decode cX9_keepIfGood 20 = .ok (.new 13, 3) := by decide +kernel
theorem dX9_keepIfGood_23 : decode cX9_keepIfGood 23 = .ok (.dup, 1) := by decide +kernel
theorem dX9_keepIfGood_24 : decode cX9_keepIfGood 24 = .ok (.invokespecial 32, 3) := by decide +kernel
theorem dX9_keepIfGood_27 : decode cX9_keepIfGood 27 = .ok (.aastore, 1) := by decide +kernel
theorem dX9_keepIfGood_28 : decode cX9_keepIfGood 28 = .ok (.aload_n 0, 1) := by decide +kernel
theorem dX9_keepIfGood_29 : decode cX9_keepIfGood 29 = .ok (.getfield 15, 3) := by decide +kernel
theorem dX9_keepIfGood_32 : decode cX9_keepIfGood 32 = .ok (.aload_n 0, 1) := by decide +kernel
theorem dX9_keepIfGood_33 : decode cX9_keepIfGood 33 = .ok (.getfield 21, 3) := by decide +kernel
theorem dX9_keepIfGood_36 : decode cX9_keepIfGood 36 = .ok (.aaload, 1) := by decide +kernel
theorem dX9_keepIfGood_37 : decode cX9_keepIfGood 37 = .ok (.aload_n 1, 1) := by decide +kernel
theorem dX9_keepIfGood_38 : decode cX9_keepIfGood 38 = .ok (.iload_n 2, 1) := by decide +kernel
theorem dX9_keepIfGood_39 : decode cX9_keepIfGood 39 = .ok (.iload_n 3, 1) := by decide +kernel
theorem dX9_keepIfGood_40 : decode cX9_keepIfGood 40 = .ok (.iload 4, 2) := by decide +kernel
theorem dX9_keepIfGood_42 : decode cX9_keepIfGood 42 = .ok (.invokevirtual 33, 3) := by decide +kernel
theorem dX9_keepIfGood_45 : decode cX9_keepIfGood 45 = .ok (.aload_n 0, 1) := by decide +kernel
theorem dX9_keepIfGood_46 : decode cX9_keepIfGood 46 = .ok (.getfield 15, 3) := by decide +kernel
theorem dX9_keepIfGood_49 : decode cX9_keepIfGood 49 = .ok (.aload_n 0, 1) := by decide +kernel
theorem dX9_keepIfGood_50 : decode cX9_keepIfGood 50 = .ok (.getfield 21, 3) := by decide +kernel
theorem dX9_keepIfGood_53 : decode cX9_keepIfGood 53 = .ok (.aaload, 1) := by decide +kernel
theorem dX9_keepIfGood_54 : decode cX9_keepIfGood 54 = .ok (.getfield 36, 3) := by decide +kernel
theorem dX9_keepIfGood_57 : decode cX9_keepIfGood 57 = .ok (.ifCond .eq 13, 3) := by decide +kernel
theorem dX9_keepIfGood_60 : decode cX9_keepIfGood 60 = .ok (.aload_n 0, 1) := by decide +kernel
theorem dX9_keepIfGood_61 : decode cX9_keepIfGood 61 = .ok (.dup, 1) := by decide +kernel
theorem dX9_keepIfGood_62 : decode cX9_keepIfGood 62 = .ok (.getfield 21, 3) := by decide +kernel
theorem dX9_keepIfGood_65 : decode cX9_keepIfGood 65 = .ok (.iconst 1, 1) := by decide +kernel
theorem dX9_keepIfGood_66 : decode cX9_keepIfGood 66 = .ok (.iadd, 1) := by decide +kernel
theorem dX9_keepIfGood_67 : decode cX9_keepIfGood 67 = .ok (.putfield 21, 3) := by decide +kernel
theorem dX9_keepIfGood_70 : decode cX9_keepIfGood 70 = .ok (.return_, 1) := by decide +kernel
theorem dX10_init_0 : decode cX10_init 0 = .ok (.aload_n 0, 1) := by decide +kernel
theorem dX10_init_1 : decode cX10_init 1 = .ok (.invokespecial 1, 3) := by decide +kernel
theorem dX10_init_4 : decode cX10_init 4 = .ok (.aload_n 0, 1) := by decide +kernel
theorem dX10_init_5 : decode cX10_init 5 = .ok (.lload_n 1, 1) := by decide +kernel
theorem dX10_init_6 : decode cX10_init 6 = .ok (.putfield 7, 3) := by decide +kernel
theorem dX10_init_9 : decode cX10_init 9 = .ok (.aload_n 0, 1) := by decide +kernel
theorem dX10_init_10 : decode cX10_init 10 = .ok (.lload_n 3, 1) := by decide +kernel
theorem dX10_init_11 : decode cX10_init 11 = .ok (.putfield 13, 3) := by decide +kernel
theorem dX10_init_14 : decode cX10_init 14 = .ok (.aload_n 0, 1) := by decide +kernel
theorem dX10_init_15 : decode cX10_init 15 = .ok (.lload 5, 2) := by decide +kernel
theorem dX10_init_17 : decode cX10_init 17 = .ok (.putfield 16, 3) := by decide +kernel
theorem dX10_init_20 : decode cX10_init 20 = .ok (.return_, 1) := by decide +kernel
theorem dX10_isZero_0 : decode cX10_isZero 0 = .ok (.aload_n 0, 1) := by decide +kernel
theorem dX10_isZero_1 : decode cX10_isZero 1 = .ok (.getfield 7, 3) := by decide +kernel
theorem dX10_isZero_4 : decode cX10_isZero 4 = .ok (.lconst 0, 1) := by decide +kernel
theorem dX10_isZero_5 : decode cX10_isZero 5 = .ok (.lcmp, 1) := by decide +kernel
theorem dX10_isZero_6 : decode cX10_isZero 6 = .ok (.ifCond .ne 25, 3) := by decide +kernel
theorem dX10_isZero_9 : decode cX10_isZero 9 = .ok (.aload_n 0, 1) := by decide +kernel
theorem dX10_isZero_10 : decode cX10_isZero 10 = .ok (.getfield 13, 3) := by decide +kernel
theorem dX10_isZero_13 : decode cX10_isZero 13 = .ok (.lconst 0, 1) := by decide +kernel
theorem dX10_isZero_14 : decode cX10_isZero 14 = .ok (.lcmp, 1) := by decide +kernel
theorem dX10_isZero_15 : decode cX10_isZero 15 = .ok (.ifCond .ne 16, 3) := by decide +kernel
theorem dX10_isZero_18 : decode cX10_isZero 18 = .ok (.aload_n 0, 1) := by decide +kernel
theorem dX10_isZero_19 : decode cX10_isZero 19 = .ok (.getfield 16, 3) := by decide +kernel
theorem dX10_isZero_22 : decode cX10_isZero 22 = .ok (.lconst 0, 1) := by decide +kernel
theorem dX10_isZero_23 : decode cX10_isZero 23 = .ok (.lcmp, 1) := by decide +kernel
theorem dX10_isZero_24 : decode cX10_isZero 24 = .ok (.ifCond .ne 7, 3) := by decide +kernel
theorem dX10_isZero_27 : decode cX10_isZero 27 = .ok (.iconst 1, 1) := by decide +kernel
theorem dX10_isZero_28 : decode cX10_isZero 28 = .ok (.goto 4, 3) := by decide +kernel
theorem dX10_isZero_31 : decode cX10_isZero 31 = .ok (.iconst 0, 1) := by decide +kernel
theorem dX10_isZero_32 : decode cX10_isZero 32 = .ok (.ireturn, 1) := by decide +kernel
theorem dX10_along_0 : decode cX10_along 0 = .ok (.iload_n 1, 1) := by decide +kernel
theorem dX10_along_1 : decode cX10_along 1 = .ok (.ifCond .ne 8, 3) := by decide +kernel
theorem dX10_along_4 : decode cX10_along 4 = .ok (.aload_n 0, 1) := by decide +kernel
theorem dX10_along_5 : decode cX10_along 5 = .ok (.getfield 7, 3) := by decide +kernel
theorem dX10_along_8 : decode cX10_along 8 = .ok (.lreturn, 1) := by decide +kernel
theorem dX10_along_9 : decode cX10_along 9 = .ok (.iload_n 1, 1) := by decide +kernel
theorem dX10_along_10 : decode cX10_along 10 = .ok (.iconst 1, 1) := by decide +kernel
theorem dX10_along_11 : decode cX10_along 11 = .ok (.if_icmp .ne 10, 3) := by decide +kernel
theorem dX10_along_14 : decode cX10_along 14 = .ok (.aload_n 0, 1) := by decide +kernel
theorem dX10_along_15 : decode cX10_along 15 = .ok (.getfield 13, 3) := by decide +kernel
theorem dX10_along_18 : decode cX10_along 18 = .ok (.goto 7, 3) := by decide +kernel
theorem dX10_along_21 : decode cX10_along 21 = .ok (.aload_n 0, 1) := by decide +kernel
theorem dX10_along_22 : decode cX10_along 22 = .ok (.getfield 16, 3) := by decide +kernel
theorem dX10_along_25 : decode cX10_along 25 = .ok (.lreturn, 1) := by decide +kernel
theorem dX10_dot_0 : decode cX10_dot 0 = .ok (.aload_n 0, 1) := by decide +kernel
theorem dX10_dot_1 : decode cX10_dot 1 = .ok (.getfield 7, 3) := by decide +kernel
theorem dX10_dot_4 : decode cX10_dot 4 = .ok (.aload_n 1, 1) := by decide +kernel
theorem dX10_dot_5 : decode cX10_dot 5 = .ok (.getfield 7, 3) := by decide +kernel
theorem dX10_dot_8 : decode cX10_dot 8 = .ok (.lmul, 1) := by decide +kernel
theorem dX10_dot_9 : decode cX10_dot 9 = .ok (.aload_n 0, 1) := by decide +kernel
theorem dX10_dot_10 : decode cX10_dot 10 = .ok (.getfield 13, 3) := by decide +kernel
theorem dX10_dot_13 : decode cX10_dot 13 = .ok (.aload_n 1, 1) := by decide +kernel
theorem dX10_dot_14 : decode cX10_dot 14 = .ok (.getfield 13, 3) := by decide +kernel
theorem dX10_dot_17 : decode cX10_dot 17 = .ok (.lmul, 1) := by decide +kernel
theorem dX10_dot_18 : decode cX10_dot 18 = .ok (.ladd, 1) := by decide +kernel
theorem dX10_dot_19 : decode cX10_dot 19 = .ok (.aload_n 0, 1) := by decide +kernel
theorem dX10_dot_20 : decode cX10_dot 20 = .ok (.getfield 16, 3) := by decide +kernel
theorem dX10_dot_23 : decode cX10_dot 23 = .ok (.aload_n 1, 1) := by decide +kernel
theorem dX10_dot_24 : decode cX10_dot 24 = .ok (.getfield 16, 3) := by decide +kernel
theorem dX10_dot_27 : decode cX10_dot 27 = .ok (.lmul, 1) := by decide +kernel
theorem dX10_dot_28 : decode cX10_dot 28 = .ok (.ladd, 1) := by decide +kernel
theorem dX10_dot_29 : decode cX10_dot 29 = .ok (.lreturn, 1) := by decide +kernel
set_option maxRecDepth 20000 in
theorem ggX10_cross_X10_init : GoodIn wsX10_cross wsX10_init := goodIn_r _ [9, 10, 11, 12, 6, 4, 5, 13, 14, 15] (by decide +kernel) (by decide +kernel)
set_option maxRecDepth 20000 in
theorem gX10_cross_X10_init : GoodIn wsX10_cross (wsX10_init) := ggX10_cross_X10_init
theorem dX10_cross_0 : decode cX10_cross 0 = .ok (.new 8, 3) := by decide +kernel
theorem dX10_cross_3 : decode cX10_cross 3 = .ok (.dup, 1) := by decide +kernel
theorem dX10_cross_4 : decode cX10_cross 4 = .ok (.aload_n 0, 1) := by decide +kernel
theorem dX10_cross_5 : decode cX10_cross 5 = .ok (.getfield 13, 3) := by decide +kernel
theorem dX10_cross_8 : decode cX10_cross 8 = .ok (.aload_n 1, 1) := by decide +kernel
theorem dX10_cross_9 : decode cX10_cross 9 = .ok (.getfield 16, 3) := by decide +kernel
theorem dX10_cross_12 : decode cX10_cross 12 = .ok (.lmul, 1) := by decide +kernel
theorem dX10_cross_13 : decode cX10_cross 13 = .ok (.aload_n 0, 1) := by decide +kernel
theorem dX10_cross_14 : decode cX10_cross 14 = .ok (.getfield 16, 3) := by decide +kernel
theorem dX10_cross_17 : decode cX10_cross 17 = .ok (.aload_n 1, 1) := by decide +kernel
theorem dX10_cross_18 : decode cX10_cross 18 = .ok (.getfield 13, 3) := by decide +kernel
theorem dX10_cross_21 : decode cX10_cross 21 = .ok (.lmul, 1) := by decide +kernel
theorem dX10_cross_22 : decode cX10_cross 22 = .ok (.lsub, 1) := by decide +kernel
theorem dX10_cross_23 : decode cX10_cross 23 = .ok (.aload_n 0, 1) := by decide +kernel
theorem dX10_cross_24 : decode cX10_cross 24 = .ok (.getfield 16, 3) := by decide +kernel
theorem dX10_cross_27 : decode cX10_cross 27 = .ok (.aload_n 1, 1) := by decide +kernel
theorem dX10_cross_28 : decode cX10_cross 28 = .ok (.getfield 7, 3) := by decide +kernel
theorem dX10_cross_31 : decode cX10_cross 31 = .ok (.lmul, 1) := by decide +kernel
theorem dX10_cross_32 : decode cX10_cross 32 = .ok (.aload_n 0, 1) := by decide +kernel
theorem dX10_cross_33 : decode cX10_cross 33 = .ok (.getfield 7, 3) := by decide +kernel
theorem dX10_cross_36 : decode cX10_cross 36 = .ok (.aload_n 1, 1) := by decide +kernel
theorem dX10_cross_37 : decode cX10_cross 37 = .ok (.getfield 16, 3) := by decide +kernel
theorem dX10_cross_40 : decode cX10_cross 40 = .ok (.lmul, 1) := by decide +kernel
theorem dX10_cross_41 : decode cX10_cross 41 = .ok (.lsub, 1) := by decide +kernel
theorem dX10_cross_42 : decode cX10_cross 42 = .ok (.aload_n 0, 1) := by decide +kernel
theorem dX10_cross_43 : decode cX10_cross 43 = .ok (.getfield 7, 3) := by decide +kernel
theorem dX10_cross_46 : decode cX10_cross 46 = .ok (.aload_n 1, 1) := by decide +kernel
theorem dX10_cross_47 : decode cX10_cross 47 = .ok (.getfield 13, 3) := by decide +kernel
theorem dX10_cross_50 : decode cX10_cross 50 = .ok (.lmul, 1) := by decide +kernel
theorem dX10_cross_51 : decode cX10_cross 51 = .ok (.aload_n 0, 1) := by decide +kernel
theorem dX10_cross_52 : decode cX10_cross 52 = .ok (.getfield 13, 3) := by decide +kernel
theorem dX10_cross_55 : decode cX10_cross 55 = .ok (.aload_n 1, 1) := by decide +kernel
theorem dX10_cross_56 : decode cX10_cross 56 = .ok (.getfield 7, 3) := by decide +kernel
theorem dX10_cross_59 : decode cX10_cross 59 = .ok (.lmul, 1) := by decide +kernel
theorem dX10_cross_60 : decode cX10_cross 60 = .ok (.lsub, 1) := by decide +kernel
theorem dX10_cross_61 : decode cX10_cross 61 = .ok (.invokespecial 19, 3) := by decide +kernel
theorem dX10_cross_64 : decode cX10_cross 64 = .ok (.areturn, 1) := by decide +kernel
set_option maxRecDepth 20000 in
theorem ggX10_times_X10_init : GoodIn wsX10_times wsX10_init := goodIn_r _ [9, 10, 11, 12, 4, 5, 6, 13, 14, 15] (by decide +kernel) (by decide +kernel)
set_option maxRecDepth 20000 in
theorem gX10_times_X10_init : GoodIn wsX10_times (wsX10_init) := ggX10_times_X10_init
theorem dX10_times_0 : decode cX10_times 0 = .ok (.new 8, 3) := by decide +kernel
theorem dX10_times_3 : decode cX10_times 3 = .ok (.dup, 1) := by decide +kernel
theorem dX10_times_4 : decode cX10_times 4 = .ok (.lload_n 1, 1) := by decide +kernel
theorem dX10_times_5 : decode cX10_times 5 = .ok (.aload_n 0, 1) := by decide +kernel
theorem dX10_times_6 : decode cX10_times 6 = .ok (.getfield 7, 3) := by decide +kernel
theorem dX10_times_9 : decode cX10_times 9 = .ok (.lmul, 1) := by decide +kernel
theorem dX10_times_10 : decode cX10_times 10 = .ok (.lload_n 1, 1) := by decide +kernel
theorem dX10_times_11 : decode cX10_times 11 = .ok (.aload_n 0, 1) := by decide +kernel
theorem dX10_times_12 : decode cX10_times 12 = .ok (.getfield 13, 3) := by decide +kernel
theorem dX10_times_15 : decode cX10_times 15 = .ok (.lmul, 1) := by decide +kernel
theorem dX10_times_16 : decode cX10_times 16 = .ok (.lload_n 1, 1) := by decide +kernel
theorem dX10_times_17 : decode cX10_times 17 = .ok (.aload_n 0, 1) := by decide +kernel
theorem dX10_times_18 : decode cX10_times 18 = .ok (.getfield 16, 3) := by decide +kernel
theorem dX10_times_21 : decode cX10_times 21 = .ok (.lmul, 1) := by decide +kernel
theorem dX10_times_22 : decode cX10_times 22 = .ok (.invokespecial 19, 3) := by decide +kernel
theorem dX10_times_25 : decode cX10_times 25 = .ok (.areturn, 1) := by decide +kernel
set_option maxRecDepth 20000 in
theorem ggX10_plus_X10_init : GoodIn wsX10_plus wsX10_init := goodIn_r _ [9, 10, 11, 12, 4, 5, 6, 13, 14, 15] (by decide +kernel) (by decide +kernel)
set_option maxRecDepth 20000 in
theorem gX10_plus_X10_init : GoodIn wsX10_plus (wsX10_init) := ggX10_plus_X10_init
theorem dX10_plus_0 : decode cX10_plus 0 = .ok (.new 8, 3) := by decide +kernel
theorem dX10_plus_3 : decode cX10_plus 3 = .ok (.dup, 1) := by decide +kernel
theorem dX10_plus_4 : decode cX10_plus 4 = .ok (.aload_n 0, 1) := by decide +kernel
theorem dX10_plus_5 : decode cX10_plus 5 = .ok (.getfield 7, 3) := by decide +kernel
theorem dX10_plus_8 : decode cX10_plus 8 = .ok (.aload_n 1, 1) := by decide +kernel
theorem dX10_plus_9 : decode cX10_plus 9 = .ok (.getfield 7, 3) := by decide +kernel
theorem dX10_plus_12 : decode cX10_plus 12 = .ok (.ladd, 1) := by decide +kernel
theorem dX10_plus_13 : decode cX10_plus 13 = .ok (.aload_n 0, 1) := by decide +kernel
theorem dX10_plus_14 : decode cX10_plus 14 = .ok (.getfield 13, 3) := by decide +kernel
theorem dX10_plus_17 : decode cX10_plus 17 = .ok (.aload_n 1, 1) := by decide +kernel
theorem dX10_plus_18 : decode cX10_plus 18 = .ok (.getfield 13, 3) := by decide +kernel
theorem dX10_plus_21 : decode cX10_plus 21 = .ok (.ladd, 1) := by decide +kernel
theorem dX10_plus_22 : decode cX10_plus 22 = .ok (.aload_n 0, 1) := by decide +kernel
theorem dX10_plus_23 : decode cX10_plus 23 = .ok (.getfield 16, 3) := by decide +kernel
theorem dX10_plus_26 : decode cX10_plus 26 = .ok (.aload_n 1, 1) := by decide +kernel
theorem dX10_plus_27 : decode cX10_plus 27 = .ok (.getfield 16, 3) := by decide +kernel
theorem dX10_plus_30 : decode cX10_plus 30 = .ok (.ladd, 1) := by decide +kernel
theorem dX10_plus_31 : decode cX10_plus 31 = .ok (.invokespecial 19, 3) := by decide +kernel
theorem dX10_plus_34 : decode cX10_plus 34 = .ok (.areturn, 1) := by decide +kernel
set_option maxRecDepth 20000 in
theorem ggX10_minus_X10_init : GoodIn wsX10_minus wsX10_init := goodIn_r _ [9, 10, 11, 12, 4, 5, 6, 13, 14, 15] (by decide +kernel) (by decide +kernel)
set_option maxRecDepth 20000 in
theorem gX10_minus_X10_init : GoodIn wsX10_minus (wsX10_init) := ggX10_minus_X10_init
theorem dX10_minus_0 : decode cX10_minus 0 = .ok (.new 8, 3) := by decide +kernel
theorem dX10_minus_3 : decode cX10_minus 3 = .ok (.dup, 1) := by decide +kernel
theorem dX10_minus_4 : decode cX10_minus 4 = .ok (.aload_n 0, 1) := by decide +kernel
theorem dX10_minus_5 : decode cX10_minus 5 = .ok (.getfield 7, 3) := by decide +kernel
theorem dX10_minus_8 : decode cX10_minus 8 = .ok (.aload_n 1, 1) := by decide +kernel
theorem dX10_minus_9 : decode cX10_minus 9 = .ok (.getfield 7, 3) := by decide +kernel
theorem dX10_minus_12 : decode cX10_minus 12 = .ok (.lsub, 1) := by decide +kernel
theorem dX10_minus_13 : decode cX10_minus 13 = .ok (.aload_n 0, 1) := by decide +kernel
theorem dX10_minus_14 : decode cX10_minus 14 = .ok (.getfield 13, 3) := by decide +kernel
theorem dX10_minus_17 : decode cX10_minus 17 = .ok (.aload_n 1, 1) := by decide +kernel
theorem dX10_minus_18 : decode cX10_minus 18 = .ok (.getfield 13, 3) := by decide +kernel
theorem dX10_minus_21 : decode cX10_minus 21 = .ok (.lsub, 1) := by decide +kernel
theorem dX10_minus_22 : decode cX10_minus 22 = .ok (.aload_n 0, 1) := by decide +kernel
theorem dX10_minus_23 : decode cX10_minus 23 = .ok (.getfield 16, 3) := by decide +kernel
theorem dX10_minus_26 : decode cX10_minus 26 = .ok (.aload_n 1, 1) := by decide +kernel
theorem dX10_minus_27 : decode cX10_minus 27 = .ok (.getfield 16, 3) := by decide +kernel
theorem dX10_minus_30 : decode cX10_minus 30 = .ok (.lsub, 1) := by decide +kernel
theorem dX10_minus_31 : decode cX10_minus 31 = .ok (.invokespecial 19, 3) := by decide +kernel
theorem dX10_minus_34 : decode cX10_minus 34 = .ok (.areturn, 1) := by decide +kernel
set_option maxRecDepth 20000 in
theorem ggX11_init_X4_init : GoodIn wsX11_init wsX4_init := goodIn_r _ [39, 40, 2, 3, 41, 33, 42, 43, 44, 106, 107, 108, 109] (by decide +kernel) (by decide +kernel)
set_option maxRecDepth 20000 in
theorem gX11_init_X4_init : GoodIn wsX11_init (wsX4_init) := ggX11_init_X4_init
set_option maxRecDepth 20000 in
theorem ggX11_init_X1_init : GoodIn wsX11_init wsX1_init := goodIn_r _ [47, 48, 2, 3, 49, 50, 51, 52, 53, 54, 55, 56, 33, 57, 58, 59, 60, 61, 62, 63, 64, 65, 66, 67, 68, 69, 70, 71, 72, 73, 121, 122, 123, 124, 125, 126, 127, 128, 129, 130, 148, 149] (by decide +kernel) (by decide +kernel)
set_option maxRecDepth 20000 in
theorem gX11_init_X1_init : GoodIn wsX11_init (wsX1_init) := ggX11_init_X1_init
set_option maxRecDepth 20000 in
theorem ggX11_init_X8_init : GoodIn wsX11_init wsX8_init := goodIn_r _ [76, 77, 2, 3, 78, 131, 132, 133, 134, 135, 136, 137, 138] (by decide +kernel) (by decide +kernel)
set_option maxRecDepth 20000 in
theorem gX11_init_X8_init : GoodIn wsX11_init (wsX8_init) := ggX11_init_X8_init
