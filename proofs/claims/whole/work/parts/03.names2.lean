theorem dX11_drift_51 : decode cX11_drift 51 = .ok (.astore 7, 2) := by decide +kernel
theorem dX11_drift_53 : decode cX11_drift 53 = .ok (.aload 7, 2) := by decide +kernel
theorem dX11_drift_55 : decode cX11_drift 55 = .ok (.ifnonnull 9, 3) := by decide +kernel
theorem dX11_drift_58 : decode cX11_drift 58 = .ok (.aload_n 0, 1) := by decide +kernel
theorem dX11_drift_59 : decode cX11_drift 59 = .ok (.iconst 2, 1) := by decide +kernel
theorem dX11_drift_60 : decode cX11_drift 60 = .ok (.invokevirtual 85, 3) := by decide +kernel
theorem dX11_drift_63 : decode cX11_drift 63 = .ok (.lreturn, 1) := by decide +kernel
theorem dX11_drift_64 : decode cX11_drift 64 = .ok (.aload 7, 2) := by decide +kernel
theorem dX11_drift_66 : decode cX11_drift 66 = .ok (.iconst 2, 1) := by decide +kernel
theorem dX11_drift_67 : decode cX11_drift 67 = .ok (.invokevirtual 251, 3) := by decide +kernel
theorem dX11_drift_70 : decode cX11_drift 70 = .ok (.astore 8, 2) := by decide +kernel
theorem dX11_drift_72 : decode cX11_drift 72 = .ok (.aload 8, 2) := by decide +kernel
theorem dX11_drift_74 : decode cX11_drift 74 = .ok (.getfield 296, 3) := by decide +kernel
theorem dX11_drift_77 : decode cX11_drift 77 = .ok (.lconst 0, 1) := by decide +kernel
theorem dX11_drift_78 : decode cX11_drift 78 = .ok (.lcmp, 1) := by decide +kernel
theorem dX11_drift_79 : decode cX11_drift 79 = .ok (.ifCond .lt 25, 3) := by decide +kernel
theorem dX11_drift_82 : decode cX11_drift 82 = .ok (.aload 8, 2) := by decide +kernel
theorem dX11_drift_84 : decode cX11_drift 84 = .ok (.getfield 296, 3) := by decide +kernel
theorem dX11_drift_87 : decode cX11_drift 87 = .ok (.aload 8, 2) := by decide +kernel
theorem dX11_drift_89 : decode cX11_drift 89 = .ok (.getfield 298, 3) := by decide +kernel
theorem dX11_drift_92 : decode cX11_drift 92 = .ok (.ldc2_w 277, 3) := by decide +kernel
theorem dX11_drift_95 : decode cX11_drift 95 = .ok (.lmul, 1) := by decide +kernel
theorem dX11_drift_96 : decode cX11_drift 96 = .ok (.ldc2_w 277, 3) := by decide +kernel
theorem dX11_drift_99 : decode cX11_drift 99 = .ok (.lmul, 1) := by decide +kernel
theorem dX11_drift_100 : decode cX11_drift 100 = .ok (.lcmp, 1) := by decide +kernel
theorem dX11_drift_101 : decode cX11_drift 101 = .ok (.ifCond .le 9, 3) := by decide +kernel
theorem dX11_drift_104 : decode cX11_drift 104 = .ok (.aload_n 0, 1) := by decide +kernel
theorem dX11_drift_105 : decode cX11_drift 105 = .ok (.iconst 5, 1) := by decide +kernel
theorem dX11_drift_106 : decode cX11_drift 106 = .ok (.invokevirtual 85, 3) := by decide +kernel
theorem dX11_drift_109 : decode cX11_drift 109 = .ok (.lreturn, 1) := by decide +kernel
theorem dX11_drift_110 : decode cX11_drift 110 = .ok (.aload 8, 2) := by decide +kernel
theorem dX11_drift_112 : decode cX11_drift 112 = .ok (.iload 4, 2) := by decide +kernel
theorem dX11_drift_114 : decode cX11_drift 114 = .ok (.ifCond .eq 10, 3) := by decide +kernel
theorem dX11_drift_117 : decode cX11_drift 117 = .ok (.aload_n 0, 1) := by decide +kernel
theorem dX11_drift_118 : decode cX11_drift 118 = .ok (.getfield 71, 3) := by decide +kernel
theorem dX11_drift_121 : decode cX11_drift 121 = .ok (.goto 7, 3) := by decide +kernel
theorem dX11_drift_124 : decode cX11_drift 124 = .ok (.aload_n 0, 1) := by decide +kernel
theorem dX11_drift_125 : decode cX11_drift 125 = .ok (.getfield 67, 3) := by decide +kernel
theorem dX11_drift_128 : decode cX11_drift 128 = .ok (.invokestatic 299, 3) := by decide +kernel
theorem dX11_drift_131 : decode cX11_drift 131 = .ok (.iload 5, 2) := by decide +kernel
theorem dX11_drift_133 : decode cX11_drift 133 = .ok (.invokevirtual 170, 3) := by decide +kernel
theorem dX11_drift_136 : decode cX11_drift 136 = .ok (.lreturn, 1) := by decide +kernel
set_option maxRecDepth 20000 in
theorem ggX11_driftFrom_X0_init : GoodIn wsX11_driftFrom wsX0_init := goodIn_r _ [16, 17, 18, 19, 20, 21, 6, 22, 23, 5, 7, 24, 25, 26, 27, 28, 13, 29, 30, 31] (by decide +kernel) (by decide +kernel)
set_option maxRecDepth 20000 in
theorem gX11_driftFrom_X0_init : GoodIn wsX11_driftFrom (wsX0_init) := ggX11_driftFrom_X0_init
theorem dX11_driftFrom_0 : decode cX11_driftFrom 0 = .ok (.ldc2_w 277, 3) := by decide +kernel
theorem dX11_driftFrom_3 : decode cX11_driftFrom 3 = .ok (.aload_n 0, 1) := by decide +kernel
theorem dX11_driftFrom_4 : decode cX11_driftFrom 4 = .ok (.getfield 298, 3) := by decide +kernel
theorem dX11_driftFrom_7 : decode cX11_driftFrom 7 = .ok (.lmul, 1) := by decide +kernel
theorem dX11_driftFrom_8 : decode cX11_driftFrom 8 = .ok (.lstore_n 2, 1) := by decide +kernel
theorem dX11_driftFrom_9 : decode cX11_driftFrom 9 = .ok (.lconst 0, 1) := by decide +kernel
theorem dX11_driftFrom_10 : decode cX11_driftFrom 10 = .ok (.lstore 4, 2) := by decide +kernel
theorem dX11_driftFrom_12 : decode cX11_driftFrom 12 = .ok (.iconst 0, 1) := by decide +kernel
theorem dX11_driftFrom_13 : decode cX11_driftFrom 13 = .ok (.istore 6, 2) := by decide +kernel
theorem dX11_driftFrom_15 : decode cX11_driftFrom 15 = .ok (.iload 6, 2) := by decide +kernel
theorem dX11_driftFrom_17 : decode cX11_driftFrom 17 = .ok (.aload_n 1, 1) := by decide +kernel
theorem dX11_driftFrom_18 : decode cX11_driftFrom 18 = .ok (.arraylength, 1) := by decide +kernel
theorem dX11_driftFrom_19 : decode cX11_driftFrom 19 = .ok (.if_icmp .ge 42, 3) := by decide +kernel
theorem dX11_driftFrom_22 : decode cX11_driftFrom 22 = .ok (.lload_n 2, 1) := by decide +kernel
theorem dX11_driftFrom_23 : decode cX11_driftFrom 23 = .ok (.lconst 0, 1) := by decide +kernel
theorem dX11_driftFrom_24 : decode cX11_driftFrom 24 = .ok (.aload_n 0, 1) := by decide +kernel
theorem dX11_driftFrom_25 : decode cX11_driftFrom 25 = .ok (.getfield 296, 3) := by decide +kernel
theorem dX11_driftFrom_28 : decode cX11_driftFrom 28 = .ok (.iload 6, 2) := by decide +kernel
theorem dX11_driftFrom_30 : decode cX11_driftFrom 30 = .ok (.i2l, 1) := by decide +kernel
theorem dX11_driftFrom_31 : decode cX11_driftFrom 31 = .ok (.lload_n 2, 1) := by decide +kernel
theorem dX11_driftFrom_32 : decode cX11_driftFrom 32 = .ok (.lmul, 1) := by decide +kernel
theorem dX11_driftFrom_33 : decode cX11_driftFrom 33 = .ok (.lsub, 1) := by decide +kernel
theorem dX11_driftFrom_34 : decode cX11_driftFrom 34 = .ok (.invokestatic 303, 3) := by decide +kernel
theorem dX11_driftFrom_37 : decode cX11_driftFrom 37 = .ok (.invokestatic 309, 3) := by decide +kernel
theorem dX11_driftFrom_40 : decode cX11_driftFrom 40 = .ok (.lstore 7, 2) := by decide +kernel
theorem dX11_driftFrom_42 : decode cX11_driftFrom 42 = .ok (.lload 4, 2) := by decide +kernel
theorem dX11_driftFrom_44 : decode cX11_driftFrom 44 = .ok (.aload_n 1, 1) := by decide +kernel
theorem dX11_driftFrom_45 : decode cX11_driftFrom 45 = .ok (.iload 6, 2) := by decide +kernel
theorem dX11_driftFrom_47 : decode cX11_driftFrom 47 = .ok (.iaload, 1) := by decide +kernel
theorem dX11_driftFrom_48 : decode cX11_driftFrom 48 = .ok (.i2l, 1) := by decide +kernel
theorem dX11_driftFrom_49 : decode cX11_driftFrom 49 = .ok (.lload 7, 2) := by decide +kernel
theorem dX11_driftFrom_51 : decode cX11_driftFrom 51 = .ok (.lmul, 1) := by decide +kernel
theorem dX11_driftFrom_52 : decode cX11_driftFrom 52 = .ok (.ladd, 1) := by decide +kernel
theorem dX11_driftFrom_53 : decode cX11_driftFrom 53 = .ok (.lstore 4, 2) := by decide +kernel
theorem dX11_driftFrom_55 : decode cX11_driftFrom 55 = .ok (.iinc 6 1, 3) := by decide +kernel
theorem dX11_driftFrom_58 : decode cX11_driftFrom 58 = .ok (.goto (-43), 3) := by decide +kernel
theorem dX11_driftFrom_61 : decode cX11_driftFrom 61 = .ok (.new 171, 3) := by decide +kernel
theorem dX11_driftFrom_64 : decode cX11_driftFrom 64 = .ok (.dup, 1) := by decide +kernel
theorem dX11_driftFrom_65 : decode cX11_driftFrom 65 = .ok (.lload 4, 2) := by decide +kernel
theorem dX11_driftFrom_67 : decode cX11_driftFrom 67 = .ok (.aload_n 0, 1) := by decide +kernel
theorem dX11_driftFrom_68 : decode cX11_driftFrom 68 = .ok (.getfield 298, 3) := by decide +kernel
theorem dX11_driftFrom_71 : decode cX11_driftFrom 71 = .ok (.invokespecial 293, 3) := by decide +kernel
theorem dX11_driftFrom_74 : decode cX11_driftFrom 74 = .ok (.areturn, 1) := by decide +kernel
set_option maxRecDepth 20000 in
theorem ggX11_radiant_X11_isMeteor : GoodIn wsX11_radiant wsX11_isMeteor := goodIn_r _ [5] (by decide +kernel) (by decide +kernel)
set_option maxRecDepth 20000 in
theorem gX11_radiant_X11_isMeteor : GoodIn wsX11_radiant (va_wsS RX11 186 yX11_isMeteor wsX11_isMeteor) := goodIn_app (goodIn_of _ (by decide +kernel)) ggX11_radiant_X11_isMeteor
set_option maxRecDepth 20000 in
theorem ggX11_radiant_X11_isAxis : GoodIn wsX11_radiant wsX11_isAxis := goodIn_r _ [8] (by decide +kernel) (by decide +kernel)
set_option maxRecDepth 20000 in
theorem gX11_radiant_X11_isAxis : GoodIn wsX11_radiant (va_wsS RX11 240 yX11_isAxis wsX11_isAxis) := goodIn_app (goodIn_of _ (by decide +kernel)) ggX11_radiant_X11_isAxis
set_option maxRecDepth 20000 in
theorem ggX11_radiant_X11_finding : GoodIn wsX11_radiant wsX11_finding := goodIn_r _ [12, 13, 14, 58, 59, 60, 61, 62, 63, 64, 65, 66, 67, 68] (by decide +kernel) (by decide +kernel)
set_option maxRecDepth 20000 in
theorem gX11_radiant_X11_finding : GoodIn wsX11_radiant (wsV RX11 85 RX11 yX11_finding wsX11_finding) := goodIn_app (goodIn_of _ (by decide +kernel)) ggX11_radiant_X11_finding
set_option maxRecDepth 20000 in
theorem ggX11_radiant_X3_firstPlane : GoodIn wsX11_radiant wsX3_firstPlane := goodIn_r _ [19, 20, 21, 22, 23, 18, 24, 25, 26, 27, 28, 29, 30, 69, 70, 71, 72, 73, 74, 75, 76] (by decide +kernel) (by decide +kernel)
set_option maxRecDepth 20000 in
theorem gX11_radiant_X3_firstPlane : GoodIn wsX11_radiant (wsV RX11 312 RX3 yX3_firstPlane wsX3_firstPlane) := goodIn_app (goodIn_of _ (by decide +kernel)) ggX11_radiant_X3_firstPlane
set_option maxRecDepth 20000 in
theorem ggX11_radiant_X11_crossing : GoodIn wsX11_radiant wsX11_crossing := goodIn_r _ [33, 34, 35, 36, 37, 38, 39, 40, 41, 42, 43, 44, 45, 46, 47, 48, 49, 50, 51, 52, 53, 77, 78, 79] (by decide +kernel) (by decide +kernel)
set_option maxRecDepth 20000 in
theorem gX11_radiant_X11_crossing : GoodIn wsX11_radiant (va_wsS RX11 261 yX11_crossing wsX11_crossing) := goodIn_app (goodIn_of _ (by decide +kernel)) ggX11_radiant_X11_crossing
set_option maxRecDepth 20000 in
theorem ggX11_radiant_X10_along : GoodIn wsX11_radiant wsX10_along := goodIn_r _ [57, 43, 41, 42, 77, 78, 79] (by decide +kernel) (by decide +kernel)
set_option maxRecDepth 20000 in
theorem gX11_radiant_X10_along : GoodIn wsX11_radiant (wsV RX11 233 RX10 yX10_along wsX10_along) := goodIn_app (goodIn_of _ (by decide +kernel)) ggX11_radiant_X10_along
theorem dX11_radiant_0 : decode cX11_radiant 0 = .ok (.iload_n 1, 1) := by decide +kernel
theorem dX11_radiant_1 : decode cX11_radiant 1 = .ok (.invokestatic 186, 3) := by decide +kernel
theorem dX11_radiant_4 : decode cX11_radiant 4 = .ok (.ifCond .eq 22, 3) := by decide +kernel
theorem dX11_radiant_7 : decode cX11_radiant 7 = .ok (.iload_n 2, 1) := by decide +kernel
theorem dX11_radiant_8 : decode cX11_radiant 8 = .ok (.invokestatic 186, 3) := by decide +kernel
theorem dX11_radiant_11 : decode cX11_radiant 11 = .ok (.ifCond .eq 15, 3) := by decide +kernel
theorem dX11_radiant_14 : decode cX11_radiant 14 = .ok (.iload_n 1, 1) := by decide +kernel
theorem dX11_radiant_15 : decode cX11_radiant 15 = .ok (.iload_n 2, 1) := by decide +kernel
theorem dX11_radiant_16 : decode cX11_radiant 16 = .ok (.if_icmp .eq 10, 3) := by decide +kernel
theorem dX11_radiant_19 : decode cX11_radiant 19 = .ok (.iload_n 3, 1) := by decide +kernel
theorem dX11_radiant_20 : decode cX11_radiant 20 = .ok (.invokestatic 240, 3) := by decide +kernel
theorem dX11_radiant_23 : decode cX11_radiant 23 = .ok (.ifCond .ne 9, 3) := by decide +kernel
theorem dX11_radiant_26 : decode cX11_radiant 26 = .ok (.aload_n 0, 1) := by decide +kernel
theorem dX11_radiant_27 : decode cX11_radiant 27 = .ok (.iconst 1, 1) := by decide +kernel
theorem dX11_radiant_28 : decode cX11_radiant 28 = .ok (.invokevirtual 85, 3) := by decide +kernel
theorem dX11_radiant_31 : decode cX11_radiant 31 = .ok (.lreturn, 1) := by decide +kernel
theorem dX11_radiant_32 : decode cX11_radiant 32 = .ok (.aload_n 0, 1) := by decide +kernel
theorem dX11_radiant_33 : decode cX11_radiant 33 = .ok (.getfield 62, 3) := by decide +kernel
theorem dX11_radiant_36 : decode cX11_radiant 36 = .ok (.iload_n 1, 1) := by decide +kernel
theorem dX11_radiant_37 : decode cX11_radiant 37 = .ok (.aaload, 1) := by decide +kernel
theorem dX11_radiant_38 : decode cX11_radiant 38 = .ok (.invokevirtual 312, 3) := by decide +kernel
theorem dX11_radiant_41 : decode cX11_radiant 41 = .ok (.aload_n 0, 1) := by decide +kernel
theorem dX11_radiant_42 : decode cX11_radiant 42 = .ok (.getfield 62, 3) := by decide +kernel
theorem dX11_radiant_45 : decode cX11_radiant 45 = .ok (.iload_n 2, 1) := by decide +kernel
theorem dX11_radiant_46 : decode cX11_radiant 46 = .ok (.aaload, 1) := by decide +kernel
theorem dX11_radiant_47 : decode cX11_radiant 47 = .ok (.invokevirtual 312, 3) := by decide +kernel
theorem dX11_radiant_50 : decode cX11_radiant 50 = .ok (.invokestatic 261, 3) := by decide +kernel
theorem dX11_radiant_53 : decode cX11_radiant 53 = .ok (.astore 4, 2) := by decide +kernel
theorem dX11_radiant_55 : decode cX11_radiant 55 = .ok (.aload 4, 2) := by decide +kernel
theorem dX11_radiant_57 : decode cX11_radiant 57 = .ok (.ifnonnull 11, 3) := by decide +kernel
theorem dX11_radiant_60 : decode cX11_radiant 60 = .ok (.aload_n 0, 1) := by decide +kernel
theorem dX11_radiant_61 : decode cX11_radiant 61 = .ok (.iconst 2, 1) := by decide +kernel
theorem dX11_radiant_62 : decode cX11_radiant 62 = .ok (.invokevirtual 85, 3) := by decide +kernel
theorem dX11_radiant_65 : decode cX11_radiant 65 = .ok (.goto 9, 3) := by decide +kernel
theorem dX11_radiant_68 : decode cX11_radiant 68 = .ok (.aload 4, 2) := by decide +kernel
theorem dX11_radiant_70 : decode cX11_radiant 70 = .ok (.iload_n 3, 1) := by decide +kernel
theorem dX11_radiant_71 : decode cX11_radiant 71 = .ok (.invokevirtual 233, 3) := by decide +kernel
theorem dX11_radiant_74 : decode cX11_radiant 74 = .ok (.lreturn, 1) := by decide +kernel
set_option maxRecDepth 20000 in
theorem ggX11_shower_X11_isMeteor : GoodIn wsX11_shower wsX11_isMeteor := goodIn_r _ [5] (by decide +kernel) (by decide +kernel)
set_option maxRecDepth 20000 in
theorem gX11_shower_X11_isMeteor : GoodIn wsX11_shower (va_wsS RX11 186 yX11_isMeteor wsX11_isMeteor) := goodIn_app (goodIn_of _ (by decide +kernel)) ggX11_shower_X11_isMeteor
set_option maxRecDepth 20000 in
theorem ggX11_shower_X11_finding : GoodIn wsX11_shower wsX11_finding := goodIn_r _ [9, 10, 11, 60, 61, 62, 63, 64, 65, 66, 67, 68, 69, 70] (by decide +kernel) (by decide +kernel)
set_option maxRecDepth 20000 in
theorem gX11_shower_X11_finding : GoodIn wsX11_shower (wsV RX11 85 RX11 yX11_finding wsX11_finding) := goodIn_app (goodIn_of _ (by decide +kernel)) ggX11_shower_X11_finding
set_option maxRecDepth 20000 in
theorem ggX11_shower_X3_firstPlane : GoodIn wsX11_shower wsX3_firstPlane := goodIn_r _ [16, 17, 18, 19, 20, 15, 21, 22, 23, 24, 25, 26, 27, 71, 72, 73, 74, 75, 76, 77, 78] (by decide +kernel) (by decide +kernel)
set_option maxRecDepth 20000 in
theorem gX11_shower_X3_firstPlane : GoodIn wsX11_shower (wsV RX11 312 RX3 yX3_firstPlane wsX3_firstPlane) := goodIn_app (goodIn_of _ (by decide +kernel)) ggX11_shower_X3_firstPlane
set_option maxRecDepth 20000 in
theorem ggX11_shower_X11_crossing : GoodIn wsX11_shower wsX11_crossing := goodIn_r _ [30, 31, 32, 33, 34, 35, 36, 37, 38, 39, 40, 41, 42, 43, 44, 45, 46, 47, 48, 49, 50, 79, 80, 81] (by decide +kernel) (by decide +kernel)
set_option maxRecDepth 20000 in
theorem gX11_shower_X11_crossing : GoodIn wsX11_shower (va_wsS RX11 261 yX11_crossing wsX11_crossing) := goodIn_app (goodIn_of _ (by decide +kernel)) ggX11_shower_X11_crossing
set_option maxRecDepth 20000 in
theorem ggX11_shower_X3_comesFrom : GoodIn wsX11_shower wsX3_comesFrom := goodIn_r _ [54, 17, 18, 19, 20, 15, 21, 22, 23, 24, 25, 26, 27, 55, 56, 57, 34, 58, 40, 38, 39, 59, 13, 14, 16, 71, 72, 73, 74, 75, 76, 77, 78, 79, 80, 81] (by decide +kernel) (by decide +kernel)
set_option maxRecDepth 20000 in
theorem gX11_shower_X3_comesFrom : GoodIn wsX11_shower (wsV RX11 316 RX3 yX3_comesFrom wsX3_comesFrom) := goodIn_app (goodIn_of _ (by decide +kernel)) ggX11_shower_X3_comesFrom
theorem dX11_shower_0 : decode cX11_shower 0 = .ok (.iload_n 1, 1) := by decide +kernel
theorem dX11_shower_1 : decode cX11_shower 1 = .ok (.invokestatic 186, 3) := by decide +kernel
theorem dX11_shower_4 : decode cX11_shower 4 = .ok (.ifCond .eq 15, 3) := by decide +kernel
theorem dX11_shower_7 : decode cX11_shower 7 = .ok (.iload_n 2, 1) := by decide +kernel
theorem dX11_shower_8 : decode cX11_shower 8 = .ok (.invokestatic 186, 3) := by decide +kernel
theorem dX11_shower_11 : decode cX11_shower 11 = .ok (.ifCond .eq 8, 3) := by decide +kernel
theorem dX11_shower_14 : decode cX11_shower 14 = .ok (.iload_n 1, 1) := by decide +kernel
theorem dX11_shower_15 : decode cX11_shower 15 = .ok (.iload_n 2, 1) := by decide +kernel
theorem dX11_shower_16 : decode cX11_shower 16 = .ok (.if_icmp .ne 9, 3) := by decide +kernel
theorem dX11_shower_19 : decode cX11_shower 19 = .ok (.aload_n 0, 1) := by decide +kernel
theorem dX11_shower_20 : decode cX11_shower 20 = .ok (.iconst 1, 1) := by decide +kernel
theorem dX11_shower_21 : decode cX11_shower 21 = .ok (.invokevirtual 85, 3) := by decide +kernel
theorem dX11_shower_24 : decode cX11_shower 24 = .ok (.lreturn, 1) := by decide +kernel
theorem dX11_shower_25 : decode cX11_shower 25 = .ok (.aload_n 0, 1) := by decide +kernel
theorem dX11_shower_26 : decode cX11_shower 26 = .ok (.getfield 62, 3) := by decide +kernel
theorem dX11_shower_29 : decode cX11_shower 29 = .ok (.iload_n 1, 1) := by decide +kernel
theorem dX11_shower_30 : decode cX11_shower 30 = .ok (.aaload, 1) := by decide +kernel
theorem dX11_shower_31 : decode cX11_shower 31 = .ok (.invokevirtual 312, 3) := by decide +kernel
theorem dX11_shower_34 : decode cX11_shower 34 = .ok (.aload_n 0, 1) := by decide +kernel
theorem dX11_shower_35 : decode cX11_shower 35 = .ok (.getfield 62, 3) := by decide +kernel
theorem dX11_shower_38 : decode cX11_shower 38 = .ok (.iload_n 2, 1) := by decide +kernel
theorem dX11_shower_39 : decode cX11_shower 39 = .ok (.aaload, 1) := by decide +kernel
theorem dX11_shower_40 : decode cX11_shower 40 = .ok (.invokevirtual 312, 3) := by decide +kernel
theorem dX11_shower_43 : decode cX11_shower 43 = .ok (.invokestatic 261, 3) := by decide +kernel
theorem dX11_shower_46 : decode cX11_shower 46 = .ok (.astore_n 3, 1) := by decide +kernel
theorem dX11_shower_47 : decode cX11_shower 47 = .ok (.aload_n 3, 1) := by decide +kernel
theorem dX11_shower_48 : decode cX11_shower 48 = .ok (.ifnonnull 9, 3) := by decide +kernel
theorem dX11_shower_51 : decode cX11_shower 51 = .ok (.aload_n 0, 1) := by decide +kernel
theorem dX11_shower_52 : decode cX11_shower 52 = .ok (.iconst 2, 1) := by decide +kernel
theorem dX11_shower_53 : decode cX11_shower 53 = .ok (.invokevirtual 85, 3) := by decide +kernel
theorem dX11_shower_56 : decode cX11_shower 56 = .ok (.lreturn, 1) := by decide +kernel
theorem dX11_shower_57 : decode cX11_shower 57 = .ok (.lconst 0, 1) := by decide +kernel
theorem dX11_shower_58 : decode cX11_shower 58 = .ok (.lstore 4, 2) := by decide +kernel
theorem dX11_shower_60 : decode cX11_shower 60 = .ok (.iconst 0, 1) := by decide +kernel
theorem dX11_shower_61 : decode cX11_shower 61 = .ok (.istore 6, 2) := by decide +kernel
theorem dX11_shower_63 : decode cX11_shower 63 = .ok (.iload 6, 2) := by decide +kernel
theorem dX11_shower_65 : decode cX11_shower 65 = .ok (.bipush 6, 2) := by decide +kernel
theorem dX11_shower_67 : decode cX11_shower 67 = .ok (.if_icmp .ge 32, 3) := by decide +kernel
theorem dX11_shower_70 : decode cX11_shower 70 = .ok (.aload_n 0, 1) := by decide +kernel
theorem dX11_shower_71 : decode cX11_shower 71 = .ok (.getfield 62, 3) := by decide +kernel
theorem dX11_shower_74 : decode cX11_shower 74 = .ok (.iload 6, 2) := by decide +kernel
theorem dX11_shower_76 : decode cX11_shower 76 = .ok (.aaload, 1) := by decide +kernel
theorem dX11_shower_77 : decode cX11_shower 77 = .ok (.aload_n 3, 1) := by decide +kernel
theorem dX11_shower_78 : decode cX11_shower 78 = .ok (.invokevirtual 316, 3) := by decide +kernel
theorem dX11_shower_81 : decode cX11_shower 81 = .ok (.ifCond .eq 12, 3) := by decide +kernel
theorem dX11_shower_84 : decode cX11_shower 84 = .ok (.lload 4, 2) := by decide +kernel
theorem dX11_shower_86 : decode cX11_shower 86 = .ok (.lconst 1, 1) := by decide +kernel
theorem dX11_shower_87 : decode cX11_shower 87 = .ok (.iload 6, 2) := by decide +kernel
theorem dX11_shower_89 : decode cX11_shower 89 = .ok (.lshl, 1) := by decide +kernel
theorem dX11_shower_90 : decode cX11_shower 90 = .ok (.lor, 1) := by decide +kernel
theorem dX11_shower_91 : decode cX11_shower 91 = .ok (.lstore 4, 2) := by decide +kernel
theorem dX11_shower_93 : decode cX11_shower 93 = .ok (.iinc 6 1, 3) := by decide +kernel
theorem dX11_shower_96 : decode cX11_shower 96 = .ok (.goto (-33), 3) := by decide +kernel
theorem dX11_shower_99 : decode cX11_shower 99 = .ok (.lload 4, 2) := by decide +kernel
theorem dX11_shower_101 : decode cX11_shower 101 = .ok (.lreturn, 1) := by decide +kernel
set_option maxRecDepth 20000 in
theorem ggX11_check_X1_renew : GoodIn wsX11_check wsX1_renew := goodIn_r _ [13, 14, 15, 16, 17, 18, 19, 20, 21, 22, 23, 24, 25, 26, 27, 28, 29, 30, 31, 32, 33, 34, 35, 36, 37, 38, 39, 40, 41, 42, 43, 44, 45, 46, 47, 48, 49, 50, 51, 52, 53, 54, 55, 56, 57, 58, 59, 60, 61, 62, 63, 64, 65, 66, 67, 68, 69, 70, 71, 72, 73, 74, 75, 76, 77, 78, 79, 80, 81, 82, 83, 84, 85, 12, 86, 87, 88, 89, 90, 91, 92, 93, 94, 95, 96, 97, 98, 99, 100, 101, 102, 103, 104, 105, 106, 107, 108, 109, 110, 111, 112, 113, 114, 115, 116, 117, 118, 119, 120, 121, 122, 123, 124, 142, 143, 144, 145, 146, 147, 148, 149, 150, 151, 138, 139, 140, 141, 152, 153, 154, 155, 156, 157, 158, 159, 160, 161] (by decide +kernel) (by decide +kernel)
set_option maxRecDepth 20000 in
theorem gX11_check_X1_renew : GoodIn wsX11_check (wsV RX11 146 RX1 yX1_renew wsX1_renew) := goodIn_app (goodIn_of _ (by decide +kernel)) ggX11_check_X1_renew
theorem dX11_check_0 : decode cX11_check 0 = .ok (.aload_n 0, 1) := by decide +kernel
theorem dX11_check_1 : decode cX11_check 1 = .ok (.getfield 47, 3) := by decide +kernel
theorem dX11_check_4 : decode cX11_check 4 = .ok (.getfield 182, 3) := by decide +kernel
theorem dX11_check_7 : decode cX11_check 7 = .ok (.istore_n 1, 1) := by decide +kernel
theorem dX11_check_8 : decode cX11_check 8 = .ok (.aload_n 0, 1) := by decide +kernel
theorem dX11_check_9 : decode cX11_check 9 = .ok (.getfield 47, 3) := by decide +kernel
theorem dX11_check_12 : decode cX11_check 12 = .ok (.iconst 0, 1) := by decide +kernel
theorem dX11_check_13 : decode cX11_check 13 = .ok (.putfield 182, 3) := by decide +kernel
theorem dX11_check_16 : decode cX11_check 16 = .ok (.aload_n 0, 1) := by decide +kernel
theorem dX11_check_17 : decode cX11_check 17 = .ok (.getfield 26, 3) := by decide +kernel
theorem dX11_check_20 : decode cX11_check 20 = .ok (.invokevirtual 146, 3) := by decide +kernel
theorem dX11_check_23 : decode cX11_check 23 = .ok (.iconst 0, 1) := by decide +kernel
theorem dX11_check_24 : decode cX11_check 24 = .ok (.istore_n 2, 1) := by decide +kernel
theorem dX11_check_25 : decode cX11_check 25 = .ok (.iload_n 2, 1) := by decide +kernel
theorem dX11_check_26 : decode cX11_check 26 = .ok (.iload_n 1, 1) := by decide +kernel
theorem dX11_check_27 : decode cX11_check 27 = .ok (.if_icmp .ge 46, 3) := by decide +kernel
theorem dX11_check_30 : decode cX11_check 30 = .ok (.iload_n 2, 1) := by decide +kernel
theorem dX11_check_31 : decode cX11_check 31 = .ok (.aload_n 0, 1) := by decide +kernel
theorem dX11_check_32 : decode cX11_check 32 = .ok (.getfield 18, 3) := by decide +kernel
theorem dX11_check_35 : decode cX11_check 35 = .ok (.getfield 89, 3) := by decide +kernel
theorem dX11_check_38 : decode cX11_check 38 = .ok (.if_icmp .ge 35, 3) := by decide +kernel
theorem dX11_check_41 : decode cX11_check 41 = .ok (.aload_n 0, 1) := by decide +kernel
theorem dX11_check_42 : decode cX11_check 42 = .ok (.getfield 47, 3) := by decide +kernel
theorem dX11_check_45 : decode cX11_check 45 = .ok (.getfield 183, 3) := by decide +kernel
theorem dX11_check_48 : decode cX11_check 48 = .ok (.iload_n 2, 1) := by decide +kernel
theorem dX11_check_49 : decode cX11_check 49 = .ok (.iaload, 1) := by decide +kernel
theorem dX11_check_50 : decode cX11_check 50 = .ok (.aload_n 0, 1) := by decide +kernel
theorem dX11_check_51 : decode cX11_check 51 = .ok (.getfield 26, 3) := by decide +kernel
theorem dX11_check_54 : decode cX11_check 54 = .ok (.getfield 153, 3) := by decide +kernel
theorem dX11_check_57 : decode cX11_check 57 = .ok (.iload_n 2, 1) := by decide +kernel
theorem dX11_check_58 : decode cX11_check 58 = .ok (.iaload, 1) := by decide +kernel
theorem dX11_check_59 : decode cX11_check 59 = .ok (.if_icmp .eq 8, 3) := by decide +kernel
theorem dX11_check_62 : decode cX11_check 62 = .ok (.lconst 1, 1) := by decide +kernel
theorem dX11_check_63 : decode cX11_check 63 = .ok (.iload_n 2, 1) := by decide +kernel
theorem dX11_check_64 : decode cX11_check 64 = .ok (.i2l, 1) := by decide +kernel
theorem dX11_check_65 : decode cX11_check 65 = .ok (.ladd, 1) := by decide +kernel
theorem dX11_check_66 : decode cX11_check 66 = .ok (.lreturn, 1) := by decide +kernel
theorem dX11_check_67 : decode cX11_check 67 = .ok (.iinc 2 1, 3) := by decide +kernel
theorem dX11_check_70 : decode cX11_check 70 = .ok (.goto (-45), 3) := by decide +kernel
theorem dX11_check_73 : decode cX11_check 73 = .ok (.iload_n 1, 1) := by decide +kernel
theorem dX11_check_74 : decode cX11_check 74 = .ok (.aload_n 0, 1) := by decide +kernel
theorem dX11_check_75 : decode cX11_check 75 = .ok (.getfield 18, 3) := by decide +kernel
theorem dX11_check_78 : decode cX11_check 78 = .ok (.getfield 89, 3) := by decide +kernel
theorem dX11_check_81 : decode cX11_check 81 = .ok (.if_icmp .le 9, 3) := by decide +kernel
theorem dX11_check_84 : decode cX11_check 84 = .ok (.ldc2_w 320, 3) := by decide +kernel
theorem dX11_check_87 : decode cX11_check 87 = .ok (.goto 4, 3) := by decide +kernel
theorem dX11_check_90 : decode cX11_check 90 = .ok (.lconst 0, 1) := by decide +kernel
theorem dX11_check_91 : decode cX11_check 91 = .ok (.lreturn, 1) := by decide +kernel
set_option maxRecDepth 20000 in
theorem ggX11_count_X11_finding : GoodIn wsX11_count wsX11_finding := goodIn_r _ [12, 13, 14, 15, 16, 17, 18, 19, 20, 21, 22, 23, 24, 25] (by decide +kernel) (by decide +kernel)
set_option maxRecDepth 20000 in
theorem gX11_count_X11_finding : GoodIn wsX11_count (wsV RX11 85 RX11 yX11_finding wsX11_finding) := goodIn_app (goodIn_of _ (by decide +kernel)) ggX11_count_X11_finding
theorem dX11_count_0 : decode cX11_count 0 = .ok (.iload_n 1, 1) := by decide +kernel
theorem dX11_count_1 : decode cX11_count 1 = .ok (.ifCond .lt 9, 3) := by decide +kernel
theorem dX11_count_4 : decode cX11_count 4 = .ok (.iload_n 1, 1) := by decide +kernel
theorem dX11_count_5 : decode cX11_count 5 = .ok (.bipush 9, 2) := by decide +kernel
theorem dX11_count_7 : decode cX11_count 7 = .ok (.if_icmp .lt 9, 3) := by decide +kernel
theorem dX11_count_10 : decode cX11_count 10 = .ok (.aload_n 0, 1) := by decide +kernel
theorem dX11_count_11 : decode cX11_count 11 = .ok (.iconst 1, 1) := by decide +kernel
theorem dX11_count_12 : decode cX11_count 12 = .ok (.invokevirtual 85, 3) := by decide +kernel
theorem dX11_count_15 : decode cX11_count 15 = .ok (.lreturn, 1) := by decide +kernel
theorem dX11_count_16 : decode cX11_count 16 = .ok (.iload_n 1, 1) := by decide +kernel
theorem dX11_count_17 : decode cX11_count 17 = .ok (.ifCond .ne 12, 3) := by decide +kernel
theorem dX11_count_20 : decode cX11_count 20 = .ok (.aload_n 0, 1) := by decide +kernel
theorem dX11_count_21 : decode cX11_count 21 = .ok (.getfield 14, 3) := by decide +kernel
theorem dX11_count_24 : decode cX11_count 24 = .ok (.getfield 89, 3) := by decide +kernel
theorem dX11_count_27 : decode cX11_count 27 = .ok (.i2l, 1) := by decide +kernel
theorem dX11_count_28 : decode cX11_count 28 = .ok (.lreturn, 1) := by decide +kernel
theorem dX11_count_29 : decode cX11_count 29 = .ok (.iload_n 1, 1) := by decide +kernel
theorem dX11_count_30 : decode cX11_count 30 = .ok (.iconst 1, 1) := by decide +kernel
theorem dX11_count_31 : decode cX11_count 31 = .ok (.if_icmp .ne 12, 3) := by decide +kernel
theorem dX11_count_34 : decode cX11_count 34 = .ok (.aload_n 0, 1) := by decide +kernel
theorem dX11_count_35 : decode cX11_count 35 = .ok (.getfield 18, 3) := by decide +kernel
theorem dX11_count_38 : decode cX11_count 38 = .ok (.getfield 89, 3) := by decide +kernel
theorem dX11_count_41 : decode cX11_count 41 = .ok (.i2l, 1) := by decide +kernel
theorem dX11_count_42 : decode cX11_count 42 = .ok (.lreturn, 1) := by decide +kernel
theorem dX11_count_43 : decode cX11_count 43 = .ok (.iload_n 1, 1) := by decide +kernel
theorem dX11_count_44 : decode cX11_count 44 = .ok (.iconst 2, 1) := by decide +kernel
theorem dX11_count_45 : decode cX11_count 45 = .ok (.if_icmp .ne 14, 3) := by decide +kernel
theorem dX11_count_48 : decode cX11_count 48 = .ok (.aload_n 0, 1) := by decide +kernel
theorem dX11_count_49 : decode cX11_count 49 = .ok (.getfield 47, 3) := by decide +kernel
theorem dX11_count_52 : decode cX11_count 52 = .ok (.getfield 182, 3) := by decide +kernel
theorem dX11_count_55 : decode cX11_count 55 = .ok (.i2l, 1) := by decide +kernel
theorem dX11_count_56 : decode cX11_count 56 = .ok (.goto 15, 3) := by decide +kernel
theorem dX11_count_59 : decode cX11_count 59 = .ok (.aload_n 0, 1) := by decide +kernel
theorem dX11_count_60 : decode cX11_count 60 = .ok (.getfield 62, 3) := by decide +kernel
theorem dX11_count_63 : decode cX11_count 63 = .ok (.iload_n 1, 1) := by decide +kernel
theorem dX11_count_64 : decode cX11_count 64 = .ok (.iconst 3, 1) := by decide +kernel
theorem dX11_count_65 : decode cX11_count 65 = .ok (.isub, 1) := by decide +kernel
theorem dX11_count_66 : decode cX11_count 66 = .ok (.aaload, 1) := by decide +kernel
theorem dX11_count_67 : decode cX11_count 67 = .ok (.getfield 199, 3) := by decide +kernel
theorem dX11_count_70 : decode cX11_count 70 = .ok (.i2l, 1) := by decide +kernel
theorem dX11_count_71 : decode cX11_count 71 = .ok (.lreturn, 1) := by decide +kernel
set_option maxRecDepth 20000 in
theorem ggX11_found_X11_finding : GoodIn wsX11_found wsX11_finding := goodIn_r _ [6, 1, 7, 8, 9, 10, 11, 12, 13, 14, 15, 16, 17, 18] (by decide +kernel) (by decide +kernel)
set_option maxRecDepth 20000 in
theorem gX11_found_X11_finding : GoodIn wsX11_found (wsV RX11 85 RX11 yX11_finding wsX11_finding) := goodIn_app (goodIn_of _ (by decide +kernel)) ggX11_found_X11_finding
theorem dX11_found_0 : decode cX11_found 0 = .ok (.iload_n 1, 1) := by decide +kernel
theorem dX11_found_1 : decode cX11_found 1 = .ok (.iconst 1, 1) := by decide +kernel
theorem dX11_found_2 : decode cX11_found 2 = .ok (.if_icmp .lt 8, 3) := by decide +kernel
theorem dX11_found_5 : decode cX11_found 5 = .ok (.iload_n 1, 1) := by decide +kernel
theorem dX11_found_6 : decode cX11_found 6 = .ok (.iconst 5, 1) := by decide +kernel
theorem dX11_found_7 : decode cX11_found 7 = .ok (.if_icmp .le 9, 3) := by decide +kernel
theorem dX11_found_10 : decode cX11_found 10 = .ok (.aload_n 0, 1) := by decide +kernel
theorem dX11_found_11 : decode cX11_found 11 = .ok (.iconst 1, 1) := by decide +kernel
theorem dX11_found_12 : decode cX11_found 12 = .ok (.invokevirtual 85, 3) := by decide +kernel
theorem dX11_found_15 : decode cX11_found 15 = .ok (.lreturn, 1) := by decide +kernel
theorem dX11_found_16 : decode cX11_found 16 = .ok (.aload_n 0, 1) := by decide +kernel
theorem dX11_found_17 : decode cX11_found 17 = .ok (.getfield 74, 3) := by decide +kernel
theorem dX11_found_20 : decode cX11_found 20 = .ok (.iload_n 1, 1) := by decide +kernel
theorem dX11_found_21 : decode cX11_found 21 = .ok (.iaload, 1) := by decide +kernel
theorem dX11_found_22 : decode cX11_found 22 = .ok (.i2l, 1) := by decide +kernel
theorem dX11_found_23 : decode cX11_found 23 = .ok (.lreturn, 1) := by decide +kernel
theorem dX11_finding_0 : decode cX11_finding 0 = .ok (.aload_n 0, 1) := by decide +kernel
theorem dX11_finding_1 : decode cX11_finding 1 = .ok (.getfield 74, 3) := by decide +kernel
theorem dX11_finding_4 : decode cX11_finding 4 = .ok (.iload_n 1, 1) := by decide +kernel
theorem dX11_finding_5 : decode cX11_finding 5 = .ok (.dup2, 1) := by decide +kernel
theorem dX11_finding_6 : decode cX11_finding 6 = .ok (.iaload, 1) := by decide +kernel
theorem dX11_finding_7 : decode cX11_finding 7 = .ok (.iconst 1, 1) := by decide +kernel
theorem dX11_finding_8 : decode cX11_finding 8 = .ok (.iadd, 1) := by decide +kernel
theorem dX11_finding_9 : decode cX11_finding 9 = .ok (.iastore, 1) := by decide +kernel
theorem dX11_finding_10 : decode cX11_finding 10 = .ok (.ldc2_w 322, 3) := by decide +kernel
theorem dX11_finding_13 : decode cX11_finding 13 = .ok (.iload_n 1, 1) := by decide +kernel
theorem dX11_finding_14 : decode cX11_finding 14 = .ok (.i2l, 1) := by decide +kernel
theorem dX11_finding_15 : decode cX11_finding 15 = .ok (.lsub, 1) := by decide +kernel
theorem dX11_finding_16 : decode cX11_finding 16 = .ok (.lreturn, 1) := by decide +kernel
theorem dX11_pointsOf_0 : decode cX11_pointsOf 0 = .ok (.iload_n 1, 1) := by decide +kernel
theorem dX11_pointsOf_1 : decode cX11_pointsOf 1 = .ok (.ifCond .eq 10, 3) := by decide +kernel
theorem dX11_pointsOf_4 : decode cX11_pointsOf 4 = .ok (.aload_n 0, 1) := by decide +kernel
theorem dX11_pointsOf_5 : decode cX11_pointsOf 5 = .ok (.getfield 14, 3) := by decide +kernel
theorem dX11_pointsOf_8 : decode cX11_pointsOf 8 = .ok (.goto 7, 3) := by decide +kernel
theorem dX11_pointsOf_11 : decode cX11_pointsOf 11 = .ok (.aload_n 0, 1) := by decide +kernel
theorem dX11_pointsOf_12 : decode cX11_pointsOf 12 = .ok (.getfield 18, 3) := by decide +kernel
theorem dX11_pointsOf_15 : decode cX11_pointsOf 15 = .ok (.areturn, 1) := by decide +kernel
set_option maxRecDepth 20000 in
theorem ggX11_sightOf_X11_isMeteor : GoodIn wsX11_sightOf wsX11_isMeteor := goodIn_r _ [5] (by decide +kernel) (by decide +kernel)
set_option maxRecDepth 20000 in
theorem gX11_sightOf_X11_isMeteor : GoodIn wsX11_sightOf (va_wsS RX11 186 yX11_isMeteor wsX11_isMeteor) := goodIn_app (goodIn_of _ (by decide +kernel)) ggX11_sightOf_X11_isMeteor
set_option maxRecDepth 20000 in
theorem ggX11_sightOf_X3_sightAt : GoodIn wsX11_sightOf wsX3_sightAt := goodIn_r _ [10, 11, 12, 24, 25] (by decide +kernel) (by decide +kernel)
set_option maxRecDepth 20000 in
theorem gX11_sightOf_X3_sightAt : GoodIn wsX11_sightOf (wsV RX11 324 RX3 yX3_sightAt wsX3_sightAt) := goodIn_app (goodIn_of _ (by decide +kernel)) ggX11_sightOf_X3_sightAt
theorem dX11_sightOf_0 : decode cX11_sightOf 0 = .ok (.iload_n 1, 1) := by decide +kernel
theorem dX11_sightOf_1 : decode cX11_sightOf 1 = .ok (.invokestatic 186, 3) := by decide +kernel
theorem dX11_sightOf_4 : decode cX11_sightOf 4 = .ok (.ifCond .eq 16, 3) := by decide +kernel
theorem dX11_sightOf_7 : decode cX11_sightOf 7 = .ok (.aload_n 0, 1) := by decide +kernel
theorem dX11_sightOf_8 : decode cX11_sightOf 8 = .ok (.getfield 62, 3) := by decide +kernel
theorem dX11_sightOf_11 : decode cX11_sightOf 11 = .ok (.iload_n 1, 1) := by decide +kernel
theorem dX11_sightOf_12 : decode cX11_sightOf 12 = .ok (.aaload, 1) := by decide +kernel
theorem dX11_sightOf_13 : decode cX11_sightOf 13 = .ok (.iload_n 2, 1) := by decide +kernel
theorem dX11_sightOf_14 : decode cX11_sightOf 14 = .ok (.invokevirtual 324, 3) := by decide +kernel
theorem dX11_sightOf_17 : decode cX11_sightOf 17 = .ok (.goto 4, 3) := by decide +kernel
theorem dX11_sightOf_20 : decode cX11_sightOf 20 = .ok (.aconst_null, 1) := by decide +kernel
theorem dX11_sightOf_21 : decode cX11_sightOf 21 = .ok (.areturn, 1) := by decide +kernel
set_option maxRecDepth 20000 in
theorem ggX11_planeOf_X11_sightOf : GoodIn wsX11_planeOf wsX11_sightOf := goodIn_r _ [6, 7, 8, 9, 5, 10, 11, 12, 13, 14, 15, 16, 17, 24, 25, 26, 27, 28, 29, 30, 31, 32, 33, 34, 35, 36] (by decide +kernel) (by decide +kernel)
set_option maxRecDepth 20000 in
theorem gX11_planeOf_X11_sightOf : GoodIn wsX11_planeOf (wsV RX11 212 RX11 yX11_sightOf wsX11_sightOf) := goodIn_app (goodIn_of _ (by decide +kernel)) ggX11_planeOf_X11_sightOf
theorem dX11_planeOf_0 : decode cX11_planeOf 0 = .ok (.aload_n 0, 1) := by decide +kernel
theorem dX11_planeOf_1 : decode cX11_planeOf 1 = .ok (.iload_n 1, 1) := by decide +kernel
theorem dX11_planeOf_2 : decode cX11_planeOf 2 = .ok (.iload_n 2, 1) := by decide +kernel
theorem dX11_planeOf_3 : decode cX11_planeOf 3 = .ok (.invokevirtual 212, 3) := by decide +kernel
theorem dX11_planeOf_6 : decode cX11_planeOf 6 = .ok (.astore_n 3, 1) := by decide +kernel
theorem dX11_planeOf_7 : decode cX11_planeOf 7 = .ok (.aload_n 3, 1) := by decide +kernel
theorem dX11_planeOf_8 : decode cX11_planeOf 8 = .ok (.ifnonnull 7, 3) := by decide +kernel
theorem dX11_planeOf_11 : decode cX11_planeOf 11 = .ok (.aconst_null, 1) := by decide +kernel
theorem dX11_planeOf_12 : decode cX11_planeOf 12 = .ok (.goto 7, 3) := by decide +kernel
theorem dX11_planeOf_15 : decode cX11_planeOf 15 = .ok (.aload_n 3, 1) := by decide +kernel
theorem dX11_planeOf_16 : decode cX11_planeOf 16 = .ok (.getfield 226, 3) := by decide +kernel
theorem dX11_planeOf_19 : decode cX11_planeOf 19 = .ok (.areturn, 1) := by decide +kernel
set_option maxRecDepth 20000 in
theorem ggX11_isPair_X11_sightOf : GoodIn wsX11_isPair wsX11_sightOf := goodIn_r _ [5, 6, 7, 8, 4, 9, 10, 11, 12, 13, 14, 15, 16, 17, 18, 19, 20, 21, 22, 23, 24, 25, 26, 27, 28, 29] (by decide +kernel) (by decide +kernel)
set_option maxRecDepth 20000 in
theorem gX11_isPair_X11_sightOf : GoodIn wsX11_isPair (wsV RX11 212 RX11 yX11_sightOf wsX11_sightOf) := goodIn_app (goodIn_of _ (by decide +kernel)) ggX11_isPair_X11_sightOf
theorem dX11_isPair_0 : decode cX11_isPair 0 = .ok (.iload_n 2, 1) := by decide +kernel
theorem dX11_isPair_1 : decode cX11_isPair 1 = .ok (.iload_n 3, 1) := by decide +kernel
theorem dX11_isPair_2 : decode cX11_isPair 2 = .ok (.if_icmp .eq 25, 3) := by decide +kernel
theorem dX11_isPair_5 : decode cX11_isPair 5 = .ok (.aload_n 0, 1) := by decide +kernel
theorem dX11_isPair_6 : decode cX11_isPair 6 = .ok (.iload_n 1, 1) := by decide +kernel
theorem dX11_isPair_7 : decode cX11_isPair 7 = .ok (.iload_n 2, 1) := by decide +kernel
theorem dX11_isPair_8 : decode cX11_isPair 8 = .ok (.invokevirtual 212, 3) := by decide +kernel
theorem dX11_isPair_11 : decode cX11_isPair 11 = .ok (.ifnull 16, 3) := by decide +kernel
theorem dX11_isPair_14 : decode cX11_isPair 14 = .ok (.aload_n 0, 1) := by decide +kernel
theorem dX11_isPair_15 : decode cX11_isPair 15 = .ok (.iload_n 1, 1) := by decide +kernel
theorem dX11_isPair_16 : decode cX11_isPair 16 = .ok (.iload_n 3, 1) := by decide +kernel
theorem dX11_isPair_17 : decode cX11_isPair 17 = .ok (.invokevirtual 212, 3) := by decide +kernel
theorem dX11_isPair_20 : decode cX11_isPair 20 = .ok (.ifnull 7, 3) := by decide +kernel
theorem dX11_isPair_23 : decode cX11_isPair 23 = .ok (.iconst 1, 1) := by decide +kernel
theorem dX11_isPair_24 : decode cX11_isPair 24 = .ok (.goto 4, 3) := by decide +kernel
theorem dX11_isPair_27 : decode cX11_isPair 27 = .ok (.iconst 0, 1) := by decide +kernel
theorem dX11_isPair_28 : decode cX11_isPair 28 = .ok (.ireturn, 1) := by decide +kernel
set_option maxRecDepth 20000 in
theorem ggX11_meetingOf_X10_dot : GoodIn wsX11_meetingOf wsX10_dot := goodIn_r _ [13, 14, 15, 16, 62, 63, 64] (by decide +kernel) (by decide +kernel)
set_option maxRecDepth 20000 in
theorem gX11_meetingOf_X10_dot : GoodIn wsX11_meetingOf (wsV RX11 229 RX10 yX10_dot wsX10_dot) := goodIn_app (goodIn_of _ (by decide +kernel)) ggX11_meetingOf_X10_dot
set_option maxRecDepth 20000 in
theorem ggX11_meetingOf_X10_minus : GoodIn wsX11_meetingOf wsX10_minus := goodIn_r _ [20, 21, 22, 12, 14, 15, 16, 23, 24, 25, 26, 27, 28, 62, 63, 64] (by decide +kernel) (by decide +kernel)
set_option maxRecDepth 20000 in
theorem gX11_meetingOf_X10_minus : GoodIn wsX11_meetingOf (wsV RX11 333 RX10 yX10_minus wsX10_minus) := goodIn_app (goodIn_of _ (by decide +kernel)) ggX11_meetingOf_X10_minus
set_option maxRecDepth 20000 in
theorem ggX11_meetingOf_X10_times : GoodIn wsX11_meetingOf wsX10_times := goodIn_r _ [32, 21, 22, 12, 14, 15, 16, 23, 24, 25, 26, 27, 28, 62, 63, 64] (by decide +kernel) (by decide +kernel)
set_option maxRecDepth 20000 in
theorem gX11_meetingOf_X10_times : GoodIn wsX11_meetingOf (wsV RX11 337 RX10 yX10_times wsX10_times) := goodIn_app (goodIn_of _ (by decide +kernel)) ggX11_meetingOf_X10_times
set_option maxRecDepth 20000 in
theorem ggX11_meetingOf_X10_plus : GoodIn wsX11_meetingOf wsX10_plus := goodIn_r _ [36, 21, 22, 12, 14, 15, 16, 23, 24, 25, 26, 27, 28, 62, 63, 64] (by decide +kernel) (by decide +kernel)
set_option maxRecDepth 20000 in
theorem gX11_meetingOf_X10_plus : GoodIn wsX11_meetingOf (wsV RX11 341 RX10 yX10_plus wsX10_plus) := goodIn_app (goodIn_of _ (by decide +kernel)) ggX11_meetingOf_X10_plus
set_option maxRecDepth 20000 in
theorem ggX11_meetingOf_X2_init : GoodIn wsX11_meetingOf wsX2_init := goodIn_r _ [39, 40, 27, 28, 41, 42, 60, 61] (by decide +kernel) (by decide +kernel)
set_option maxRecDepth 20000 in
theorem gX11_meetingOf_X2_init : GoodIn wsX11_meetingOf (wsX2_init) := ggX11_meetingOf_X2_init
theorem dX11_meetingOf_0 : decode cX11_meetingOf 0 = .ok (.aload_n 1, 1) := by decide +kernel
theorem dX11_meetingOf_1 : decode cX11_meetingOf 1 = .ok (.ifnull 14, 3) := by decide +kernel
theorem dX11_meetingOf_4 : decode cX11_meetingOf 4 = .ok (.aload_n 2, 1) := by decide +kernel
theorem dX11_meetingOf_5 : decode cX11_meetingOf 5 = .ok (.ifnull 10, 3) := by decide +kernel
theorem dX11_meetingOf_8 : decode cX11_meetingOf 8 = .ok (.aload_n 2, 1) := by decide +kernel
theorem dX11_meetingOf_9 : decode cX11_meetingOf 9 = .ok (.getfield 226, 3) := by decide +kernel
theorem dX11_meetingOf_12 : decode cX11_meetingOf 12 = .ok (.ifnonnull 5, 3) := by decide +kernel
theorem dX11_meetingOf_15 : decode cX11_meetingOf 15 = .ok (.aconst_null, 1) := by decide +kernel
theorem dX11_meetingOf_16 : decode cX11_meetingOf 16 = .ok (.areturn, 1) := by decide +kernel
theorem dX11_meetingOf_17 : decode cX11_meetingOf 17 = .ok (.aload_n 0, 1) := by decide +kernel
theorem dX11_meetingOf_18 : decode cX11_meetingOf 18 = .ok (.getfield 53, 3) := by decide +kernel
theorem dX11_meetingOf_21 : decode cX11_meetingOf 21 = .ok (.aload_n 1, 1) := by decide +kernel
theorem dX11_meetingOf_22 : decode cX11_meetingOf 22 = .ok (.getfield 219, 3) := by decide +kernel
theorem dX11_meetingOf_25 : decode cX11_meetingOf 25 = .ok (.aaload, 1) := by decide +kernel
theorem dX11_meetingOf_26 : decode cX11_meetingOf 26 = .ok (.astore 4, 2) := by decide +kernel
theorem dX11_meetingOf_28 : decode cX11_meetingOf 28 = .ok (.iload_n 3, 1) := by decide +kernel
theorem dX11_meetingOf_29 : decode cX11_meetingOf 29 = .ok (.ifCond .eq 10, 3) := by decide +kernel
theorem dX11_meetingOf_32 : decode cX11_meetingOf 32 = .ok (.aload_n 1, 1) := by decide +kernel
theorem dX11_meetingOf_33 : decode cX11_meetingOf 33 = .ok (.getfield 328, 3) := by decide +kernel
theorem dX11_meetingOf_36 : decode cX11_meetingOf 36 = .ok (.goto 7, 3) := by decide +kernel
theorem dX11_meetingOf_39 : decode cX11_meetingOf 39 = .ok (.aload_n 1, 1) := by decide +kernel
theorem dX11_meetingOf_40 : decode cX11_meetingOf 40 = .ok (.getfield 331, 3) := by decide +kernel
theorem dX11_meetingOf_43 : decode cX11_meetingOf 43 = .ok (.astore 5, 2) := by decide +kernel
theorem dX11_meetingOf_45 : decode cX11_meetingOf 45 = .ok (.aload_n 2, 1) := by decide +kernel
theorem dX11_meetingOf_46 : decode cX11_meetingOf 46 = .ok (.getfield 226, 3) := by decide +kernel
theorem dX11_meetingOf_49 : decode cX11_meetingOf 49 = .ok (.aload 5, 2) := by decide +kernel
theorem dX11_meetingOf_51 : decode cX11_meetingOf 51 = .ok (.invokevirtual 229, 3) := by decide +kernel
theorem dX11_meetingOf_54 : decode cX11_meetingOf 54 = .ok (.lstore 6, 2) := by decide +kernel
theorem dX11_meetingOf_56 : decode cX11_meetingOf 56 = .ok (.lload 6, 2) := by decide +kernel
theorem dX11_meetingOf_58 : decode cX11_meetingOf 58 = .ok (.lconst 0, 1) := by decide +kernel
theorem dX11_meetingOf_59 : decode cX11_meetingOf 59 = .ok (.lcmp, 1) := by decide +kernel
theorem dX11_meetingOf_60 : decode cX11_meetingOf 60 = .ok (.ifCond .ne 5, 3) := by decide +kernel
theorem dX11_meetingOf_63 : decode cX11_meetingOf 63 = .ok (.aconst_null, 1) := by decide +kernel
theorem dX11_meetingOf_64 : decode cX11_meetingOf 64 = .ok (.areturn, 1) := by decide +kernel
theorem dX11_meetingOf_65 : decode cX11_meetingOf 65 = .ok (.aload_n 2, 1) := by decide +kernel
theorem dX11_meetingOf_66 : decode cX11_meetingOf 66 = .ok (.getfield 226, 3) := by decide +kernel
theorem dX11_meetingOf_69 : decode cX11_meetingOf 69 = .ok (.aload_n 0, 1) := by decide +kernel
theorem dX11_meetingOf_70 : decode cX11_meetingOf 70 = .ok (.getfield 53, 3) := by decide +kernel
theorem dX11_meetingOf_73 : decode cX11_meetingOf 73 = .ok (.aload_n 2, 1) := by decide +kernel
theorem dX11_meetingOf_74 : decode cX11_meetingOf 74 = .ok (.getfield 219, 3) := by decide +kernel
theorem dX11_meetingOf_77 : decode cX11_meetingOf 77 = .ok (.aaload, 1) := by decide +kernel
theorem dX11_meetingOf_78 : decode cX11_meetingOf 78 = .ok (.aload 4, 2) := by decide +kernel
theorem dX11_meetingOf_80 : decode cX11_meetingOf 80 = .ok (.invokevirtual 333, 3) := by decide +kernel
theorem dX11_meetingOf_83 : decode cX11_meetingOf 83 = .ok (.invokevirtual 229, 3) := by decide +kernel
theorem dX11_meetingOf_86 : decode cX11_meetingOf 86 = .ok (.lstore 8, 2) := by decide +kernel
theorem dX11_meetingOf_88 : decode cX11_meetingOf 88 = .ok (.new 252, 3) := by decide +kernel
theorem dX11_meetingOf_91 : decode cX11_meetingOf 91 = .ok (.dup, 1) := by decide +kernel
theorem dX11_meetingOf_92 : decode cX11_meetingOf 92 = .ok (.aload 4, 2) := by decide +kernel
theorem dX11_meetingOf_94 : decode cX11_meetingOf 94 = .ok (.lload 6, 2) := by decide +kernel
theorem dX11_meetingOf_96 : decode cX11_meetingOf 96 = .ok (.invokevirtual 337, 3) := by decide +kernel
theorem dX11_meetingOf_99 : decode cX11_meetingOf 99 = .ok (.aload 5, 2) := by decide +kernel
theorem dX11_meetingOf_101 : decode cX11_meetingOf 101 = .ok (.lload 8, 2) := by decide +kernel
theorem dX11_meetingOf_103 : decode cX11_meetingOf 103 = .ok (.invokevirtual 337, 3) := by decide +kernel
theorem dX11_meetingOf_106 : decode cX11_meetingOf 106 = .ok (.invokevirtual 341, 3) := by decide +kernel
theorem dX11_meetingOf_109 : decode cX11_meetingOf 109 = .ok (.lload 6, 2) := by decide +kernel
theorem dX11_meetingOf_111 : decode cX11_meetingOf 111 = .ok (.invokespecial 344, 3) := by decide +kernel
theorem dX11_meetingOf_114 : decode cX11_meetingOf 114 = .ok (.areturn, 1) := by decide +kernel
set_option maxRecDepth 20000 in
theorem ggX11_crossing_X10_cross : GoodIn wsX11_crossing wsX10_cross := goodIn_r _ [5, 6, 7, 4, 8, 9, 10, 11, 12, 13, 14, 15, 16, 21, 22, 23] (by decide +kernel) (by decide +kernel)
set_option maxRecDepth 20000 in
theorem gX11_crossing_X10_cross : GoodIn wsX11_crossing (wsV RX11 347 RX10 yX10_cross wsX10_cross) := goodIn_app (goodIn_of _ (by decide +kernel)) ggX11_crossing_X10_cross
set_option maxRecDepth 20000 in
theorem ggX11_crossing_X10_isZero : GoodIn wsX11_crossing wsX10_isZero := goodIn_r _ [20, 10, 8, 9, 21, 22, 23] (by decide +kernel) (by decide +kernel)
set_option maxRecDepth 20000 in
theorem gX11_crossing_X10_isZero : GoodIn wsX11_crossing (wsV RX11 350 RX10 yX10_isZero wsX10_isZero) := goodIn_app (goodIn_of _ (by decide +kernel)) ggX11_crossing_X10_isZero
theorem dX11_crossing_0 : decode cX11_crossing 0 = .ok (.aload_n 0, 1) := by decide +kernel
theorem dX11_crossing_1 : decode cX11_crossing 1 = .ok (.ifnull 7, 3) := by decide +kernel
theorem dX11_crossing_4 : decode cX11_crossing 4 = .ok (.aload_n 1, 1) := by decide +kernel
theorem dX11_crossing_5 : decode cX11_crossing 5 = .ok (.ifnonnull 5, 3) := by decide +kernel
theorem dX11_crossing_8 : decode cX11_crossing 8 = .ok (.aconst_null, 1) := by decide +kernel
theorem dX11_crossing_9 : decode cX11_crossing 9 = .ok (.areturn, 1) := by decide +kernel
theorem dX11_crossing_10 : decode cX11_crossing 10 = .ok (.aload_n 0, 1) := by decide +kernel
theorem dX11_crossing_11 : decode cX11_crossing 11 = .ok (.aload_n 1, 1) := by decide +kernel
theorem dX11_crossing_12 : decode cX11_crossing 12 = .ok (.invokevirtual 347, 3) := by decide +kernel
theorem dX11_crossing_15 : decode cX11_crossing 15 = .ok (.astore_n 2, 1) := by decide +kernel
theorem dX11_crossing_16 : decode cX11_crossing 16 = .ok (.aload_n 2, 1) := by decide +kernel
theorem dX11_crossing_17 : decode cX11_crossing 17 = .ok (.invokevirtual 350, 3) := by decide +kernel
theorem dX11_crossing_20 : decode cX11_crossing 20 = .ok (.ifCond .eq 7, 3) := by decide +kernel
theorem dX11_crossing_23 : decode cX11_crossing 23 = .ok (.aconst_null, 1) := by decide +kernel
theorem dX11_crossing_24 : decode cX11_crossing 24 = .ok (.goto 4, 3) := by decide +kernel
theorem dX11_crossing_27 : decode cX11_crossing 27 = .ok (.aload_n 2, 1) := by decide +kernel
theorem dX11_crossing_28 : decode cX11_crossing 28 = .ok (.areturn, 1) := by decide +kernel
set_option maxRecDepth 20000 in
theorem ggX11_angleOf_X10_dot : GoodIn wsX11_angleOf wsX10_dot := goodIn_r _ [8, 9, 10, 11, 33, 34, 35] (by decide +kernel) (by decide +kernel)
set_option maxRecDepth 20000 in
theorem gX11_angleOf_X10_dot : GoodIn wsX11_angleOf (wsV RX11 229 RX10 yX10_dot wsX10_dot) := goodIn_app (goodIn_of _ (by decide +kernel)) ggX11_angleOf_X10_dot
set_option maxRecDepth 20000 in
theorem ggX11_angleOf_X0_init : GoodIn wsX11_angleOf wsX0_init := goodIn_r _ [14, 15, 16, 17, 18, 19, 20, 21, 22, 23, 24, 25, 26, 27, 28, 29, 3, 30, 31, 32] (by decide +kernel) (by decide +kernel)
set_option maxRecDepth 20000 in
theorem gX11_angleOf_X0_init : GoodIn wsX11_angleOf (wsX0_init) := ggX11_angleOf_X0_init
theorem dX11_angleOf_0 : decode cX11_angleOf 0 = .ok (.aload_n 0, 1) := by decide +kernel
theorem dX11_angleOf_1 : decode cX11_angleOf 1 = .ok (.ifnull 7, 3) := by decide +kernel
theorem dX11_angleOf_4 : decode cX11_angleOf 4 = .ok (.aload_n 1, 1) := by decide +kernel
theorem dX11_angleOf_5 : decode cX11_angleOf 5 = .ok (.ifnonnull 5, 3) := by decide +kernel
theorem dX11_angleOf_8 : decode cX11_angleOf 8 = .ok (.aconst_null, 1) := by decide +kernel
theorem dX11_angleOf_9 : decode cX11_angleOf 9 = .ok (.areturn, 1) := by decide +kernel
theorem dX11_angleOf_10 : decode cX11_angleOf 10 = .ok (.aload_n 0, 1) := by decide +kernel
theorem dX11_angleOf_11 : decode cX11_angleOf 11 = .ok (.aload_n 1, 1) := by decide +kernel
theorem dX11_angleOf_12 : decode cX11_angleOf 12 = .ok (.invokevirtual 229, 3) := by decide +kernel
theorem dX11_angleOf_15 : decode cX11_angleOf 15 = .ok (.lstore_n 2, 1) := by decide +kernel
theorem dX11_angleOf_16 : decode cX11_angleOf 16 = .ok (.new 171, 3) := by decide +kernel
theorem dX11_angleOf_19 : decode cX11_angleOf 19 = .ok (.dup, 1) := by decide +kernel
theorem dX11_angleOf_20 : decode cX11_angleOf 20 = .ok (.lload_n 2, 1) := by decide +kernel
theorem dX11_angleOf_21 : decode cX11_angleOf 21 = .ok (.lload_n 2, 1) := by decide +kernel
theorem dX11_angleOf_22 : decode cX11_angleOf 22 = .ok (.lmul, 1) := by decide +kernel
theorem dX11_angleOf_23 : decode cX11_angleOf 23 = .ok (.aload_n 0, 1) := by decide +kernel
theorem dX11_angleOf_24 : decode cX11_angleOf 24 = .ok (.aload_n 0, 1) := by decide +kernel
theorem dX11_angleOf_25 : decode cX11_angleOf 25 = .ok (.invokevirtual 229, 3) := by decide +kernel
theorem dX11_angleOf_28 : decode cX11_angleOf 28 = .ok (.aload_n 1, 1) := by decide +kernel
theorem dX11_angleOf_29 : decode cX11_angleOf 29 = .ok (.aload_n 1, 1) := by decide +kernel
theorem dX11_angleOf_30 : decode cX11_angleOf 30 = .ok (.invokevirtual 229, 3) := by decide +kernel
theorem dX11_angleOf_33 : decode cX11_angleOf 33 = .ok (.lmul, 1) := by decide +kernel
theorem dX11_angleOf_34 : decode cX11_angleOf 34 = .ok (.invokespecial 293, 3) := by decide +kernel
theorem dX11_angleOf_37 : decode cX11_angleOf 37 = .ok (.areturn, 1) := by decide +kernel
theorem dX11_isBlurred_0 : decode cX11_isBlurred 0 = .ok (.aload_n 0, 1) := by decide +kernel
theorem dX11_isBlurred_1 : decode cX11_isBlurred 1 = .ok (.ifnull 15, 3) := by decide +kernel
theorem dX11_isBlurred_4 : decode cX11_isBlurred 4 = .ok (.aload_n 0, 1) := by decide +kernel
theorem dX11_isBlurred_5 : decode cX11_isBlurred 5 = .ok (.getfield 216, 3) := by decide +kernel
theorem dX11_isBlurred_8 : decode cX11_isBlurred 8 = .ok (.iconst 2, 1) := by decide +kernel
theorem dX11_isBlurred_9 : decode cX11_isBlurred 9 = .ok (.if_icmp .ne 7, 3) := by decide +kernel
theorem dX11_isBlurred_12 : decode cX11_isBlurred 12 = .ok (.iconst 1, 1) := by decide +kernel
theorem dX11_isBlurred_13 : decode cX11_isBlurred 13 = .ok (.goto 4, 3) := by decide +kernel
theorem dX11_isBlurred_16 : decode cX11_isBlurred 16 = .ok (.iconst 0, 1) := by decide +kernel
theorem dX11_isBlurred_17 : decode cX11_isBlurred 17 = .ok (.ireturn, 1) := by decide +kernel
theorem dX11_isOnPlate_0 : decode cX11_isOnPlate 0 = .ok (.iload_n 0, 1) := by decide +kernel
theorem dX11_isOnPlate_1 : decode cX11_isOnPlate 1 = .ok (.ifCond .lt 14, 3) := by decide +kernel
theorem dX11_isOnPlate_4 : decode cX11_isOnPlate 4 = .ok (.iload_n 0, 1) := by decide +kernel
theorem dX11_isOnPlate_5 : decode cX11_isOnPlate 5 = .ok (.sipush 199, 3) := by decide +kernel
theorem dX11_isOnPlate_8 : decode cX11_isOnPlate 8 = .ok (.if_icmp .gt 7, 3) := by decide +kernel
theorem dX11_isOnPlate_11 : decode cX11_isOnPlate 11 = .ok (.iconst 1, 1) := by decide +kernel
theorem dX11_isOnPlate_12 : decode cX11_isOnPlate 12 = .ok (.goto 4, 3) := by decide +kernel
theorem dX11_isOnPlate_15 : decode cX11_isOnPlate 15 = .ok (.iconst 0, 1) := by decide +kernel
theorem dX11_isOnPlate_16 : decode cX11_isOnPlate 16 = .ok (.ireturn, 1) := by decide +kernel
theorem dX11_isRow_0 : decode cX11_isRow 0 = .ok (.iload_n 0, 1) := by decide +kernel
theorem dX11_isRow_1 : decode cX11_isRow 1 = .ok (.ifCond .lt 12, 3) := by decide +kernel
theorem dX11_isRow_4 : decode cX11_isRow 4 = .ok (.iload_n 0, 1) := by decide +kernel
theorem dX11_isRow_5 : decode cX11_isRow 5 = .ok (.iconst 2, 1) := by decide +kernel
theorem dX11_isRow_6 : decode cX11_isRow 6 = .ok (.if_icmp .ge 7, 3) := by decide +kernel
theorem dX11_isRow_9 : decode cX11_isRow 9 = .ok (.iconst 1, 1) := by decide +kernel
theorem dX11_isRow_10 : decode cX11_isRow 10 = .ok (.goto 4, 3) := by decide +kernel
theorem dX11_isRow_13 : decode cX11_isRow 13 = .ok (.iconst 0, 1) := by decide +kernel
theorem dX11_isRow_14 : decode cX11_isRow 14 = .ok (.ireturn, 1) := by decide +kernel
theorem dX11_isStation_0 : decode cX11_isStation 0 = .ok (.iload_n 0, 1) := by decide +kernel
theorem dX11_isStation_1 : decode cX11_isStation 1 = .ok (.ifCond .lt 12, 3) := by decide +kernel
theorem dX11_isStation_4 : decode cX11_isStation 4 = .ok (.iload_n 0, 1) := by decide +kernel
theorem dX11_isStation_5 : decode cX11_isStation 5 = .ok (.iconst 4, 1) := by decide +kernel
theorem dX11_isStation_6 : decode cX11_isStation 6 = .ok (.if_icmp .ge 7, 3) := by decide +kernel
theorem dX11_isStation_9 : decode cX11_isStation 9 = .ok (.iconst 1, 1) := by decide +kernel
theorem dX11_isStation_10 : decode cX11_isStation 10 = .ok (.goto 4, 3) := by decide +kernel
theorem dX11_isStation_13 : decode cX11_isStation 13 = .ok (.iconst 0, 1) := by decide +kernel
theorem dX11_isStation_14 : decode cX11_isStation 14 = .ok (.ireturn, 1) := by decide +kernel
theorem dX11_isMeteor_0 : decode cX11_isMeteor 0 = .ok (.iload_n 0, 1) := by decide +kernel
theorem dX11_isMeteor_1 : decode cX11_isMeteor 1 = .ok (.ifCond .lt 13, 3) := by decide +kernel
theorem dX11_isMeteor_4 : decode cX11_isMeteor 4 = .ok (.iload_n 0, 1) := by decide +kernel
theorem dX11_isMeteor_5 : decode cX11_isMeteor 5 = .ok (.bipush 6, 2) := by decide +kernel
theorem dX11_isMeteor_7 : decode cX11_isMeteor 7 = .ok (.if_icmp .ge 7, 3) := by decide +kernel
theorem dX11_isMeteor_10 : decode cX11_isMeteor 10 = .ok (.iconst 1, 1) := by decide +kernel
theorem dX11_isMeteor_11 : decode cX11_isMeteor 11 = .ok (.goto 4, 3) := by decide +kernel
theorem dX11_isMeteor_14 : decode cX11_isMeteor 14 = .ok (.iconst 0, 1) := by decide +kernel
theorem dX11_isMeteor_15 : decode cX11_isMeteor 15 = .ok (.ireturn, 1) := by decide +kernel
theorem dX11_isKind_0 : decode cX11_isKind 0 = .ok (.iload_n 0, 1) := by decide +kernel
theorem dX11_isKind_1 : decode cX11_isKind 1 = .ok (.ifCond .lt 12, 3) := by decide +kernel
theorem dX11_isKind_4 : decode cX11_isKind 4 = .ok (.iload_n 0, 1) := by decide +kernel
theorem dX11_isKind_5 : decode cX11_isKind 5 = .ok (.iconst 2, 1) := by decide +kernel
theorem dX11_isKind_6 : decode cX11_isKind 6 = .ok (.if_icmp .gt 7, 3) := by decide +kernel
theorem dX11_isKind_9 : decode cX11_isKind 9 = .ok (.iconst 1, 1) := by decide +kernel
theorem dX11_isKind_10 : decode cX11_isKind 10 = .ok (.goto 4, 3) := by decide +kernel
theorem dX11_isKind_13 : decode cX11_isKind 13 = .ok (.iconst 0, 1) := by decide +kernel
theorem dX11_isKind_14 : decode cX11_isKind 14 = .ok (.ireturn, 1) := by decide +kernel
theorem dX11_isAxis_0 : decode cX11_isAxis 0 = .ok (.iload_n 0, 1) := by decide +kernel
theorem dX11_isAxis_1 : decode cX11_isAxis 1 = .ok (.ifCond .lt 12, 3) := by decide +kernel
theorem dX11_isAxis_4 : decode cX11_isAxis 4 = .ok (.iload_n 0, 1) := by decide +kernel
theorem dX11_isAxis_5 : decode cX11_isAxis 5 = .ok (.iconst 3, 1) := by decide +kernel
theorem dX11_isAxis_6 : decode cX11_isAxis 6 = .ok (.if_icmp .ge 7, 3) := by decide +kernel
theorem dX11_isAxis_9 : decode cX11_isAxis 9 = .ok (.iconst 1, 1) := by decide +kernel
theorem dX11_isAxis_10 : decode cX11_isAxis 10 = .ok (.goto 4, 3) := by decide +kernel
theorem dX11_isAxis_13 : decode cX11_isAxis 13 = .ok (.iconst 0, 1) := by decide +kernel
theorem dX11_isAxis_14 : decode cX11_isAxis 14 = .ok (.ireturn, 1) := by decide +kernel
theorem dX11_within_0 : decode cX11_within 0 = .ok (.iload_n 0, 1) := by decide +kernel
theorem dX11_within_1 : decode cX11_within 1 = .ok (.iload_n 1, 1) := by decide +kernel
theorem dX11_within_2 : decode cX11_within 2 = .ok (.ineg, 1) := by decide +kernel
theorem dX11_within_3 : decode cX11_within 3 = .ok (.if_icmp .lt 12, 3) := by decide +kernel
theorem dX11_within_6 : decode cX11_within 6 = .ok (.iload_n 0, 1) := by decide +kernel
theorem dX11_within_7 : decode cX11_within 7 = .ok (.iload_n 1, 1) := by decide +kernel
theorem dX11_within_8 : decode cX11_within 8 = .ok (.if_icmp .gt 7, 3) := by decide +kernel
theorem dX11_within_11 : decode cX11_within 11 = .ok (.iconst 1, 1) := by decide +kernel
theorem dX11_within_12 : decode cX11_within 12 = .ok (.goto 4, 3) := by decide +kernel
theorem dX11_within_15 : decode cX11_within 15 = .ok (.iconst 0, 1) := by decide +kernel
theorem dX11_within_16 : decode cX11_within 16 = .ok (.ireturn, 1) := by decide +kernel
theorem dX12_init_0 : decode cX12_init 0 = .ok (.aload_n 0, 1) := by decide +kernel
theorem dX12_init_1 : decode cX12_init 1 = .ok (.invokespecial 3, 3) := by decide +kernel
theorem dX12_init_4 : decode cX12_init 4 = .ok (.aload_n 0, 1) := by decide +kernel
theorem dX12_init_5 : decode cX12_init 5 = .ok (.bipush 22, 2) := by decide +kernel
theorem dX12_init_7 : decode cX12_init 7 = .ok (.newarray .int, 2) := by decide +kernel
theorem dX12_init_9 : decode cX12_init 9 = .ok (.putfield 9, 3) := by decide +kernel
theorem dX12_init_12 : decode cX12_init 12 = .ok (.aload_n 0, 1) := by decide +kernel
theorem dX12_init_13 : decode cX12_init 13 = .ok (.bipush 22, 2) := by decide +kernel
theorem dX12_init_15 : decode cX12_init 15 = .ok (.newarray .int, 2) := by decide +kernel
theorem dX12_init_17 : decode cX12_init 17 = .ok (.putfield 13, 3) := by decide +kernel
theorem dX12_init_20 : decode cX12_init 20 = .ok (.aload_n 0, 1) := by decide +kernel
theorem dX12_init_21 : decode cX12_init 21 = .ok (.iconst 5, 1) := by decide +kernel
theorem dX12_init_22 : decode cX12_init 22 = .ok (.putfield 16, 3) := by decide +kernel
theorem dX12_init_25 : decode cX12_init 25 = .ok (.aload_n 0, 1) := by decide +kernel
theorem dX12_init_26 : decode cX12_init 26 = .ok (.bipush 48, 2) := by decide +kernel
theorem dX12_init_28 : decode cX12_init 28 = .ok (.newarray .int, 2) := by decide +kernel
theorem dX12_init_30 : decode cX12_init 30 = .ok (.putfield 20, 3) := by decide +kernel
theorem dX12_init_33 : decode cX12_init 33 = .ok (.aload_n 0, 1) := by decide +kernel
theorem dX12_init_34 : decode cX12_init 34 = .ok (.iconst 2, 1) := by decide +kernel
theorem dX12_init_35 : decode cX12_init 35 = .ok (.newarray .int, 2) := by decide +kernel
theorem dX12_init_37 : decode cX12_init 37 = .ok (.putfield 23, 3) := by decide +kernel
theorem dX12_init_40 : decode cX12_init 40 = .ok (.aload_n 0, 1) := by decide +kernel
theorem dX12_init_41 : decode cX12_init 41 = .ok (.bipush 12, 2) := by decide +kernel
theorem dX12_init_43 : decode cX12_init 43 = .ok (.newarray .int, 2) := by decide +kernel
theorem dX12_init_45 : decode cX12_init 45 = .ok (.putfield 26, 3) := by decide +kernel
theorem dX12_init_48 : decode cX12_init 48 = .ok (.aload_n 0, 1) := by decide +kernel
theorem dX12_init_49 : decode cX12_init 49 = .ok (.bipush 6, 2) := by decide +kernel
theorem dX12_init_51 : decode cX12_init 51 = .ok (.newarray .int, 2) := by decide +kernel
theorem dX12_init_53 : decode cX12_init 53 = .ok (.putfield 29, 3) := by decide +kernel
theorem dX12_init_56 : decode cX12_init 56 = .ok (.aload_n 0, 1) := by decide +kernel
theorem dX12_init_57 : decode cX12_init 57 = .ok (.bipush 24, 2) := by decide +kernel
theorem dX12_init_59 : decode cX12_init 59 = .ok (.newarray .int, 2) := by decide +kernel
theorem dX12_init_61 : decode cX12_init 61 = .ok (.putfield 32, 3) := by decide +kernel
theorem dX12_init_64 : decode cX12_init 64 = .ok (.aload_n 0, 1) := by decide +kernel
theorem dX12_init_65 : decode cX12_init 65 = .ok (.bipush 24, 2) := by decide +kernel
theorem dX12_init_67 : decode cX12_init 67 = .ok (.newarray .int, 2) := by decide +kernel
theorem dX12_init_69 : decode cX12_init 69 = .ok (.putfield 35, 3) := by decide +kernel
theorem dX12_init_72 : decode cX12_init 72 = .ok (.aload_n 0, 1) := by decide +kernel
theorem dX12_init_73 : decode cX12_init 73 = .ok (.sipush 216, 3) := by decide +kernel
theorem dX12_init_76 : decode cX12_init 76 = .ok (.newarray .int, 2) := by decide +kernel
theorem dX12_init_78 : decode cX12_init 78 = .ok (.putfield 38, 3) := by decide +kernel
theorem dX12_init_81 : decode cX12_init 81 = .ok (.aload_n 0, 1) := by decide +kernel
theorem dX12_init_82 : decode cX12_init 82 = .ok (.bipush 20, 2) := by decide +kernel
theorem dX12_init_84 : decode cX12_init 84 = .ok (.newarray .int, 2) := by decide +kernel
theorem dX12_init_86 : decode cX12_init 86 = .ok (.putfield 41, 3) := by decide +kernel
theorem dX12_init_89 : decode cX12_init 89 = .ok (.aload_n 0, 1) := by decide +kernel
theorem dX12_init_90 : decode cX12_init 90 = .ok (.bipush 9, 2) := by decide +kernel
theorem dX12_init_92 : decode cX12_init 92 = .ok (.newarray .int, 2) := by decide +kernel
theorem dX12_init_94 : decode cX12_init 94 = .ok (.putfield 44, 3) := by decide +kernel
theorem dX12_init_97 : decode cX12_init 97 = .ok (.aload_n 0, 1) := by decide +kernel
theorem dX12_init_98 : decode cX12_init 98 = .ok (.bipush 6, 2) := by decide +kernel
theorem dX12_init_100 : decode cX12_init 100 = .ok (.newarray .long, 2) := by decide +kernel
theorem dX12_init_102 : decode cX12_init 102 = .ok (.putfield 47, 3) := by decide +kernel
theorem dX12_init_105 : decode cX12_init 105 = .ok (.aload_n 0, 1) := by decide +kernel
theorem dX12_init_106 : decode cX12_init 106 = .ok (.iconst 3, 1) := by decide +kernel
theorem dX12_init_107 : decode cX12_init 107 = .ok (.newarray .int, 2) := by decide +kernel
theorem dX12_init_109 : decode cX12_init 109 = .ok (.putfield 51, 3) := by decide +kernel
theorem dX12_init_112 : decode cX12_init 112 = .ok (.aload_n 0, 1) := by decide +kernel
theorem dX12_init_113 : decode cX12_init 113 = .ok (.iconst 3, 1) := by decide +kernel
theorem dX12_init_114 : decode cX12_init 114 = .ok (.newarray .long, 2) := by decide +kernel
theorem dX12_init_116 : decode cX12_init 116 = .ok (.putfield 54, 3) := by decide +kernel
theorem dX12_init_119 : decode cX12_init 119 = .ok (.aload_n 0, 1) := by decide +kernel
theorem dX12_init_120 : decode cX12_init 120 = .ok (.sipush 660, 3) := by decide +kernel
theorem dX12_init_123 : decode cX12_init 123 = .ok (.newarray .int, 2) := by decide +kernel
theorem dX12_init_125 : decode cX12_init 125 = .ok (.putfield 57, 3) := by decide +kernel
theorem dX12_init_128 : decode cX12_init 128 = .ok (.aload_n 0, 1) := by decide +kernel
theorem dX12_init_129 : decode cX12_init 129 = .ok (.sipush 660, 3) := by decide +kernel
theorem dX12_init_132 : decode cX12_init 132 = .ok (.newarray .long, 2) := by decide +kernel
theorem dX12_init_134 : decode cX12_init 134 = .ok (.putfield 60, 3) := by decide +kernel
theorem dX12_init_137 : decode cX12_init 137 = .ok (.aload_n 0, 1) := by decide +kernel
theorem dX12_init_138 : decode cX12_init 138 = .ok (.sipush 220, 3) := by decide +kernel
theorem dX12_init_141 : decode cX12_init 141 = .ok (.newarray .int, 2) := by decide +kernel
theorem dX12_init_143 : decode cX12_init 143 = .ok (.putfield 63, 3) := by decide +kernel
theorem dX12_init_146 : decode cX12_init 146 = .ok (.aload_n 0, 1) := by decide +kernel
theorem dX12_init_147 : decode cX12_init 147 = .ok (.bipush 120, 2) := by decide +kernel
theorem dX12_init_149 : decode cX12_init 149 = .ok (.newarray .int, 2) := by decide +kernel
theorem dX12_init_151 : decode cX12_init 151 = .ok (.putfield 66, 3) := by decide +kernel
theorem dX12_init_154 : decode cX12_init 154 = .ok (.aload_n 0, 1) := by decide +kernel
theorem dX12_init_155 : decode cX12_init 155 = .ok (.iconst 3, 1) := by decide +kernel
theorem dX12_init_156 : decode cX12_init 156 = .ok (.newarray .int, 2) := by decide +kernel
theorem dX12_init_158 : decode cX12_init 158 = .ok (.putfield 69, 3) := by decide +kernel
theorem dX12_init_161 : decode cX12_init 161 = .ok (.aload_n 0, 1) := by decide +kernel
theorem dX12_init_162 : decode cX12_init 162 = .ok (.iconst 3, 1) := by decide +kernel
theorem dX12_init_163 : decode cX12_init 163 = .ok (.newarray .long, 2) := by decide +kernel
theorem dX12_init_165 : decode cX12_init 165 = .ok (.putfield 72, 3) := by decide +kernel
theorem dX12_init_168 : decode cX12_init 168 = .ok (.aload_n 0, 1) := by decide +kernel
theorem dX12_init_169 : decode cX12_init 169 = .ok (.getfield 23, 3) := by decide +kernel
theorem dX12_init_172 : decode cX12_init 172 = .ok (.iconst 0, 1) := by decide +kernel
theorem dX12_init_173 : decode cX12_init 173 = .ok (.iconst (-1), 1) := by decide +kernel
theorem dX12_init_174 : decode cX12_init 174 = .ok (.iastore, 1) := by decide +kernel
theorem dX12_init_175 : decode cX12_init 175 = .ok (.aload_n 0, 1) := by decide +kernel
theorem dX12_init_176 : decode cX12_init 176 = .ok (.getfield 23, 3) := by decide +kernel
theorem dX12_init_179 : decode cX12_init 179 = .ok (.iconst 1, 1) := by decide +kernel
theorem dX12_init_180 : decode cX12_init 180 = .ok (.iconst (-1), 1) := by decide +kernel
theorem dX12_init_181 : decode cX12_init 181 = .ok (.iastore, 1) := by decide +kernel
theorem dX12_init_182 : decode cX12_init 182 = .ok (.return_, 1) := by decide +kernel
theorem dX12_finding_0 : decode cX12_finding 0 = .ok (.aload_n 0, 1) := by decide +kernel
theorem dX12_finding_1 : decode cX12_finding 1 = .ok (.getfield 47, 3) := by decide +kernel
theorem dX12_finding_4 : decode cX12_finding 4 = .ok (.ldc2_w 75, 3) := by decide +kernel
theorem dX12_finding_7 : decode cX12_finding 7 = .ok (.lload_n 1, 1) := by decide +kernel
theorem dX12_finding_8 : decode cX12_finding 8 = .ok (.lsub, 1) := by decide +kernel
theorem dX12_finding_9 : decode cX12_finding 9 = .ok (.l2i, 1) := by decide +kernel
theorem dX12_finding_10 : decode cX12_finding 10 = .ok (.dup2, 1) := by decide +kernel
theorem dX12_finding_11 : decode cX12_finding 11 = .ok (.laload, 1) := by decide +kernel
theorem dX12_finding_12 : decode cX12_finding 12 = .ok (.lconst 1, 1) := by decide +kernel
theorem dX12_finding_13 : decode cX12_finding 13 = .ok (.ladd, 1) := by decide +kernel
theorem dX12_finding_14 : decode cX12_finding 14 = .ok (.lastore, 1) := by decide +kernel
theorem dX12_finding_15 : decode cX12_finding 15 = .ok (.lload_n 1, 1) := by decide +kernel
theorem dX12_finding_16 : decode cX12_finding 16 = .ok (.lreturn, 1) := by decide +kernel
theorem dX12_in_0 : decode cX12_in 0 = .ok (.iload_n 0, 1) := by decide +kernel
theorem dX12_in_1 : decode cX12_in 1 = .ok (.iload_n 1, 1) := by decide +kernel
theorem dX12_in_2 : decode cX12_in 2 = .ok (.if_icmp .lt 12, 3) := by decide +kernel
theorem dX12_in_5 : decode cX12_in 5 = .ok (.iload_n 0, 1) := by decide +kernel
theorem dX12_in_6 : decode cX12_in 6 = .ok (.iload_n 2, 1) := by decide +kernel
theorem dX12_in_7 : decode cX12_in 7 = .ok (.if_icmp .gt 7, 3) := by decide +kernel
theorem dX12_in_10 : decode cX12_in 10 = .ok (.iconst 1, 1) := by decide +kernel
theorem dX12_in_11 : decode cX12_in 11 = .ok (.goto 4, 3) := by decide +kernel
theorem dX12_in_14 : decode cX12_in 14 = .ok (.iconst 0, 1) := by decide +kernel
theorem dX12_in_15 : decode cX12_in 15 = .ok (.ireturn, 1) := by decide +kernel
theorem dX12_common_0 : decode cX12_common 0 = .ok (.lload_n 0, 1) := by decide +kernel
theorem dX12_common_1 : decode cX12_common 1 = .ok (.invokestatic 77, 3) := by decide +kernel
theorem dX12_common_4 : decode cX12_common 4 = .ok (.lstore 4, 2) := by decide +kernel
theorem dX12_common_6 : decode cX12_common 6 = .ok (.lload_n 2, 1) := by decide +kernel
theorem dX12_common_7 : decode cX12_common 7 = .ok (.invokestatic 77, 3) := by decide +kernel
theorem dX12_common_10 : decode cX12_common 10 = .ok (.lstore 6, 2) := by decide +kernel
theorem dX12_common_12 : decode cX12_common 12 = .ok (.lload 6, 2) := by decide +kernel
theorem dX12_common_14 : decode cX12_common 14 = .ok (.lconst 0, 1) := by decide +kernel
theorem dX12_common_15 : decode cX12_common 15 = .ok (.lcmp, 1) := by decide +kernel
theorem dX12_common_16 : decode cX12_common 16 = .ok (.ifCond .eq 21, 3) := by decide +kernel
theorem dX12_common_19 : decode cX12_common 19 = .ok (.lload 4, 2) := by decide +kernel
theorem dX12_common_21 : decode cX12_common 21 = .ok (.lload 6, 2) := by decide +kernel
theorem dX12_common_23 : decode cX12_common 23 = .ok (.lrem, 1) := by decide +kernel
theorem dX12_common_24 : decode cX12_common 24 = .ok (.lstore 8, 2) := by decide +kernel
theorem dX12_common_26 : decode cX12_common 26 = .ok (.lload 6, 2) := by decide +kernel
theorem dX12_common_28 : decode cX12_common 28 = .ok (.lstore 4, 2) := by decide +kernel
theorem dX12_common_30 : decode cX12_common 30 = .ok (.lload 8, 2) := by decide +kernel
theorem dX12_common_32 : decode cX12_common 32 = .ok (.lstore 6, 2) := by decide +kernel
theorem dX12_common_34 : decode cX12_common 34 = .ok (.goto (-22), 3) := by decide +kernel
theorem dX12_common_37 : decode cX12_common 37 = .ok (.lload 4, 2) := by decide +kernel
theorem dX12_common_39 : decode cX12_common 39 = .ok (.lreturn, 1) := by decide +kernel
set_option maxRecDepth 20000 in
theorem ggX12_part_X12_common : GoodIn wsX12_part wsX12_common := goodIn_r _ [4, 5, 6, 7, 8] (by decide +kernel) (by decide +kernel)
set_option maxRecDepth 20000 in
theorem gX12_part_X12_common : GoodIn wsX12_part (va_wsS RX12 83 yX12_common wsX12_common) := goodIn_app (goodIn_of _ (by decide +kernel)) ggX12_part_X12_common
theorem dX12_part_0 : decode cX12_part 0 = .ok (.lload_n 0, 1) := by decide +kernel
theorem dX12_part_1 : decode cX12_part 1 = .ok (.lload_n 2, 1) := by decide +kernel
theorem dX12_part_2 : decode cX12_part 2 = .ok (.invokestatic 83, 3) := by decide +kernel
theorem dX12_part_5 : decode cX12_part 5 = .ok (.lstore 5, 2) := by decide +kernel
theorem dX12_part_7 : decode cX12_part 7 = .ok (.lload_n 2, 1) := by decide +kernel
theorem dX12_part_8 : decode cX12_part 8 = .ok (.lconst 0, 1) := by decide +kernel
theorem dX12_part_9 : decode cX12_part 9 = .ok (.lcmp, 1) := by decide +kernel
theorem dX12_part_10 : decode cX12_part 10 = .ok (.ifCond .ge 9, 3) := by decide +kernel
theorem dX12_part_13 : decode cX12_part 13 = .ok (.lload 5, 2) := by decide +kernel
theorem dX12_part_15 : decode cX12_part 15 = .ok (.lneg, 1) := by decide +kernel
theorem dX12_part_16 : decode cX12_part 16 = .ok (.goto 5, 3) := by decide +kernel
theorem dX12_part_19 : decode cX12_part 19 = .ok (.lload 5, 2) := by decide +kernel
theorem dX12_part_21 : decode cX12_part 21 = .ok (.lstore 5, 2) := by decide +kernel
theorem dX12_part_23 : decode cX12_part 23 = .ok (.iload 4, 2) := by decide +kernel
theorem dX12_part_25 : decode cX12_part 25 = .ok (.ifCond .eq 10, 3) := by decide +kernel
theorem dX12_part_28 : decode cX12_part 28 = .ok (.lload_n 2, 1) := by decide +kernel
theorem dX12_part_29 : decode cX12_part 29 = .ok (.lload 5, 2) := by decide +kernel
theorem dX12_part_31 : decode cX12_part 31 = .ok (.ldiv, 1) := by decide +kernel
theorem dX12_part_32 : decode cX12_part 32 = .ok (.goto 7, 3) := by decide +kernel
theorem dX12_part_35 : decode cX12_part 35 = .ok (.lload_n 0, 1) := by decide +kernel
theorem dX12_part_36 : decode cX12_part 36 = .ok (.lload 5, 2) := by decide +kernel
theorem dX12_part_38 : decode cX12_part 38 = .ok (.ldiv, 1) := by decide +kernel
theorem dX12_part_39 : decode cX12_part 39 = .ok (.lreturn, 1) := by decide +kernel
theorem dX12_compare_0 : decode cX12_compare 0 = .ok (.lload_n 0, 1) := by decide +kernel
theorem dX12_compare_1 : decode cX12_compare 1 = .ok (.lstore 8, 2) := by decide +kernel
theorem dX12_compare_3 : decode cX12_compare 3 = .ok (.lload_n 2, 1) := by decide +kernel
theorem dX12_compare_4 : decode cX12_compare 4 = .ok (.lstore 10, 2) := by decide +kernel
theorem dX12_compare_6 : decode cX12_compare 6 = .ok (.lload 4, 2) := by decide +kernel
theorem dX12_compare_8 : decode cX12_compare 8 = .ok (.lstore 12, 2) := by decide +kernel
theorem dX12_compare_10 : decode cX12_compare 10 = .ok (.lload 6, 2) := by decide +kernel
theorem dX12_compare_12 : decode cX12_compare 12 = .ok (.lstore 14, 2) := by decide +kernel
theorem dX12_compare_14 : decode cX12_compare 14 = .ok (.lload 8, 2) := by decide +kernel
theorem dX12_compare_16 : decode cX12_compare 16 = .ok (.lload 10, 2) := by decide +kernel
theorem dX12_compare_18 : decode cX12_compare 18 = .ok (.ldiv, 1) := by decide +kernel
theorem dX12_compare_19 : decode cX12_compare 19 = .ok (.lload 12, 2) := by decide +kernel
theorem dX12_compare_21 : decode cX12_compare 21 = .ok (.lload 14, 2) := by decide +kernel
theorem dX12_compare_23 : decode cX12_compare 23 = .ok (.ldiv, 1) := by decide +kernel
theorem dX12_compare_24 : decode cX12_compare 24 = .ok (.lcmp, 1) := by decide +kernel
theorem dX12_compare_25 : decode cX12_compare 25 = .ok (.ifCond .eq 23, 3) := by decide +kernel
theorem dX12_compare_28 : decode cX12_compare 28 = .ok (.lload 8, 2) := by decide +kernel
theorem dX12_compare_30 : decode cX12_compare 30 = .ok (.lload 10, 2) := by decide +kernel
theorem dX12_compare_32 : decode cX12_compare 32 = .ok (.ldiv, 1) := by decide +kernel
theorem dX12_compare_33 : decode cX12_compare 33 = .ok (.lload 12, 2) := by decide +kernel
theorem dX12_compare_35 : decode cX12_compare 35 = .ok (.lload 14, 2) := by decide +kernel
theorem dX12_compare_37 : decode cX12_compare 37 = .ok (.ldiv, 1) := by decide +kernel
theorem dX12_compare_38 : decode cX12_compare 38 = .ok (.lcmp, 1) := by decide +kernel
theorem dX12_compare_39 : decode cX12_compare 39 = .ok (.ifCond .ge 7, 3) := by decide +kernel
theorem dX12_compare_42 : decode cX12_compare 42 = .ok (.iconst (-1), 1) := by decide +kernel
theorem dX12_compare_43 : decode cX12_compare 43 = .ok (.goto 4, 3) := by decide +kernel
theorem dX12_compare_46 : decode cX12_compare 46 = .ok (.iconst 1, 1) := by decide +kernel
theorem dX12_compare_47 : decode cX12_compare 47 = .ok (.ireturn, 1) := by decide +kernel
theorem dX12_compare_48 : decode cX12_compare 48 = .ok (.lload 8, 2) := by decide +kernel
theorem dX12_compare_50 : decode cX12_compare 50 = .ok (.lload 10, 2) := by decide +kernel
theorem dX12_compare_52 : decode cX12_compare 52 = .ok (.lrem, 1) := by decide +kernel
theorem dX12_compare_53 : decode cX12_compare 53 = .ok (.lstore 16, 2) := by decide +kernel
theorem dX12_compare_55 : decode cX12_compare 55 = .ok (.lload 12, 2) := by decide +kernel
theorem dX12_compare_57 : decode cX12_compare 57 = .ok (.lload 14, 2) := by decide +kernel
theorem dX12_compare_59 : decode cX12_compare 59 = .ok (.lrem, 1) := by decide +kernel
theorem dX12_compare_60 : decode cX12_compare 60 = .ok (.lstore 18, 2) := by decide +kernel
theorem dX12_compare_62 : decode cX12_compare 62 = .ok (.lload 16, 2) := by decide +kernel
theorem dX12_compare_64 : decode cX12_compare 64 = .ok (.lconst 0, 1) := by decide +kernel
theorem dX12_compare_65 : decode cX12_compare 65 = .ok (.lcmp, 1) := by decide +kernel
theorem dX12_compare_66 : decode cX12_compare 66 = .ok (.ifCond .eq 10, 3) := by decide +kernel
theorem dX12_compare_69 : decode cX12_compare 69 = .ok (.lload 18, 2) := by decide +kernel
theorem dX12_compare_71 : decode cX12_compare 71 = .ok (.lconst 0, 1) := by decide +kernel
theorem dX12_compare_72 : decode cX12_compare 72 = .ok (.lcmp, 1) := by decide +kernel
theorem dX12_compare_73 : decode cX12_compare 73 = .ok (.ifCond .ne 28, 3) := by decide +kernel
theorem dX12_compare_76 : decode cX12_compare 76 = .ok (.lload 16, 2) := by decide +kernel
theorem dX12_compare_78 : decode cX12_compare 78 = .ok (.lload 18, 2) := by decide +kernel
theorem dX12_compare_80 : decode cX12_compare 80 = .ok (.lcmp, 1) := by decide +kernel
theorem dX12_compare_81 : decode cX12_compare 81 = .ok (.ifCond .ne 7, 3) := by decide +kernel
theorem dX12_compare_84 : decode cX12_compare 84 = .ok (.iconst 0, 1) := by decide +kernel
theorem dX12_compare_85 : decode cX12_compare 85 = .ok (.goto 15, 3) := by decide +kernel
theorem dX12_compare_88 : decode cX12_compare 88 = .ok (.lload 16, 2) := by decide +kernel
theorem dX12_compare_90 : decode cX12_compare 90 = .ok (.lconst 0, 1) := by decide +kernel
theorem dX12_compare_91 : decode cX12_compare 91 = .ok (.lcmp, 1) := by decide +kernel
theorem dX12_compare_92 : decode cX12_compare 92 = .ok (.ifCond .ne 7, 3) := by decide +kernel
theorem dX12_compare_95 : decode cX12_compare 95 = .ok (.iconst (-1), 1) := by decide +kernel
theorem dX12_compare_96 : decode cX12_compare 96 = .ok (.goto 4, 3) := by decide +kernel
theorem dX12_compare_99 : decode cX12_compare 99 = .ok (.iconst 1, 1) := by decide +kernel
theorem dX12_compare_100 : decode cX12_compare 100 = .ok (.ireturn, 1) := by decide +kernel
theorem dX12_compare_101 : decode cX12_compare 101 = .ok (.lload 14, 2) := by decide +kernel
theorem dX12_compare_103 : decode cX12_compare 103 = .ok (.lstore 8, 2) := by decide +kernel
theorem dX12_compare_105 : decode cX12_compare 105 = .ok (.lload 16, 2) := by decide +kernel
theorem dX12_compare_107 : decode cX12_compare 107 = .ok (.lstore 14, 2) := by decide +kernel
theorem dX12_compare_109 : decode cX12_compare 109 = .ok (.lload 10, 2) := by decide +kernel
theorem dX12_compare_111 : decode cX12_compare 111 = .ok (.lstore 12, 2) := by decide +kernel
theorem dX12_compare_113 : decode cX12_compare 113 = .ok (.lload 18, 2) := by decide +kernel
theorem dX12_compare_115 : decode cX12_compare 115 = .ok (.lstore 10, 2) := by decide +kernel
theorem dX12_compare_117 : decode cX12_compare 117 = .ok (.goto (-103), 3) := by decide +kernel
set_option maxRecDepth 20000 in
theorem ggX12_star_X12_in : GoodIn wsX12_star wsX12_in := goodIn_r _ [9] (by decide +kernel) (by decide +kernel)
set_option maxRecDepth 20000 in
theorem gX12_star_X12_in : GoodIn wsX12_star (va_wsS RX12 87 yX12_in wsX12_in) := goodIn_app (goodIn_of _ (by decide +kernel)) ggX12_star_X12_in
set_option maxRecDepth 20000 in
theorem ggX12_star_X12_finding : GoodIn wsX12_star wsX12_finding := goodIn_r _ [13, 14, 15, 16, 17, 18, 19, 20, 21, 22, 23, 24, 25, 26, 27, 28, 29, 30, 31, 32, 33, 34, 35, 36, 37, 38, 39, 40, 41, 42] (by decide +kernel) (by decide +kernel)
set_option maxRecDepth 20000 in
theorem gX12_star_X12_finding : GoodIn wsX12_star (wsV RX12 93 RX12 yX12_finding wsX12_finding) := goodIn_app (goodIn_of _ (by decide +kernel)) ggX12_star_X12_finding
theorem dX12_star_0 : decode cX12_star 0 = .ok (.iload_n 1, 1) := by decide +kernel
theorem dX12_star_1 : decode cX12_star 1 = .ok (.iconst 0, 1) := by decide +kernel
theorem dX12_star_2 : decode cX12_star 2 = .ok (.sipush 199, 3) := by decide +kernel
theorem dX12_star_5 : decode cX12_star 5 = .ok (.invokestatic 87, 3) := by decide +kernel
theorem dX12_star_8 : decode cX12_star 8 = .ok (.ifCond .eq 14, 3) := by decide +kernel
theorem dX12_star_11 : decode cX12_star 11 = .ok (.iload_n 2, 1) := by decide +kernel
theorem dX12_star_12 : decode cX12_star 12 = .ok (.iconst 0, 1) := by decide +kernel
theorem dX12_star_13 : decode cX12_star 13 = .ok (.sipush 199, 3) := by decide +kernel
theorem dX12_star_16 : decode cX12_star 16 = .ok (.invokestatic 87, 3) := by decide +kernel
theorem dX12_star_19 : decode cX12_star 19 = .ok (.ifCond .ne 11, 3) := by decide +kernel
theorem dX12_star_22 : decode cX12_star 22 = .ok (.aload_n 0, 1) := by decide +kernel
theorem dX12_star_23 : decode cX12_star 23 = .ok (.ldc2_w 91, 3) := by decide +kernel
theorem dX12_star_26 : decode cX12_star 26 = .ok (.invokevirtual 93, 3) := by decide +kernel
theorem dX12_star_29 : decode cX12_star 29 = .ok (.lreturn, 1) := by decide +kernel
theorem dX12_star_30 : decode cX12_star 30 = .ok (.aload_n 0, 1) := by decide +kernel
theorem dX12_star_31 : decode cX12_star 31 = .ok (.getfield 96, 3) := by decide +kernel
theorem dX12_star_34 : decode cX12_star 34 = .ok (.bipush 12, 2) := by decide +kernel
theorem dX12_star_36 : decode cX12_star 36 = .ok (.if_icmp .ne 11, 3) := by decide +kernel
theorem dX12_star_39 : decode cX12_star 39 = .ok (.aload_n 0, 1) := by decide +kernel
theorem dX12_star_40 : decode cX12_star 40 = .ok (.ldc2_w 99, 3) := by decide +kernel
theorem dX12_star_43 : decode cX12_star 43 = .ok (.invokevirtual 93, 3) := by decide +kernel
theorem dX12_star_46 : decode cX12_star 46 = .ok (.lreturn, 1) := by decide +kernel
theorem dX12_star_47 : decode cX12_star 47 = .ok (.aload_n 0, 1) := by decide +kernel
theorem dX12_star_48 : decode cX12_star 48 = .ok (.getfield 9, 3) := by decide +kernel
theorem dX12_star_51 : decode cX12_star 51 = .ok (.bipush 10, 2) := by decide +kernel
theorem dX12_star_53 : decode cX12_star 53 = .ok (.aload_n 0, 1) := by decide +kernel
theorem dX12_star_54 : decode cX12_star 54 = .ok (.getfield 96, 3) := by decide +kernel
theorem dX12_star_57 : decode cX12_star 57 = .ok (.iadd, 1) := by decide +kernel
theorem dX12_star_58 : decode cX12_star 58 = .ok (.iload_n 1, 1) := by decide +kernel
theorem dX12_star_59 : decode cX12_star 59 = .ok (.iastore, 1) := by decide +kernel
theorem dX12_star_60 : decode cX12_star 60 = .ok (.aload_n 0, 1) := by decide +kernel
theorem dX12_star_61 : decode cX12_star 61 = .ok (.getfield 13, 3) := by decide +kernel
theorem dX12_star_64 : decode cX12_star 64 = .ok (.bipush 10, 2) := by decide +kernel
theorem dX12_star_66 : decode cX12_star 66 = .ok (.aload_n 0, 1) := by decide +kernel
theorem dX12_star_67 : decode cX12_star 67 = .ok (.getfield 96, 3) := by decide +kernel
theorem dX12_star_70 : decode cX12_star 70 = .ok (.iadd, 1) := by decide +kernel
theorem dX12_star_71 : decode cX12_star 71 = .ok (.iload_n 2, 1) := by decide +kernel
theorem dX12_star_72 : decode cX12_star 72 = .ok (.iastore, 1) := by decide +kernel
theorem dX12_star_73 : decode cX12_star 73 = .ok (.aload_n 0, 1) := by decide +kernel
theorem dX12_star_74 : decode cX12_star 74 = .ok (.dup, 1) := by decide +kernel
theorem dX12_star_75 : decode cX12_star 75 = .ok (.getfield 96, 3) := by decide +kernel
theorem dX12_star_78 : decode cX12_star 78 = .ok (.iconst 1, 1) := by decide +kernel
theorem dX12_star_79 : decode cX12_star 79 = .ok (.iadd, 1) := by decide +kernel
theorem dX12_star_80 : decode cX12_star 80 = .ok (.putfield 96, 3) := by decide +kernel
theorem dX12_star_83 : decode cX12_star 83 = .ok (.aload_n 0, 1) := by decide +kernel
theorem dX12_star_84 : decode cX12_star 84 = .ok (.getfield 96, 3) := by decide +kernel
theorem dX12_star_87 : decode cX12_star 87 = .ok (.iconst 1, 1) := by decide +kernel
theorem dX12_star_88 : decode cX12_star 88 = .ok (.isub, 1) := by decide +kernel
theorem dX12_star_89 : decode cX12_star 89 = .ok (.i2l, 1) := by decide +kernel
theorem dX12_star_90 : decode cX12_star 90 = .ok (.lreturn, 1) := by decide +kernel
set_option maxRecDepth 20000 in
theorem ggX12_spot_X12_in : GoodIn wsX12_spot wsX12_in := goodIn_r _ [9] (by decide +kernel) (by decide +kernel)
set_option maxRecDepth 20000 in
theorem gX12_spot_X12_in : GoodIn wsX12_spot (va_wsS RX12 87 yX12_in wsX12_in) := goodIn_app (goodIn_of _ (by decide +kernel)) ggX12_spot_X12_in
set_option maxRecDepth 20000 in
theorem ggX12_spot_X12_finding : GoodIn wsX12_spot wsX12_finding := goodIn_r _ [13, 14, 15, 16, 17, 18, 19, 20, 21, 22, 23, 24, 25, 26, 27, 28, 29, 30, 31, 32, 33, 34, 35, 36, 37, 38, 39, 40, 41, 42] (by decide +kernel) (by decide +kernel)
set_option maxRecDepth 20000 in
theorem gX12_spot_X12_finding : GoodIn wsX12_spot (wsV RX12 93 RX12 yX12_finding wsX12_finding) := goodIn_app (goodIn_of _ (by decide +kernel)) ggX12_spot_X12_finding
theorem dX12_spot_0 : decode cX12_spot 0 = .ok (.iload_n 1, 1) := by decide +kernel
theorem dX12_spot_1 : decode cX12_spot 1 = .ok (.iconst 0, 1) := by decide +kernel
theorem dX12_spot_2 : decode cX12_spot 2 = .ok (.sipush 199, 3) := by decide +kernel
theorem dX12_spot_5 : decode cX12_spot 5 = .ok (.invokestatic 87, 3) := by decide +kernel
theorem dX12_spot_8 : decode cX12_spot 8 = .ok (.ifCond .eq 14, 3) := by decide +kernel
theorem dX12_spot_11 : decode cX12_spot 11 = .ok (.iload_n 2, 1) := by decide +kernel
theorem dX12_spot_12 : decode cX12_spot 12 = .ok (.iconst 0, 1) := by decide +kernel
theorem dX12_spot_13 : decode cX12_spot 13 = .ok (.sipush 199, 3) := by decide +kernel
theorem dX12_spot_16 : decode cX12_spot 16 = .ok (.invokestatic 87, 3) := by decide +kernel
theorem dX12_spot_19 : decode cX12_spot 19 = .ok (.ifCond .ne 11, 3) := by decide +kernel
theorem dX12_spot_22 : decode cX12_spot 22 = .ok (.aload_n 0, 1) := by decide +kernel
theorem dX12_spot_23 : decode cX12_spot 23 = .ok (.ldc2_w 91, 3) := by decide +kernel
theorem dX12_spot_26 : decode cX12_spot 26 = .ok (.invokevirtual 93, 3) := by decide +kernel
theorem dX12_spot_29 : decode cX12_spot 29 = .ok (.lreturn, 1) := by decide +kernel
theorem dX12_spot_30 : decode cX12_spot 30 = .ok (.aload_n 0, 1) := by decide +kernel
theorem dX12_spot_31 : decode cX12_spot 31 = .ok (.getfield 101, 3) := by decide +kernel
theorem dX12_spot_34 : decode cX12_spot 34 = .ok (.bipush 10, 2) := by decide +kernel
theorem dX12_spot_36 : decode cX12_spot 36 = .ok (.if_icmp .ne 11, 3) := by decide +kernel
theorem dX12_spot_39 : decode cX12_spot 39 = .ok (.aload_n 0, 1) := by decide +kernel
theorem dX12_spot_40 : decode cX12_spot 40 = .ok (.ldc2_w 99, 3) := by decide +kernel
theorem dX12_spot_43 : decode cX12_spot 43 = .ok (.invokevirtual 93, 3) := by decide +kernel
theorem dX12_spot_46 : decode cX12_spot 46 = .ok (.lreturn, 1) := by decide +kernel
theorem dX12_spot_47 : decode cX12_spot 47 = .ok (.aload_n 0, 1) := by decide +kernel
theorem dX12_spot_48 : decode cX12_spot 48 = .ok (.getfield 9, 3) := by decide +kernel
theorem dX12_spot_51 : decode cX12_spot 51 = .ok (.aload_n 0, 1) := by decide +kernel
theorem dX12_spot_52 : decode cX12_spot 52 = .ok (.getfield 101, 3) := by decide +kernel
theorem dX12_spot_55 : decode cX12_spot 55 = .ok (.iload_n 1, 1) := by decide +kernel
theorem dX12_spot_56 : decode cX12_spot 56 = .ok (.iastore, 1) := by decide +kernel
theorem dX12_spot_57 : decode cX12_spot 57 = .ok (.aload_n 0, 1) := by decide +kernel
theorem dX12_spot_58 : decode cX12_spot 58 = .ok (.getfield 13, 3) := by decide +kernel
theorem dX12_spot_61 : decode cX12_spot 61 = .ok (.aload_n 0, 1) := by decide +kernel
theorem dX12_spot_62 : decode cX12_spot 62 = .ok (.getfield 101, 3) := by decide +kernel
theorem dX12_spot_65 : decode cX12_spot 65 = .ok (.iload_n 2, 1) := by decide +kernel
theorem dX12_spot_66 : decode cX12_spot 66 = .ok (.iastore, 1) := by decide +kernel
theorem dX12_spot_67 : decode cX12_spot 67 = .ok (.aload_n 0, 1) := by decide +kernel
theorem dX12_spot_68 : decode cX12_spot 68 = .ok (.dup, 1) := by decide +kernel
theorem dX12_spot_69 : decode cX12_spot 69 = .ok (.getfield 101, 3) := by decide +kernel
theorem dX12_spot_72 : decode cX12_spot 72 = .ok (.iconst 1, 1) := by decide +kernel
theorem dX12_spot_73 : decode cX12_spot 73 = .ok (.iadd, 1) := by decide +kernel
theorem dX12_spot_74 : decode cX12_spot 74 = .ok (.putfield 101, 3) := by decide +kernel
theorem dX12_spot_77 : decode cX12_spot 77 = .ok (.aload_n 0, 1) := by decide +kernel
theorem dX12_spot_78 : decode cX12_spot 78 = .ok (.getfield 101, 3) := by decide +kernel
theorem dX12_spot_81 : decode cX12_spot 81 = .ok (.iconst 1, 1) := by decide +kernel
theorem dX12_spot_82 : decode cX12_spot 82 = .ok (.isub, 1) := by decide +kernel
theorem dX12_spot_83 : decode cX12_spot 83 = .ok (.i2l, 1) := by decide +kernel
theorem dX12_spot_84 : decode cX12_spot 84 = .ok (.lreturn, 1) := by decide +kernel
set_option maxRecDepth 20000 in
theorem ggX12_row_X12_in : GoodIn wsX12_row wsX12_in := goodIn_r _ [8] (by decide +kernel) (by decide +kernel)
set_option maxRecDepth 20000 in
theorem gX12_row_X12_in : GoodIn wsX12_row (va_wsS RX12 87 yX12_in wsX12_in) := goodIn_app (goodIn_of _ (by decide +kernel)) ggX12_row_X12_in
set_option maxRecDepth 20000 in
theorem ggX12_row_X12_finding : GoodIn wsX12_row wsX12_finding := goodIn_r _ [12, 13, 14, 15, 16, 17, 18, 19, 20, 21, 22, 23, 24, 25, 26, 27, 28, 29, 30, 31, 32, 33, 34, 35, 36, 37, 38, 39, 40, 41] (by decide +kernel) (by decide +kernel)
set_option maxRecDepth 20000 in
theorem gX12_row_X12_finding : GoodIn wsX12_row (wsV RX12 93 RX12 yX12_finding wsX12_finding) := goodIn_app (goodIn_of _ (by decide +kernel)) ggX12_row_X12_finding
theorem dX12_row_0 : decode cX12_row 0 = .ok (.iload_n 1, 1) := by decide +kernel
theorem dX12_row_1 : decode cX12_row 1 = .ok (.iconst 0, 1) := by decide +kernel
theorem dX12_row_2 : decode cX12_row 2 = .ok (.iconst 1, 1) := by decide +kernel
theorem dX12_row_3 : decode cX12_row 3 = .ok (.invokestatic 87, 3) := by decide +kernel
theorem dX12_row_6 : decode cX12_row 6 = .ok (.ifCond .ne 11, 3) := by decide +kernel
theorem dX12_row_9 : decode cX12_row 9 = .ok (.aload_n 0, 1) := by decide +kernel
theorem dX12_row_10 : decode cX12_row 10 = .ok (.ldc2_w 91, 3) := by decide +kernel
theorem dX12_row_13 : decode cX12_row 13 = .ok (.invokevirtual 93, 3) := by decide +kernel
theorem dX12_row_16 : decode cX12_row 16 = .ok (.lreturn, 1) := by decide +kernel
theorem dX12_row_17 : decode cX12_row 17 = .ok (.iload_n 2, 1) := by decide +kernel
theorem dX12_row_18 : decode cX12_row 18 = .ok (.iconst (-1), 1) := by decide +kernel
theorem dX12_row_19 : decode cX12_row 19 = .ok (.if_icmp .ge 11, 3) := by decide +kernel
theorem dX12_row_22 : decode cX12_row 22 = .ok (.aload_n 0, 1) := by decide +kernel
theorem dX12_row_23 : decode cX12_row 23 = .ok (.ldc2_w 104, 3) := by decide +kernel
theorem dX12_row_26 : decode cX12_row 26 = .ok (.invokevirtual 93, 3) := by decide +kernel
theorem dX12_row_29 : decode cX12_row 29 = .ok (.lreturn, 1) := by decide +kernel
theorem dX12_row_30 : decode cX12_row 30 = .ok (.iload_n 2, 1) := by decide +kernel
theorem dX12_row_31 : decode cX12_row 31 = .ok (.bipush 24, 2) := by decide +kernel
theorem dX12_row_33 : decode cX12_row 33 = .ok (.if_icmp .le 11, 3) := by decide +kernel
theorem dX12_row_36 : decode cX12_row 36 = .ok (.aload_n 0, 1) := by decide +kernel
theorem dX12_row_37 : decode cX12_row 37 = .ok (.ldc2_w 91, 3) := by decide +kernel
theorem dX12_row_40 : decode cX12_row 40 = .ok (.invokevirtual 93, 3) := by decide +kernel
theorem dX12_row_43 : decode cX12_row 43 = .ok (.lreturn, 1) := by decide +kernel
theorem dX12_row_44 : decode cX12_row 44 = .ok (.aload_n 0, 1) := by decide +kernel
theorem dX12_row_45 : decode cX12_row 45 = .ok (.getfield 23, 3) := by decide +kernel
theorem dX12_row_48 : decode cX12_row 48 = .ok (.iload_n 1, 1) := by decide +kernel
theorem dX12_row_49 : decode cX12_row 49 = .ok (.iload_n 2, 1) := by decide +kernel
theorem dX12_row_50 : decode cX12_row 50 = .ok (.iastore, 1) := by decide +kernel
theorem dX12_row_51 : decode cX12_row 51 = .ok (.iconst 0, 1) := by decide +kernel
theorem dX12_row_52 : decode cX12_row 52 = .ok (.istore_n 3, 1) := by decide +kernel
theorem dX12_row_53 : decode cX12_row 53 = .ok (.iload_n 3, 1) := by decide +kernel
theorem dX12_row_54 : decode cX12_row 54 = .ok (.iload_n 2, 1) := by decide +kernel
theorem dX12_row_55 : decode cX12_row 55 = .ok (.if_icmp .ge 21, 3) := by decide +kernel
theorem dX12_row_58 : decode cX12_row 58 = .ok (.aload_n 0, 1) := by decide +kernel
theorem dX12_row_59 : decode cX12_row 59 = .ok (.getfield 20, 3) := by decide +kernel
theorem dX12_row_62 : decode cX12_row 62 = .ok (.bipush 24, 2) := by decide +kernel
theorem dX12_row_64 : decode cX12_row 64 = .ok (.iload_n 1, 1) := by decide +kernel
theorem dX12_row_65 : decode cX12_row 65 = .ok (.imul, 1) := by decide +kernel
theorem dX12_row_66 : decode cX12_row 66 = .ok (.iload_n 3, 1) := by decide +kernel
theorem dX12_row_67 : decode cX12_row 67 = .ok (.iadd, 1) := by decide +kernel
theorem dX12_row_68 : decode cX12_row 68 = .ok (.iconst (-1), 1) := by decide +kernel
theorem dX12_row_69 : decode cX12_row 69 = .ok (.iastore, 1) := by decide +kernel
theorem dX12_row_70 : decode cX12_row 70 = .ok (.iinc 3 1, 3) := by decide +kernel
theorem dX12_row_73 : decode cX12_row 73 = .ok (.goto (-20), 3) := by decide +kernel
theorem dX12_row_76 : decode cX12_row 76 = .ok (.iload_n 2, 1) := by decide +kernel
theorem dX12_row_77 : decode cX12_row 77 = .ok (.i2l, 1) := by decide +kernel
theorem dX12_row_78 : decode cX12_row 78 = .ok (.lreturn, 1) := by decide +kernel
set_option maxRecDepth 20000 in
theorem ggX12_put_X12_in : GoodIn wsX12_put wsX12_in := goodIn_r _ [8] (by decide +kernel) (by decide +kernel)
set_option maxRecDepth 20000 in
theorem gX12_put_X12_in : GoodIn wsX12_put (va_wsS RX12 87 yX12_in wsX12_in) := goodIn_app (goodIn_of _ (by decide +kernel)) ggX12_put_X12_in
set_option maxRecDepth 20000 in
theorem ggX12_put_X12_finding : GoodIn wsX12_put wsX12_finding := goodIn_r _ [12, 13, 14, 15, 16, 17, 18, 19, 20, 21, 22, 23, 24, 25, 26, 27, 28, 29, 30, 31, 32, 33, 34, 35, 36, 37, 38, 39, 40, 41] (by decide +kernel) (by decide +kernel)
set_option maxRecDepth 20000 in
theorem gX12_put_X12_finding : GoodIn wsX12_put (wsV RX12 93 RX12 yX12_finding wsX12_finding) := goodIn_app (goodIn_of _ (by decide +kernel)) ggX12_put_X12_finding
theorem dX12_put_0 : decode cX12_put 0 = .ok (.iload_n 1, 1) := by decide +kernel
theorem dX12_put_1 : decode cX12_put 1 = .ok (.iconst 0, 1) := by decide +kernel
theorem dX12_put_2 : decode cX12_put 2 = .ok (.iconst 1, 1) := by decide +kernel
theorem dX12_put_3 : decode cX12_put 3 = .ok (.invokestatic 87, 3) := by decide +kernel
theorem dX12_put_6 : decode cX12_put 6 = .ok (.ifCond .ne 11, 3) := by decide +kernel
theorem dX12_put_9 : decode cX12_put 9 = .ok (.aload_n 0, 1) := by decide +kernel
theorem dX12_put_10 : decode cX12_put 10 = .ok (.ldc2_w 91, 3) := by decide +kernel
theorem dX12_put_13 : decode cX12_put 13 = .ok (.invokevirtual 93, 3) := by decide +kernel
theorem dX12_put_16 : decode cX12_put 16 = .ok (.lreturn, 1) := by decide +kernel
theorem dX12_put_17 : decode cX12_put 17 = .ok (.aload_n 0, 1) := by decide +kernel
theorem dX12_put_18 : decode cX12_put 18 = .ok (.getfield 23, 3) := by decide +kernel
theorem dX12_put_21 : decode cX12_put 21 = .ok (.iload_n 1, 1) := by decide +kernel
theorem dX12_put_22 : decode cX12_put 22 = .ok (.iaload, 1) := by decide +kernel
theorem dX12_put_23 : decode cX12_put 23 = .ok (.ifCond .ge 11, 3) := by decide +kernel
theorem dX12_put_26 : decode cX12_put 26 = .ok (.aload_n 0, 1) := by decide +kernel
theorem dX12_put_27 : decode cX12_put 27 = .ok (.ldc2_w 106, 3) := by decide +kernel
theorem dX12_put_30 : decode cX12_put 30 = .ok (.invokevirtual 93, 3) := by decide +kernel
theorem dX12_put_33 : decode cX12_put 33 = .ok (.lreturn, 1) := by decide +kernel
theorem dX12_put_34 : decode cX12_put 34 = .ok (.iload_n 2, 1) := by decide +kernel
theorem dX12_put_35 : decode cX12_put 35 = .ok (.iconst 0, 1) := by decide +kernel
theorem dX12_put_36 : decode cX12_put 36 = .ok (.aload_n 0, 1) := by decide +kernel
theorem dX12_put_37 : decode cX12_put 37 = .ok (.getfield 23, 3) := by decide +kernel
theorem dX12_put_40 : decode cX12_put 40 = .ok (.iload_n 1, 1) := by decide +kernel
theorem dX12_put_41 : decode cX12_put 41 = .ok (.iaload, 1) := by decide +kernel
theorem dX12_put_42 : decode cX12_put 42 = .ok (.iconst 1, 1) := by decide +kernel
theorem dX12_put_43 : decode cX12_put 43 = .ok (.isub, 1) := by decide +kernel
theorem dX12_put_44 : decode cX12_put 44 = .ok (.invokestatic 87, 3) := by decide +kernel
theorem dX12_put_47 : decode cX12_put 47 = .ok (.ifCond .ne 11, 3) := by decide +kernel
theorem dX12_put_50 : decode cX12_put 50 = .ok (.aload_n 0, 1) := by decide +kernel
theorem dX12_put_51 : decode cX12_put 51 = .ok (.ldc2_w 91, 3) := by decide +kernel
theorem dX12_put_54 : decode cX12_put 54 = .ok (.invokevirtual 93, 3) := by decide +kernel
theorem dX12_put_57 : decode cX12_put 57 = .ok (.lreturn, 1) := by decide +kernel
theorem dX12_put_58 : decode cX12_put 58 = .ok (.aload_n 0, 1) := by decide +kernel
theorem dX12_put_59 : decode cX12_put 59 = .ok (.getfield 20, 3) := by decide +kernel
theorem dX12_put_62 : decode cX12_put 62 = .ok (.bipush 24, 2) := by decide +kernel
theorem dX12_put_64 : decode cX12_put 64 = .ok (.iload_n 1, 1) := by decide +kernel
theorem dX12_put_65 : decode cX12_put 65 = .ok (.imul, 1) := by decide +kernel
theorem dX12_put_66 : decode cX12_put 66 = .ok (.iload_n 2, 1) := by decide +kernel
theorem dX12_put_67 : decode cX12_put 67 = .ok (.iadd, 1) := by decide +kernel
theorem dX12_put_68 : decode cX12_put 68 = .ok (.iload_n 3, 1) := by decide +kernel
theorem dX12_put_69 : decode cX12_put 69 = .ok (.bipush 16, 2) := by decide +kernel
theorem dX12_put_71 : decode cX12_put 71 = .ok (.ishl, 1) := by decide +kernel
theorem dX12_put_72 : decode cX12_put 72 = .ok (.bipush 16, 2) := by decide +kernel
theorem dX12_put_74 : decode cX12_put 74 = .ok (.ishr, 1) := by decide +kernel
theorem dX12_put_75 : decode cX12_put 75 = .ok (.iastore, 1) := by decide +kernel
theorem dX12_put_76 : decode cX12_put 76 = .ok (.aload_n 0, 1) := by decide +kernel
theorem dX12_put_77 : decode cX12_put 77 = .ok (.getfield 20, 3) := by decide +kernel
theorem dX12_put_80 : decode cX12_put 80 = .ok (.bipush 24, 2) := by decide +kernel
theorem dX12_put_82 : decode cX12_put 82 = .ok (.iload_n 1, 1) := by decide +kernel
theorem dX12_put_83 : decode cX12_put 83 = .ok (.imul, 1) := by decide +kernel
theorem dX12_put_84 : decode cX12_put 84 = .ok (.iload_n 2, 1) := by decide +kernel
theorem dX12_put_85 : decode cX12_put 85 = .ok (.iadd, 1) := by decide +kernel
theorem dX12_put_86 : decode cX12_put 86 = .ok (.iaload, 1) := by decide +kernel
theorem dX12_put_87 : decode cX12_put 87 = .ok (.i2l, 1) := by decide +kernel
theorem dX12_put_88 : decode cX12_put 88 = .ok (.lreturn, 1) := by decide +kernel
set_option maxRecDepth 20000 in
theorem ggX12_load_X12_in : GoodIn wsX12_load wsX12_in := goodIn_r _ [14] (by decide +kernel) (by decide +kernel)
set_option maxRecDepth 20000 in
theorem gX12_load_X12_in : GoodIn wsX12_load (va_wsS RX12 87 yX12_in wsX12_in) := goodIn_app (goodIn_of _ (by decide +kernel)) ggX12_load_X12_in
set_option maxRecDepth 20000 in
theorem ggX12_load_X12_finding : GoodIn wsX12_load wsX12_finding := goodIn_r _ [18, 19, 20, 21, 22, 23, 24, 25, 26, 27, 28, 29, 30, 31, 32, 33, 34, 35, 36, 37, 38, 39, 40, 41, 42, 43, 44, 45, 46, 47] (by decide +kernel) (by decide +kernel)
set_option maxRecDepth 20000 in
theorem gX12_load_X12_finding : GoodIn wsX12_load (wsV RX12 93 RX12 yX12_finding wsX12_finding) := goodIn_app (goodIn_of _ (by decide +kernel)) ggX12_load_X12_finding
theorem dX12_load_0 : decode cX12_load 0 = .ok (.iload_n 1, 1) := by decide +kernel
theorem dX12_load_1 : decode cX12_load 1 = .ok (.iconst 0, 1) := by decide +kernel
theorem dX12_load_2 : decode cX12_load 2 = .ok (.iconst 1, 1) := by decide +kernel
theorem dX12_load_3 : decode cX12_load 3 = .ok (.invokestatic 87, 3) := by decide +kernel
theorem dX12_load_6 : decode cX12_load 6 = .ok (.ifCond .ne 11, 3) := by decide +kernel
theorem dX12_load_9 : decode cX12_load 9 = .ok (.aload_n 0, 1) := by decide +kernel
theorem dX12_load_10 : decode cX12_load 10 = .ok (.ldc2_w 91, 3) := by decide +kernel
theorem dX12_load_13 : decode cX12_load 13 = .ok (.invokevirtual 93, 3) := by decide +kernel
theorem dX12_load_16 : decode cX12_load 16 = .ok (.lreturn, 1) := by decide +kernel
theorem dX12_load_17 : decode cX12_load 17 = .ok (.aload_n 0, 1) := by decide +kernel
theorem dX12_load_18 : decode cX12_load 18 = .ok (.getfield 23, 3) := by decide +kernel
theorem dX12_load_21 : decode cX12_load 21 = .ok (.iload_n 1, 1) := by decide +kernel
theorem dX12_load_22 : decode cX12_load 22 = .ok (.iaload, 1) := by decide +kernel
theorem dX12_load_23 : decode cX12_load 23 = .ok (.ifCond .ge 11, 3) := by decide +kernel
theorem dX12_load_26 : decode cX12_load 26 = .ok (.aload_n 0, 1) := by decide +kernel
theorem dX12_load_27 : decode cX12_load 27 = .ok (.ldc2_w 106, 3) := by decide +kernel
theorem dX12_load_30 : decode cX12_load 30 = .ok (.invokevirtual 93, 3) := by decide +kernel
theorem dX12_load_33 : decode cX12_load 33 = .ok (.lreturn, 1) := by decide +kernel
theorem dX12_load_34 : decode cX12_load 34 = .ok (.iload_n 3, 1) := by decide +kernel
theorem dX12_load_35 : decode cX12_load 35 = .ok (.ifCond .lt 10, 3) := by decide +kernel
theorem dX12_load_38 : decode cX12_load 38 = .ok (.iload_n 3, 1) := by decide +kernel
theorem dX12_load_39 : decode cX12_load 39 = .ok (.iconst 2, 1) := by decide +kernel
theorem dX12_load_40 : decode cX12_load 40 = .ok (.irem, 1) := by decide +kernel
theorem dX12_load_41 : decode cX12_load 41 = .ok (.iconst 1, 1) := by decide +kernel
theorem dX12_load_42 : decode cX12_load 42 = .ok (.if_icmp .ne 11, 3) := by decide +kernel
theorem dX12_load_45 : decode cX12_load 45 = .ok (.aload_n 0, 1) := by decide +kernel
theorem dX12_load_46 : decode cX12_load 46 = .ok (.ldc2_w 104, 3) := by decide +kernel
theorem dX12_load_49 : decode cX12_load 49 = .ok (.invokevirtual 93, 3) := by decide +kernel
theorem dX12_load_52 : decode cX12_load 52 = .ok (.lreturn, 1) := by decide +kernel
theorem dX12_load_53 : decode cX12_load 53 = .ok (.iload_n 2, 1) := by decide +kernel
theorem dX12_load_54 : decode cX12_load 54 = .ok (.ifCond .lt 19, 3) := by decide +kernel
theorem dX12_load_57 : decode cX12_load 57 = .ok (.iload_n 2, 1) := by decide +kernel
theorem dX12_load_58 : decode cX12_load 58 = .ok (.i2l, 1) := by decide +kernel
theorem dX12_load_59 : decode cX12_load 59 = .ok (.iload_n 3, 1) := by decide +kernel
theorem dX12_load_60 : decode cX12_load 60 = .ok (.i2l, 1) := by decide +kernel
theorem dX12_load_61 : decode cX12_load 61 = .ok (.ladd, 1) := by decide +kernel
theorem dX12_load_62 : decode cX12_load 62 = .ok (.aload_n 0, 1) := by decide +kernel
theorem dX12_load_63 : decode cX12_load 63 = .ok (.getfield 23, 3) := by decide +kernel
theorem dX12_load_66 : decode cX12_load 66 = .ok (.iload_n 1, 1) := by decide +kernel
theorem dX12_load_67 : decode cX12_load 67 = .ok (.iaload, 1) := by decide +kernel
theorem dX12_load_68 : decode cX12_load 68 = .ok (.i2l, 1) := by decide +kernel
theorem dX12_load_69 : decode cX12_load 69 = .ok (.lcmp, 1) := by decide +kernel
theorem dX12_load_70 : decode cX12_load 70 = .ok (.ifCond .le 11, 3) := by decide +kernel
theorem dX12_load_73 : decode cX12_load 73 = .ok (.aload_n 0, 1) := by decide +kernel
theorem dX12_load_74 : decode cX12_load 74 = .ok (.ldc2_w 91, 3) := by decide +kernel
theorem dX12_load_77 : decode cX12_load 77 = .ok (.invokevirtual 93, 3) := by decide +kernel
theorem dX12_load_80 : decode cX12_load 80 = .ok (.lreturn, 1) := by decide +kernel
theorem dX12_load_81 : decode cX12_load 81 = .ok (.iload_n 2, 1) := by decide +kernel
theorem dX12_load_82 : decode cX12_load 82 = .ok (.istore 5, 2) := by decide +kernel
theorem dX12_load_84 : decode cX12_load 84 = .ok (.iload 5, 2) := by decide +kernel
theorem dX12_load_86 : decode cX12_load 86 = .ok (.iload_n 2, 1) := by decide +kernel
theorem dX12_load_87 : decode cX12_load 87 = .ok (.iload_n 3, 1) := by decide +kernel
theorem dX12_load_88 : decode cX12_load 88 = .ok (.iadd, 1) := by decide +kernel
theorem dX12_load_89 : decode cX12_load 89 = .ok (.if_icmp .ge 39, 3) := by decide +kernel
theorem dX12_load_92 : decode cX12_load 92 = .ok (.aload_n 0, 1) := by decide +kernel
theorem dX12_load_93 : decode cX12_load 93 = .ok (.getfield 20, 3) := by decide +kernel
theorem dX12_load_96 : decode cX12_load 96 = .ok (.bipush 24, 2) := by decide +kernel
theorem dX12_load_98 : decode cX12_load 98 = .ok (.iload_n 1, 1) := by decide +kernel
theorem dX12_load_99 : decode cX12_load 99 = .ok (.imul, 1) := by decide +kernel
theorem dX12_load_100 : decode cX12_load 100 = .ok (.iload 5, 2) := by decide +kernel
theorem dX12_load_102 : decode cX12_load 102 = .ok (.iadd, 1) := by decide +kernel
theorem dX12_load_103 : decode cX12_load 103 = .ok (.iaload, 1) := by decide +kernel
theorem dX12_load_104 : decode cX12_load 104 = .ok (.iconst 0, 1) := by decide +kernel
theorem dX12_load_105 : decode cX12_load 105 = .ok (.sipush 199, 3) := by decide +kernel
theorem dX12_load_108 : decode cX12_load 108 = .ok (.invokestatic 87, 3) := by decide +kernel
theorem dX12_load_111 : decode cX12_load 111 = .ok (.ifCond .ne 11, 3) := by decide +kernel
theorem dX12_load_114 : decode cX12_load 114 = .ok (.aload_n 0, 1) := by decide +kernel
theorem dX12_load_115 : decode cX12_load 115 = .ok (.ldc2_w 91, 3) := by decide +kernel
theorem dX12_load_118 : decode cX12_load 118 = .ok (.invokevirtual 93, 3) := by decide +kernel
theorem dX12_load_121 : decode cX12_load 121 = .ok (.lreturn, 1) := by decide +kernel
theorem dX12_load_122 : decode cX12_load 122 = .ok (.iinc 5 1, 3) := by decide +kernel
theorem dX12_load_125 : decode cX12_load 125 = .ok (.goto (-41), 3) := by decide +kernel
theorem dX12_load_128 : decode cX12_load 128 = .ok (.iload_n 3, 1) := by decide +kernel
theorem dX12_load_129 : decode cX12_load 129 = .ok (.iconst 2, 1) := by decide +kernel
theorem dX12_load_130 : decode cX12_load 130 = .ok (.idiv, 1) := by decide +kernel
theorem dX12_load_131 : decode cX12_load 131 = .ok (.iload 4, 2) := by decide +kernel
theorem dX12_load_133 : decode cX12_load 133 = .ok (.ifCond .eq 8, 3) := by decide +kernel
theorem dX12_load_136 : decode cX12_load 136 = .ok (.bipush 12, 2) := by decide +kernel
theorem dX12_load_138 : decode cX12_load 138 = .ok (.goto 5, 3) := by decide +kernel
theorem dX12_load_141 : decode cX12_load 141 = .ok (.bipush 10, 2) := by decide +kernel
theorem dX12_load_143 : decode cX12_load 143 = .ok (.if_icmp .le 11, 3) := by decide +kernel
theorem dX12_load_146 : decode cX12_load 146 = .ok (.aload_n 0, 1) := by decide +kernel
theorem dX12_load_147 : decode cX12_load 147 = .ok (.ldc2_w 99, 3) := by decide +kernel
theorem dX12_load_150 : decode cX12_load 150 = .ok (.invokevirtual 93, 3) := by decide +kernel
theorem dX12_load_153 : decode cX12_load 153 = .ok (.lreturn, 1) := by decide +kernel
theorem dX12_load_154 : decode cX12_load 154 = .ok (.iload 4, 2) := by decide +kernel
theorem dX12_load_156 : decode cX12_load 156 = .ok (.ifCond .eq 8, 3) := by decide +kernel
theorem dX12_load_159 : decode cX12_load 159 = .ok (.bipush 10, 2) := by decide +kernel
theorem dX12_load_161 : decode cX12_load 161 = .ok (.goto 4, 3) := by decide +kernel
theorem dX12_load_164 : decode cX12_load 164 = .ok (.iconst 0, 1) := by decide +kernel
theorem dX12_load_165 : decode cX12_load 165 = .ok (.istore 5, 2) := by decide +kernel
theorem dX12_load_167 : decode cX12_load 167 = .ok (.iconst 0, 1) := by decide +kernel
theorem dX12_load_168 : decode cX12_load 168 = .ok (.istore 6, 2) := by decide +kernel
theorem dX12_load_170 : decode cX12_load 170 = .ok (.iload 6, 2) := by decide +kernel
theorem dX12_load_172 : decode cX12_load 172 = .ok (.iload_n 3, 1) := by decide +kernel
theorem dX12_load_173 : decode cX12_load 173 = .ok (.iconst 2, 1) := by decide +kernel
theorem dX12_load_174 : decode cX12_load 174 = .ok (.idiv, 1) := by decide +kernel
theorem dX12_load_175 : decode cX12_load 175 = .ok (.if_icmp .ge 63, 3) := by decide +kernel
theorem dX12_load_178 : decode cX12_load 178 = .ok (.aload_n 0, 1) := by decide +kernel
theorem dX12_load_179 : decode cX12_load 179 = .ok (.getfield 9, 3) := by decide +kernel
theorem dX12_load_182 : decode cX12_load 182 = .ok (.iload 5, 2) := by decide +kernel
theorem dX12_load_184 : decode cX12_load 184 = .ok (.iload 6, 2) := by decide +kernel
theorem dX12_load_186 : decode cX12_load 186 = .ok (.iadd, 1) := by decide +kernel
theorem dX12_load_187 : decode cX12_load 187 = .ok (.aload_n 0, 1) := by decide +kernel
theorem dX12_load_188 : decode cX12_load 188 = .ok (.getfield 20, 3) := by decide +kernel
theorem dX12_load_191 : decode cX12_load 191 = .ok (.bipush 24, 2) := by decide +kernel
theorem dX12_load_193 : decode cX12_load 193 = .ok (.iload_n 1, 1) := by decide +kernel
theorem dX12_load_194 : decode cX12_load 194 = .ok (.imul, 1) := by decide +kernel
theorem dX12_load_195 : decode cX12_load 195 = .ok (.iload_n 2, 1) := by decide +kernel
theorem dX12_load_196 : decode cX12_load 196 = .ok (.iadd, 1) := by decide +kernel
theorem dX12_load_197 : decode cX12_load 197 = .ok (.iconst 2, 1) := by decide +kernel
theorem dX12_load_198 : decode cX12_load 198 = .ok (.iload 6, 2) := by decide +kernel
theorem dX12_load_200 : decode cX12_load 200 = .ok (.imul, 1) := by decide +kernel
theorem dX12_load_201 : decode cX12_load 201 = .ok (.iadd, 1) := by decide +kernel
theorem dX12_load_202 : decode cX12_load 202 = .ok (.iaload, 1) := by decide +kernel
theorem dX12_load_203 : decode cX12_load 203 = .ok (.iastore, 1) := by decide +kernel
theorem dX12_load_204 : decode cX12_load 204 = .ok (.aload_n 0, 1) := by decide +kernel
theorem dX12_load_205 : decode cX12_load 205 = .ok (.getfield 13, 3) := by decide +kernel
theorem dX12_load_208 : decode cX12_load 208 = .ok (.iload 5, 2) := by decide +kernel
theorem dX12_load_210 : decode cX12_load 210 = .ok (.iload 6, 2) := by decide +kernel
theorem dX12_load_212 : decode cX12_load 212 = .ok (.iadd, 1) := by decide +kernel
theorem dX12_load_213 : decode cX12_load 213 = .ok (.aload_n 0, 1) := by decide +kernel
theorem dX12_load_214 : decode cX12_load 214 = .ok (.getfield 20, 3) := by decide +kernel
theorem dX12_load_217 : decode cX12_load 217 = .ok (.bipush 24, 2) := by decide +kernel
theorem dX12_load_219 : decode cX12_load 219 = .ok (.iload_n 1, 1) := by decide +kernel
theorem dX12_load_220 : decode cX12_load 220 = .ok (.imul, 1) := by decide +kernel
theorem dX12_load_221 : decode cX12_load 221 = .ok (.iload_n 2, 1) := by decide +kernel
theorem dX12_load_222 : decode cX12_load 222 = .ok (.iadd, 1) := by decide +kernel
theorem dX12_load_223 : decode cX12_load 223 = .ok (.iconst 2, 1) := by decide +kernel
theorem dX12_load_224 : decode cX12_load 224 = .ok (.iload 6, 2) := by decide +kernel
theorem dX12_load_226 : decode cX12_load 226 = .ok (.imul, 1) := by decide +kernel
theorem dX12_load_227 : decode cX12_load 227 = .ok (.iadd, 1) := by decide +kernel
theorem dX12_load_228 : decode cX12_load 228 = .ok (.iconst 1, 1) := by decide +kernel
theorem dX12_load_229 : decode cX12_load 229 = .ok (.iadd, 1) := by decide +kernel
theorem dX12_load_230 : decode cX12_load 230 = .ok (.iaload, 1) := by decide +kernel
theorem dX12_load_231 : decode cX12_load 231 = .ok (.iastore, 1) := by decide +kernel
theorem dX12_load_232 : decode cX12_load 232 = .ok (.iinc 6 1, 3) := by decide +kernel
theorem dX12_load_235 : decode cX12_load 235 = .ok (.goto (-65), 3) := by decide +kernel
theorem dX12_load_238 : decode cX12_load 238 = .ok (.iload 4, 2) := by decide +kernel
theorem dX12_load_240 : decode cX12_load 240 = .ok (.ifCond .eq 13, 3) := by decide +kernel
theorem dX12_load_243 : decode cX12_load 243 = .ok (.aload_n 0, 1) := by decide +kernel
theorem dX12_load_244 : decode cX12_load 244 = .ok (.iload_n 3, 1) := by decide +kernel
theorem dX12_load_245 : decode cX12_load 245 = .ok (.iconst 2, 1) := by decide +kernel
theorem dX12_load_246 : decode cX12_load 246 = .ok (.idiv, 1) := by decide +kernel
theorem dX12_load_247 : decode cX12_load 247 = .ok (.putfield 96, 3) := by decide +kernel
theorem dX12_load_250 : decode cX12_load 250 = .ok (.goto 10, 3) := by decide +kernel
theorem dX12_load_253 : decode cX12_load 253 = .ok (.aload_n 0, 1) := by decide +kernel
theorem dX12_load_254 : decode cX12_load 254 = .ok (.iload_n 3, 1) := by decide +kernel
theorem dX12_load_255 : decode cX12_load 255 = .ok (.iconst 2, 1) := by decide +kernel
theorem dX12_load_256 : decode cX12_load 256 = .ok (.idiv, 1) := by decide +kernel
theorem dX12_load_257 : decode cX12_load 257 = .ok (.putfield 101, 3) := by decide +kernel
theorem dX12_load_260 : decode cX12_load 260 = .ok (.iload_n 3, 1) := by decide +kernel
theorem dX12_load_261 : decode cX12_load 261 = .ok (.iconst 2, 1) := by decide +kernel
theorem dX12_load_262 : decode cX12_load 262 = .ok (.idiv, 1) := by decide +kernel
theorem dX12_load_263 : decode cX12_load 263 = .ok (.i2l, 1) := by decide +kernel
theorem dX12_load_264 : decode cX12_load 264 = .ok (.lreturn, 1) := by decide +kernel
theorem dX12_clear_0 : decode cX12_clear 0 = .ok (.iload_n 1, 1) := by decide +kernel
theorem dX12_clear_1 : decode cX12_clear 1 = .ok (.ifCond .eq 10, 3) := by decide +kernel
theorem dX12_clear_4 : decode cX12_clear 4 = .ok (.aload_n 0, 1) := by decide +kernel
theorem dX12_clear_5 : decode cX12_clear 5 = .ok (.getfield 96, 3) := by decide +kernel
theorem dX12_clear_8 : decode cX12_clear 8 = .ok (.goto 7, 3) := by decide +kernel
theorem dX12_clear_11 : decode cX12_clear 11 = .ok (.aload_n 0, 1) := by decide +kernel
theorem dX12_clear_12 : decode cX12_clear 12 = .ok (.getfield 101, 3) := by decide +kernel
theorem dX12_clear_15 : decode cX12_clear 15 = .ok (.istore_n 2, 1) := by decide +kernel
theorem dX12_clear_16 : decode cX12_clear 16 = .ok (.iload_n 1, 1) := by decide +kernel
theorem dX12_clear_17 : decode cX12_clear 17 = .ok (.ifCond .eq 11, 3) := by decide +kernel
theorem dX12_clear_20 : decode cX12_clear 20 = .ok (.aload_n 0, 1) := by decide +kernel
theorem dX12_clear_21 : decode cX12_clear 21 = .ok (.iconst 0, 1) := by decide +kernel
theorem dX12_clear_22 : decode cX12_clear 22 = .ok (.putfield 96, 3) := by decide +kernel
theorem dX12_clear_25 : decode cX12_clear 25 = .ok (.goto 8, 3) := by decide +kernel
theorem dX12_clear_28 : decode cX12_clear 28 = .ok (.aload_n 0, 1) := by decide +kernel
theorem dX12_clear_29 : decode cX12_clear 29 = .ok (.iconst 0, 1) := by decide +kernel
theorem dX12_clear_30 : decode cX12_clear 30 = .ok (.putfield 101, 3) := by decide +kernel
theorem dX12_clear_33 : decode cX12_clear 33 = .ok (.iload_n 2, 1) := by decide +kernel
theorem dX12_clear_34 : decode cX12_clear 34 = .ok (.i2l, 1) := by decide +kernel
theorem dX12_clear_35 : decode cX12_clear 35 = .ok (.lreturn, 1) := by decide +kernel
set_option maxRecDepth 20000 in
theorem ggX12_near_X12_in : GoodIn wsX12_near wsX12_in := goodIn_r _ [6] (by decide +kernel) (by decide +kernel)
set_option maxRecDepth 20000 in
theorem gX12_near_X12_in : GoodIn wsX12_near (va_wsS RX12 87 yX12_in wsX12_in) := goodIn_app (goodIn_of _ (by decide +kernel)) ggX12_near_X12_in
set_option maxRecDepth 20000 in
theorem ggX12_near_X12_finding : GoodIn wsX12_near wsX12_finding := goodIn_r _ [10, 11, 12, 13, 14, 15, 16, 17, 18, 19, 20, 21, 22, 23, 24, 25, 26, 27, 28, 29, 30, 31, 32, 33, 34, 35, 36, 37, 38, 39] (by decide +kernel) (by decide +kernel)
set_option maxRecDepth 20000 in
theorem gX12_near_X12_finding : GoodIn wsX12_near (wsV RX12 93 RX12 yX12_finding wsX12_finding) := goodIn_app (goodIn_of _ (by decide +kernel)) ggX12_near_X12_finding
theorem dX12_near_0 : decode cX12_near 0 = .ok (.iload_n 1, 1) := by decide +kernel
theorem dX12_near_1 : decode cX12_near 1 = .ok (.iconst 0, 1) := by decide +kernel
theorem dX12_near_2 : decode cX12_near 2 = .ok (.bipush 99, 2) := by decide +kernel
theorem dX12_near_4 : decode cX12_near 4 = .ok (.invokestatic 87, 3) := by decide +kernel
theorem dX12_near_7 : decode cX12_near 7 = .ok (.ifCond .ne 11, 3) := by decide +kernel
theorem dX12_near_10 : decode cX12_near 10 = .ok (.aload_n 0, 1) := by decide +kernel
theorem dX12_near_11 : decode cX12_near 11 = .ok (.ldc2_w 91, 3) := by decide +kernel
theorem dX12_near_14 : decode cX12_near 14 = .ok (.invokevirtual 93, 3) := by decide +kernel
theorem dX12_near_17 : decode cX12_near 17 = .ok (.lreturn, 1) := by decide +kernel
theorem dX12_near_18 : decode cX12_near 18 = .ok (.aload_n 0, 1) := by decide +kernel
theorem dX12_near_19 : decode cX12_near 19 = .ok (.getfield 16, 3) := by decide +kernel
theorem dX12_near_22 : decode cX12_near 22 = .ok (.istore_n 2, 1) := by decide +kernel
theorem dX12_near_23 : decode cX12_near 23 = .ok (.aload_n 0, 1) := by decide +kernel
theorem dX12_near_24 : decode cX12_near 24 = .ok (.iload_n 1, 1) := by decide +kernel
theorem dX12_near_25 : decode cX12_near 25 = .ok (.putfield 16, 3) := by decide +kernel
theorem dX12_near_28 : decode cX12_near 28 = .ok (.iload_n 2, 1) := by decide +kernel
theorem dX12_near_29 : decode cX12_near 29 = .ok (.i2l, 1) := by decide +kernel
theorem dX12_near_30 : decode cX12_near 30 = .ok (.lreturn, 1) := by decide +kernel
theorem dX12_square_0 : decode cX12_square 0 = .ok (.aload_n 0, 1) := by decide +kernel
theorem dX12_square_1 : decode cX12_square 1 = .ok (.getfield 9, 3) := by decide +kernel
theorem dX12_square_4 : decode cX12_square 4 = .ok (.iload_n 1, 1) := by decide +kernel
theorem dX12_square_5 : decode cX12_square 5 = .ok (.iaload, 1) := by decide +kernel
theorem dX12_square_6 : decode cX12_square 6 = .ok (.aload_n 0, 1) := by decide +kernel
theorem dX12_square_7 : decode cX12_square 7 = .ok (.getfield 9, 3) := by decide +kernel
theorem dX12_square_10 : decode cX12_square 10 = .ok (.iload_n 2, 1) := by decide +kernel
theorem dX12_square_11 : decode cX12_square 11 = .ok (.iaload, 1) := by decide +kernel
theorem dX12_square_12 : decode cX12_square 12 = .ok (.isub, 1) := by decide +kernel
theorem dX12_square_13 : decode cX12_square 13 = .ok (.i2l, 1) := by decide +kernel
theorem dX12_square_14 : decode cX12_square 14 = .ok (.lstore_n 3, 1) := by decide +kernel
theorem dX12_square_15 : decode cX12_square 15 = .ok (.aload_n 0, 1) := by decide +kernel
theorem dX12_square_16 : decode cX12_square 16 = .ok (.getfield 13, 3) := by decide +kernel
theorem dX12_square_19 : decode cX12_square 19 = .ok (.iload_n 1, 1) := by decide +kernel
theorem dX12_square_20 : decode cX12_square 20 = .ok (.iaload, 1) := by decide +kernel
theorem dX12_square_21 : decode cX12_square 21 = .ok (.aload_n 0, 1) := by decide +kernel
theorem dX12_square_22 : decode cX12_square 22 = .ok (.getfield 13, 3) := by decide +kernel
theorem dX12_square_25 : decode cX12_square 25 = .ok (.iload_n 2, 1) := by decide +kernel
theorem dX12_square_26 : decode cX12_square 26 = .ok (.iaload, 1) := by decide +kernel
theorem dX12_square_27 : decode cX12_square 27 = .ok (.isub, 1) := by decide +kernel
theorem dX12_square_28 : decode cX12_square 28 = .ok (.i2l, 1) := by decide +kernel
theorem dX12_square_29 : decode cX12_square 29 = .ok (.lstore 5, 2) := by decide +kernel
theorem dX12_square_31 : decode cX12_square 31 = .ok (.lload_n 3, 1) := by decide +kernel
theorem dX12_square_32 : decode cX12_square 32 = .ok (.lload_n 3, 1) := by decide +kernel
theorem dX12_square_33 : decode cX12_square 33 = .ok (.lmul, 1) := by decide +kernel
theorem dX12_square_34 : decode cX12_square 34 = .ok (.lload 5, 2) := by decide +kernel
theorem dX12_square_36 : decode cX12_square 36 = .ok (.lload 5, 2) := by decide +kernel
theorem dX12_square_38 : decode cX12_square 38 = .ok (.lmul, 1) := by decide +kernel
theorem dX12_square_39 : decode cX12_square 39 = .ok (.ladd, 1) := by decide +kernel
theorem dX12_square_40 : decode cX12_square 40 = .ok (.lreturn, 1) := by decide +kernel
theorem dX12_cross_0 : decode cX12_cross 0 = .ok (.aload_n 0, 1) := by decide +kernel
theorem dX12_cross_1 : decode cX12_cross 1 = .ok (.getfield 9, 3) := by decide +kernel
theorem dX12_cross_4 : decode cX12_cross 4 = .ok (.iload_n 2, 1) := by decide +kernel
theorem dX12_cross_5 : decode cX12_cross 5 = .ok (.iaload, 1) := by decide +kernel
theorem dX12_cross_6 : decode cX12_cross 6 = .ok (.aload_n 0, 1) := by decide +kernel
theorem dX12_cross_7 : decode cX12_cross 7 = .ok (.getfield 9, 3) := by decide +kernel
theorem dX12_cross_10 : decode cX12_cross 10 = .ok (.iload_n 1, 1) := by decide +kernel
theorem dX12_cross_11 : decode cX12_cross 11 = .ok (.iaload, 1) := by decide +kernel
theorem dX12_cross_12 : decode cX12_cross 12 = .ok (.isub, 1) := by decide +kernel
theorem dX12_cross_13 : decode cX12_cross 13 = .ok (.i2l, 1) := by decide +kernel
theorem dX12_cross_14 : decode cX12_cross 14 = .ok (.aload_n 0, 1) := by decide +kernel
theorem dX12_cross_15 : decode cX12_cross 15 = .ok (.getfield 13, 3) := by decide +kernel
theorem dX12_cross_18 : decode cX12_cross 18 = .ok (.iload_n 3, 1) := by decide +kernel
theorem dX12_cross_19 : decode cX12_cross 19 = .ok (.iaload, 1) := by decide +kernel
theorem dX12_cross_20 : decode cX12_cross 20 = .ok (.aload_n 0, 1) := by decide +kernel
theorem dX12_cross_21 : decode cX12_cross 21 = .ok (.getfield 13, 3) := by decide +kernel
theorem dX12_cross_24 : decode cX12_cross 24 = .ok (.iload_n 1, 1) := by decide +kernel
theorem dX12_cross_25 : decode cX12_cross 25 = .ok (.iaload, 1) := by decide +kernel
theorem dX12_cross_26 : decode cX12_cross 26 = .ok (.isub, 1) := by decide +kernel
theorem dX12_cross_27 : decode cX12_cross 27 = .ok (.i2l, 1) := by decide +kernel
theorem dX12_cross_28 : decode cX12_cross 28 = .ok (.lmul, 1) := by decide +kernel
theorem dX12_cross_29 : decode cX12_cross 29 = .ok (.aload_n 0, 1) := by decide +kernel
theorem dX12_cross_30 : decode cX12_cross 30 = .ok (.getfield 13, 3) := by decide +kernel
theorem dX12_cross_33 : decode cX12_cross 33 = .ok (.iload_n 2, 1) := by decide +kernel
theorem dX12_cross_34 : decode cX12_cross 34 = .ok (.iaload, 1) := by decide +kernel
theorem dX12_cross_35 : decode cX12_cross 35 = .ok (.aload_n 0, 1) := by decide +kernel
theorem dX12_cross_36 : decode cX12_cross 36 = .ok (.getfield 13, 3) := by decide +kernel
theorem dX12_cross_39 : decode cX12_cross 39 = .ok (.iload_n 1, 1) := by decide +kernel
theorem dX12_cross_40 : decode cX12_cross 40 = .ok (.iaload, 1) := by decide +kernel
theorem dX12_cross_41 : decode cX12_cross 41 = .ok (.isub, 1) := by decide +kernel
theorem dX12_cross_42 : decode cX12_cross 42 = .ok (.i2l, 1) := by decide +kernel
theorem dX12_cross_43 : decode cX12_cross 43 = .ok (.aload_n 0, 1) := by decide +kernel
theorem dX12_cross_44 : decode cX12_cross 44 = .ok (.getfield 9, 3) := by decide +kernel
theorem dX12_cross_47 : decode cX12_cross 47 = .ok (.iload_n 3, 1) := by decide +kernel
theorem dX12_cross_48 : decode cX12_cross 48 = .ok (.iaload, 1) := by decide +kernel
theorem dX12_cross_49 : decode cX12_cross 49 = .ok (.aload_n 0, 1) := by decide +kernel
theorem dX12_cross_50 : decode cX12_cross 50 = .ok (.getfield 9, 3) := by decide +kernel
theorem dX12_cross_53 : decode cX12_cross 53 = .ok (.iload_n 1, 1) := by decide +kernel
theorem dX12_cross_54 : decode cX12_cross 54 = .ok (.iaload, 1) := by decide +kernel
theorem dX12_cross_55 : decode cX12_cross 55 = .ok (.isub, 1) := by decide +kernel
theorem dX12_cross_56 : decode cX12_cross 56 = .ok (.i2l, 1) := by decide +kernel
theorem dX12_cross_57 : decode cX12_cross 57 = .ok (.lmul, 1) := by decide +kernel
theorem dX12_cross_58 : decode cX12_cross 58 = .ok (.lsub, 1) := by decide +kernel
theorem dX12_cross_59 : decode cX12_cross 59 = .ok (.lreturn, 1) := by decide +kernel
theorem dX12_exchange_0 : decode cX12_exchange 0 = .ok (.aload_n 0, 1) := by decide +kernel
theorem dX12_exchange_1 : decode cX12_exchange 1 = .ok (.getfield 51, 3) := by decide +kernel
theorem dX12_exchange_4 : decode cX12_exchange 4 = .ok (.iload_n 1, 1) := by decide +kernel
theorem dX12_exchange_5 : decode cX12_exchange 5 = .ok (.iaload, 1) := by decide +kernel
theorem dX12_exchange_6 : decode cX12_exchange 6 = .ok (.istore_n 3, 1) := by decide +kernel
theorem dX12_exchange_7 : decode cX12_exchange 7 = .ok (.aload_n 0, 1) := by decide +kernel
theorem dX12_exchange_8 : decode cX12_exchange 8 = .ok (.getfield 51, 3) := by decide +kernel
theorem dX12_exchange_11 : decode cX12_exchange 11 = .ok (.iload_n 1, 1) := by decide +kernel
theorem dX12_exchange_12 : decode cX12_exchange 12 = .ok (.aload_n 0, 1) := by decide +kernel
theorem dX12_exchange_13 : decode cX12_exchange 13 = .ok (.getfield 51, 3) := by decide +kernel
theorem dX12_exchange_16 : decode cX12_exchange 16 = .ok (.iload_n 2, 1) := by decide +kernel
theorem dX12_exchange_17 : decode cX12_exchange 17 = .ok (.iaload, 1) := by decide +kernel
theorem dX12_exchange_18 : decode cX12_exchange 18 = .ok (.iastore, 1) := by decide +kernel
theorem dX12_exchange_19 : decode cX12_exchange 19 = .ok (.aload_n 0, 1) := by decide +kernel
theorem dX12_exchange_20 : decode cX12_exchange 20 = .ok (.getfield 51, 3) := by decide +kernel
theorem dX12_exchange_23 : decode cX12_exchange 23 = .ok (.iload_n 2, 1) := by decide +kernel
theorem dX12_exchange_24 : decode cX12_exchange 24 = .ok (.iload_n 3, 1) := by decide +kernel
theorem dX12_exchange_25 : decode cX12_exchange 25 = .ok (.iastore, 1) := by decide +kernel
theorem dX12_exchange_26 : decode cX12_exchange 26 = .ok (.aload_n 0, 1) := by decide +kernel
theorem dX12_exchange_27 : decode cX12_exchange 27 = .ok (.getfield 54, 3) := by decide +kernel
theorem dX12_exchange_30 : decode cX12_exchange 30 = .ok (.iload_n 1, 1) := by decide +kernel
theorem dX12_exchange_31 : decode cX12_exchange 31 = .ok (.laload, 1) := by decide +kernel
theorem dX12_exchange_32 : decode cX12_exchange 32 = .ok (.lstore 4, 2) := by decide +kernel
theorem dX12_exchange_34 : decode cX12_exchange 34 = .ok (.aload_n 0, 1) := by decide +kernel
theorem dX12_exchange_35 : decode cX12_exchange 35 = .ok (.getfield 54, 3) := by decide +kernel
theorem dX12_exchange_38 : decode cX12_exchange 38 = .ok (.iload_n 1, 1) := by decide +kernel
theorem dX12_exchange_39 : decode cX12_exchange 39 = .ok (.aload_n 0, 1) := by decide +kernel
theorem dX12_exchange_40 : decode cX12_exchange 40 = .ok (.getfield 54, 3) := by decide +kernel
theorem dX12_exchange_43 : decode cX12_exchange 43 = .ok (.iload_n 2, 1) := by decide +kernel
theorem dX12_exchange_44 : decode cX12_exchange 44 = .ok (.laload, 1) := by decide +kernel
theorem dX12_exchange_45 : decode cX12_exchange 45 = .ok (.lastore, 1) := by decide +kernel
theorem dX12_exchange_46 : decode cX12_exchange 46 = .ok (.aload_n 0, 1) := by decide +kernel
theorem dX12_exchange_47 : decode cX12_exchange 47 = .ok (.getfield 54, 3) := by decide +kernel
theorem dX12_exchange_50 : decode cX12_exchange 50 = .ok (.iload_n 2, 1) := by decide +kernel
theorem dX12_exchange_51 : decode cX12_exchange 51 = .ok (.lload 4, 2) := by decide +kernel
theorem dX12_exchange_53 : decode cX12_exchange 53 = .ok (.lastore, 1) := by decide +kernel
theorem dX12_exchange_54 : decode cX12_exchange 54 = .ok (.return_, 1) := by decide +kernel
set_option maxRecDepth 20000 in
theorem ggX12_layOut_X12_square : GoodIn wsX12_layOut wsX12_square := goodIn_r _ [8, 9, 10, 19, 20, 21, 22, 23, 24, 25, 26, 27, 28, 29, 30, 31, 32, 33, 34, 35, 36, 37, 38, 39, 40, 41, 42, 43, 44, 45] (by decide +kernel) (by decide +kernel)
set_option maxRecDepth 20000 in
theorem gX12_layOut_X12_square : GoodIn wsX12_layOut (wsV RX12 108 RX12 yX12_square wsX12_square) := goodIn_app (goodIn_of _ (by decide +kernel)) ggX12_layOut_X12_square
set_option maxRecDepth 20000 in
theorem ggX12_layOut_X12_cross : GoodIn wsX12_layOut wsX12_cross := goodIn_r _ [14, 9, 10, 19, 20, 21, 22, 23, 24, 25, 26, 27, 28, 29, 30, 31, 32, 33, 34, 35, 36, 37, 38, 39, 40, 41, 42, 43, 44, 45] (by decide +kernel) (by decide +kernel)
set_option maxRecDepth 20000 in
theorem gX12_layOut_X12_cross : GoodIn wsX12_layOut (wsV RX12 112 RX12 yX12_cross wsX12_cross) := goodIn_app (goodIn_of _ (by decide +kernel)) ggX12_layOut_X12_cross
set_option maxRecDepth 20000 in
theorem ggX12_layOut_X12_exchange : GoodIn wsX12_layOut wsX12_exchange := goodIn_r _ [18, 1, 2, 19, 20, 21, 22, 23, 24, 25, 26, 27, 28, 29, 30, 31, 32, 33, 34, 35, 36, 37, 38, 39, 40, 41, 42, 43, 44, 45] (by decide +kernel) (by decide +kernel)
set_option maxRecDepth 20000 in
theorem gX12_layOut_X12_exchange : GoodIn wsX12_layOut (wsV RX12 116 RX12 yX12_exchange wsX12_exchange) := goodIn_app (goodIn_of _ (by decide +kernel)) ggX12_layOut_X12_exchange
theorem dX12_layOut_0 : decode cX12_layOut 0 = .ok (.aload_n 0, 1) := by decide +kernel
theorem dX12_layOut_1 : decode cX12_layOut 1 = .ok (.getfield 51, 3) := by decide +kernel
theorem dX12_layOut_4 : decode cX12_layOut 4 = .ok (.iconst 0, 1) := by decide +kernel
theorem dX12_layOut_5 : decode cX12_layOut 5 = .ok (.iload_n 1, 1) := by decide +kernel
theorem dX12_layOut_6 : decode cX12_layOut 6 = .ok (.iastore, 1) := by decide +kernel
theorem dX12_layOut_7 : decode cX12_layOut 7 = .ok (.aload_n 0, 1) := by decide +kernel
theorem dX12_layOut_8 : decode cX12_layOut 8 = .ok (.getfield 51, 3) := by decide +kernel
theorem dX12_layOut_11 : decode cX12_layOut 11 = .ok (.iconst 1, 1) := by decide +kernel
theorem dX12_layOut_12 : decode cX12_layOut 12 = .ok (.iload_n 2, 1) := by decide +kernel
theorem dX12_layOut_13 : decode cX12_layOut 13 = .ok (.iastore, 1) := by decide +kernel
theorem dX12_layOut_14 : decode cX12_layOut 14 = .ok (.aload_n 0, 1) := by decide +kernel
theorem dX12_layOut_15 : decode cX12_layOut 15 = .ok (.getfield 51, 3) := by decide +kernel
theorem dX12_layOut_18 : decode cX12_layOut 18 = .ok (.iconst 2, 1) := by decide +kernel
theorem dX12_layOut_19 : decode cX12_layOut 19 = .ok (.iload_n 3, 1) := by decide +kernel
theorem dX12_layOut_20 : decode cX12_layOut 20 = .ok (.iastore, 1) := by decide +kernel
theorem dX12_layOut_21 : decode cX12_layOut 21 = .ok (.aload_n 0, 1) := by decide +kernel
theorem dX12_layOut_22 : decode cX12_layOut 22 = .ok (.getfield 54, 3) := by decide +kernel
theorem dX12_layOut_25 : decode cX12_layOut 25 = .ok (.iconst 0, 1) := by decide +kernel
theorem dX12_layOut_26 : decode cX12_layOut 26 = .ok (.aload_n 0, 1) := by decide +kernel
theorem dX12_layOut_27 : decode cX12_layOut 27 = .ok (.iload_n 2, 1) := by decide +kernel
theorem dX12_layOut_28 : decode cX12_layOut 28 = .ok (.iload_n 3, 1) := by decide +kernel
theorem dX12_layOut_29 : decode cX12_layOut 29 = .ok (.invokevirtual 108, 3) := by decide +kernel
theorem dX12_layOut_32 : decode cX12_layOut 32 = .ok (.lastore, 1) := by decide +kernel
theorem dX12_layOut_33 : decode cX12_layOut 33 = .ok (.aload_n 0, 1) := by decide +kernel
theorem dX12_layOut_34 : decode cX12_layOut 34 = .ok (.getfield 54, 3) := by decide +kernel
theorem dX12_layOut_37 : decode cX12_layOut 37 = .ok (.iconst 1, 1) := by decide +kernel
theorem dX12_layOut_38 : decode cX12_layOut 38 = .ok (.aload_n 0, 1) := by decide +kernel
theorem dX12_layOut_39 : decode cX12_layOut 39 = .ok (.iload_n 1, 1) := by decide +kernel
theorem dX12_layOut_40 : decode cX12_layOut 40 = .ok (.iload_n 3, 1) := by decide +kernel
theorem dX12_layOut_41 : decode cX12_layOut 41 = .ok (.invokevirtual 108, 3) := by decide +kernel
theorem dX12_layOut_44 : decode cX12_layOut 44 = .ok (.lastore, 1) := by decide +kernel
theorem dX12_layOut_45 : decode cX12_layOut 45 = .ok (.aload_n 0, 1) := by decide +kernel
theorem dX12_layOut_46 : decode cX12_layOut 46 = .ok (.getfield 54, 3) := by decide +kernel
theorem dX12_layOut_49 : decode cX12_layOut 49 = .ok (.iconst 2, 1) := by decide +kernel
theorem dX12_layOut_50 : decode cX12_layOut 50 = .ok (.aload_n 0, 1) := by decide +kernel
theorem dX12_layOut_51 : decode cX12_layOut 51 = .ok (.iload_n 1, 1) := by decide +kernel
theorem dX12_layOut_52 : decode cX12_layOut 52 = .ok (.iload_n 2, 1) := by decide +kernel
theorem dX12_layOut_53 : decode cX12_layOut 53 = .ok (.invokevirtual 108, 3) := by decide +kernel
theorem dX12_layOut_56 : decode cX12_layOut 56 = .ok (.lastore, 1) := by decide +kernel
theorem dX12_layOut_57 : decode cX12_layOut 57 = .ok (.aload_n 0, 1) := by decide +kernel
theorem dX12_layOut_58 : decode cX12_layOut 58 = .ok (.iload_n 1, 1) := by decide +kernel
theorem dX12_layOut_59 : decode cX12_layOut 59 = .ok (.iload_n 2, 1) := by decide +kernel
theorem dX12_layOut_60 : decode cX12_layOut 60 = .ok (.iload_n 3, 1) := by decide +kernel
theorem dX12_layOut_61 : decode cX12_layOut 61 = .ok (.invokevirtual 112, 3) := by decide +kernel
theorem dX12_layOut_64 : decode cX12_layOut 64 = .ok (.lconst 0, 1) := by decide +kernel
theorem dX12_layOut_65 : decode cX12_layOut 65 = .ok (.lcmp, 1) := by decide +kernel
theorem dX12_layOut_66 : decode cX12_layOut 66 = .ok (.ifCond .eq 51, 3) := by decide +kernel
theorem dX12_layOut_69 : decode cX12_layOut 69 = .ok (.aload_n 0, 1) := by decide +kernel
theorem dX12_layOut_70 : decode cX12_layOut 70 = .ok (.getfield 54, 3) := by decide +kernel
theorem dX12_layOut_73 : decode cX12_layOut 73 = .ok (.iconst 0, 1) := by decide +kernel
theorem dX12_layOut_74 : decode cX12_layOut 74 = .ok (.laload, 1) := by decide +kernel
theorem dX12_layOut_75 : decode cX12_layOut 75 = .ok (.aload_n 0, 1) := by decide +kernel
theorem dX12_layOut_76 : decode cX12_layOut 76 = .ok (.getfield 54, 3) := by decide +kernel
theorem dX12_layOut_79 : decode cX12_layOut 79 = .ok (.iconst 1, 1) := by decide +kernel
theorem dX12_layOut_80 : decode cX12_layOut 80 = .ok (.laload, 1) := by decide +kernel
theorem dX12_layOut_81 : decode cX12_layOut 81 = .ok (.lcmp, 1) := by decide +kernel
theorem dX12_layOut_82 : decode cX12_layOut 82 = .ok (.ifCond .eq 35, 3) := by decide +kernel
theorem dX12_layOut_85 : decode cX12_layOut 85 = .ok (.aload_n 0, 1) := by decide +kernel
theorem dX12_layOut_86 : decode cX12_layOut 86 = .ok (.getfield 54, 3) := by decide +kernel
theorem dX12_layOut_89 : decode cX12_layOut 89 = .ok (.iconst 0, 1) := by decide +kernel
theorem dX12_layOut_90 : decode cX12_layOut 90 = .ok (.laload, 1) := by decide +kernel
theorem dX12_layOut_91 : decode cX12_layOut 91 = .ok (.aload_n 0, 1) := by decide +kernel
theorem dX12_layOut_92 : decode cX12_layOut 92 = .ok (.getfield 54, 3) := by decide +kernel
theorem dX12_layOut_95 : decode cX12_layOut 95 = .ok (.iconst 2, 1) := by decide +kernel
theorem dX12_layOut_96 : decode cX12_layOut 96 = .ok (.laload, 1) := by decide +kernel
theorem dX12_layOut_97 : decode cX12_layOut 97 = .ok (.lcmp, 1) := by decide +kernel
theorem dX12_layOut_98 : decode cX12_layOut 98 = .ok (.ifCond .eq 19, 3) := by decide +kernel
theorem dX12_layOut_101 : decode cX12_layOut 101 = .ok (.aload_n 0, 1) := by decide +kernel
theorem dX12_layOut_102 : decode cX12_layOut 102 = .ok (.getfield 54, 3) := by decide +kernel
theorem dX12_layOut_105 : decode cX12_layOut 105 = .ok (.iconst 1, 1) := by decide +kernel
theorem dX12_layOut_106 : decode cX12_layOut 106 = .ok (.laload, 1) := by decide +kernel
theorem dX12_layOut_107 : decode cX12_layOut 107 = .ok (.aload_n 0, 1) := by decide +kernel
theorem dX12_layOut_108 : decode cX12_layOut 108 = .ok (.getfield 54, 3) := by decide +kernel
theorem dX12_layOut_111 : decode cX12_layOut 111 = .ok (.iconst 2, 1) := by decide +kernel
theorem dX12_layOut_112 : decode cX12_layOut 112 = .ok (.laload, 1) := by decide +kernel
theorem dX12_layOut_113 : decode cX12_layOut 113 = .ok (.lcmp, 1) := by decide +kernel
theorem dX12_layOut_114 : decode cX12_layOut 114 = .ok (.ifCond .ne 5, 3) := by decide +kernel
theorem dX12_layOut_117 : decode cX12_layOut 117 = .ok (.iconst 0, 1) := by decide +kernel
theorem dX12_layOut_118 : decode cX12_layOut 118 = .ok (.ireturn, 1) := by decide +kernel
theorem dX12_layOut_119 : decode cX12_layOut 119 = .ok (.aload_n 0, 1) := by decide +kernel
theorem dX12_layOut_120 : decode cX12_layOut 120 = .ok (.getfield 54, 3) := by decide +kernel
theorem dX12_layOut_123 : decode cX12_layOut 123 = .ok (.iconst 0, 1) := by decide +kernel
theorem dX12_layOut_124 : decode cX12_layOut 124 = .ok (.laload, 1) := by decide +kernel
theorem dX12_layOut_125 : decode cX12_layOut 125 = .ok (.aload_n 0, 1) := by decide +kernel
theorem dX12_layOut_126 : decode cX12_layOut 126 = .ok (.getfield 54, 3) := by decide +kernel
theorem dX12_layOut_129 : decode cX12_layOut 129 = .ok (.iconst 1, 1) := by decide +kernel
theorem dX12_layOut_130 : decode cX12_layOut 130 = .ok (.laload, 1) := by decide +kernel
theorem dX12_layOut_131 : decode cX12_layOut 131 = .ok (.lcmp, 1) := by decide +kernel
theorem dX12_layOut_132 : decode cX12_layOut 132 = .ok (.ifCond .le 9, 3) := by decide +kernel
theorem dX12_layOut_135 : decode cX12_layOut 135 = .ok (.aload_n 0, 1) := by decide +kernel
theorem dX12_layOut_136 : decode cX12_layOut 136 = .ok (.iconst 0, 1) := by decide +kernel
theorem dX12_layOut_137 : decode cX12_layOut 137 = .ok (.iconst 1, 1) := by decide +kernel
theorem dX12_layOut_138 : decode cX12_layOut 138 = .ok (.invokevirtual 116, 3) := by decide +kernel
theorem dX12_layOut_141 : decode cX12_layOut 141 = .ok (.aload_n 0, 1) := by decide +kernel
theorem dX12_layOut_142 : decode cX12_layOut 142 = .ok (.getfield 54, 3) := by decide +kernel
theorem dX12_layOut_145 : decode cX12_layOut 145 = .ok (.iconst 1, 1) := by decide +kernel
theorem dX12_layOut_146 : decode cX12_layOut 146 = .ok (.laload, 1) := by decide +kernel
theorem dX12_layOut_147 : decode cX12_layOut 147 = .ok (.aload_n 0, 1) := by decide +kernel
theorem dX12_layOut_148 : decode cX12_layOut 148 = .ok (.getfield 54, 3) := by decide +kernel
theorem dX12_layOut_151 : decode cX12_layOut 151 = .ok (.iconst 2, 1) := by decide +kernel
theorem dX12_layOut_152 : decode cX12_layOut 152 = .ok (.laload, 1) := by decide +kernel
theorem dX12_layOut_153 : decode cX12_layOut 153 = .ok (.lcmp, 1) := by decide +kernel
theorem dX12_layOut_154 : decode cX12_layOut 154 = .ok (.ifCond .le 9, 3) := by decide +kernel
theorem dX12_layOut_157 : decode cX12_layOut 157 = .ok (.aload_n 0, 1) := by decide +kernel
theorem dX12_layOut_158 : decode cX12_layOut 158 = .ok (.iconst 1, 1) := by decide +kernel
theorem dX12_layOut_159 : decode cX12_layOut 159 = .ok (.iconst 2, 1) := by decide +kernel
theorem dX12_layOut_160 : decode cX12_layOut 160 = .ok (.invokevirtual 116, 3) := by decide +kernel
theorem dX12_layOut_163 : decode cX12_layOut 163 = .ok (.aload_n 0, 1) := by decide +kernel
theorem dX12_layOut_164 : decode cX12_layOut 164 = .ok (.getfield 54, 3) := by decide +kernel
theorem dX12_layOut_167 : decode cX12_layOut 167 = .ok (.iconst 0, 1) := by decide +kernel
theorem dX12_layOut_168 : decode cX12_layOut 168 = .ok (.laload, 1) := by decide +kernel
theorem dX12_layOut_169 : decode cX12_layOut 169 = .ok (.aload_n 0, 1) := by decide +kernel
theorem dX12_layOut_170 : decode cX12_layOut 170 = .ok (.getfield 54, 3) := by decide +kernel
theorem dX12_layOut_173 : decode cX12_layOut 173 = .ok (.iconst 1, 1) := by decide +kernel
theorem dX12_layOut_174 : decode cX12_layOut 174 = .ok (.laload, 1) := by decide +kernel
theorem dX12_layOut_175 : decode cX12_layOut 175 = .ok (.lcmp, 1) := by decide +kernel
theorem dX12_layOut_176 : decode cX12_layOut 176 = .ok (.ifCond .le 9, 3) := by decide +kernel
theorem dX12_layOut_179 : decode cX12_layOut 179 = .ok (.aload_n 0, 1) := by decide +kernel
theorem dX12_layOut_180 : decode cX12_layOut 180 = .ok (.iconst 0, 1) := by decide +kernel
theorem dX12_layOut_181 : decode cX12_layOut 181 = .ok (.iconst 1, 1) := by decide +kernel
theorem dX12_layOut_182 : decode cX12_layOut 182 = .ok (.invokevirtual 116, 3) := by decide +kernel
theorem dX12_layOut_185 : decode cX12_layOut 185 = .ok (.aload_n 0, 1) := by decide +kernel
theorem dX12_layOut_186 : decode cX12_layOut 186 = .ok (.aload_n 0, 1) := by decide +kernel
theorem dX12_layOut_187 : decode cX12_layOut 187 = .ok (.aload_n 0, 1) := by decide +kernel
theorem dX12_layOut_188 : decode cX12_layOut 188 = .ok (.getfield 51, 3) := by decide +kernel
theorem dX12_layOut_191 : decode cX12_layOut 191 = .ok (.iconst 0, 1) := by decide +kernel
theorem dX12_layOut_192 : decode cX12_layOut 192 = .ok (.iaload, 1) := by decide +kernel
theorem dX12_layOut_193 : decode cX12_layOut 193 = .ok (.aload_n 0, 1) := by decide +kernel
theorem dX12_layOut_194 : decode cX12_layOut 194 = .ok (.getfield 51, 3) := by decide +kernel
theorem dX12_layOut_197 : decode cX12_layOut 197 = .ok (.iconst 1, 1) := by decide +kernel
theorem dX12_layOut_198 : decode cX12_layOut 198 = .ok (.iaload, 1) := by decide +kernel
theorem dX12_layOut_199 : decode cX12_layOut 199 = .ok (.aload_n 0, 1) := by decide +kernel
theorem dX12_layOut_200 : decode cX12_layOut 200 = .ok (.getfield 51, 3) := by decide +kernel
theorem dX12_layOut_203 : decode cX12_layOut 203 = .ok (.iconst 2, 1) := by decide +kernel
theorem dX12_layOut_204 : decode cX12_layOut 204 = .ok (.iaload, 1) := by decide +kernel
theorem dX12_layOut_205 : decode cX12_layOut 205 = .ok (.invokevirtual 112, 3) := by decide +kernel
theorem dX12_layOut_208 : decode cX12_layOut 208 = .ok (.lconst 0, 1) := by decide +kernel
theorem dX12_layOut_209 : decode cX12_layOut 209 = .ok (.lcmp, 1) := by decide +kernel
theorem dX12_layOut_210 : decode cX12_layOut 210 = .ok (.ifCond .le 7, 3) := by decide +kernel
theorem dX12_layOut_213 : decode cX12_layOut 213 = .ok (.iconst 1, 1) := by decide +kernel
theorem dX12_layOut_214 : decode cX12_layOut 214 = .ok (.goto 4, 3) := by decide +kernel
theorem dX12_layOut_217 : decode cX12_layOut 217 = .ok (.iconst (-1), 1) := by decide +kernel
theorem dX12_layOut_218 : decode cX12_layOut 218 = .ok (.putfield 120, 3) := by decide +kernel
theorem dX12_layOut_221 : decode cX12_layOut 221 = .ok (.iconst 1, 1) := by decide +kernel
theorem dX12_layOut_222 : decode cX12_layOut 222 = .ok (.ireturn, 1) := by decide +kernel
set_option maxRecDepth 20000 in
theorem ggX12_corner_X12_in : GoodIn wsX12_corner wsX12_in := goodIn_r _ [10] (by decide +kernel) (by decide +kernel)
set_option maxRecDepth 20000 in
theorem gX12_corner_X12_in : GoodIn wsX12_corner (va_wsS RX12 87 yX12_in wsX12_in) := goodIn_app (goodIn_of _ (by decide +kernel)) ggX12_corner_X12_in
set_option maxRecDepth 20000 in
theorem ggX12_corner_X12_finding : GoodIn wsX12_corner wsX12_finding := goodIn_r _ [14, 15, 16, 36, 37, 38, 39, 40, 41, 42, 43, 44, 45, 46, 47, 48, 49, 50, 51, 52, 53, 54, 55, 56, 57, 58, 59, 60, 61, 62] (by decide +kernel) (by decide +kernel)
set_option maxRecDepth 20000 in
theorem gX12_corner_X12_finding : GoodIn wsX12_corner (wsV RX12 93 RX12 yX12_finding wsX12_finding) := goodIn_app (goodIn_of _ (by decide +kernel)) ggX12_corner_X12_finding
set_option maxRecDepth 20000 in
theorem ggX12_corner_X12_layOut : GoodIn wsX12_corner wsX12_layOut := goodIn_r _ [20, 6, 21, 5, 22, 23, 24, 9, 25, 26, 27, 28, 29, 30, 31, 32, 33, 34, 35, 36, 37, 38, 39, 40, 41, 42, 43, 44, 45, 46, 47, 48, 49, 50, 51, 52, 53, 54, 55, 56, 57, 58, 59, 60, 61, 62] (by decide +kernel) (by decide +kernel)
set_option maxRecDepth 20000 in
theorem gX12_corner_X12_layOut : GoodIn wsX12_corner (wsV RX12 123 RX12 yX12_layOut wsX12_layOut) := goodIn_app (goodIn_of _ (by decide +kernel)) ggX12_corner_X12_layOut
theorem dX12_corner_0 : decode cX12_corner 0 = .ok (.iload 5, 2) := by decide +kernel
theorem dX12_corner_2 : decode cX12_corner 2 = .ok (.ifCond .eq 10, 3) := by decide +kernel
theorem dX12_corner_5 : decode cX12_corner 5 = .ok (.aload_n 0, 1) := by decide +kernel
theorem dX12_corner_6 : decode cX12_corner 6 = .ok (.getfield 96, 3) := by decide +kernel
theorem dX12_corner_9 : decode cX12_corner 9 = .ok (.goto 7, 3) := by decide +kernel
theorem dX12_corner_12 : decode cX12_corner 12 = .ok (.aload_n 0, 1) := by decide +kernel
theorem dX12_corner_13 : decode cX12_corner 13 = .ok (.getfield 101, 3) := by decide +kernel
theorem dX12_corner_16 : decode cX12_corner 16 = .ok (.istore 6, 2) := by decide +kernel
theorem dX12_corner_18 : decode cX12_corner 18 = .ok (.iload_n 1, 1) := by decide +kernel
theorem dX12_corner_19 : decode cX12_corner 19 = .ok (.iconst 0, 1) := by decide +kernel
theorem dX12_corner_20 : decode cX12_corner 20 = .ok (.iload 6, 2) := by decide +kernel
theorem dX12_corner_22 : decode cX12_corner 22 = .ok (.iconst 1, 1) := by decide +kernel
theorem dX12_corner_23 : decode cX12_corner 23 = .ok (.isub, 1) := by decide +kernel
theorem dX12_corner_24 : decode cX12_corner 24 = .ok (.invokestatic 87, 3) := by decide +kernel
theorem dX12_corner_27 : decode cX12_corner 27 = .ok (.ifCond .eq 52, 3) := by decide +kernel
theorem dX12_corner_30 : decode cX12_corner 30 = .ok (.iload_n 2, 1) := by decide +kernel
theorem dX12_corner_31 : decode cX12_corner 31 = .ok (.iconst 0, 1) := by decide +kernel
theorem dX12_corner_32 : decode cX12_corner 32 = .ok (.iload 6, 2) := by decide +kernel
theorem dX12_corner_34 : decode cX12_corner 34 = .ok (.iconst 1, 1) := by decide +kernel
theorem dX12_corner_35 : decode cX12_corner 35 = .ok (.isub, 1) := by decide +kernel
theorem dX12_corner_36 : decode cX12_corner 36 = .ok (.invokestatic 87, 3) := by decide +kernel
theorem dX12_corner_39 : decode cX12_corner 39 = .ok (.ifCond .eq 40, 3) := by decide +kernel
theorem dX12_corner_42 : decode cX12_corner 42 = .ok (.iload_n 3, 1) := by decide +kernel
theorem dX12_corner_43 : decode cX12_corner 43 = .ok (.iconst 0, 1) := by decide +kernel
theorem dX12_corner_44 : decode cX12_corner 44 = .ok (.iload 6, 2) := by decide +kernel
theorem dX12_corner_46 : decode cX12_corner 46 = .ok (.iconst 1, 1) := by decide +kernel
theorem dX12_corner_47 : decode cX12_corner 47 = .ok (.isub, 1) := by decide +kernel
theorem dX12_corner_48 : decode cX12_corner 48 = .ok (.invokestatic 87, 3) := by decide +kernel
theorem dX12_corner_51 : decode cX12_corner 51 = .ok (.ifCond .eq 28, 3) := by decide +kernel
theorem dX12_corner_54 : decode cX12_corner 54 = .ok (.iload_n 1, 1) := by decide +kernel
theorem dX12_corner_55 : decode cX12_corner 55 = .ok (.iload_n 2, 1) := by decide +kernel
theorem dX12_corner_56 : decode cX12_corner 56 = .ok (.if_icmp .eq 23, 3) := by decide +kernel
theorem dX12_corner_59 : decode cX12_corner 59 = .ok (.iload_n 1, 1) := by decide +kernel
theorem dX12_corner_60 : decode cX12_corner 60 = .ok (.iload_n 3, 1) := by decide +kernel
theorem dX12_corner_61 : decode cX12_corner 61 = .ok (.if_icmp .eq 18, 3) := by decide +kernel
theorem dX12_corner_64 : decode cX12_corner 64 = .ok (.iload_n 2, 1) := by decide +kernel
theorem dX12_corner_65 : decode cX12_corner 65 = .ok (.iload_n 3, 1) := by decide +kernel
theorem dX12_corner_66 : decode cX12_corner 66 = .ok (.if_icmp .eq 13, 3) := by decide +kernel
theorem dX12_corner_69 : decode cX12_corner 69 = .ok (.iload 4, 2) := by decide +kernel
theorem dX12_corner_71 : decode cX12_corner 71 = .ok (.iconst 0, 1) := by decide +kernel
theorem dX12_corner_72 : decode cX12_corner 72 = .ok (.iconst 3, 1) := by decide +kernel
theorem dX12_corner_73 : decode cX12_corner 73 = .ok (.invokestatic 87, 3) := by decide +kernel
theorem dX12_corner_76 : decode cX12_corner 76 = .ok (.ifCond .ne 11, 3) := by decide +kernel
theorem dX12_corner_79 : decode cX12_corner 79 = .ok (.aload_n 0, 1) := by decide +kernel
theorem dX12_corner_80 : decode cX12_corner 80 = .ok (.ldc2_w 91, 3) := by decide +kernel
theorem dX12_corner_83 : decode cX12_corner 83 = .ok (.invokevirtual 93, 3) := by decide +kernel
theorem dX12_corner_86 : decode cX12_corner 86 = .ok (.lreturn, 1) := by decide +kernel
theorem dX12_corner_87 : decode cX12_corner 87 = .ok (.iload 5, 2) := by decide +kernel
theorem dX12_corner_89 : decode cX12_corner 89 = .ok (.ifCond .eq 8, 3) := by decide +kernel
theorem dX12_corner_92 : decode cX12_corner 92 = .ok (.bipush 10, 2) := by decide +kernel
theorem dX12_corner_94 : decode cX12_corner 94 = .ok (.goto 4, 3) := by decide +kernel
theorem dX12_corner_97 : decode cX12_corner 97 = .ok (.iconst 0, 1) := by decide +kernel
theorem dX12_corner_98 : decode cX12_corner 98 = .ok (.istore 7, 2) := by decide +kernel
theorem dX12_corner_100 : decode cX12_corner 100 = .ok (.aload_n 0, 1) := by decide +kernel
theorem dX12_corner_101 : decode cX12_corner 101 = .ok (.iload 7, 2) := by decide +kernel
theorem dX12_corner_103 : decode cX12_corner 103 = .ok (.iload_n 1, 1) := by decide +kernel
theorem dX12_corner_104 : decode cX12_corner 104 = .ok (.iadd, 1) := by decide +kernel
theorem dX12_corner_105 : decode cX12_corner 105 = .ok (.iload 7, 2) := by decide +kernel
theorem dX12_corner_107 : decode cX12_corner 107 = .ok (.iload_n 2, 1) := by decide +kernel
theorem dX12_corner_108 : decode cX12_corner 108 = .ok (.iadd, 1) := by decide +kernel
theorem dX12_corner_109 : decode cX12_corner 109 = .ok (.iload 7, 2) := by decide +kernel
theorem dX12_corner_111 : decode cX12_corner 111 = .ok (.iload_n 3, 1) := by decide +kernel
theorem dX12_corner_112 : decode cX12_corner 112 = .ok (.iadd, 1) := by decide +kernel
theorem dX12_corner_113 : decode cX12_corner 113 = .ok (.invokevirtual 123, 3) := by decide +kernel
theorem dX12_corner_116 : decode cX12_corner 116 = .ok (.ifCond .ne 11, 3) := by decide +kernel
theorem dX12_corner_119 : decode cX12_corner 119 = .ok (.aload_n 0, 1) := by decide +kernel
