theorem dX12_point_59 : decode cX12_point 59 = .ok (.iload 7, 2) := by decide +kernel
theorem dX12_point_61 : decode cX12_point 61 = .ok (.iload_n 3, 1) := by decide +kernel
theorem dX12_point_62 : decode cX12_point 62 = .ok (.iadd, 1) := by decide +kernel
theorem dX12_point_63 : decode cX12_point 63 = .ok (.iload 4, 2) := by decide +kernel
theorem dX12_point_65 : decode cX12_point 65 = .ok (.ifCond .eq 7, 3) := by decide +kernel
theorem dX12_point_68 : decode cX12_point 68 = .ok (.iconst 1, 1) := by decide +kernel
theorem dX12_point_69 : decode cX12_point 69 = .ok (.goto 4, 3) := by decide +kernel
theorem dX12_point_72 : decode cX12_point 72 = .ok (.iconst 0, 1) := by decide +kernel
theorem dX12_point_73 : decode cX12_point 73 = .ok (.invokevirtual 195, 3) := by decide +kernel
theorem dX12_point_76 : decode cX12_point 76 = .ok (.ifCond .eq 22, 3) := by decide +kernel
theorem dX12_point_79 : decode cX12_point 79 = .ok (.aload_n 0, 1) := by decide +kernel
theorem dX12_point_80 : decode cX12_point 80 = .ok (.getfield 72, 3) := by decide +kernel
theorem dX12_point_83 : decode cX12_point 83 = .ok (.iload 5, 2) := by decide +kernel
theorem dX12_point_85 : decode cX12_point 85 = .ok (.laload, 1) := by decide +kernel
theorem dX12_point_86 : decode cX12_point 86 = .ok (.aload_n 0, 1) := by decide +kernel
theorem dX12_point_87 : decode cX12_point 87 = .ok (.getfield 188, 3) := by decide +kernel
theorem dX12_point_90 : decode cX12_point 90 = .ok (.iload 6, 2) := by decide +kernel
theorem dX12_point_92 : decode cX12_point 92 = .ok (.invokestatic 156, 3) := by decide +kernel
theorem dX12_point_95 : decode cX12_point 95 = .ok (.goto 10, 3) := by decide +kernel
theorem dX12_point_98 : decode cX12_point 98 = .ok (.aload_n 0, 1) := by decide +kernel
theorem dX12_point_99 : decode cX12_point 99 = .ok (.ldc2_w 106, 3) := by decide +kernel
theorem dX12_point_102 : decode cX12_point 102 = .ok (.invokevirtual 93, 3) := by decide +kernel
theorem dX12_point_105 : decode cX12_point 105 = .ok (.lreturn, 1) := by decide +kernel
set_option maxRecDepth 20000 in
theorem ggX12_fallOf_X12_plane : GoodIn wsX12_fallOf wsX12_plane := goodIn_r _ [5, 6, 7, 8, 4, 9, 10, 11, 12, 13, 14, 15, 16, 17, 18, 19, 20, 21, 22, 23, 24, 25, 26, 27, 28, 29, 30, 31, 32, 33, 34, 35, 36, 37] (by decide +kernel) (by decide +kernel)
set_option maxRecDepth 20000 in
theorem gX12_fallOf_X12_plane : GoodIn wsX12_fallOf (wsV RX12 176 RX12 yX12_plane wsX12_plane) := goodIn_app (goodIn_of _ (by decide +kernel)) ggX12_fallOf_X12_plane
theorem dX12_fallOf_0 : decode cX12_fallOf 0 = .ok (.iload_n 3, 1) := by decide +kernel
theorem dX12_fallOf_1 : decode cX12_fallOf 1 = .ok (.iconst 1, 1) := by decide +kernel
theorem dX12_fallOf_2 : decode cX12_fallOf 2 = .ok (.iadd, 1) := by decide +kernel
theorem dX12_fallOf_3 : decode cX12_fallOf 3 = .ok (.iconst 3, 1) := by decide +kernel
theorem dX12_fallOf_4 : decode cX12_fallOf 4 = .ok (.irem, 1) := by decide +kernel
theorem dX12_fallOf_5 : decode cX12_fallOf 5 = .ok (.istore 4, 2) := by decide +kernel
theorem dX12_fallOf_7 : decode cX12_fallOf 7 = .ok (.iload_n 3, 1) := by decide +kernel
theorem dX12_fallOf_8 : decode cX12_fallOf 8 = .ok (.iconst 2, 1) := by decide +kernel
theorem dX12_fallOf_9 : decode cX12_fallOf 9 = .ok (.iadd, 1) := by decide +kernel
theorem dX12_fallOf_10 : decode cX12_fallOf 10 = .ok (.iconst 3, 1) := by decide +kernel
theorem dX12_fallOf_11 : decode cX12_fallOf 11 = .ok (.irem, 1) := by decide +kernel
theorem dX12_fallOf_12 : decode cX12_fallOf 12 = .ok (.istore 5, 2) := by decide +kernel
theorem dX12_fallOf_14 : decode cX12_fallOf 14 = .ok (.aload_n 0, 1) := by decide +kernel
theorem dX12_fallOf_15 : decode cX12_fallOf 15 = .ok (.iload_n 1, 1) := by decide +kernel
theorem dX12_fallOf_16 : decode cX12_fallOf 16 = .ok (.iload 4, 2) := by decide +kernel
theorem dX12_fallOf_18 : decode cX12_fallOf 18 = .ok (.invokevirtual 176, 3) := by decide +kernel
theorem dX12_fallOf_21 : decode cX12_fallOf 21 = .ok (.aload_n 0, 1) := by decide +kernel
theorem dX12_fallOf_22 : decode cX12_fallOf 22 = .ok (.iload_n 2, 1) := by decide +kernel
theorem dX12_fallOf_23 : decode cX12_fallOf 23 = .ok (.iload 5, 2) := by decide +kernel
theorem dX12_fallOf_25 : decode cX12_fallOf 25 = .ok (.invokevirtual 176, 3) := by decide +kernel
theorem dX12_fallOf_28 : decode cX12_fallOf 28 = .ok (.lmul, 1) := by decide +kernel
theorem dX12_fallOf_29 : decode cX12_fallOf 29 = .ok (.aload_n 0, 1) := by decide +kernel
theorem dX12_fallOf_30 : decode cX12_fallOf 30 = .ok (.iload_n 1, 1) := by decide +kernel
theorem dX12_fallOf_31 : decode cX12_fallOf 31 = .ok (.iload 5, 2) := by decide +kernel
theorem dX12_fallOf_33 : decode cX12_fallOf 33 = .ok (.invokevirtual 176, 3) := by decide +kernel
theorem dX12_fallOf_36 : decode cX12_fallOf 36 = .ok (.aload_n 0, 1) := by decide +kernel
theorem dX12_fallOf_37 : decode cX12_fallOf 37 = .ok (.iload_n 2, 1) := by decide +kernel
theorem dX12_fallOf_38 : decode cX12_fallOf 38 = .ok (.iload 4, 2) := by decide +kernel
theorem dX12_fallOf_40 : decode cX12_fallOf 40 = .ok (.invokevirtual 176, 3) := by decide +kernel
theorem dX12_fallOf_43 : decode cX12_fallOf 43 = .ok (.lmul, 1) := by decide +kernel
theorem dX12_fallOf_44 : decode cX12_fallOf 44 = .ok (.lsub, 1) := by decide +kernel
theorem dX12_fallOf_45 : decode cX12_fallOf 45 = .ok (.lreturn, 1) := by decide +kernel
set_option maxRecDepth 20000 in
theorem ggX12_hasFall_X12_fallOf : GoodIn wsX12_hasFall wsX12_fallOf := goodIn_r _ [5, 6, 7, 8, 4, 9, 10, 11, 12, 13, 14, 15, 16, 17, 18, 19, 20, 21, 22, 23, 24, 25, 26, 27, 28, 29, 30, 31, 32, 33, 34, 35, 36, 37, 38, 39, 40, 41] (by decide +kernel) (by decide +kernel)
set_option maxRecDepth 20000 in
theorem gX12_hasFall_X12_fallOf : GoodIn wsX12_hasFall (wsV RX12 198 RX12 yX12_fallOf wsX12_fallOf) := goodIn_app (goodIn_of _ (by decide +kernel)) ggX12_hasFall_X12_fallOf
theorem dX12_hasFall_0 : decode cX12_hasFall 0 = .ok (.aload_n 0, 1) := by decide +kernel
theorem dX12_hasFall_1 : decode cX12_hasFall 1 = .ok (.iload_n 1, 1) := by decide +kernel
theorem dX12_hasFall_2 : decode cX12_hasFall 2 = .ok (.iload_n 2, 1) := by decide +kernel
theorem dX12_hasFall_3 : decode cX12_hasFall 3 = .ok (.iconst 0, 1) := by decide +kernel
theorem dX12_hasFall_4 : decode cX12_hasFall 4 = .ok (.invokevirtual 198, 3) := by decide +kernel
theorem dX12_hasFall_7 : decode cX12_hasFall 7 = .ok (.lconst 0, 1) := by decide +kernel
theorem dX12_hasFall_8 : decode cX12_hasFall 8 = .ok (.lcmp, 1) := by decide +kernel
theorem dX12_hasFall_9 : decode cX12_hasFall 9 = .ok (.ifCond .ne 27, 3) := by decide +kernel
theorem dX12_hasFall_12 : decode cX12_hasFall 12 = .ok (.aload_n 0, 1) := by decide +kernel
theorem dX12_hasFall_13 : decode cX12_hasFall 13 = .ok (.iload_n 1, 1) := by decide +kernel
theorem dX12_hasFall_14 : decode cX12_hasFall 14 = .ok (.iload_n 2, 1) := by decide +kernel
theorem dX12_hasFall_15 : decode cX12_hasFall 15 = .ok (.iconst 1, 1) := by decide +kernel
theorem dX12_hasFall_16 : decode cX12_hasFall 16 = .ok (.invokevirtual 198, 3) := by decide +kernel
theorem dX12_hasFall_19 : decode cX12_hasFall 19 = .ok (.lconst 0, 1) := by decide +kernel
theorem dX12_hasFall_20 : decode cX12_hasFall 20 = .ok (.lcmp, 1) := by decide +kernel
theorem dX12_hasFall_21 : decode cX12_hasFall 21 = .ok (.ifCond .ne 15, 3) := by decide +kernel
theorem dX12_hasFall_24 : decode cX12_hasFall 24 = .ok (.aload_n 0, 1) := by decide +kernel
theorem dX12_hasFall_25 : decode cX12_hasFall 25 = .ok (.iload_n 1, 1) := by decide +kernel
theorem dX12_hasFall_26 : decode cX12_hasFall 26 = .ok (.iload_n 2, 1) := by decide +kernel
theorem dX12_hasFall_27 : decode cX12_hasFall 27 = .ok (.iconst 2, 1) := by decide +kernel
theorem dX12_hasFall_28 : decode cX12_hasFall 28 = .ok (.invokevirtual 198, 3) := by decide +kernel
theorem dX12_hasFall_31 : decode cX12_hasFall 31 = .ok (.lconst 0, 1) := by decide +kernel
theorem dX12_hasFall_32 : decode cX12_hasFall 32 = .ok (.lcmp, 1) := by decide +kernel
theorem dX12_hasFall_33 : decode cX12_hasFall 33 = .ok (.ifCond .eq 7, 3) := by decide +kernel
theorem dX12_hasFall_36 : decode cX12_hasFall 36 = .ok (.iconst 1, 1) := by decide +kernel
theorem dX12_hasFall_37 : decode cX12_hasFall 37 = .ok (.goto 4, 3) := by decide +kernel
theorem dX12_hasFall_40 : decode cX12_hasFall 40 = .ok (.iconst 0, 1) := by decide +kernel
theorem dX12_hasFall_41 : decode cX12_hasFall 41 = .ok (.ireturn, 1) := by decide +kernel
set_option maxRecDepth 20000 in
theorem ggX12_fall_X12_areTwo : GoodIn wsX12_fall wsX12_areTwo := goodIn_r _ [7, 8, 9, 10, 6, 11, 12, 13, 14, 15, 16, 17, 18, 42, 43, 44, 45, 46, 47, 48, 49, 50, 51, 52, 53, 54, 55, 56, 57, 58, 59, 60, 61, 62, 63, 64, 65, 66, 67, 68] (by decide +kernel) (by decide +kernel)
set_option maxRecDepth 20000 in
theorem gX12_fall_X12_areTwo : GoodIn wsX12_fall (wsV RX12 192 RX12 yX12_areTwo wsX12_areTwo) := goodIn_app (goodIn_of _ (by decide +kernel)) ggX12_fall_X12_areTwo
set_option maxRecDepth 20000 in
theorem ggX12_fall_X12_in : GoodIn wsX12_fall wsX12_in := goodIn_r _ [18] (by decide +kernel) (by decide +kernel)
set_option maxRecDepth 20000 in
theorem gX12_fall_X12_in : GoodIn wsX12_fall (va_wsS RX12 87 yX12_in wsX12_in) := goodIn_app (goodIn_of _ (by decide +kernel)) ggX12_fall_X12_in
set_option maxRecDepth 20000 in
theorem ggX12_fall_X12_finding : GoodIn wsX12_fall wsX12_finding := goodIn_r _ [22, 23, 24, 42, 43, 44, 45, 46, 47, 48, 49, 50, 51, 52, 53, 54, 55, 56, 57, 58, 59, 60, 61, 62, 63, 64, 65, 66, 67, 68] (by decide +kernel) (by decide +kernel)
set_option maxRecDepth 20000 in
theorem gX12_fall_X12_finding : GoodIn wsX12_fall (wsV RX12 93 RX12 yX12_finding wsX12_finding) := goodIn_app (goodIn_of _ (by decide +kernel)) ggX12_fall_X12_finding
set_option maxRecDepth 20000 in
theorem ggX12_fall_X12_hasFall : GoodIn wsX12_fall wsX12_hasFall := goodIn_r _ [28, 29, 30, 31, 6, 32, 33, 34, 35, 36, 37, 38, 39, 40, 41, 42, 43, 44, 45, 46, 47, 48, 49, 50, 51, 52, 53, 54, 55, 56, 57, 58, 59, 60, 61, 62, 63, 64, 65, 66, 67, 68] (by decide +kernel) (by decide +kernel)
set_option maxRecDepth 20000 in
theorem gX12_fall_X12_hasFall : GoodIn wsX12_fall (wsV RX12 201 RX12 yX12_hasFall wsX12_hasFall) := goodIn_app (goodIn_of _ (by decide +kernel)) ggX12_fall_X12_hasFall
set_option maxRecDepth 20000 in
theorem ggX12_fall_X12_fallOf : GoodIn wsX12_fall wsX12_fallOf := goodIn_r _ [32, 33, 34, 35, 6, 36, 37, 38, 39, 40, 41, 42, 43, 44, 45, 46, 47, 48, 49, 50, 51, 52, 53, 54, 55, 56, 57, 58, 59, 60, 61, 62, 63, 64, 65, 66, 67, 68] (by decide +kernel) (by decide +kernel)
set_option maxRecDepth 20000 in
theorem gX12_fall_X12_fallOf : GoodIn wsX12_fall (wsV RX12 198 RX12 yX12_fallOf wsX12_fallOf) := goodIn_app (goodIn_of _ (by decide +kernel)) ggX12_fall_X12_fallOf
theorem dX12_fall_0 : decode cX12_fall 0 = .ok (.aload_n 0, 1) := by decide +kernel
theorem dX12_fall_1 : decode cX12_fall 1 = .ok (.iload_n 1, 1) := by decide +kernel
theorem dX12_fall_2 : decode cX12_fall 2 = .ok (.iload_n 2, 1) := by decide +kernel
theorem dX12_fall_3 : decode cX12_fall 3 = .ok (.iload_n 3, 1) := by decide +kernel
theorem dX12_fall_4 : decode cX12_fall 4 = .ok (.invokevirtual 192, 3) := by decide +kernel
theorem dX12_fall_7 : decode cX12_fall 7 = .ok (.ifCond .eq 13, 3) := by decide +kernel
theorem dX12_fall_10 : decode cX12_fall 10 = .ok (.iload 4, 2) := by decide +kernel
theorem dX12_fall_12 : decode cX12_fall 12 = .ok (.iconst 0, 1) := by decide +kernel
theorem dX12_fall_13 : decode cX12_fall 13 = .ok (.iconst 2, 1) := by decide +kernel
theorem dX12_fall_14 : decode cX12_fall 14 = .ok (.invokestatic 87, 3) := by decide +kernel
theorem dX12_fall_17 : decode cX12_fall 17 = .ok (.ifCond .ne 11, 3) := by decide +kernel
theorem dX12_fall_20 : decode cX12_fall 20 = .ok (.aload_n 0, 1) := by decide +kernel
theorem dX12_fall_21 : decode cX12_fall 21 = .ok (.ldc2_w 91, 3) := by decide +kernel
theorem dX12_fall_24 : decode cX12_fall 24 = .ok (.invokevirtual 93, 3) := by decide +kernel
theorem dX12_fall_27 : decode cX12_fall 27 = .ok (.lreturn, 1) := by decide +kernel
theorem dX12_fall_28 : decode cX12_fall 28 = .ok (.iconst 4, 1) := by decide +kernel
theorem dX12_fall_29 : decode cX12_fall 29 = .ok (.iload_n 1, 1) := by decide +kernel
theorem dX12_fall_30 : decode cX12_fall 30 = .ok (.imul, 1) := by decide +kernel
theorem dX12_fall_31 : decode cX12_fall 31 = .ok (.istore 5, 2) := by decide +kernel
theorem dX12_fall_33 : decode cX12_fall 33 = .ok (.aload_n 0, 1) := by decide +kernel
theorem dX12_fall_34 : decode cX12_fall 34 = .ok (.iload 5, 2) := by decide +kernel
theorem dX12_fall_36 : decode cX12_fall 36 = .ok (.iload_n 2, 1) := by decide +kernel
theorem dX12_fall_37 : decode cX12_fall 37 = .ok (.iadd, 1) := by decide +kernel
theorem dX12_fall_38 : decode cX12_fall 38 = .ok (.iload 5, 2) := by decide +kernel
theorem dX12_fall_40 : decode cX12_fall 40 = .ok (.iload_n 3, 1) := by decide +kernel
theorem dX12_fall_41 : decode cX12_fall 41 = .ok (.iadd, 1) := by decide +kernel
theorem dX12_fall_42 : decode cX12_fall 42 = .ok (.invokevirtual 201, 3) := by decide +kernel
theorem dX12_fall_45 : decode cX12_fall 45 = .ok (.ifCond .eq 20, 3) := by decide +kernel
theorem dX12_fall_48 : decode cX12_fall 48 = .ok (.aload_n 0, 1) := by decide +kernel
theorem dX12_fall_49 : decode cX12_fall 49 = .ok (.iload 5, 2) := by decide +kernel
theorem dX12_fall_51 : decode cX12_fall 51 = .ok (.iload_n 2, 1) := by decide +kernel
theorem dX12_fall_52 : decode cX12_fall 52 = .ok (.iadd, 1) := by decide +kernel
theorem dX12_fall_53 : decode cX12_fall 53 = .ok (.iload 5, 2) := by decide +kernel
theorem dX12_fall_55 : decode cX12_fall 55 = .ok (.iload_n 3, 1) := by decide +kernel
theorem dX12_fall_56 : decode cX12_fall 56 = .ok (.iadd, 1) := by decide +kernel
theorem dX12_fall_57 : decode cX12_fall 57 = .ok (.iload 4, 2) := by decide +kernel
theorem dX12_fall_59 : decode cX12_fall 59 = .ok (.invokevirtual 198, 3) := by decide +kernel
theorem dX12_fall_62 : decode cX12_fall 62 = .ok (.goto 10, 3) := by decide +kernel
theorem dX12_fall_65 : decode cX12_fall 65 = .ok (.aload_n 0, 1) := by decide +kernel
theorem dX12_fall_66 : decode cX12_fall 66 = .ok (.ldc2_w 106, 3) := by decide +kernel
theorem dX12_fall_69 : decode cX12_fall 69 = .ok (.invokevirtual 93, 3) := by decide +kernel
theorem dX12_fall_72 : decode cX12_fall 72 = .ok (.lreturn, 1) := by decide +kernel
set_option maxRecDepth 20000 in
theorem ggX12_scalar_X12_plane : GoodIn wsX12_scalar wsX12_plane := goodIn_r _ [5, 6, 7, 8, 4, 9, 10, 11, 12, 13, 14, 15, 16, 17, 18, 19, 20, 21, 22, 23, 24, 25, 26, 27, 28, 29, 30, 31, 32, 33, 34, 35, 36, 37] (by decide +kernel) (by decide +kernel)
set_option maxRecDepth 20000 in
theorem gX12_scalar_X12_plane : GoodIn wsX12_scalar (wsV RX12 176 RX12 yX12_plane wsX12_plane) := goodIn_app (goodIn_of _ (by decide +kernel)) ggX12_scalar_X12_plane
theorem dX12_scalar_0 : decode cX12_scalar 0 = .ok (.aload_n 0, 1) := by decide +kernel
theorem dX12_scalar_1 : decode cX12_scalar 1 = .ok (.iload_n 1, 1) := by decide +kernel
theorem dX12_scalar_2 : decode cX12_scalar 2 = .ok (.iconst 0, 1) := by decide +kernel
theorem dX12_scalar_3 : decode cX12_scalar 3 = .ok (.invokevirtual 176, 3) := by decide +kernel
theorem dX12_scalar_6 : decode cX12_scalar 6 = .ok (.aload_n 0, 1) := by decide +kernel
theorem dX12_scalar_7 : decode cX12_scalar 7 = .ok (.iload_n 2, 1) := by decide +kernel
theorem dX12_scalar_8 : decode cX12_scalar 8 = .ok (.iconst 0, 1) := by decide +kernel
theorem dX12_scalar_9 : decode cX12_scalar 9 = .ok (.invokevirtual 176, 3) := by decide +kernel
theorem dX12_scalar_12 : decode cX12_scalar 12 = .ok (.lmul, 1) := by decide +kernel
theorem dX12_scalar_13 : decode cX12_scalar 13 = .ok (.aload_n 0, 1) := by decide +kernel
theorem dX12_scalar_14 : decode cX12_scalar 14 = .ok (.iload_n 1, 1) := by decide +kernel
theorem dX12_scalar_15 : decode cX12_scalar 15 = .ok (.iconst 1, 1) := by decide +kernel
theorem dX12_scalar_16 : decode cX12_scalar 16 = .ok (.invokevirtual 176, 3) := by decide +kernel
theorem dX12_scalar_19 : decode cX12_scalar 19 = .ok (.aload_n 0, 1) := by decide +kernel
theorem dX12_scalar_20 : decode cX12_scalar 20 = .ok (.iload_n 2, 1) := by decide +kernel
theorem dX12_scalar_21 : decode cX12_scalar 21 = .ok (.iconst 1, 1) := by decide +kernel
theorem dX12_scalar_22 : decode cX12_scalar 22 = .ok (.invokevirtual 176, 3) := by decide +kernel
theorem dX12_scalar_25 : decode cX12_scalar 25 = .ok (.lmul, 1) := by decide +kernel
theorem dX12_scalar_26 : decode cX12_scalar 26 = .ok (.ladd, 1) := by decide +kernel
theorem dX12_scalar_27 : decode cX12_scalar 27 = .ok (.aload_n 0, 1) := by decide +kernel
theorem dX12_scalar_28 : decode cX12_scalar 28 = .ok (.iload_n 1, 1) := by decide +kernel
theorem dX12_scalar_29 : decode cX12_scalar 29 = .ok (.iconst 2, 1) := by decide +kernel
theorem dX12_scalar_30 : decode cX12_scalar 30 = .ok (.invokevirtual 176, 3) := by decide +kernel
theorem dX12_scalar_33 : decode cX12_scalar 33 = .ok (.aload_n 0, 1) := by decide +kernel
theorem dX12_scalar_34 : decode cX12_scalar 34 = .ok (.iload_n 2, 1) := by decide +kernel
theorem dX12_scalar_35 : decode cX12_scalar 35 = .ok (.iconst 2, 1) := by decide +kernel
theorem dX12_scalar_36 : decode cX12_scalar 36 = .ok (.invokevirtual 176, 3) := by decide +kernel
theorem dX12_scalar_39 : decode cX12_scalar 39 = .ok (.lmul, 1) := by decide +kernel
theorem dX12_scalar_40 : decode cX12_scalar 40 = .ok (.ladd, 1) := by decide +kernel
theorem dX12_scalar_41 : decode cX12_scalar 41 = .ok (.lreturn, 1) := by decide +kernel
set_option maxRecDepth 20000 in
theorem ggX12_angle_X12_areTwo : GoodIn wsX12_angle wsX12_areTwo := goodIn_r _ [7, 8, 9, 10, 6, 11, 12, 13, 14, 15, 16, 17, 18, 52, 53, 54, 55, 56, 57, 58, 59, 60, 61, 62, 63, 64, 65, 66, 67, 68, 69, 70, 71, 72, 73, 74, 75, 76, 77, 78] (by decide +kernel) (by decide +kernel)
set_option maxRecDepth 20000 in
theorem gX12_angle_X12_areTwo : GoodIn wsX12_angle (wsV RX12 192 RX12 yX12_areTwo wsX12_areTwo) := goodIn_app (goodIn_of _ (by decide +kernel)) ggX12_angle_X12_areTwo
set_option maxRecDepth 20000 in
theorem ggX12_angle_X12_finding : GoodIn wsX12_angle wsX12_finding := goodIn_r _ [22, 23, 24, 52, 53, 54, 55, 56, 57, 58, 59, 60, 61, 62, 63, 64, 65, 66, 67, 68, 69, 70, 71, 72, 73, 74, 75, 76, 77, 78] (by decide +kernel) (by decide +kernel)
set_option maxRecDepth 20000 in
theorem gX12_angle_X12_finding : GoodIn wsX12_angle (wsV RX12 93 RX12 yX12_finding wsX12_finding) := goodIn_app (goodIn_of _ (by decide +kernel)) ggX12_angle_X12_finding
set_option maxRecDepth 20000 in
theorem ggX12_angle_X12_hasPlane : GoodIn wsX12_angle wsX12_hasPlane := goodIn_r _ [28, 29, 30, 31, 6, 32, 33, 34, 35, 36, 37, 52, 53, 54, 55, 56, 57, 58, 59, 60, 61, 62, 63, 64, 65, 66, 67, 68, 69, 70, 71, 72, 73, 74, 75, 76, 77, 78] (by decide +kernel) (by decide +kernel)
set_option maxRecDepth 20000 in
theorem gX12_angle_X12_hasPlane : GoodIn wsX12_angle (wsV RX12 185 RX12 yX12_hasPlane wsX12_hasPlane) := goodIn_app (goodIn_of _ (by decide +kernel)) ggX12_angle_X12_hasPlane
set_option maxRecDepth 20000 in
theorem ggX12_angle_X12_scalar : GoodIn wsX12_angle wsX12_scalar := goodIn_r _ [41, 29, 30, 31, 6, 32, 33, 34, 35, 36, 37, 52, 53, 54, 55, 56, 57, 58, 59, 60, 61, 62, 63, 64, 65, 66, 67, 68, 69, 70, 71, 72, 73, 74, 75, 76, 77, 78] (by decide +kernel) (by decide +kernel)
set_option maxRecDepth 20000 in
theorem gX12_angle_X12_scalar : GoodIn wsX12_angle (wsV RX12 204 RX12 yX12_scalar wsX12_scalar) := goodIn_app (goodIn_of _ (by decide +kernel)) ggX12_angle_X12_scalar
set_option maxRecDepth 20000 in
theorem ggX12_angle_X12_part : GoodIn wsX12_angle wsX12_part := goodIn_r _ [44, 45, 46, 6, 47, 48, 49, 50, 51] (by decide +kernel) (by decide +kernel)
set_option maxRecDepth 20000 in
theorem gX12_angle_X12_part : GoodIn wsX12_angle (va_wsS RX12 156 yX12_part wsX12_part) := goodIn_app (goodIn_of _ (by decide +kernel)) ggX12_angle_X12_part
theorem dX12_angle_0 : decode cX12_angle 0 = .ok (.aload_n 0, 1) := by decide +kernel
theorem dX12_angle_1 : decode cX12_angle 1 = .ok (.iload_n 1, 1) := by decide +kernel
theorem dX12_angle_2 : decode cX12_angle 2 = .ok (.iload_n 2, 1) := by decide +kernel
theorem dX12_angle_3 : decode cX12_angle 3 = .ok (.iload_n 3, 1) := by decide +kernel
theorem dX12_angle_4 : decode cX12_angle 4 = .ok (.invokevirtual 192, 3) := by decide +kernel
theorem dX12_angle_7 : decode cX12_angle 7 = .ok (.ifCond .ne 11, 3) := by decide +kernel
theorem dX12_angle_10 : decode cX12_angle 10 = .ok (.aload_n 0, 1) := by decide +kernel
theorem dX12_angle_11 : decode cX12_angle 11 = .ok (.ldc2_w 91, 3) := by decide +kernel
theorem dX12_angle_14 : decode cX12_angle 14 = .ok (.invokevirtual 93, 3) := by decide +kernel
theorem dX12_angle_17 : decode cX12_angle 17 = .ok (.lreturn, 1) := by decide +kernel
theorem dX12_angle_18 : decode cX12_angle 18 = .ok (.iconst 4, 1) := by decide +kernel
theorem dX12_angle_19 : decode cX12_angle 19 = .ok (.iload_n 1, 1) := by decide +kernel
theorem dX12_angle_20 : decode cX12_angle 20 = .ok (.imul, 1) := by decide +kernel
theorem dX12_angle_21 : decode cX12_angle 21 = .ok (.iload_n 2, 1) := by decide +kernel
theorem dX12_angle_22 : decode cX12_angle 22 = .ok (.iadd, 1) := by decide +kernel
theorem dX12_angle_23 : decode cX12_angle 23 = .ok (.istore 5, 2) := by decide +kernel
theorem dX12_angle_25 : decode cX12_angle 25 = .ok (.iconst 4, 1) := by decide +kernel
theorem dX12_angle_26 : decode cX12_angle 26 = .ok (.iload_n 1, 1) := by decide +kernel
theorem dX12_angle_27 : decode cX12_angle 27 = .ok (.imul, 1) := by decide +kernel
theorem dX12_angle_28 : decode cX12_angle 28 = .ok (.iload_n 3, 1) := by decide +kernel
theorem dX12_angle_29 : decode cX12_angle 29 = .ok (.iadd, 1) := by decide +kernel
theorem dX12_angle_30 : decode cX12_angle 30 = .ok (.istore 6, 2) := by decide +kernel
theorem dX12_angle_32 : decode cX12_angle 32 = .ok (.aload_n 0, 1) := by decide +kernel
theorem dX12_angle_33 : decode cX12_angle 33 = .ok (.iload 5, 2) := by decide +kernel
theorem dX12_angle_35 : decode cX12_angle 35 = .ok (.invokevirtual 185, 3) := by decide +kernel
theorem dX12_angle_38 : decode cX12_angle 38 = .ok (.ifCond .eq 12, 3) := by decide +kernel
theorem dX12_angle_41 : decode cX12_angle 41 = .ok (.aload_n 0, 1) := by decide +kernel
theorem dX12_angle_42 : decode cX12_angle 42 = .ok (.iload 6, 2) := by decide +kernel
theorem dX12_angle_44 : decode cX12_angle 44 = .ok (.invokevirtual 185, 3) := by decide +kernel
theorem dX12_angle_47 : decode cX12_angle 47 = .ok (.ifCond .ne 11, 3) := by decide +kernel
theorem dX12_angle_50 : decode cX12_angle 50 = .ok (.aload_n 0, 1) := by decide +kernel
theorem dX12_angle_51 : decode cX12_angle 51 = .ok (.ldc2_w 106, 3) := by decide +kernel
theorem dX12_angle_54 : decode cX12_angle 54 = .ok (.invokevirtual 93, 3) := by decide +kernel
theorem dX12_angle_57 : decode cX12_angle 57 = .ok (.lreturn, 1) := by decide +kernel
theorem dX12_angle_58 : decode cX12_angle 58 = .ok (.aload_n 0, 1) := by decide +kernel
theorem dX12_angle_59 : decode cX12_angle 59 = .ok (.iload 5, 2) := by decide +kernel
theorem dX12_angle_61 : decode cX12_angle 61 = .ok (.iload 6, 2) := by decide +kernel
theorem dX12_angle_63 : decode cX12_angle 63 = .ok (.invokevirtual 204, 3) := by decide +kernel
theorem dX12_angle_66 : decode cX12_angle 66 = .ok (.aload_n 0, 1) := by decide +kernel
theorem dX12_angle_67 : decode cX12_angle 67 = .ok (.iload 5, 2) := by decide +kernel
theorem dX12_angle_69 : decode cX12_angle 69 = .ok (.iload 6, 2) := by decide +kernel
theorem dX12_angle_71 : decode cX12_angle 71 = .ok (.invokevirtual 204, 3) := by decide +kernel
theorem dX12_angle_74 : decode cX12_angle 74 = .ok (.lmul, 1) := by decide +kernel
theorem dX12_angle_75 : decode cX12_angle 75 = .ok (.aload_n 0, 1) := by decide +kernel
theorem dX12_angle_76 : decode cX12_angle 76 = .ok (.iload 5, 2) := by decide +kernel
theorem dX12_angle_78 : decode cX12_angle 78 = .ok (.iload 5, 2) := by decide +kernel
theorem dX12_angle_80 : decode cX12_angle 80 = .ok (.invokevirtual 204, 3) := by decide +kernel
theorem dX12_angle_83 : decode cX12_angle 83 = .ok (.aload_n 0, 1) := by decide +kernel
theorem dX12_angle_84 : decode cX12_angle 84 = .ok (.iload 6, 2) := by decide +kernel
theorem dX12_angle_86 : decode cX12_angle 86 = .ok (.iload 6, 2) := by decide +kernel
theorem dX12_angle_88 : decode cX12_angle 88 = .ok (.invokevirtual 204, 3) := by decide +kernel
theorem dX12_angle_91 : decode cX12_angle 91 = .ok (.lmul, 1) := by decide +kernel
theorem dX12_angle_92 : decode cX12_angle 92 = .ok (.iload 4, 2) := by decide +kernel
theorem dX12_angle_94 : decode cX12_angle 94 = .ok (.invokestatic 156, 3) := by decide +kernel
theorem dX12_angle_97 : decode cX12_angle 97 = .ok (.lreturn, 1) := by decide +kernel
set_option maxRecDepth 20000 in
theorem ggX12_best_X12_isMeteor : GoodIn wsX12_best wsX12_isMeteor := goodIn_r _ [8, 9, 10, 7, 11] (by decide +kernel) (by decide +kernel)
set_option maxRecDepth 20000 in
theorem gX12_best_X12_isMeteor : GoodIn wsX12_best (va_wsS RX12 160 yX12_isMeteor wsX12_isMeteor) := goodIn_app (goodIn_of _ (by decide +kernel)) ggX12_best_X12_isMeteor
set_option maxRecDepth 20000 in
theorem ggX12_best_X12_finding : GoodIn wsX12_best wsX12_finding := goodIn_r _ [15, 16, 17, 54, 55, 56, 57, 58, 59, 60, 61, 62, 63, 64, 65, 66, 67, 68, 69, 70, 71, 72, 73, 74, 75, 76, 77, 78, 79, 80] (by decide +kernel) (by decide +kernel)
set_option maxRecDepth 20000 in
theorem gX12_best_X12_finding : GoodIn wsX12_best (wsV RX12 93 RX12 yX12_finding wsX12_finding) := goodIn_app (goodIn_of _ (by decide +kernel)) ggX12_best_X12_finding
set_option maxRecDepth 20000 in
theorem ggX12_best_X12_hasFall : GoodIn wsX12_best wsX12_hasFall := goodIn_r _ [21, 22, 23, 24, 7, 25, 26, 27, 28, 29, 30, 31, 32, 33, 34, 54, 55, 56, 57, 58, 59, 60, 61, 62, 63, 64, 65, 66, 67, 68, 69, 70, 71, 72, 73, 74, 75, 76, 77, 78, 79, 80] (by decide +kernel) (by decide +kernel)
set_option maxRecDepth 20000 in
theorem gX12_best_X12_hasFall : GoodIn wsX12_best (wsV RX12 201 RX12 yX12_hasFall wsX12_hasFall) := goodIn_app (goodIn_of _ (by decide +kernel)) ggX12_best_X12_hasFall
set_option maxRecDepth 20000 in
theorem ggX12_best_X12_findPoint : GoodIn wsX12_best wsX12_findPoint := goodIn_r _ [38, 39, 40, 41, 42, 43, 44, 45, 7, 46, 26, 27, 28, 29, 30, 31, 32, 33, 34, 54, 55, 56, 57, 58, 59, 60, 61, 62, 63, 64, 65, 66, 67, 68, 69, 70, 71, 72, 73, 74, 75, 76, 77, 78, 79, 80] (by decide +kernel) (by decide +kernel)
set_option maxRecDepth 20000 in
theorem gX12_best_X12_findPoint : GoodIn wsX12_best (wsV RX12 195 RX12 yX12_findPoint wsX12_findPoint) := goodIn_app (goodIn_of _ (by decide +kernel)) ggX12_best_X12_findPoint
set_option maxRecDepth 20000 in
theorem ggX12_best_X12_scalar : GoodIn wsX12_best wsX12_scalar := goodIn_r _ [50, 26, 27, 28, 7, 29, 30, 31, 32, 33, 34, 54, 55, 56, 57, 58, 59, 60, 61, 62, 63, 64, 65, 66, 67, 68, 69, 70, 71, 72, 73, 74, 75, 76, 77, 78, 79, 80] (by decide +kernel) (by decide +kernel)
set_option maxRecDepth 20000 in
theorem gX12_best_X12_scalar : GoodIn wsX12_best (wsV RX12 204 RX12 yX12_scalar wsX12_scalar) := goodIn_app (goodIn_of _ (by decide +kernel)) ggX12_best_X12_scalar
set_option maxRecDepth 20000 in
theorem ggX12_best_X12_compare : GoodIn wsX12_best wsX12_compare := goodIn_r _ [53] (by decide +kernel) (by decide +kernel)
set_option maxRecDepth 20000 in
theorem gX12_best_X12_compare : GoodIn wsX12_best (va_wsS RX12 207 yX12_compare wsX12_compare) := goodIn_app (goodIn_of _ (by decide +kernel)) ggX12_best_X12_compare
theorem dX12_best_0 : decode cX12_best 0 = .ok (.iload_n 1, 1) := by decide +kernel
theorem dX12_best_1 : decode cX12_best 1 = .ok (.invokestatic 160, 3) := by decide +kernel
theorem dX12_best_4 : decode cX12_best 4 = .ok (.ifCond .ne 11, 3) := by decide +kernel
theorem dX12_best_7 : decode cX12_best 7 = .ok (.aload_n 0, 1) := by decide +kernel
theorem dX12_best_8 : decode cX12_best 8 = .ok (.ldc2_w 91, 3) := by decide +kernel
theorem dX12_best_11 : decode cX12_best 11 = .ok (.invokevirtual 93, 3) := by decide +kernel
theorem dX12_best_14 : decode cX12_best 14 = .ok (.lreturn, 1) := by decide +kernel
theorem dX12_best_15 : decode cX12_best 15 = .ok (.iconst (-1), 1) := by decide +kernel
theorem dX12_best_16 : decode cX12_best 16 = .ok (.istore_n 2, 1) := by decide +kernel
theorem dX12_best_17 : decode cX12_best 17 = .ok (.lconst 0, 1) := by decide +kernel
theorem dX12_best_18 : decode cX12_best 18 = .ok (.lstore_n 3, 1) := by decide +kernel
theorem dX12_best_19 : decode cX12_best 19 = .ok (.lconst 1, 1) := by decide +kernel
theorem dX12_best_20 : decode cX12_best 20 = .ok (.lstore 5, 2) := by decide +kernel
theorem dX12_best_22 : decode cX12_best 22 = .ok (.iconst 0, 1) := by decide +kernel
theorem dX12_best_23 : decode cX12_best 23 = .ok (.istore 7, 2) := by decide +kernel
theorem dX12_best_25 : decode cX12_best 25 = .ok (.iload 7, 2) := by decide +kernel
theorem dX12_best_27 : decode cX12_best 27 = .ok (.aload_n 0, 1) := by decide +kernel
theorem dX12_best_28 : decode cX12_best 28 = .ok (.getfield 29, 3) := by decide +kernel
theorem dX12_best_31 : decode cX12_best 31 = .ok (.iload_n 1, 1) := by decide +kernel
theorem dX12_best_32 : decode cX12_best 32 = .ok (.iaload, 1) := by decide +kernel
theorem dX12_best_33 : decode cX12_best 33 = .ok (.if_icmp .ge 160, 3) := by decide +kernel
theorem dX12_best_36 : decode cX12_best 36 = .ok (.iconst 0, 1) := by decide +kernel
theorem dX12_best_37 : decode cX12_best 37 = .ok (.istore 8, 2) := by decide +kernel
theorem dX12_best_39 : decode cX12_best 39 = .ok (.iload 8, 2) := by decide +kernel
theorem dX12_best_41 : decode cX12_best 41 = .ok (.aload_n 0, 1) := by decide +kernel
theorem dX12_best_42 : decode cX12_best 42 = .ok (.getfield 29, 3) := by decide +kernel
theorem dX12_best_45 : decode cX12_best 45 = .ok (.iload_n 1, 1) := by decide +kernel
theorem dX12_best_46 : decode cX12_best 46 = .ok (.iaload, 1) := by decide +kernel
theorem dX12_best_47 : decode cX12_best 47 = .ok (.if_icmp .ge 140, 3) := by decide +kernel
theorem dX12_best_50 : decode cX12_best 50 = .ok (.iconst 4, 1) := by decide +kernel
theorem dX12_best_51 : decode cX12_best 51 = .ok (.iload_n 1, 1) := by decide +kernel
theorem dX12_best_52 : decode cX12_best 52 = .ok (.imul, 1) := by decide +kernel
theorem dX12_best_53 : decode cX12_best 53 = .ok (.iload 7, 2) := by decide +kernel
theorem dX12_best_55 : decode cX12_best 55 = .ok (.iadd, 1) := by decide +kernel
theorem dX12_best_56 : decode cX12_best 56 = .ok (.istore 9, 2) := by decide +kernel
theorem dX12_best_58 : decode cX12_best 58 = .ok (.iconst 4, 1) := by decide +kernel
theorem dX12_best_59 : decode cX12_best 59 = .ok (.iload_n 1, 1) := by decide +kernel
theorem dX12_best_60 : decode cX12_best 60 = .ok (.imul, 1) := by decide +kernel
theorem dX12_best_61 : decode cX12_best 61 = .ok (.iload 8, 2) := by decide +kernel
theorem dX12_best_63 : decode cX12_best 63 = .ok (.iadd, 1) := by decide +kernel
theorem dX12_best_64 : decode cX12_best 64 = .ok (.istore 10, 2) := by decide +kernel
theorem dX12_best_66 : decode cX12_best 66 = .ok (.iload 7, 2) := by decide +kernel
theorem dX12_best_68 : decode cX12_best 68 = .ok (.iload 8, 2) := by decide +kernel
theorem dX12_best_70 : decode cX12_best 70 = .ok (.if_icmp .eq 111, 3) := by decide +kernel
theorem dX12_best_73 : decode cX12_best 73 = .ok (.aload_n 0, 1) := by decide +kernel
theorem dX12_best_74 : decode cX12_best 74 = .ok (.getfield 32, 3) := by decide +kernel
theorem dX12_best_77 : decode cX12_best 77 = .ok (.iload 9, 2) := by decide +kernel
theorem dX12_best_79 : decode cX12_best 79 = .ok (.iaload, 1) := by decide +kernel
theorem dX12_best_80 : decode cX12_best 80 = .ok (.iconst 2, 1) := by decide +kernel
theorem dX12_best_81 : decode cX12_best 81 = .ok (.if_icmp .eq 100, 3) := by decide +kernel
theorem dX12_best_84 : decode cX12_best 84 = .ok (.aload_n 0, 1) := by decide +kernel
theorem dX12_best_85 : decode cX12_best 85 = .ok (.iload 9, 2) := by decide +kernel
theorem dX12_best_87 : decode cX12_best 87 = .ok (.iload 10, 2) := by decide +kernel
theorem dX12_best_89 : decode cX12_best 89 = .ok (.invokevirtual 201, 3) := by decide +kernel
theorem dX12_best_92 : decode cX12_best 92 = .ok (.ifCond .eq 89, 3) := by decide +kernel
theorem dX12_best_95 : decode cX12_best 95 = .ok (.aload_n 0, 1) := by decide +kernel
theorem dX12_best_96 : decode cX12_best 96 = .ok (.iload 9, 2) := by decide +kernel
theorem dX12_best_98 : decode cX12_best 98 = .ok (.iload 10, 2) := by decide +kernel
theorem dX12_best_100 : decode cX12_best 100 = .ok (.iconst 0, 1) := by decide +kernel
theorem dX12_best_101 : decode cX12_best 101 = .ok (.invokevirtual 195, 3) := by decide +kernel
theorem dX12_best_104 : decode cX12_best 104 = .ok (.ifCond .ne 6, 3) := by decide +kernel
theorem dX12_best_107 : decode cX12_best 107 = .ok (.goto 74, 3) := by decide +kernel
theorem dX12_best_110 : decode cX12_best 110 = .ok (.aload_n 0, 1) := by decide +kernel
theorem dX12_best_111 : decode cX12_best 111 = .ok (.iload 9, 2) := by decide +kernel
theorem dX12_best_113 : decode cX12_best 113 = .ok (.iload 10, 2) := by decide +kernel
theorem dX12_best_115 : decode cX12_best 115 = .ok (.invokevirtual 204, 3) := by decide +kernel
theorem dX12_best_118 : decode cX12_best 118 = .ok (.aload_n 0, 1) := by decide +kernel
theorem dX12_best_119 : decode cX12_best 119 = .ok (.iload 9, 2) := by decide +kernel
theorem dX12_best_121 : decode cX12_best 121 = .ok (.iload 10, 2) := by decide +kernel
theorem dX12_best_123 : decode cX12_best 123 = .ok (.invokevirtual 204, 3) := by decide +kernel
theorem dX12_best_126 : decode cX12_best 126 = .ok (.lmul, 1) := by decide +kernel
theorem dX12_best_127 : decode cX12_best 127 = .ok (.lstore 11, 2) := by decide +kernel
theorem dX12_best_129 : decode cX12_best 129 = .ok (.aload_n 0, 1) := by decide +kernel
theorem dX12_best_130 : decode cX12_best 130 = .ok (.iload 9, 2) := by decide +kernel
theorem dX12_best_132 : decode cX12_best 132 = .ok (.iload 9, 2) := by decide +kernel
theorem dX12_best_134 : decode cX12_best 134 = .ok (.invokevirtual 204, 3) := by decide +kernel
theorem dX12_best_137 : decode cX12_best 137 = .ok (.aload_n 0, 1) := by decide +kernel
theorem dX12_best_138 : decode cX12_best 138 = .ok (.iload 10, 2) := by decide +kernel
theorem dX12_best_140 : decode cX12_best 140 = .ok (.iload 10, 2) := by decide +kernel
theorem dX12_best_142 : decode cX12_best 142 = .ok (.invokevirtual 204, 3) := by decide +kernel
theorem dX12_best_145 : decode cX12_best 145 = .ok (.lmul, 1) := by decide +kernel
theorem dX12_best_146 : decode cX12_best 146 = .ok (.lstore 13, 2) := by decide +kernel
theorem dX12_best_148 : decode cX12_best 148 = .ok (.iload_n 2, 1) := by decide +kernel
theorem dX12_best_149 : decode cX12_best 149 = .ok (.ifCond .lt 16, 3) := by decide +kernel
theorem dX12_best_152 : decode cX12_best 152 = .ok (.lload 11, 2) := by decide +kernel
theorem dX12_best_154 : decode cX12_best 154 = .ok (.lload 13, 2) := by decide +kernel
theorem dX12_best_156 : decode cX12_best 156 = .ok (.lload_n 3, 1) := by decide +kernel
theorem dX12_best_157 : decode cX12_best 157 = .ok (.lload 5, 2) := by decide +kernel
theorem dX12_best_159 : decode cX12_best 159 = .ok (.invokestatic 207, 3) := by decide +kernel
theorem dX12_best_162 : decode cX12_best 162 = .ok (.ifCond .ge 19, 3) := by decide +kernel
theorem dX12_best_165 : decode cX12_best 165 = .ok (.bipush 10, 2) := by decide +kernel
theorem dX12_best_167 : decode cX12_best 167 = .ok (.iload 7, 2) := by decide +kernel
theorem dX12_best_169 : decode cX12_best 169 = .ok (.imul, 1) := by decide +kernel
theorem dX12_best_170 : decode cX12_best 170 = .ok (.iload 8, 2) := by decide +kernel
theorem dX12_best_172 : decode cX12_best 172 = .ok (.iadd, 1) := by decide +kernel
theorem dX12_best_173 : decode cX12_best 173 = .ok (.istore_n 2, 1) := by decide +kernel
theorem dX12_best_174 : decode cX12_best 174 = .ok (.lload 11, 2) := by decide +kernel
theorem dX12_best_176 : decode cX12_best 176 = .ok (.lstore_n 3, 1) := by decide +kernel
theorem dX12_best_177 : decode cX12_best 177 = .ok (.lload 13, 2) := by decide +kernel
theorem dX12_best_179 : decode cX12_best 179 = .ok (.lstore 5, 2) := by decide +kernel
theorem dX12_best_181 : decode cX12_best 181 = .ok (.iinc 8 1, 3) := by decide +kernel
theorem dX12_best_184 : decode cX12_best 184 = .ok (.goto (-145), 3) := by decide +kernel
theorem dX12_best_187 : decode cX12_best 187 = .ok (.iinc 7 1, 3) := by decide +kernel
theorem dX12_best_190 : decode cX12_best 190 = .ok (.goto (-165), 3) := by decide +kernel
theorem dX12_best_193 : decode cX12_best 193 = .ok (.iload_n 2, 1) := by decide +kernel
theorem dX12_best_194 : decode cX12_best 194 = .ok (.ifCond .ge 13, 3) := by decide +kernel
theorem dX12_best_197 : decode cX12_best 197 = .ok (.aload_n 0, 1) := by decide +kernel
theorem dX12_best_198 : decode cX12_best 198 = .ok (.ldc2_w 106, 3) := by decide +kernel
theorem dX12_best_201 : decode cX12_best 201 = .ok (.invokevirtual 93, 3) := by decide +kernel
theorem dX12_best_204 : decode cX12_best 204 = .ok (.goto 5, 3) := by decide +kernel
theorem dX12_best_207 : decode cX12_best 207 = .ok (.iload_n 2, 1) := by decide +kernel
theorem dX12_best_208 : decode cX12_best 208 = .ok (.i2l, 1) := by decide +kernel
theorem dX12_best_209 : decode cX12_best 209 = .ok (.lreturn, 1) := by decide +kernel
set_option maxRecDepth 20000 in
theorem ggX12_land_X12_areTwo : GoodIn wsX12_land wsX12_areTwo := goodIn_r _ [11, 12, 13, 14, 10, 15, 16, 17, 18, 19, 20, 21, 22, 62, 63, 64, 65, 66, 67, 68, 69, 70, 71, 72, 73, 74, 75, 76, 77, 78, 79, 80, 81, 82, 83, 84, 85, 86, 87, 88] (by decide +kernel) (by decide +kernel)
set_option maxRecDepth 20000 in
theorem gX12_land_X12_areTwo : GoodIn wsX12_land (wsV RX12 192 RX12 yX12_areTwo wsX12_areTwo) := goodIn_app (goodIn_of _ (by decide +kernel)) ggX12_land_X12_areTwo
set_option maxRecDepth 20000 in
theorem ggX12_land_X12_finding : GoodIn wsX12_land wsX12_finding := goodIn_r _ [26, 27, 28, 62, 63, 64, 65, 66, 67, 68, 69, 70, 71, 72, 73, 74, 75, 76, 77, 78, 79, 80, 81, 82, 83, 84, 85, 86, 87, 88] (by decide +kernel) (by decide +kernel)
set_option maxRecDepth 20000 in
theorem gX12_land_X12_finding : GoodIn wsX12_land (wsV RX12 93 RX12 yX12_finding wsX12_finding) := goodIn_app (goodIn_of _ (by decide +kernel)) ggX12_land_X12_finding
set_option maxRecDepth 20000 in
theorem ggX12_land_X12_findPoint : GoodIn wsX12_land wsX12_findPoint := goodIn_r _ [32, 6, 33, 34, 5, 35, 36, 37, 10, 38, 39, 40, 41, 42, 43, 44, 45, 46, 47, 62, 63, 64, 65, 66, 67, 68, 69, 70, 71, 72, 73, 74, 75, 76, 77, 78, 79, 80, 81, 82, 83, 84, 85, 86, 87, 88] (by decide +kernel) (by decide +kernel)
set_option maxRecDepth 20000 in
theorem gX12_land_X12_findPoint : GoodIn wsX12_land (wsV RX12 195 RX12 yX12_findPoint wsX12_findPoint) := goodIn_app (goodIn_of _ (by decide +kernel)) ggX12_land_X12_findPoint
set_option maxRecDepth 20000 in
theorem ggX12_land_X12_fallOf : GoodIn wsX12_land wsX12_fallOf := goodIn_r _ [51, 39, 40, 41, 10, 42, 43, 44, 45, 46, 47, 62, 63, 64, 65, 66, 67, 68, 69, 70, 71, 72, 73, 74, 75, 76, 77, 78, 79, 80, 81, 82, 83, 84, 85, 86, 87, 88] (by decide +kernel) (by decide +kernel)
set_option maxRecDepth 20000 in
theorem gX12_land_X12_fallOf : GoodIn wsX12_land (wsV RX12 198 RX12 yX12_fallOf wsX12_fallOf) := goodIn_app (goodIn_of _ (by decide +kernel)) ggX12_land_X12_fallOf
set_option maxRecDepth 20000 in
theorem ggX12_land_X12_part : GoodIn wsX12_land wsX12_part := goodIn_r _ [54, 55, 56, 10, 57, 58, 59, 60, 61] (by decide +kernel) (by decide +kernel)
set_option maxRecDepth 20000 in
theorem gX12_land_X12_part : GoodIn wsX12_land (va_wsS RX12 156 yX12_part wsX12_part) := goodIn_app (goodIn_of _ (by decide +kernel)) ggX12_land_X12_part
theorem dX12_land_0 : decode cX12_land 0 = .ok (.aload_n 0, 1) := by decide +kernel
theorem dX12_land_1 : decode cX12_land 1 = .ok (.iload_n 1, 1) := by decide +kernel
theorem dX12_land_2 : decode cX12_land 2 = .ok (.iload_n 2, 1) := by decide +kernel
theorem dX12_land_3 : decode cX12_land 3 = .ok (.iload_n 3, 1) := by decide +kernel
theorem dX12_land_4 : decode cX12_land 4 = .ok (.invokevirtual 192, 3) := by decide +kernel
theorem dX12_land_7 : decode cX12_land 7 = .ok (.ifCond .ne 11, 3) := by decide +kernel
theorem dX12_land_10 : decode cX12_land 10 = .ok (.aload_n 0, 1) := by decide +kernel
theorem dX12_land_11 : decode cX12_land 11 = .ok (.ldc2_w 91, 3) := by decide +kernel
theorem dX12_land_14 : decode cX12_land 14 = .ok (.invokevirtual 93, 3) := by decide +kernel
theorem dX12_land_17 : decode cX12_land 17 = .ok (.lreturn, 1) := by decide +kernel
theorem dX12_land_18 : decode cX12_land 18 = .ok (.iconst 4, 1) := by decide +kernel
theorem dX12_land_19 : decode cX12_land 19 = .ok (.iload_n 1, 1) := by decide +kernel
theorem dX12_land_20 : decode cX12_land 20 = .ok (.imul, 1) := by decide +kernel
theorem dX12_land_21 : decode cX12_land 21 = .ok (.iload_n 2, 1) := by decide +kernel
theorem dX12_land_22 : decode cX12_land 22 = .ok (.iadd, 1) := by decide +kernel
theorem dX12_land_23 : decode cX12_land 23 = .ok (.istore 6, 2) := by decide +kernel
theorem dX12_land_25 : decode cX12_land 25 = .ok (.iconst 4, 1) := by decide +kernel
theorem dX12_land_26 : decode cX12_land 26 = .ok (.iload_n 1, 1) := by decide +kernel
theorem dX12_land_27 : decode cX12_land 27 = .ok (.imul, 1) := by decide +kernel
theorem dX12_land_28 : decode cX12_land 28 = .ok (.iload_n 3, 1) := by decide +kernel
theorem dX12_land_29 : decode cX12_land 29 = .ok (.iadd, 1) := by decide +kernel
theorem dX12_land_30 : decode cX12_land 30 = .ok (.istore 7, 2) := by decide +kernel
theorem dX12_land_32 : decode cX12_land 32 = .ok (.aload_n 0, 1) := by decide +kernel
theorem dX12_land_33 : decode cX12_land 33 = .ok (.getfield 32, 3) := by decide +kernel
theorem dX12_land_36 : decode cX12_land 36 = .ok (.iload 6, 2) := by decide +kernel
theorem dX12_land_38 : decode cX12_land 38 = .ok (.iaload, 1) := by decide +kernel
theorem dX12_land_39 : decode cX12_land 39 = .ok (.iconst 2, 1) := by decide +kernel
theorem dX12_land_40 : decode cX12_land 40 = .ok (.if_icmp .ne 11, 3) := by decide +kernel
theorem dX12_land_43 : decode cX12_land 43 = .ok (.aload_n 0, 1) := by decide +kernel
theorem dX12_land_44 : decode cX12_land 44 = .ok (.ldc2_w 183, 3) := by decide +kernel
theorem dX12_land_47 : decode cX12_land 47 = .ok (.invokevirtual 93, 3) := by decide +kernel
theorem dX12_land_50 : decode cX12_land 50 = .ok (.lreturn, 1) := by decide +kernel
theorem dX12_land_51 : decode cX12_land 51 = .ok (.aload_n 0, 1) := by decide +kernel
theorem dX12_land_52 : decode cX12_land 52 = .ok (.iload 6, 2) := by decide +kernel
theorem dX12_land_54 : decode cX12_land 54 = .ok (.iload 7, 2) := by decide +kernel
theorem dX12_land_56 : decode cX12_land 56 = .ok (.iconst 0, 1) := by decide +kernel
theorem dX12_land_57 : decode cX12_land 57 = .ok (.invokevirtual 195, 3) := by decide +kernel
theorem dX12_land_60 : decode cX12_land 60 = .ok (.ifCond .eq 17, 3) := by decide +kernel
theorem dX12_land_63 : decode cX12_land 63 = .ok (.aload_n 0, 1) := by decide +kernel
theorem dX12_land_64 : decode cX12_land 64 = .ok (.iload 6, 2) := by decide +kernel
theorem dX12_land_66 : decode cX12_land 66 = .ok (.iload 7, 2) := by decide +kernel
theorem dX12_land_68 : decode cX12_land 68 = .ok (.iconst 2, 1) := by decide +kernel
theorem dX12_land_69 : decode cX12_land 69 = .ok (.invokevirtual 198, 3) := by decide +kernel
theorem dX12_land_72 : decode cX12_land 72 = .ok (.lconst 0, 1) := by decide +kernel
theorem dX12_land_73 : decode cX12_land 73 = .ok (.lcmp, 1) := by decide +kernel
theorem dX12_land_74 : decode cX12_land 74 = .ok (.ifCond .ne 11, 3) := by decide +kernel
theorem dX12_land_77 : decode cX12_land 77 = .ok (.aload_n 0, 1) := by decide +kernel
theorem dX12_land_78 : decode cX12_land 78 = .ok (.ldc2_w 106, 3) := by decide +kernel
theorem dX12_land_81 : decode cX12_land 81 = .ok (.invokevirtual 93, 3) := by decide +kernel
theorem dX12_land_84 : decode cX12_land 84 = .ok (.lreturn, 1) := by decide +kernel
theorem dX12_land_85 : decode cX12_land 85 = .ok (.iload 4, 2) := by decide +kernel
theorem dX12_land_87 : decode cX12_land 87 = .ok (.ifCond .eq 7, 3) := by decide +kernel
theorem dX12_land_90 : decode cX12_land 90 = .ok (.iconst 1, 1) := by decide +kernel
theorem dX12_land_91 : decode cX12_land 91 = .ok (.goto 4, 3) := by decide +kernel
theorem dX12_land_94 : decode cX12_land 94 = .ok (.iconst 0, 1) := by decide +kernel
theorem dX12_land_95 : decode cX12_land 95 = .ok (.istore 8, 2) := by decide +kernel
theorem dX12_land_97 : decode cX12_land 97 = .ok (.aload_n 0, 1) := by decide +kernel
theorem dX12_land_98 : decode cX12_land 98 = .ok (.iload 6, 2) := by decide +kernel
theorem dX12_land_100 : decode cX12_land 100 = .ok (.iload 7, 2) := by decide +kernel
theorem dX12_land_102 : decode cX12_land 102 = .ok (.iconst 2, 1) := by decide +kernel
theorem dX12_land_103 : decode cX12_land 103 = .ok (.invokevirtual 198, 3) := by decide +kernel
theorem dX12_land_106 : decode cX12_land 106 = .ok (.lstore 9, 2) := by decide +kernel
theorem dX12_land_108 : decode cX12_land 108 = .ok (.aload_n 0, 1) := by decide +kernel
theorem dX12_land_109 : decode cX12_land 109 = .ok (.getfield 72, 3) := by decide +kernel
theorem dX12_land_112 : decode cX12_land 112 = .ok (.iload 8, 2) := by decide +kernel
theorem dX12_land_114 : decode cX12_land 114 = .ok (.laload, 1) := by decide +kernel
theorem dX12_land_115 : decode cX12_land 115 = .ok (.lload 9, 2) := by decide +kernel
theorem dX12_land_117 : decode cX12_land 117 = .ok (.lmul, 1) := by decide +kernel
theorem dX12_land_118 : decode cX12_land 118 = .ok (.aload_n 0, 1) := by decide +kernel
theorem dX12_land_119 : decode cX12_land 119 = .ok (.getfield 72, 3) := by decide +kernel
theorem dX12_land_122 : decode cX12_land 122 = .ok (.iconst 2, 1) := by decide +kernel
theorem dX12_land_123 : decode cX12_land 123 = .ok (.laload, 1) := by decide +kernel
theorem dX12_land_124 : decode cX12_land 124 = .ok (.aload_n 0, 1) := by decide +kernel
theorem dX12_land_125 : decode cX12_land 125 = .ok (.iload 6, 2) := by decide +kernel
theorem dX12_land_127 : decode cX12_land 127 = .ok (.iload 7, 2) := by decide +kernel
theorem dX12_land_129 : decode cX12_land 129 = .ok (.iload 8, 2) := by decide +kernel
theorem dX12_land_131 : decode cX12_land 131 = .ok (.invokevirtual 198, 3) := by decide +kernel
theorem dX12_land_134 : decode cX12_land 134 = .ok (.lmul, 1) := by decide +kernel
theorem dX12_land_135 : decode cX12_land 135 = .ok (.lsub, 1) := by decide +kernel
theorem dX12_land_136 : decode cX12_land 136 = .ok (.aload_n 0, 1) := by decide +kernel
theorem dX12_land_137 : decode cX12_land 137 = .ok (.getfield 188, 3) := by decide +kernel
theorem dX12_land_140 : decode cX12_land 140 = .ok (.lload 9, 2) := by decide +kernel
theorem dX12_land_142 : decode cX12_land 142 = .ok (.lmul, 1) := by decide +kernel
theorem dX12_land_143 : decode cX12_land 143 = .ok (.iload 5, 2) := by decide +kernel
theorem dX12_land_145 : decode cX12_land 145 = .ok (.invokestatic 156, 3) := by decide +kernel
theorem dX12_land_148 : decode cX12_land 148 = .ok (.lreturn, 1) := by decide +kernel
set_option maxRecDepth 20000 in
theorem ggX12_wind_X12_in : GoodIn wsX12_wind wsX12_in := goodIn_r _ [6] (by decide +kernel) (by decide +kernel)
set_option maxRecDepth 20000 in
theorem gX12_wind_X12_in : GoodIn wsX12_wind (va_wsS RX12 87 yX12_in wsX12_in) := goodIn_app (goodIn_of _ (by decide +kernel)) ggX12_wind_X12_in
set_option maxRecDepth 20000 in
theorem ggX12_wind_X12_finding : GoodIn wsX12_wind wsX12_finding := goodIn_r _ [10, 11, 12, 13, 14, 15, 16, 17, 18, 19, 20, 21, 22, 23, 24, 25, 26, 27, 28, 29, 30, 31, 32, 33, 34, 35, 36, 37, 38, 39] (by decide +kernel) (by decide +kernel)
set_option maxRecDepth 20000 in
theorem gX12_wind_X12_finding : GoodIn wsX12_wind (wsV RX12 93 RX12 yX12_finding wsX12_finding) := goodIn_app (goodIn_of _ (by decide +kernel)) ggX12_wind_X12_finding
theorem dX12_wind_0 : decode cX12_wind 0 = .ok (.iload_n 1, 1) := by decide +kernel
theorem dX12_wind_1 : decode cX12_wind 1 = .ok (.iconst 0, 1) := by decide +kernel
theorem dX12_wind_2 : decode cX12_wind 2 = .ok (.bipush 9, 2) := by decide +kernel
theorem dX12_wind_4 : decode cX12_wind 4 = .ok (.invokestatic 87, 3) := by decide +kernel
theorem dX12_wind_7 : decode cX12_wind 7 = .ok (.ifCond .eq 25, 3) := by decide +kernel
theorem dX12_wind_10 : decode cX12_wind 10 = .ok (.iload_n 2, 1) := by decide +kernel
theorem dX12_wind_11 : decode cX12_wind 11 = .ok (.bipush (-9), 2) := by decide +kernel
theorem dX12_wind_13 : decode cX12_wind 13 = .ok (.bipush 9, 2) := by decide +kernel
theorem dX12_wind_15 : decode cX12_wind 15 = .ok (.invokestatic 87, 3) := by decide +kernel
theorem dX12_wind_18 : decode cX12_wind 18 = .ok (.ifCond .eq 14, 3) := by decide +kernel
theorem dX12_wind_21 : decode cX12_wind 21 = .ok (.iload_n 3, 1) := by decide +kernel
theorem dX12_wind_22 : decode cX12_wind 22 = .ok (.bipush (-9), 2) := by decide +kernel
theorem dX12_wind_24 : decode cX12_wind 24 = .ok (.bipush 9, 2) := by decide +kernel
theorem dX12_wind_26 : decode cX12_wind 26 = .ok (.invokestatic 87, 3) := by decide +kernel
theorem dX12_wind_29 : decode cX12_wind 29 = .ok (.ifCond .ne 11, 3) := by decide +kernel
theorem dX12_wind_32 : decode cX12_wind 32 = .ok (.aload_n 0, 1) := by decide +kernel
theorem dX12_wind_33 : decode cX12_wind 33 = .ok (.ldc2_w 91, 3) := by decide +kernel
theorem dX12_wind_36 : decode cX12_wind 36 = .ok (.invokevirtual 93, 3) := by decide +kernel
theorem dX12_wind_39 : decode cX12_wind 39 = .ok (.lreturn, 1) := by decide +kernel
theorem dX12_wind_40 : decode cX12_wind 40 = .ok (.aload_n 0, 1) := by decide +kernel
theorem dX12_wind_41 : decode cX12_wind 41 = .ok (.getfield 41, 3) := by decide +kernel
theorem dX12_wind_44 : decode cX12_wind 44 = .ok (.iconst 2, 1) := by decide +kernel
theorem dX12_wind_45 : decode cX12_wind 45 = .ok (.iload_n 1, 1) := by decide +kernel
theorem dX12_wind_46 : decode cX12_wind 46 = .ok (.imul, 1) := by decide +kernel
theorem dX12_wind_47 : decode cX12_wind 47 = .ok (.iload_n 2, 1) := by decide +kernel
theorem dX12_wind_48 : decode cX12_wind 48 = .ok (.iastore, 1) := by decide +kernel
theorem dX12_wind_49 : decode cX12_wind 49 = .ok (.aload_n 0, 1) := by decide +kernel
theorem dX12_wind_50 : decode cX12_wind 50 = .ok (.getfield 41, 3) := by decide +kernel
theorem dX12_wind_53 : decode cX12_wind 53 = .ok (.iconst 2, 1) := by decide +kernel
theorem dX12_wind_54 : decode cX12_wind 54 = .ok (.iload_n 1, 1) := by decide +kernel
theorem dX12_wind_55 : decode cX12_wind 55 = .ok (.imul, 1) := by decide +kernel
theorem dX12_wind_56 : decode cX12_wind 56 = .ok (.iconst 1, 1) := by decide +kernel
theorem dX12_wind_57 : decode cX12_wind 57 = .ok (.iadd, 1) := by decide +kernel
theorem dX12_wind_58 : decode cX12_wind 58 = .ok (.iload_n 3, 1) := by decide +kernel
theorem dX12_wind_59 : decode cX12_wind 59 = .ok (.iastore, 1) := by decide +kernel
theorem dX12_wind_60 : decode cX12_wind 60 = .ok (.lconst 1, 1) := by decide +kernel
theorem dX12_wind_61 : decode cX12_wind 61 = .ok (.lreturn, 1) := by decide +kernel
set_option maxRecDepth 20000 in
theorem ggX12_drift_X12_areTwo : GoodIn wsX12_drift wsX12_areTwo := goodIn_r _ [22, 23, 24, 25, 21, 26, 27, 28, 29, 30, 31, 32, 33, 68, 69, 70, 71, 72, 73, 74, 75, 76, 77, 78, 79, 80, 81, 82, 83, 84, 85, 86, 87, 88, 89, 90, 91, 92, 93, 94] (by decide +kernel) (by decide +kernel)
set_option maxRecDepth 20000 in
theorem gX12_drift_X12_areTwo : GoodIn wsX12_drift (wsV RX12 192 RX12 yX12_areTwo wsX12_areTwo) := goodIn_app (goodIn_of _ (by decide +kernel)) ggX12_drift_X12_areTwo
set_option maxRecDepth 20000 in
theorem ggX12_drift_X12_finding : GoodIn wsX12_drift wsX12_finding := goodIn_r _ [37, 38, 39, 68, 69, 70, 71, 72, 73, 74, 75, 76, 77, 78, 79, 80, 81, 82, 83, 84, 85, 86, 87, 88, 89, 90, 91, 92, 93, 94] (by decide +kernel) (by decide +kernel)
set_option maxRecDepth 20000 in
theorem gX12_drift_X12_finding : GoodIn wsX12_drift (wsV RX12 93 RX12 yX12_finding wsX12_finding) := goodIn_app (goodIn_of _ (by decide +kernel)) ggX12_drift_X12_finding
set_option maxRecDepth 20000 in
theorem ggX12_drift_X12_findPoint : GoodIn wsX12_drift wsX12_findPoint := goodIn_r _ [43, 5, 44, 45, 6, 46, 47, 48, 21, 49, 50, 51, 52, 53, 54, 55, 56, 57, 58, 68, 69, 70, 71, 72, 73, 74, 75, 76, 77, 78, 79, 80, 81, 82, 83, 84, 85, 86, 87, 88, 89, 90, 91, 92, 93, 94] (by decide +kernel) (by decide +kernel)
set_option maxRecDepth 20000 in
theorem gX12_drift_X12_findPoint : GoodIn wsX12_drift (wsV RX12 195 RX12 yX12_findPoint wsX12_findPoint) := goodIn_app (goodIn_of _ (by decide +kernel)) ggX12_drift_X12_findPoint
set_option maxRecDepth 20000 in
theorem ggX12_drift_X12_part : GoodIn wsX12_drift wsX12_part := goodIn_r _ [61, 62, 63, 21, 64, 65, 66, 12, 67] (by decide +kernel) (by decide +kernel)
set_option maxRecDepth 20000 in
theorem gX12_drift_X12_part : GoodIn wsX12_drift (va_wsS RX12 156 yX12_part wsX12_part) := goodIn_app (goodIn_of _ (by decide +kernel)) ggX12_drift_X12_part
theorem dX12_drift_0 : decode cX12_drift 0 = .ok (.aload_n 0, 1) := by decide +kernel
theorem dX12_drift_1 : decode cX12_drift 1 = .ok (.iload_n 1, 1) := by decide +kernel
theorem dX12_drift_2 : decode cX12_drift 2 = .ok (.iload_n 2, 1) := by decide +kernel
theorem dX12_drift_3 : decode cX12_drift 3 = .ok (.iload_n 3, 1) := by decide +kernel
theorem dX12_drift_4 : decode cX12_drift 4 = .ok (.invokevirtual 192, 3) := by decide +kernel
theorem dX12_drift_7 : decode cX12_drift 7 = .ok (.ifCond .ne 11, 3) := by decide +kernel
theorem dX12_drift_10 : decode cX12_drift 10 = .ok (.aload_n 0, 1) := by decide +kernel
theorem dX12_drift_11 : decode cX12_drift 11 = .ok (.ldc2_w 91, 3) := by decide +kernel
theorem dX12_drift_14 : decode cX12_drift 14 = .ok (.invokevirtual 93, 3) := by decide +kernel
theorem dX12_drift_17 : decode cX12_drift 17 = .ok (.lreturn, 1) := by decide +kernel
theorem dX12_drift_18 : decode cX12_drift 18 = .ok (.iconst 4, 1) := by decide +kernel
theorem dX12_drift_19 : decode cX12_drift 19 = .ok (.iload_n 1, 1) := by decide +kernel
theorem dX12_drift_20 : decode cX12_drift 20 = .ok (.imul, 1) := by decide +kernel
theorem dX12_drift_21 : decode cX12_drift 21 = .ok (.iload_n 2, 1) := by decide +kernel
theorem dX12_drift_22 : decode cX12_drift 22 = .ok (.iadd, 1) := by decide +kernel
theorem dX12_drift_23 : decode cX12_drift 23 = .ok (.istore 6, 2) := by decide +kernel
theorem dX12_drift_25 : decode cX12_drift 25 = .ok (.iconst 4, 1) := by decide +kernel
theorem dX12_drift_26 : decode cX12_drift 26 = .ok (.iload_n 1, 1) := by decide +kernel
theorem dX12_drift_27 : decode cX12_drift 27 = .ok (.imul, 1) := by decide +kernel
theorem dX12_drift_28 : decode cX12_drift 28 = .ok (.iload_n 3, 1) := by decide +kernel
theorem dX12_drift_29 : decode cX12_drift 29 = .ok (.iadd, 1) := by decide +kernel
theorem dX12_drift_30 : decode cX12_drift 30 = .ok (.istore 7, 2) := by decide +kernel
theorem dX12_drift_32 : decode cX12_drift 32 = .ok (.aload_n 0, 1) := by decide +kernel
theorem dX12_drift_33 : decode cX12_drift 33 = .ok (.getfield 32, 3) := by decide +kernel
theorem dX12_drift_36 : decode cX12_drift 36 = .ok (.iload 6, 2) := by decide +kernel
theorem dX12_drift_38 : decode cX12_drift 38 = .ok (.iaload, 1) := by decide +kernel
theorem dX12_drift_39 : decode cX12_drift 39 = .ok (.iconst 2, 1) := by decide +kernel
theorem dX12_drift_40 : decode cX12_drift 40 = .ok (.if_icmp .ne 11, 3) := by decide +kernel
theorem dX12_drift_43 : decode cX12_drift 43 = .ok (.aload_n 0, 1) := by decide +kernel
theorem dX12_drift_44 : decode cX12_drift 44 = .ok (.ldc2_w 183, 3) := by decide +kernel
theorem dX12_drift_47 : decode cX12_drift 47 = .ok (.invokevirtual 93, 3) := by decide +kernel
theorem dX12_drift_50 : decode cX12_drift 50 = .ok (.lreturn, 1) := by decide +kernel
theorem dX12_drift_51 : decode cX12_drift 51 = .ok (.aload_n 0, 1) := by decide +kernel
theorem dX12_drift_52 : decode cX12_drift 52 = .ok (.iload 6, 2) := by decide +kernel
theorem dX12_drift_54 : decode cX12_drift 54 = .ok (.iload 7, 2) := by decide +kernel
theorem dX12_drift_56 : decode cX12_drift 56 = .ok (.iconst 1, 1) := by decide +kernel
theorem dX12_drift_57 : decode cX12_drift 57 = .ok (.invokevirtual 195, 3) := by decide +kernel
theorem dX12_drift_60 : decode cX12_drift 60 = .ok (.ifCond .ne 11, 3) := by decide +kernel
theorem dX12_drift_63 : decode cX12_drift 63 = .ok (.aload_n 0, 1) := by decide +kernel
theorem dX12_drift_64 : decode cX12_drift 64 = .ok (.ldc2_w 106, 3) := by decide +kernel
theorem dX12_drift_67 : decode cX12_drift 67 = .ok (.invokevirtual 93, 3) := by decide +kernel
theorem dX12_drift_70 : decode cX12_drift 70 = .ok (.lreturn, 1) := by decide +kernel
theorem dX12_drift_71 : decode cX12_drift 71 = .ok (.aload_n 0, 1) := by decide +kernel
theorem dX12_drift_72 : decode cX12_drift 72 = .ok (.getfield 188, 3) := by decide +kernel
theorem dX12_drift_75 : decode cX12_drift 75 = .ok (.lconst 0, 1) := by decide +kernel
theorem dX12_drift_76 : decode cX12_drift 76 = .ok (.lcmp, 1) := by decide +kernel
theorem dX12_drift_77 : decode cX12_drift 77 = .ok (.ifCond .ge 11, 3) := by decide +kernel
theorem dX12_drift_80 : decode cX12_drift 80 = .ok (.aload_n 0, 1) := by decide +kernel
theorem dX12_drift_81 : decode cX12_drift 81 = .ok (.getfield 188, 3) := by decide +kernel
theorem dX12_drift_84 : decode cX12_drift 84 = .ok (.lneg, 1) := by decide +kernel
theorem dX12_drift_85 : decode cX12_drift 85 = .ok (.goto 7, 3) := by decide +kernel
theorem dX12_drift_88 : decode cX12_drift 88 = .ok (.aload_n 0, 1) := by decide +kernel
theorem dX12_drift_89 : decode cX12_drift 89 = .ok (.getfield 188, 3) := by decide +kernel
theorem dX12_drift_92 : decode cX12_drift 92 = .ok (.lstore 8, 2) := by decide +kernel
theorem dX12_drift_94 : decode cX12_drift 94 = .ok (.aload_n 0, 1) := by decide +kernel
theorem dX12_drift_95 : decode cX12_drift 95 = .ok (.getfield 188, 3) := by decide +kernel
theorem dX12_drift_98 : decode cX12_drift 98 = .ok (.lconst 0, 1) := by decide +kernel
theorem dX12_drift_99 : decode cX12_drift 99 = .ok (.lcmp, 1) := by decide +kernel
theorem dX12_drift_100 : decode cX12_drift 100 = .ok (.ifCond .ge 13, 3) := by decide +kernel
theorem dX12_drift_103 : decode cX12_drift 103 = .ok (.aload_n 0, 1) := by decide +kernel
theorem dX12_drift_104 : decode cX12_drift 104 = .ok (.getfield 72, 3) := by decide +kernel
theorem dX12_drift_107 : decode cX12_drift 107 = .ok (.iconst 2, 1) := by decide +kernel
theorem dX12_drift_108 : decode cX12_drift 108 = .ok (.laload, 1) := by decide +kernel
theorem dX12_drift_109 : decode cX12_drift 109 = .ok (.lneg, 1) := by decide +kernel
theorem dX12_drift_110 : decode cX12_drift 110 = .ok (.goto 9, 3) := by decide +kernel
theorem dX12_drift_113 : decode cX12_drift 113 = .ok (.aload_n 0, 1) := by decide +kernel
theorem dX12_drift_114 : decode cX12_drift 114 = .ok (.getfield 72, 3) := by decide +kernel
theorem dX12_drift_117 : decode cX12_drift 117 = .ok (.iconst 2, 1) := by decide +kernel
theorem dX12_drift_118 : decode cX12_drift 118 = .ok (.laload, 1) := by decide +kernel
theorem dX12_drift_119 : decode cX12_drift 119 = .ok (.lstore 10, 2) := by decide +kernel
theorem dX12_drift_121 : decode cX12_drift 121 = .ok (.lload 10, 2) := by decide +kernel
theorem dX12_drift_123 : decode cX12_drift 123 = .ok (.lconst 0, 1) := by decide +kernel
theorem dX12_drift_124 : decode cX12_drift 124 = .ok (.lcmp, 1) := by decide +kernel
theorem dX12_drift_125 : decode cX12_drift 125 = .ok (.ifCond .lt 15, 3) := by decide +kernel
theorem dX12_drift_128 : decode cX12_drift 128 = .ok (.lload 10, 2) := by decide +kernel
theorem dX12_drift_130 : decode cX12_drift 130 = .ok (.ldc2_w 129, 3) := by decide +kernel
theorem dX12_drift_133 : decode cX12_drift 133 = .ok (.lload 8, 2) := by decide +kernel
theorem dX12_drift_135 : decode cX12_drift 135 = .ok (.lmul, 1) := by decide +kernel
theorem dX12_drift_136 : decode cX12_drift 136 = .ok (.lcmp, 1) := by decide +kernel
theorem dX12_drift_137 : decode cX12_drift 137 = .ok (.ifCond .le 11, 3) := by decide +kernel
theorem dX12_drift_140 : decode cX12_drift 140 = .ok (.aload_n 0, 1) := by decide +kernel
theorem dX12_drift_141 : decode cX12_drift 141 = .ok (.ldc2_w 104, 3) := by decide +kernel
theorem dX12_drift_144 : decode cX12_drift 144 = .ok (.invokevirtual 93, 3) := by decide +kernel
theorem dX12_drift_147 : decode cX12_drift 147 = .ok (.lreturn, 1) := by decide +kernel
theorem dX12_drift_148 : decode cX12_drift 148 = .ok (.lconst 0, 1) := by decide +kernel
theorem dX12_drift_149 : decode cX12_drift 149 = .ok (.lstore 12, 2) := by decide +kernel
theorem dX12_drift_151 : decode cX12_drift 151 = .ok (.iconst 0, 1) := by decide +kernel
theorem dX12_drift_152 : decode cX12_drift 152 = .ok (.istore 14, 2) := by decide +kernel
theorem dX12_drift_154 : decode cX12_drift 154 = .ok (.iload 14, 2) := by decide +kernel
theorem dX12_drift_156 : decode cX12_drift 156 = .ok (.bipush 10, 2) := by decide +kernel
theorem dX12_drift_158 : decode cX12_drift 158 = .ok (.if_icmp .ge 66, 3) := by decide +kernel
theorem dX12_drift_161 : decode cX12_drift 161 = .ok (.ldc2_w 211, 3) := by decide +kernel
theorem dX12_drift_164 : decode cX12_drift 164 = .ok (.lload 8, 2) := by decide +kernel
theorem dX12_drift_166 : decode cX12_drift 166 = .ok (.lmul, 1) := by decide +kernel
theorem dX12_drift_167 : decode cX12_drift 167 = .ok (.lconst 0, 1) := by decide +kernel
theorem dX12_drift_168 : decode cX12_drift 168 = .ok (.lload 10, 2) := by decide +kernel
theorem dX12_drift_170 : decode cX12_drift 170 = .ok (.ldc2_w 211, 3) := by decide +kernel
theorem dX12_drift_173 : decode cX12_drift 173 = .ok (.iload 14, 2) := by decide +kernel
theorem dX12_drift_175 : decode cX12_drift 175 = .ok (.i2l, 1) := by decide +kernel
theorem dX12_drift_176 : decode cX12_drift 176 = .ok (.lmul, 1) := by decide +kernel
theorem dX12_drift_177 : decode cX12_drift 177 = .ok (.lload 8, 2) := by decide +kernel
theorem dX12_drift_179 : decode cX12_drift 179 = .ok (.lmul, 1) := by decide +kernel
theorem dX12_drift_180 : decode cX12_drift 180 = .ok (.lsub, 1) := by decide +kernel
theorem dX12_drift_181 : decode cX12_drift 181 = .ok (.invokestatic 213, 3) := by decide +kernel
theorem dX12_drift_184 : decode cX12_drift 184 = .ok (.invokestatic 216, 3) := by decide +kernel
theorem dX12_drift_187 : decode cX12_drift 187 = .ok (.lstore 15, 2) := by decide +kernel
theorem dX12_drift_189 : decode cX12_drift 189 = .ok (.lload 12, 2) := by decide +kernel
theorem dX12_drift_191 : decode cX12_drift 191 = .ok (.lload 15, 2) := by decide +kernel
theorem dX12_drift_193 : decode cX12_drift 193 = .ok (.aload_n 0, 1) := by decide +kernel
theorem dX12_drift_194 : decode cX12_drift 194 = .ok (.getfield 41, 3) := by decide +kernel
theorem dX12_drift_197 : decode cX12_drift 197 = .ok (.iconst 2, 1) := by decide +kernel
theorem dX12_drift_198 : decode cX12_drift 198 = .ok (.iload 14, 2) := by decide +kernel
theorem dX12_drift_200 : decode cX12_drift 200 = .ok (.imul, 1) := by decide +kernel
theorem dX12_drift_201 : decode cX12_drift 201 = .ok (.iload 4, 2) := by decide +kernel
theorem dX12_drift_203 : decode cX12_drift 203 = .ok (.ifCond .eq 7, 3) := by decide +kernel
theorem dX12_drift_206 : decode cX12_drift 206 = .ok (.iconst 1, 1) := by decide +kernel
theorem dX12_drift_207 : decode cX12_drift 207 = .ok (.goto 4, 3) := by decide +kernel
theorem dX12_drift_210 : decode cX12_drift 210 = .ok (.iconst 0, 1) := by decide +kernel
theorem dX12_drift_211 : decode cX12_drift 211 = .ok (.iadd, 1) := by decide +kernel
theorem dX12_drift_212 : decode cX12_drift 212 = .ok (.iaload, 1) := by decide +kernel
theorem dX12_drift_213 : decode cX12_drift 213 = .ok (.i2l, 1) := by decide +kernel
theorem dX12_drift_214 : decode cX12_drift 214 = .ok (.lmul, 1) := by decide +kernel
theorem dX12_drift_215 : decode cX12_drift 215 = .ok (.ladd, 1) := by decide +kernel
theorem dX12_drift_216 : decode cX12_drift 216 = .ok (.lstore 12, 2) := by decide +kernel
theorem dX12_drift_218 : decode cX12_drift 218 = .ok (.iinc 14 1, 3) := by decide +kernel
theorem dX12_drift_221 : decode cX12_drift 221 = .ok (.goto (-67), 3) := by decide +kernel
theorem dX12_drift_224 : decode cX12_drift 224 = .ok (.lload 12, 2) := by decide +kernel
theorem dX12_drift_226 : decode cX12_drift 226 = .ok (.lload 8, 2) := by decide +kernel
theorem dX12_drift_228 : decode cX12_drift 228 = .ok (.iload 5, 2) := by decide +kernel
theorem dX12_drift_230 : decode cX12_drift 230 = .ok (.invokestatic 156, 3) := by decide +kernel
theorem dX12_drift_233 : decode cX12_drift 233 = .ok (.lreturn, 1) := by decide +kernel
set_option maxRecDepth 20000 in
theorem ggX12_firstPlane_X12_hasPlane : GoodIn wsX12_firstPlane wsX12_hasPlane := goodIn_r _ [6, 7, 8, 9, 5, 10, 11, 12, 13, 14, 15, 16, 17, 18, 19, 20, 21, 22, 23, 24, 25, 26, 27, 28, 29, 30, 31, 32, 33, 34, 35, 36, 37, 38, 39, 40, 41, 42] (by decide +kernel) (by decide +kernel)
set_option maxRecDepth 20000 in
theorem gX12_firstPlane_X12_hasPlane : GoodIn wsX12_firstPlane (wsV RX12 185 RX12 yX12_hasPlane wsX12_hasPlane) := goodIn_app (goodIn_of _ (by decide +kernel)) ggX12_firstPlane_X12_hasPlane
theorem dX12_firstPlane_0 : decode cX12_firstPlane 0 = .ok (.iconst 0, 1) := by decide +kernel
theorem dX12_firstPlane_1 : decode cX12_firstPlane 1 = .ok (.istore_n 2, 1) := by decide +kernel
theorem dX12_firstPlane_2 : decode cX12_firstPlane 2 = .ok (.iload_n 2, 1) := by decide +kernel
theorem dX12_firstPlane_3 : decode cX12_firstPlane 3 = .ok (.aload_n 0, 1) := by decide +kernel
theorem dX12_firstPlane_4 : decode cX12_firstPlane 4 = .ok (.getfield 29, 3) := by decide +kernel
theorem dX12_firstPlane_7 : decode cX12_firstPlane 7 = .ok (.iload_n 1, 1) := by decide +kernel
theorem dX12_firstPlane_8 : decode cX12_firstPlane 8 = .ok (.iaload, 1) := by decide +kernel
theorem dX12_firstPlane_9 : decode cX12_firstPlane 9 = .ok (.if_icmp .ge 27, 3) := by decide +kernel
theorem dX12_firstPlane_12 : decode cX12_firstPlane 12 = .ok (.aload_n 0, 1) := by decide +kernel
theorem dX12_firstPlane_13 : decode cX12_firstPlane 13 = .ok (.iconst 4, 1) := by decide +kernel
theorem dX12_firstPlane_14 : decode cX12_firstPlane 14 = .ok (.iload_n 1, 1) := by decide +kernel
theorem dX12_firstPlane_15 : decode cX12_firstPlane 15 = .ok (.imul, 1) := by decide +kernel
theorem dX12_firstPlane_16 : decode cX12_firstPlane 16 = .ok (.iload_n 2, 1) := by decide +kernel
theorem dX12_firstPlane_17 : decode cX12_firstPlane 17 = .ok (.iadd, 1) := by decide +kernel
theorem dX12_firstPlane_18 : decode cX12_firstPlane 18 = .ok (.invokevirtual 185, 3) := by decide +kernel
theorem dX12_firstPlane_21 : decode cX12_firstPlane 21 = .ok (.ifCond .eq 9, 3) := by decide +kernel
theorem dX12_firstPlane_24 : decode cX12_firstPlane 24 = .ok (.iconst 4, 1) := by decide +kernel
theorem dX12_firstPlane_25 : decode cX12_firstPlane 25 = .ok (.iload_n 1, 1) := by decide +kernel
theorem dX12_firstPlane_26 : decode cX12_firstPlane 26 = .ok (.imul, 1) := by decide +kernel
theorem dX12_firstPlane_27 : decode cX12_firstPlane 27 = .ok (.iload_n 2, 1) := by decide +kernel
theorem dX12_firstPlane_28 : decode cX12_firstPlane 28 = .ok (.iadd, 1) := by decide +kernel
theorem dX12_firstPlane_29 : decode cX12_firstPlane 29 = .ok (.ireturn, 1) := by decide +kernel
theorem dX12_firstPlane_30 : decode cX12_firstPlane 30 = .ok (.iinc 2 1, 3) := by decide +kernel
theorem dX12_firstPlane_33 : decode cX12_firstPlane 33 = .ok (.goto (-31), 3) := by decide +kernel
theorem dX12_firstPlane_36 : decode cX12_firstPlane 36 = .ok (.iconst (-1), 1) := by decide +kernel
theorem dX12_firstPlane_37 : decode cX12_firstPlane 37 = .ok (.ireturn, 1) := by decide +kernel
set_option maxRecDepth 20000 in
theorem ggX12_hasRadiant_X12_firstPlane : GoodIn wsX12_hasRadiant wsX12_firstPlane := goodIn_r _ [5, 6, 7, 8, 9, 4, 10, 11, 12, 13, 14, 15, 16, 17, 18, 19, 28, 29, 30, 31, 32, 33, 34, 35, 36, 37, 38, 39, 40, 41, 42, 43, 44, 45, 46, 47, 48, 49, 50, 51, 52, 53, 54] (by decide +kernel) (by decide +kernel)
set_option maxRecDepth 20000 in
theorem gX12_hasRadiant_X12_firstPlane : GoodIn wsX12_hasRadiant (wsV RX12 219 RX12 yX12_firstPlane wsX12_firstPlane) := goodIn_app (goodIn_of _ (by decide +kernel)) ggX12_hasRadiant_X12_firstPlane
set_option maxRecDepth 20000 in
theorem ggX12_hasRadiant_X12_hasFall : GoodIn wsX12_hasRadiant wsX12_hasFall := goodIn_r _ [23, 24, 25, 26, 4, 27, 11, 12, 13, 14, 15, 16, 17, 18, 19, 28, 29, 30, 31, 32, 33, 34, 35, 36, 37, 38, 39, 40, 41, 42, 43, 44, 45, 46, 47, 48, 49, 50, 51, 52, 53, 54] (by decide +kernel) (by decide +kernel)
set_option maxRecDepth 20000 in
theorem gX12_hasRadiant_X12_hasFall : GoodIn wsX12_hasRadiant (wsV RX12 201 RX12 yX12_hasFall wsX12_hasFall) := goodIn_app (goodIn_of _ (by decide +kernel)) ggX12_hasRadiant_X12_hasFall
theorem dX12_hasRadiant_0 : decode cX12_hasRadiant 0 = .ok (.aload_n 0, 1) := by decide +kernel
theorem dX12_hasRadiant_1 : decode cX12_hasRadiant 1 = .ok (.iload_n 1, 1) := by decide +kernel
theorem dX12_hasRadiant_2 : decode cX12_hasRadiant 2 = .ok (.invokevirtual 219, 3) := by decide +kernel
theorem dX12_hasRadiant_5 : decode cX12_hasRadiant 5 = .ok (.ifCond .lt 32, 3) := by decide +kernel
theorem dX12_hasRadiant_8 : decode cX12_hasRadiant 8 = .ok (.aload_n 0, 1) := by decide +kernel
theorem dX12_hasRadiant_9 : decode cX12_hasRadiant 9 = .ok (.iload_n 2, 1) := by decide +kernel
theorem dX12_hasRadiant_10 : decode cX12_hasRadiant 10 = .ok (.invokevirtual 219, 3) := by decide +kernel
theorem dX12_hasRadiant_13 : decode cX12_hasRadiant 13 = .ok (.ifCond .lt 24, 3) := by decide +kernel
theorem dX12_hasRadiant_16 : decode cX12_hasRadiant 16 = .ok (.aload_n 0, 1) := by decide +kernel
theorem dX12_hasRadiant_17 : decode cX12_hasRadiant 17 = .ok (.aload_n 0, 1) := by decide +kernel
theorem dX12_hasRadiant_18 : decode cX12_hasRadiant 18 = .ok (.iload_n 1, 1) := by decide +kernel
theorem dX12_hasRadiant_19 : decode cX12_hasRadiant 19 = .ok (.invokevirtual 219, 3) := by decide +kernel
theorem dX12_hasRadiant_22 : decode cX12_hasRadiant 22 = .ok (.aload_n 0, 1) := by decide +kernel
theorem dX12_hasRadiant_23 : decode cX12_hasRadiant 23 = .ok (.iload_n 2, 1) := by decide +kernel
theorem dX12_hasRadiant_24 : decode cX12_hasRadiant 24 = .ok (.invokevirtual 219, 3) := by decide +kernel
theorem dX12_hasRadiant_27 : decode cX12_hasRadiant 27 = .ok (.invokevirtual 201, 3) := by decide +kernel
theorem dX12_hasRadiant_30 : decode cX12_hasRadiant 30 = .ok (.ifCond .eq 7, 3) := by decide +kernel
theorem dX12_hasRadiant_33 : decode cX12_hasRadiant 33 = .ok (.iconst 1, 1) := by decide +kernel
theorem dX12_hasRadiant_34 : decode cX12_hasRadiant 34 = .ok (.goto 4, 3) := by decide +kernel
theorem dX12_hasRadiant_37 : decode cX12_hasRadiant 37 = .ok (.iconst 0, 1) := by decide +kernel
theorem dX12_hasRadiant_38 : decode cX12_hasRadiant 38 = .ok (.ireturn, 1) := by decide +kernel
set_option maxRecDepth 20000 in
theorem ggX12_radiant_X12_isMeteor : GoodIn wsX12_radiant wsX12_isMeteor := goodIn_r _ [6, 7, 8, 5, 9] (by decide +kernel) (by decide +kernel)
set_option maxRecDepth 20000 in
theorem gX12_radiant_X12_isMeteor : GoodIn wsX12_radiant (va_wsS RX12 160 yX12_isMeteor wsX12_isMeteor) := goodIn_app (goodIn_of _ (by decide +kernel)) ggX12_radiant_X12_isMeteor
set_option maxRecDepth 20000 in
theorem ggX12_radiant_X12_in : GoodIn wsX12_radiant wsX12_in := goodIn_r _ [9] (by decide +kernel) (by decide +kernel)
set_option maxRecDepth 20000 in
theorem gX12_radiant_X12_in : GoodIn wsX12_radiant (va_wsS RX12 87 yX12_in wsX12_in) := goodIn_app (goodIn_of _ (by decide +kernel)) ggX12_radiant_X12_in
set_option maxRecDepth 20000 in
theorem ggX12_radiant_X12_finding : GoodIn wsX12_radiant wsX12_finding := goodIn_r _ [13, 14, 15, 46, 47, 48, 49, 50, 51, 52, 53, 54, 55, 56, 57, 58, 59, 60, 61, 62, 63, 64, 65, 66, 67, 68, 69, 70, 71, 72] (by decide +kernel) (by decide +kernel)
set_option maxRecDepth 20000 in
theorem gX12_radiant_X12_finding : GoodIn wsX12_radiant (wsV RX12 93 RX12 yX12_finding wsX12_finding) := goodIn_app (goodIn_of _ (by decide +kernel)) ggX12_radiant_X12_finding
set_option maxRecDepth 20000 in
theorem ggX12_radiant_X12_hasRadiant : GoodIn wsX12_radiant wsX12_hasRadiant := goodIn_r _ [19, 20, 21, 22, 5, 23, 24, 25, 26, 27, 28, 29, 30, 31, 32, 33, 34, 35, 36, 37, 38, 39, 40, 41, 42, 43, 44, 45, 46, 47, 48, 49, 50, 51, 52, 53, 54, 55, 56, 57, 58, 59, 60, 61, 62, 63, 64, 65, 66, 67, 68, 69, 70, 71, 72] (by decide +kernel) (by decide +kernel)
set_option maxRecDepth 20000 in
theorem gX12_radiant_X12_hasRadiant : GoodIn wsX12_radiant (wsV RX12 222 RX12 yX12_hasRadiant wsX12_hasRadiant) := goodIn_app (goodIn_of _ (by decide +kernel)) ggX12_radiant_X12_hasRadiant
set_option maxRecDepth 20000 in
theorem ggX12_radiant_X12_firstPlane : GoodIn wsX12_radiant wsX12_firstPlane := goodIn_r _ [23, 24, 25, 26, 27, 5, 28, 29, 30, 31, 32, 33, 34, 35, 36, 37, 46, 47, 48, 49, 50, 51, 52, 53, 54, 55, 56, 57, 58, 59, 60, 61, 62, 63, 64, 65, 66, 67, 68, 69, 70, 71, 72] (by decide +kernel) (by decide +kernel)
set_option maxRecDepth 20000 in
theorem gX12_radiant_X12_firstPlane : GoodIn wsX12_radiant (wsV RX12 219 RX12 yX12_firstPlane wsX12_firstPlane) := goodIn_app (goodIn_of _ (by decide +kernel)) ggX12_radiant_X12_firstPlane
set_option maxRecDepth 20000 in
theorem ggX12_radiant_X12_fallOf : GoodIn wsX12_radiant wsX12_fallOf := goodIn_r _ [45, 29, 30, 31, 5, 32, 33, 34, 35, 36, 37, 46, 47, 48, 49, 50, 51, 52, 53, 54, 55, 56, 57, 58, 59, 60, 61, 62, 63, 64, 65, 66, 67, 68, 69, 70, 71, 72] (by decide +kernel) (by decide +kernel)
set_option maxRecDepth 20000 in
theorem gX12_radiant_X12_fallOf : GoodIn wsX12_radiant (wsV RX12 198 RX12 yX12_fallOf wsX12_fallOf) := goodIn_app (goodIn_of _ (by decide +kernel)) ggX12_radiant_X12_fallOf
theorem dX12_radiant_0 : decode cX12_radiant 0 = .ok (.iload_n 1, 1) := by decide +kernel
theorem dX12_radiant_1 : decode cX12_radiant 1 = .ok (.invokestatic 160, 3) := by decide +kernel
theorem dX12_radiant_4 : decode cX12_radiant 4 = .ok (.ifCond .eq 24, 3) := by decide +kernel
theorem dX12_radiant_7 : decode cX12_radiant 7 = .ok (.iload_n 2, 1) := by decide +kernel
theorem dX12_radiant_8 : decode cX12_radiant 8 = .ok (.invokestatic 160, 3) := by decide +kernel
theorem dX12_radiant_11 : decode cX12_radiant 11 = .ok (.ifCond .eq 17, 3) := by decide +kernel
theorem dX12_radiant_14 : decode cX12_radiant 14 = .ok (.iload_n 1, 1) := by decide +kernel
theorem dX12_radiant_15 : decode cX12_radiant 15 = .ok (.iload_n 2, 1) := by decide +kernel
theorem dX12_radiant_16 : decode cX12_radiant 16 = .ok (.if_icmp .eq 12, 3) := by decide +kernel
theorem dX12_radiant_19 : decode cX12_radiant 19 = .ok (.iload_n 3, 1) := by decide +kernel
theorem dX12_radiant_20 : decode cX12_radiant 20 = .ok (.iconst 0, 1) := by decide +kernel
theorem dX12_radiant_21 : decode cX12_radiant 21 = .ok (.iconst 2, 1) := by decide +kernel
theorem dX12_radiant_22 : decode cX12_radiant 22 = .ok (.invokestatic 87, 3) := by decide +kernel
theorem dX12_radiant_25 : decode cX12_radiant 25 = .ok (.ifCond .ne 11, 3) := by decide +kernel
theorem dX12_radiant_28 : decode cX12_radiant 28 = .ok (.aload_n 0, 1) := by decide +kernel
theorem dX12_radiant_29 : decode cX12_radiant 29 = .ok (.ldc2_w 91, 3) := by decide +kernel
theorem dX12_radiant_32 : decode cX12_radiant 32 = .ok (.invokevirtual 93, 3) := by decide +kernel
theorem dX12_radiant_35 : decode cX12_radiant 35 = .ok (.lreturn, 1) := by decide +kernel
theorem dX12_radiant_36 : decode cX12_radiant 36 = .ok (.aload_n 0, 1) := by decide +kernel
theorem dX12_radiant_37 : decode cX12_radiant 37 = .ok (.iload_n 1, 1) := by decide +kernel
theorem dX12_radiant_38 : decode cX12_radiant 38 = .ok (.iload_n 2, 1) := by decide +kernel
theorem dX12_radiant_39 : decode cX12_radiant 39 = .ok (.invokevirtual 222, 3) := by decide +kernel
theorem dX12_radiant_42 : decode cX12_radiant 42 = .ok (.ifCond .eq 21, 3) := by decide +kernel
theorem dX12_radiant_45 : decode cX12_radiant 45 = .ok (.aload_n 0, 1) := by decide +kernel
theorem dX12_radiant_46 : decode cX12_radiant 46 = .ok (.aload_n 0, 1) := by decide +kernel
theorem dX12_radiant_47 : decode cX12_radiant 47 = .ok (.iload_n 1, 1) := by decide +kernel
theorem dX12_radiant_48 : decode cX12_radiant 48 = .ok (.invokevirtual 219, 3) := by decide +kernel
theorem dX12_radiant_51 : decode cX12_radiant 51 = .ok (.aload_n 0, 1) := by decide +kernel
theorem dX12_radiant_52 : decode cX12_radiant 52 = .ok (.iload_n 2, 1) := by decide +kernel
theorem dX12_radiant_53 : decode cX12_radiant 53 = .ok (.invokevirtual 219, 3) := by decide +kernel
theorem dX12_radiant_56 : decode cX12_radiant 56 = .ok (.iload_n 3, 1) := by decide +kernel
theorem dX12_radiant_57 : decode cX12_radiant 57 = .ok (.invokevirtual 198, 3) := by decide +kernel
theorem dX12_radiant_60 : decode cX12_radiant 60 = .ok (.goto 10, 3) := by decide +kernel
theorem dX12_radiant_63 : decode cX12_radiant 63 = .ok (.aload_n 0, 1) := by decide +kernel
theorem dX12_radiant_64 : decode cX12_radiant 64 = .ok (.ldc2_w 106, 3) := by decide +kernel
theorem dX12_radiant_67 : decode cX12_radiant 67 = .ok (.invokevirtual 93, 3) := by decide +kernel
theorem dX12_radiant_70 : decode cX12_radiant 70 = .ok (.lreturn, 1) := by decide +kernel
set_option maxRecDepth 20000 in
theorem ggX12_isOf_X12_plane : GoodIn wsX12_isOf wsX12_plane := goodIn_r _ [6, 7, 8, 9, 5, 10, 11, 24, 25, 26, 27, 28, 29, 30, 31, 32, 33, 34, 35, 36, 37, 38, 39, 40, 41, 42, 43, 44, 45, 46, 47, 48, 49, 50] (by decide +kernel) (by decide +kernel)
set_option maxRecDepth 20000 in
theorem gX12_isOf_X12_plane : GoodIn wsX12_isOf (wsV RX12 176 RX12 yX12_plane wsX12_plane) := goodIn_app (goodIn_of _ (by decide +kernel)) ggX12_isOf_X12_plane
set_option maxRecDepth 20000 in
theorem ggX12_isOf_X12_fallOf : GoodIn wsX12_isOf wsX12_fallOf := goodIn_r _ [15, 2, 3, 4, 5, 6, 7, 8, 9, 10, 11, 24, 25, 26, 27, 28, 29, 30, 31, 32, 33, 34, 35, 36, 37, 38, 39, 40, 41, 42, 43, 44, 45, 46, 47, 48, 49, 50] (by decide +kernel) (by decide +kernel)
set_option maxRecDepth 20000 in
theorem gX12_isOf_X12_fallOf : GoodIn wsX12_isOf (wsV RX12 198 RX12 yX12_fallOf wsX12_fallOf) := goodIn_app (goodIn_of _ (by decide +kernel)) ggX12_isOf_X12_fallOf
set_option maxRecDepth 20000 in
theorem ggX12_isOf_X12_firstPlane : GoodIn wsX12_isOf wsX12_firstPlane := goodIn_r _ [19, 1, 20, 21, 22, 5, 23, 2, 3, 4, 6, 7, 8, 9, 10, 11, 24, 25, 26, 27, 28, 29, 30, 31, 32, 33, 34, 35, 36, 37, 38, 39, 40, 41, 42, 43, 44, 45, 46, 47, 48, 49, 50] (by decide +kernel) (by decide +kernel)
set_option maxRecDepth 20000 in
theorem gX12_isOf_X12_firstPlane : GoodIn wsX12_isOf (wsV RX12 219 RX12 yX12_firstPlane wsX12_firstPlane) := goodIn_app (goodIn_of _ (by decide +kernel)) ggX12_isOf_X12_firstPlane
theorem dX12_isOf_0 : decode cX12_isOf 0 = .ok (.iconst 0, 1) := by decide +kernel
theorem dX12_isOf_1 : decode cX12_isOf 1 = .ok (.istore 4, 2) := by decide +kernel
theorem dX12_isOf_3 : decode cX12_isOf 3 = .ok (.iload 4, 2) := by decide +kernel
theorem dX12_isOf_5 : decode cX12_isOf 5 = .ok (.aload_n 0, 1) := by decide +kernel
theorem dX12_isOf_6 : decode cX12_isOf 6 = .ok (.getfield 29, 3) := by decide +kernel
theorem dX12_isOf_9 : decode cX12_isOf 9 = .ok (.iload_n 1, 1) := by decide +kernel
theorem dX12_isOf_10 : decode cX12_isOf 10 = .ok (.iaload, 1) := by decide +kernel
theorem dX12_isOf_11 : decode cX12_isOf 11 = .ok (.if_icmp .ge 75, 3) := by decide +kernel
theorem dX12_isOf_14 : decode cX12_isOf 14 = .ok (.iconst 4, 1) := by decide +kernel
theorem dX12_isOf_15 : decode cX12_isOf 15 = .ok (.iload_n 1, 1) := by decide +kernel
theorem dX12_isOf_16 : decode cX12_isOf 16 = .ok (.imul, 1) := by decide +kernel
theorem dX12_isOf_17 : decode cX12_isOf 17 = .ok (.iload 4, 2) := by decide +kernel
theorem dX12_isOf_19 : decode cX12_isOf 19 = .ok (.iadd, 1) := by decide +kernel
theorem dX12_isOf_20 : decode cX12_isOf 20 = .ok (.istore 5, 2) := by decide +kernel
theorem dX12_isOf_22 : decode cX12_isOf 22 = .ok (.aload_n 0, 1) := by decide +kernel
theorem dX12_isOf_23 : decode cX12_isOf 23 = .ok (.iload 5, 2) := by decide +kernel
theorem dX12_isOf_25 : decode cX12_isOf 25 = .ok (.iconst 0, 1) := by decide +kernel
theorem dX12_isOf_26 : decode cX12_isOf 26 = .ok (.invokevirtual 176, 3) := by decide +kernel
theorem dX12_isOf_29 : decode cX12_isOf 29 = .ok (.aload_n 0, 1) := by decide +kernel
theorem dX12_isOf_30 : decode cX12_isOf 30 = .ok (.iload_n 2, 1) := by decide +kernel
theorem dX12_isOf_31 : decode cX12_isOf 31 = .ok (.iload_n 3, 1) := by decide +kernel
theorem dX12_isOf_32 : decode cX12_isOf 32 = .ok (.iconst 0, 1) := by decide +kernel
theorem dX12_isOf_33 : decode cX12_isOf 33 = .ok (.invokevirtual 198, 3) := by decide +kernel
theorem dX12_isOf_36 : decode cX12_isOf 36 = .ok (.lmul, 1) := by decide +kernel
theorem dX12_isOf_37 : decode cX12_isOf 37 = .ok (.aload_n 0, 1) := by decide +kernel
theorem dX12_isOf_38 : decode cX12_isOf 38 = .ok (.iload 5, 2) := by decide +kernel
theorem dX12_isOf_40 : decode cX12_isOf 40 = .ok (.iconst 1, 1) := by decide +kernel
theorem dX12_isOf_41 : decode cX12_isOf 41 = .ok (.invokevirtual 176, 3) := by decide +kernel
theorem dX12_isOf_44 : decode cX12_isOf 44 = .ok (.aload_n 0, 1) := by decide +kernel
theorem dX12_isOf_45 : decode cX12_isOf 45 = .ok (.iload_n 2, 1) := by decide +kernel
theorem dX12_isOf_46 : decode cX12_isOf 46 = .ok (.iload_n 3, 1) := by decide +kernel
theorem dX12_isOf_47 : decode cX12_isOf 47 = .ok (.iconst 1, 1) := by decide +kernel
theorem dX12_isOf_48 : decode cX12_isOf 48 = .ok (.invokevirtual 198, 3) := by decide +kernel
theorem dX12_isOf_51 : decode cX12_isOf 51 = .ok (.lmul, 1) := by decide +kernel
theorem dX12_isOf_52 : decode cX12_isOf 52 = .ok (.ladd, 1) := by decide +kernel
theorem dX12_isOf_53 : decode cX12_isOf 53 = .ok (.aload_n 0, 1) := by decide +kernel
theorem dX12_isOf_54 : decode cX12_isOf 54 = .ok (.iload 5, 2) := by decide +kernel
theorem dX12_isOf_56 : decode cX12_isOf 56 = .ok (.iconst 2, 1) := by decide +kernel
theorem dX12_isOf_57 : decode cX12_isOf 57 = .ok (.invokevirtual 176, 3) := by decide +kernel
theorem dX12_isOf_60 : decode cX12_isOf 60 = .ok (.aload_n 0, 1) := by decide +kernel
theorem dX12_isOf_61 : decode cX12_isOf 61 = .ok (.iload_n 2, 1) := by decide +kernel
theorem dX12_isOf_62 : decode cX12_isOf 62 = .ok (.iload_n 3, 1) := by decide +kernel
theorem dX12_isOf_63 : decode cX12_isOf 63 = .ok (.iconst 2, 1) := by decide +kernel
theorem dX12_isOf_64 : decode cX12_isOf 64 = .ok (.invokevirtual 198, 3) := by decide +kernel
theorem dX12_isOf_67 : decode cX12_isOf 67 = .ok (.lmul, 1) := by decide +kernel
theorem dX12_isOf_68 : decode cX12_isOf 68 = .ok (.ladd, 1) := by decide +kernel
theorem dX12_isOf_69 : decode cX12_isOf 69 = .ok (.lstore 6, 2) := by decide +kernel
theorem dX12_isOf_71 : decode cX12_isOf 71 = .ok (.lload 6, 2) := by decide +kernel
theorem dX12_isOf_73 : decode cX12_isOf 73 = .ok (.lconst 0, 1) := by decide +kernel
theorem dX12_isOf_74 : decode cX12_isOf 74 = .ok (.lcmp, 1) := by decide +kernel
theorem dX12_isOf_75 : decode cX12_isOf 75 = .ok (.ifCond .eq 5, 3) := by decide +kernel
theorem dX12_isOf_78 : decode cX12_isOf 78 = .ok (.iconst 0, 1) := by decide +kernel
theorem dX12_isOf_79 : decode cX12_isOf 79 = .ok (.ireturn, 1) := by decide +kernel
theorem dX12_isOf_80 : decode cX12_isOf 80 = .ok (.iinc 4 1, 3) := by decide +kernel
theorem dX12_isOf_83 : decode cX12_isOf 83 = .ok (.goto (-80), 3) := by decide +kernel
theorem dX12_isOf_86 : decode cX12_isOf 86 = .ok (.aload_n 0, 1) := by decide +kernel
theorem dX12_isOf_87 : decode cX12_isOf 87 = .ok (.iload_n 1, 1) := by decide +kernel
theorem dX12_isOf_88 : decode cX12_isOf 88 = .ok (.invokevirtual 219, 3) := by decide +kernel
theorem dX12_isOf_91 : decode cX12_isOf 91 = .ok (.ifCond .lt 7, 3) := by decide +kernel
theorem dX12_isOf_94 : decode cX12_isOf 94 = .ok (.iconst 1, 1) := by decide +kernel
theorem dX12_isOf_95 : decode cX12_isOf 95 = .ok (.goto 4, 3) := by decide +kernel
theorem dX12_isOf_98 : decode cX12_isOf 98 = .ok (.iconst 0, 1) := by decide +kernel
theorem dX12_isOf_99 : decode cX12_isOf 99 = .ok (.ireturn, 1) := by decide +kernel
set_option maxRecDepth 20000 in
theorem ggX12_shower_X12_isMeteor : GoodIn wsX12_shower wsX12_isMeteor := goodIn_r _ [6, 7, 8, 5, 9] (by decide +kernel) (by decide +kernel)
set_option maxRecDepth 20000 in
theorem gX12_shower_X12_isMeteor : GoodIn wsX12_shower (va_wsS RX12 160 yX12_isMeteor wsX12_isMeteor) := goodIn_app (goodIn_of _ (by decide +kernel)) ggX12_shower_X12_isMeteor
set_option maxRecDepth 20000 in
theorem ggX12_shower_X12_finding : GoodIn wsX12_shower wsX12_finding := goodIn_r _ [13, 14, 15, 50, 51, 52, 53, 54, 55, 56, 57, 58, 59, 60, 61, 62, 63, 64, 65, 66, 67, 68, 69, 70, 71, 72, 73, 74, 75, 76] (by decide +kernel) (by decide +kernel)
set_option maxRecDepth 20000 in
theorem gX12_shower_X12_finding : GoodIn wsX12_shower (wsV RX12 93 RX12 yX12_finding wsX12_finding) := goodIn_app (goodIn_of _ (by decide +kernel)) ggX12_shower_X12_finding
set_option maxRecDepth 20000 in
theorem ggX12_shower_X12_hasRadiant : GoodIn wsX12_shower wsX12_hasRadiant := goodIn_r _ [19, 20, 21, 22, 5, 23, 24, 25, 26, 27, 28, 29, 30, 31, 32, 33, 34, 35, 36, 37, 38, 39, 40, 41, 42, 43, 44, 45, 50, 51, 52, 53, 54, 55, 56, 57, 58, 59, 60, 61, 62, 63, 64, 65, 66, 67, 68, 69, 70, 71, 72, 73, 74, 75, 76] (by decide +kernel) (by decide +kernel)
set_option maxRecDepth 20000 in
theorem gX12_shower_X12_hasRadiant : GoodIn wsX12_shower (wsV RX12 222 RX12 yX12_hasRadiant wsX12_hasRadiant) := goodIn_app (goodIn_of _ (by decide +kernel)) ggX12_shower_X12_hasRadiant
set_option maxRecDepth 20000 in
theorem ggX12_shower_X12_firstPlane : GoodIn wsX12_shower wsX12_firstPlane := goodIn_r _ [23, 24, 25, 26, 27, 5, 28, 29, 30, 31, 32, 33, 34, 35, 36, 37, 50, 51, 52, 53, 54, 55, 56, 57, 58, 59, 60, 61, 62, 63, 64, 65, 66, 67, 68, 69, 70, 71, 72, 73, 74, 75, 76] (by decide +kernel) (by decide +kernel)
set_option maxRecDepth 20000 in
theorem gX12_shower_X12_firstPlane : GoodIn wsX12_shower (wsV RX12 219 RX12 yX12_firstPlane wsX12_firstPlane) := goodIn_app (goodIn_of _ (by decide +kernel)) ggX12_shower_X12_firstPlane
set_option maxRecDepth 20000 in
theorem ggX12_shower_X12_isOf : GoodIn wsX12_shower wsX12_isOf := goodIn_r _ [49, 24, 29, 30, 31, 5, 32, 33, 34, 35, 36, 37, 42, 43, 44, 45, 20, 21, 22, 23, 25, 26, 27, 28, 50, 51, 52, 53, 54, 55, 56, 57, 58, 59, 60, 61, 62, 63, 64, 65, 66, 67, 68, 69, 70, 71, 72, 73, 74, 75, 76] (by decide +kernel) (by decide +kernel)
set_option maxRecDepth 20000 in
theorem gX12_shower_X12_isOf : GoodIn wsX12_shower (wsV RX12 225 RX12 yX12_isOf wsX12_isOf) := goodIn_app (goodIn_of _ (by decide +kernel)) ggX12_shower_X12_isOf
theorem dX12_shower_0 : decode cX12_shower 0 = .ok (.iload_n 1, 1) := by decide +kernel
theorem dX12_shower_1 : decode cX12_shower 1 = .ok (.invokestatic 160, 3) := by decide +kernel
theorem dX12_shower_4 : decode cX12_shower 4 = .ok (.ifCond .eq 15, 3) := by decide +kernel
theorem dX12_shower_7 : decode cX12_shower 7 = .ok (.iload_n 2, 1) := by decide +kernel
theorem dX12_shower_8 : decode cX12_shower 8 = .ok (.invokestatic 160, 3) := by decide +kernel
theorem dX12_shower_11 : decode cX12_shower 11 = .ok (.ifCond .eq 8, 3) := by decide +kernel
theorem dX12_shower_14 : decode cX12_shower 14 = .ok (.iload_n 1, 1) := by decide +kernel
theorem dX12_shower_15 : decode cX12_shower 15 = .ok (.iload_n 2, 1) := by decide +kernel
theorem dX12_shower_16 : decode cX12_shower 16 = .ok (.if_icmp .ne 11, 3) := by decide +kernel
theorem dX12_shower_19 : decode cX12_shower 19 = .ok (.aload_n 0, 1) := by decide +kernel
theorem dX12_shower_20 : decode cX12_shower 20 = .ok (.ldc2_w 91, 3) := by decide +kernel
theorem dX12_shower_23 : decode cX12_shower 23 = .ok (.invokevirtual 93, 3) := by decide +kernel
theorem dX12_shower_26 : decode cX12_shower 26 = .ok (.lreturn, 1) := by decide +kernel
theorem dX12_shower_27 : decode cX12_shower 27 = .ok (.aload_n 0, 1) := by decide +kernel
theorem dX12_shower_28 : decode cX12_shower 28 = .ok (.iload_n 1, 1) := by decide +kernel
theorem dX12_shower_29 : decode cX12_shower 29 = .ok (.iload_n 2, 1) := by decide +kernel
theorem dX12_shower_30 : decode cX12_shower 30 = .ok (.invokevirtual 222, 3) := by decide +kernel
theorem dX12_shower_33 : decode cX12_shower 33 = .ok (.ifCond .ne 11, 3) := by decide +kernel
theorem dX12_shower_36 : decode cX12_shower 36 = .ok (.aload_n 0, 1) := by decide +kernel
theorem dX12_shower_37 : decode cX12_shower 37 = .ok (.ldc2_w 106, 3) := by decide +kernel
theorem dX12_shower_40 : decode cX12_shower 40 = .ok (.invokevirtual 93, 3) := by decide +kernel
theorem dX12_shower_43 : decode cX12_shower 43 = .ok (.lreturn, 1) := by decide +kernel
theorem dX12_shower_44 : decode cX12_shower 44 = .ok (.lconst 0, 1) := by decide +kernel
theorem dX12_shower_45 : decode cX12_shower 45 = .ok (.lstore_n 3, 1) := by decide +kernel
theorem dX12_shower_46 : decode cX12_shower 46 = .ok (.iconst 0, 1) := by decide +kernel
theorem dX12_shower_47 : decode cX12_shower 47 = .ok (.istore 5, 2) := by decide +kernel
theorem dX12_shower_49 : decode cX12_shower 49 = .ok (.iload 5, 2) := by decide +kernel
theorem dX12_shower_51 : decode cX12_shower 51 = .ok (.bipush 6, 2) := by decide +kernel
theorem dX12_shower_53 : decode cX12_shower 53 = .ok (.if_icmp .ge 39, 3) := by decide +kernel
theorem dX12_shower_56 : decode cX12_shower 56 = .ok (.lload_n 3, 1) := by decide +kernel
theorem dX12_shower_57 : decode cX12_shower 57 = .ok (.aload_n 0, 1) := by decide +kernel
theorem dX12_shower_58 : decode cX12_shower 58 = .ok (.iload 5, 2) := by decide +kernel
theorem dX12_shower_60 : decode cX12_shower 60 = .ok (.aload_n 0, 1) := by decide +kernel
theorem dX12_shower_61 : decode cX12_shower 61 = .ok (.iload_n 1, 1) := by decide +kernel
theorem dX12_shower_62 : decode cX12_shower 62 = .ok (.invokevirtual 219, 3) := by decide +kernel
theorem dX12_shower_65 : decode cX12_shower 65 = .ok (.aload_n 0, 1) := by decide +kernel
theorem dX12_shower_66 : decode cX12_shower 66 = .ok (.iload_n 2, 1) := by decide +kernel
theorem dX12_shower_67 : decode cX12_shower 67 = .ok (.invokevirtual 219, 3) := by decide +kernel
theorem dX12_shower_70 : decode cX12_shower 70 = .ok (.invokevirtual 225, 3) := by decide +kernel
theorem dX12_shower_73 : decode cX12_shower 73 = .ok (.ifCond .eq 10, 3) := by decide +kernel
theorem dX12_shower_76 : decode cX12_shower 76 = .ok (.lconst 1, 1) := by decide +kernel
theorem dX12_shower_77 : decode cX12_shower 77 = .ok (.iload 5, 2) := by decide +kernel
theorem dX12_shower_79 : decode cX12_shower 79 = .ok (.lshl, 1) := by decide +kernel
theorem dX12_shower_80 : decode cX12_shower 80 = .ok (.goto 4, 3) := by decide +kernel
theorem dX12_shower_83 : decode cX12_shower 83 = .ok (.lconst 0, 1) := by decide +kernel
theorem dX12_shower_84 : decode cX12_shower 84 = .ok (.lor, 1) := by decide +kernel
theorem dX12_shower_85 : decode cX12_shower 85 = .ok (.lstore_n 3, 1) := by decide +kernel
theorem dX12_shower_86 : decode cX12_shower 86 = .ok (.iinc 5 1, 3) := by decide +kernel
theorem dX12_shower_89 : decode cX12_shower 89 = .ok (.goto (-40), 3) := by decide +kernel
theorem dX12_shower_92 : decode cX12_shower 92 = .ok (.lload_n 3, 1) := by decide +kernel
theorem dX12_shower_93 : decode cX12_shower 93 = .ok (.lreturn, 1) := by decide +kernel
set_option maxRecDepth 20000 in
theorem ggX12_check_X12_findVotes : GoodIn wsX12_check wsX12_findVotes := goodIn_r _ [9, 10, 2, 11, 12, 13, 8, 14, 15, 16, 17, 18, 19, 20, 21, 22, 23, 24, 25, 26, 27, 28, 29, 30, 31, 32, 33, 34, 35, 36, 37, 38, 39, 40, 41, 42, 43, 44, 45, 46, 47, 48, 49, 50, 51, 52, 53, 54, 59, 60, 61, 62, 63, 64, 65, 66, 67, 68, 69, 70, 71, 72, 73, 74, 75, 76, 77, 78, 79, 80, 81, 82, 83, 84, 85] (by decide +kernel) (by decide +kernel)
set_option maxRecDepth 20000 in
theorem gX12_check_X12_findVotes : GoodIn wsX12_check (wsV RX12 141 RX12 yX12_findVotes wsX12_findVotes) := goodIn_app (goodIn_of _ (by decide +kernel)) ggX12_check_X12_findVotes
set_option maxRecDepth 20000 in
theorem ggX12_check_X12_matchOf : GoodIn wsX12_check wsX12_matchOf := goodIn_r _ [58, 16, 10, 2, 59, 60, 61, 62, 63, 64, 65, 66, 67, 68, 69, 70, 71, 72, 73, 74, 75, 76, 77, 78, 79, 80, 81, 82, 83, 84, 85] (by decide +kernel) (by decide +kernel)
set_option maxRecDepth 20000 in
theorem gX12_check_X12_matchOf : GoodIn wsX12_check (wsV RX12 144 RX12 yX12_matchOf wsX12_matchOf) := goodIn_app (goodIn_of _ (by decide +kernel)) ggX12_check_X12_matchOf
theorem dX12_check_0 : decode cX12_check 0 = .ok (.aload_n 0, 1) := by decide +kernel
theorem dX12_check_1 : decode cX12_check 1 = .ok (.getfield 167, 3) := by decide +kernel
theorem dX12_check_4 : decode cX12_check 4 = .ok (.istore_n 1, 1) := by decide +kernel
theorem dX12_check_5 : decode cX12_check 5 = .ok (.aload_n 0, 1) := by decide +kernel
theorem dX12_check_6 : decode cX12_check 6 = .ok (.iconst 0, 1) := by decide +kernel
theorem dX12_check_7 : decode cX12_check 7 = .ok (.putfield 167, 3) := by decide +kernel
theorem dX12_check_10 : decode cX12_check 10 = .ok (.aload_n 0, 1) := by decide +kernel
theorem dX12_check_11 : decode cX12_check 11 = .ok (.invokevirtual 141, 3) := by decide +kernel
theorem dX12_check_14 : decode cX12_check 14 = .ok (.iconst 0, 1) := by decide +kernel
theorem dX12_check_15 : decode cX12_check 15 = .ok (.istore_n 2, 1) := by decide +kernel
theorem dX12_check_16 : decode cX12_check 16 = .ok (.iload_n 2, 1) := by decide +kernel
theorem dX12_check_17 : decode cX12_check 17 = .ok (.iload_n 1, 1) := by decide +kernel
theorem dX12_check_18 : decode cX12_check 18 = .ok (.if_icmp .ge 36, 3) := by decide +kernel
theorem dX12_check_21 : decode cX12_check 21 = .ok (.iload_n 2, 1) := by decide +kernel
theorem dX12_check_22 : decode cX12_check 22 = .ok (.aload_n 0, 1) := by decide +kernel
theorem dX12_check_23 : decode cX12_check 23 = .ok (.getfield 101, 3) := by decide +kernel
theorem dX12_check_26 : decode cX12_check 26 = .ok (.if_icmp .ge 28, 3) := by decide +kernel
theorem dX12_check_29 : decode cX12_check 29 = .ok (.aload_n 0, 1) := by decide +kernel
theorem dX12_check_30 : decode cX12_check 30 = .ok (.getfield 44, 3) := by decide +kernel
theorem dX12_check_33 : decode cX12_check 33 = .ok (.iload_n 2, 1) := by decide +kernel
theorem dX12_check_34 : decode cX12_check 34 = .ok (.iaload, 1) := by decide +kernel
theorem dX12_check_35 : decode cX12_check 35 = .ok (.aload_n 0, 1) := by decide +kernel
theorem dX12_check_36 : decode cX12_check 36 = .ok (.iload_n 2, 1) := by decide +kernel
theorem dX12_check_37 : decode cX12_check 37 = .ok (.invokevirtual 144, 3) := by decide +kernel
theorem dX12_check_40 : decode cX12_check 40 = .ok (.if_icmp .eq 8, 3) := by decide +kernel
theorem dX12_check_43 : decode cX12_check 43 = .ok (.iconst 1, 1) := by decide +kernel
theorem dX12_check_44 : decode cX12_check 44 = .ok (.iload_n 2, 1) := by decide +kernel
theorem dX12_check_45 : decode cX12_check 45 = .ok (.iadd, 1) := by decide +kernel
theorem dX12_check_46 : decode cX12_check 46 = .ok (.i2l, 1) := by decide +kernel
theorem dX12_check_47 : decode cX12_check 47 = .ok (.lreturn, 1) := by decide +kernel
theorem dX12_check_48 : decode cX12_check 48 = .ok (.iinc 2 1, 3) := by decide +kernel
theorem dX12_check_51 : decode cX12_check 51 = .ok (.goto (-35), 3) := by decide +kernel
theorem dX12_check_54 : decode cX12_check 54 = .ok (.iload_n 1, 1) := by decide +kernel
theorem dX12_check_55 : decode cX12_check 55 = .ok (.aload_n 0, 1) := by decide +kernel
theorem dX12_check_56 : decode cX12_check 56 = .ok (.getfield 101, 3) := by decide +kernel
theorem dX12_check_59 : decode cX12_check 59 = .ok (.if_icmp .le 9, 3) := by decide +kernel
theorem dX12_check_62 : decode cX12_check 62 = .ok (.ldc2_w 228, 3) := by decide +kernel
theorem dX12_check_65 : decode cX12_check 65 = .ok (.goto 4, 3) := by decide +kernel
theorem dX12_check_68 : decode cX12_check 68 = .ok (.lconst 0, 1) := by decide +kernel
theorem dX12_check_69 : decode cX12_check 69 = .ok (.lreturn, 1) := by decide +kernel
set_option maxRecDepth 20000 in
theorem ggX12_count_X12_in : GoodIn wsX12_count wsX12_in := goodIn_r _ [9] (by decide +kernel) (by decide +kernel)
set_option maxRecDepth 20000 in
theorem gX12_count_X12_in : GoodIn wsX12_count (va_wsS RX12 87 yX12_in wsX12_in) := goodIn_app (goodIn_of _ (by decide +kernel)) ggX12_count_X12_in
set_option maxRecDepth 20000 in
theorem ggX12_count_X12_finding : GoodIn wsX12_count wsX12_finding := goodIn_r _ [13, 14, 15, 16, 17, 18, 19, 20, 21, 22, 23, 24, 25, 26, 27, 28, 29, 30, 31, 32, 33, 34, 35, 36, 37, 38, 39, 40, 41, 42] (by decide +kernel) (by decide +kernel)
set_option maxRecDepth 20000 in
theorem gX12_count_X12_finding : GoodIn wsX12_count (wsV RX12 93 RX12 yX12_finding wsX12_finding) := goodIn_app (goodIn_of _ (by decide +kernel)) ggX12_count_X12_finding
theorem dX12_count_0 : decode cX12_count 0 = .ok (.iload_n 1, 1) := by decide +kernel
theorem dX12_count_1 : decode cX12_count 1 = .ok (.iconst 0, 1) := by decide +kernel
theorem dX12_count_2 : decode cX12_count 2 = .ok (.bipush 8, 2) := by decide +kernel
theorem dX12_count_4 : decode cX12_count 4 = .ok (.invokestatic 87, 3) := by decide +kernel
theorem dX12_count_7 : decode cX12_count 7 = .ok (.ifCond .ne 11, 3) := by decide +kernel
theorem dX12_count_10 : decode cX12_count 10 = .ok (.aload_n 0, 1) := by decide +kernel
theorem dX12_count_11 : decode cX12_count 11 = .ok (.ldc2_w 91, 3) := by decide +kernel
theorem dX12_count_14 : decode cX12_count 14 = .ok (.invokevirtual 93, 3) := by decide +kernel
theorem dX12_count_17 : decode cX12_count 17 = .ok (.lreturn, 1) := by decide +kernel
theorem dX12_count_18 : decode cX12_count 18 = .ok (.iload_n 1, 1) := by decide +kernel
theorem dX12_count_19 : decode cX12_count 19 = .ok (.ifCond .ne 11, 3) := by decide +kernel
theorem dX12_count_22 : decode cX12_count 22 = .ok (.aload_n 0, 1) := by decide +kernel
theorem dX12_count_23 : decode cX12_count 23 = .ok (.getfield 96, 3) := by decide +kernel
theorem dX12_count_26 : decode cX12_count 26 = .ok (.i2l, 1) := by decide +kernel
theorem dX12_count_27 : decode cX12_count 27 = .ok (.goto 38, 3) := by decide +kernel
theorem dX12_count_30 : decode cX12_count 30 = .ok (.iload_n 1, 1) := by decide +kernel
theorem dX12_count_31 : decode cX12_count 31 = .ok (.iconst 1, 1) := by decide +kernel
theorem dX12_count_32 : decode cX12_count 32 = .ok (.if_icmp .ne 11, 3) := by decide +kernel
theorem dX12_count_35 : decode cX12_count 35 = .ok (.aload_n 0, 1) := by decide +kernel
theorem dX12_count_36 : decode cX12_count 36 = .ok (.getfield 101, 3) := by decide +kernel
theorem dX12_count_39 : decode cX12_count 39 = .ok (.i2l, 1) := by decide +kernel
theorem dX12_count_40 : decode cX12_count 40 = .ok (.goto 25, 3) := by decide +kernel
theorem dX12_count_43 : decode cX12_count 43 = .ok (.iload_n 1, 1) := by decide +kernel
theorem dX12_count_44 : decode cX12_count 44 = .ok (.iconst 2, 1) := by decide +kernel
theorem dX12_count_45 : decode cX12_count 45 = .ok (.if_icmp .ne 11, 3) := by decide +kernel
theorem dX12_count_48 : decode cX12_count 48 = .ok (.aload_n 0, 1) := by decide +kernel
theorem dX12_count_49 : decode cX12_count 49 = .ok (.getfield 167, 3) := by decide +kernel
theorem dX12_count_52 : decode cX12_count 52 = .ok (.i2l, 1) := by decide +kernel
theorem dX12_count_53 : decode cX12_count 53 = .ok (.goto 12, 3) := by decide +kernel
theorem dX12_count_56 : decode cX12_count 56 = .ok (.aload_n 0, 1) := by decide +kernel
theorem dX12_count_57 : decode cX12_count 57 = .ok (.getfield 29, 3) := by decide +kernel
theorem dX12_count_60 : decode cX12_count 60 = .ok (.iload_n 1, 1) := by decide +kernel
theorem dX12_count_61 : decode cX12_count 61 = .ok (.iconst 3, 1) := by decide +kernel
theorem dX12_count_62 : decode cX12_count 62 = .ok (.isub, 1) := by decide +kernel
theorem dX12_count_63 : decode cX12_count 63 = .ok (.iaload, 1) := by decide +kernel
theorem dX12_count_64 : decode cX12_count 64 = .ok (.i2l, 1) := by decide +kernel
theorem dX12_count_65 : decode cX12_count 65 = .ok (.lreturn, 1) := by decide +kernel
set_option maxRecDepth 20000 in
theorem ggX12_found_X12_in : GoodIn wsX12_found wsX12_in := goodIn_r _ [6] (by decide +kernel) (by decide +kernel)
set_option maxRecDepth 20000 in
theorem gX12_found_X12_in : GoodIn wsX12_found (va_wsS RX12 87 yX12_in wsX12_in) := goodIn_app (goodIn_of _ (by decide +kernel)) ggX12_found_X12_in
set_option maxRecDepth 20000 in
theorem ggX12_found_X12_finding : GoodIn wsX12_found wsX12_finding := goodIn_r _ [10, 1, 11, 12, 13, 14, 15, 16, 17, 18, 19, 20, 21, 22, 23, 24, 25, 26, 27, 28, 29, 30, 31, 32, 33, 34, 35, 36, 37, 38] (by decide +kernel) (by decide +kernel)
set_option maxRecDepth 20000 in
theorem gX12_found_X12_finding : GoodIn wsX12_found (wsV RX12 93 RX12 yX12_finding wsX12_finding) := goodIn_app (goodIn_of _ (by decide +kernel)) ggX12_found_X12_finding
theorem dX12_found_0 : decode cX12_found 0 = .ok (.iload_n 1, 1) := by decide +kernel
theorem dX12_found_1 : decode cX12_found 1 = .ok (.iconst 1, 1) := by decide +kernel
theorem dX12_found_2 : decode cX12_found 2 = .ok (.iconst 5, 1) := by decide +kernel
theorem dX12_found_3 : decode cX12_found 3 = .ok (.invokestatic 87, 3) := by decide +kernel
theorem dX12_found_6 : decode cX12_found 6 = .ok (.ifCond .eq 12, 3) := by decide +kernel
theorem dX12_found_9 : decode cX12_found 9 = .ok (.aload_n 0, 1) := by decide +kernel
theorem dX12_found_10 : decode cX12_found 10 = .ok (.getfield 47, 3) := by decide +kernel
theorem dX12_found_13 : decode cX12_found 13 = .ok (.iload_n 1, 1) := by decide +kernel
theorem dX12_found_14 : decode cX12_found 14 = .ok (.laload, 1) := by decide +kernel
theorem dX12_found_15 : decode cX12_found 15 = .ok (.goto 10, 3) := by decide +kernel
theorem dX12_found_18 : decode cX12_found 18 = .ok (.aload_n 0, 1) := by decide +kernel
theorem dX12_found_19 : decode cX12_found 19 = .ok (.ldc2_w 91, 3) := by decide +kernel
theorem dX12_found_22 : decode cX12_found 22 = .ok (.invokevirtual 93, 3) := by decide +kernel
theorem dX12_found_25 : decode cX12_found 25 = .ok (.lreturn, 1) := by decide +kernel
theorem dJ9_abs_067f4_0 : decode cJ9_abs_067f4 0 = .ok (.lload_n 0, 1) := by decide +kernel
theorem dJ9_abs_067f4_1 : decode cJ9_abs_067f4 1 = .ok (.lconst 0, 1) := by decide +kernel
theorem dJ9_abs_067f4_2 : decode cJ9_abs_067f4 2 = .ok (.lcmp, 1) := by decide +kernel
theorem dJ9_abs_067f4_3 : decode cJ9_abs_067f4 3 = .ok (.ifCond .ge 8, 3) := by decide +kernel
theorem dJ9_abs_067f4_6 : decode cJ9_abs_067f4 6 = .ok (.lload_n 0, 1) := by decide +kernel
theorem dJ9_abs_067f4_7 : decode cJ9_abs_067f4 7 = .ok (.lneg, 1) := by decide +kernel
theorem dJ9_abs_067f4_8 : decode cJ9_abs_067f4 8 = .ok (.goto 4, 3) := by decide +kernel
theorem dJ9_abs_067f4_11 : decode cJ9_abs_067f4 11 = .ok (.lload_n 0, 1) := by decide +kernel
theorem dJ9_abs_067f4_12 : decode cJ9_abs_067f4 12 = .ok (.lreturn, 1) := by decide +kernel
theorem dJ9_max_7cf53_0 : decode cJ9_max_7cf53 0 = .ok (.iload_n 0, 1) := by decide +kernel
theorem dJ9_max_7cf53_1 : decode cJ9_max_7cf53 1 = .ok (.iload_n 1, 1) := by decide +kernel
theorem dJ9_max_7cf53_2 : decode cJ9_max_7cf53 2 = .ok (.if_icmp .lt 7, 3) := by decide +kernel
theorem dJ9_max_7cf53_5 : decode cJ9_max_7cf53 5 = .ok (.iload_n 0, 1) := by decide +kernel
theorem dJ9_max_7cf53_6 : decode cJ9_max_7cf53 6 = .ok (.goto 4, 3) := by decide +kernel
theorem dJ9_max_7cf53_9 : decode cJ9_max_7cf53 9 = .ok (.iload_n 1, 1) := by decide +kernel
theorem dJ9_max_7cf53_10 : decode cJ9_max_7cf53 10 = .ok (.ireturn, 1) := by decide +kernel
theorem dJ9_max_f86c9_0 : decode cJ9_max_f86c9 0 = .ok (.lload_n 0, 1) := by decide +kernel
theorem dJ9_max_f86c9_1 : decode cJ9_max_f86c9 1 = .ok (.lload_n 2, 1) := by decide +kernel
theorem dJ9_max_f86c9_2 : decode cJ9_max_f86c9 2 = .ok (.lcmp, 1) := by decide +kernel
theorem dJ9_max_f86c9_3 : decode cJ9_max_f86c9 3 = .ok (.ifCond .lt 7, 3) := by decide +kernel
theorem dJ9_max_f86c9_6 : decode cJ9_max_f86c9 6 = .ok (.lload_n 0, 1) := by decide +kernel
theorem dJ9_max_f86c9_7 : decode cJ9_max_f86c9 7 = .ok (.goto 4, 3) := by decide +kernel
theorem dJ9_max_f86c9_10 : decode cJ9_max_f86c9 10 = .ok (.lload_n 2, 1) := by decide +kernel
theorem dJ9_max_f86c9_11 : decode cJ9_max_f86c9 11 = .ok (.lreturn, 1) := by decide +kernel
theorem dJ9_min_f86c9_0 : decode cJ9_min_f86c9 0 = .ok (.lload_n 0, 1) := by decide +kernel
theorem dJ9_min_f86c9_1 : decode cJ9_min_f86c9 1 = .ok (.lload_n 2, 1) := by decide +kernel
theorem dJ9_min_f86c9_2 : decode cJ9_min_f86c9 2 = .ok (.lcmp, 1) := by decide +kernel
theorem dJ9_min_f86c9_3 : decode cJ9_min_f86c9 3 = .ok (.ifCond .gt 7, 3) := by decide +kernel
theorem dJ9_min_f86c9_6 : decode cJ9_min_f86c9 6 = .ok (.lload_n 0, 1) := by decide +kernel
theorem dJ9_min_f86c9_7 : decode cJ9_min_f86c9 7 = .ok (.goto 4, 3) := by decide +kernel
theorem dJ9_min_f86c9_10 : decode cJ9_min_f86c9 10 = .ok (.lload_n 2, 1) := by decide +kernel
theorem dJ9_min_f86c9_11 : decode cJ9_min_f86c9 11 = .ok (.lreturn, 1) := by decide +kernel
