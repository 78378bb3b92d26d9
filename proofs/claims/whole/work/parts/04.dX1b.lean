set_option maxRecDepth 20000 in
theorem gX1_paint_X1_indexOf : GoodIn wsX1_paint (wsV RX1 84 RX1 yX1_indexOf wsX1_indexOf) := goodIn_app (goodIn_of _ (by decide +kernel)) ggX1_paint_X1_indexOf
theorem dX1_paint_0 : decode cX1_paint 0 = .ok (.aload_n 0, 1) := by decide +kernel
theorem dX1_paint_1 : decode cX1_paint 1 = .ok (.iload_n 1, 1) := by decide +kernel
theorem dX1_paint_2 : decode cX1_paint 2 = .ok (.iload_n 2, 1) := by decide +kernel
theorem dX1_paint_3 : decode cX1_paint 3 = .ok (.invokevirtual 84, 3) := by decide +kernel
theorem dX1_paint_6 : decode cX1_paint 6 = .ok (.istore 4, 2) := by decide +kernel
theorem dX1_paint_8 : decode cX1_paint 8 = .ok (.iload 4, 2) := by decide +kernel
theorem dX1_paint_10 : decode cX1_paint 10 = .ok (.iconst (-1), 1) := by decide +kernel
theorem dX1_paint_11 : decode cX1_paint 11 = .ok (.if_icmp .ne 5, 3) := by decide +kernel
theorem dX1_paint_14 : decode cX1_paint 14 = .ok (.iconst 0, 1) := by decide +kernel
theorem dX1_paint_15 : decode cX1_paint 15 = .ok (.ireturn, 1) := by decide +kernel
theorem dX1_paint_16 : decode cX1_paint 16 = .ok (.aload_n 0, 1) := by decide +kernel
theorem dX1_paint_17 : decode cX1_paint 17 = .ok (.getfield 20, 3) := by decide +kernel
theorem dX1_paint_20 : decode cX1_paint 20 = .ok (.iload 4, 2) := by decide +kernel
theorem dX1_paint_22 : decode cX1_paint 22 = .ok (.iload_n 3, 1) := by decide +kernel
theorem dX1_paint_23 : decode cX1_paint 23 = .ok (.iastore, 1) := by decide +kernel
theorem dX1_paint_24 : decode cX1_paint 24 = .ok (.iconst 1, 1) := by decide +kernel
theorem dX1_paint_25 : decode cX1_paint 25 = .ok (.ireturn, 1) := by decide +kernel
set_option maxRecDepth 20000 in
theorem ggX1_paintNearer_X1_indexOf : GoodIn wsX1_paintNearer wsX1_indexOf := goodIn_r _ [8, 9, 10, 11, 12, 7, 13, 36, 37, 38, 39, 40, 41, 42, 43] (by decide +kernel) (by decide +kernel)
set_option maxRecDepth 20000 in
theorem gX1_paintNearer_X1_indexOf : GoodIn wsX1_paintNearer (wsV RX1 84 RX1 yX1_indexOf wsX1_indexOf) := goodIn_app (goodIn_of _ (by decide +kernel)) ggX1_paintNearer_X1_indexOf
set_option maxRecDepth 20000 in
theorem ggX1_paintNearer_X0_depthOver : GoodIn wsX1_paintNearer wsX0_depthOver := goodIn_r _ [17, 18, 19, 20, 21, 22, 23, 24, 15, 25, 26, 27, 28, 29, 30, 31, 32, 33, 34, 35, 44, 45, 46, 47, 48, 49] (by decide +kernel) (by decide +kernel)
set_option maxRecDepth 20000 in
theorem gX1_paintNearer_X0_depthOver_n68 : GoodIn wsX1_paintNearer (wsX0_depthOver) := ggX1_paintNearer_X0_depthOver
theorem dX1_paintNearer_0 : decode cX1_paintNearer 0 = .ok (.aload_n 0, 1) := by decide +kernel
theorem dX1_paintNearer_1 : decode cX1_paintNearer 1 = .ok (.iload_n 1, 1) := by decide +kernel
theorem dX1_paintNearer_2 : decode cX1_paintNearer 2 = .ok (.iload_n 2, 1) := by decide +kernel
theorem dX1_paintNearer_3 : decode cX1_paintNearer 3 = .ok (.invokevirtual 84, 3) := by decide +kernel
theorem dX1_paintNearer_6 : decode cX1_paintNearer 6 = .ok (.istore 4, 2) := by decide +kernel
theorem dX1_paintNearer_8 : decode cX1_paintNearer 8 = .ok (.aload_n 0, 1) := by decide +kernel
theorem dX1_paintNearer_9 : decode cX1_paintNearer 9 = .ok (.getfield 30, 3) := by decide +kernel
theorem dX1_paintNearer_12 : decode cX1_paintNearer 12 = .ok (.iload_n 1, 1) := by decide +kernel
theorem dX1_paintNearer_13 : decode cX1_paintNearer 13 = .ok (.iload_n 2, 1) := by decide +kernel
theorem dX1_paintNearer_14 : decode cX1_paintNearer 14 = .ok (.invokevirtual 68, 3) := by decide +kernel
theorem dX1_paintNearer_17 : decode cX1_paintNearer 17 = .ok (.istore 5, 2) := by decide +kernel
theorem dX1_paintNearer_19 : decode cX1_paintNearer 19 = .ok (.iload 4, 2) := by decide +kernel
theorem dX1_paintNearer_21 : decode cX1_paintNearer 21 = .ok (.iconst (-1), 1) := by decide +kernel
theorem dX1_paintNearer_22 : decode cX1_paintNearer 22 = .ok (.if_icmp .eq 21, 3) := by decide +kernel
theorem dX1_paintNearer_25 : decode cX1_paintNearer 25 = .ok (.iload 5, 2) := by decide +kernel
theorem dX1_paintNearer_27 : decode cX1_paintNearer 27 = .ok (.iconst (-1), 1) := by decide +kernel
theorem dX1_paintNearer_28 : decode cX1_paintNearer 28 = .ok (.if_icmp .eq 15, 3) := by decide +kernel
theorem dX1_paintNearer_31 : decode cX1_paintNearer 31 = .ok (.aload_n 0, 1) := by decide +kernel
theorem dX1_paintNearer_32 : decode cX1_paintNearer 32 = .ok (.getfield 24, 3) := by decide +kernel
theorem dX1_paintNearer_35 : decode cX1_paintNearer 35 = .ok (.iload 4, 2) := by decide +kernel
theorem dX1_paintNearer_37 : decode cX1_paintNearer 37 = .ok (.iaload, 1) := by decide +kernel
theorem dX1_paintNearer_38 : decode cX1_paintNearer 38 = .ok (.iload 5, 2) := by decide +kernel
theorem dX1_paintNearer_40 : decode cX1_paintNearer 40 = .ok (.if_icmp .gt 5, 3) := by decide +kernel
theorem dX1_paintNearer_43 : decode cX1_paintNearer 43 = .ok (.iconst 0, 1) := by decide +kernel
theorem dX1_paintNearer_44 : decode cX1_paintNearer 44 = .ok (.ireturn, 1) := by decide +kernel
theorem dX1_paintNearer_45 : decode cX1_paintNearer 45 = .ok (.aload_n 0, 1) := by decide +kernel
theorem dX1_paintNearer_46 : decode cX1_paintNearer 46 = .ok (.getfield 20, 3) := by decide +kernel
theorem dX1_paintNearer_49 : decode cX1_paintNearer 49 = .ok (.iload 4, 2) := by decide +kernel
theorem dX1_paintNearer_51 : decode cX1_paintNearer 51 = .ok (.iload_n 3, 1) := by decide +kernel
theorem dX1_paintNearer_52 : decode cX1_paintNearer 52 = .ok (.iastore, 1) := by decide +kernel
theorem dX1_paintNearer_53 : decode cX1_paintNearer 53 = .ok (.aload_n 0, 1) := by decide +kernel
theorem dX1_paintNearer_54 : decode cX1_paintNearer 54 = .ok (.getfield 24, 3) := by decide +kernel
theorem dX1_paintNearer_57 : decode cX1_paintNearer 57 = .ok (.iload 4, 2) := by decide +kernel
theorem dX1_paintNearer_59 : decode cX1_paintNearer 59 = .ok (.iload 5, 2) := by decide +kernel
theorem dX1_paintNearer_61 : decode cX1_paintNearer 61 = .ok (.iastore, 1) := by decide +kernel
theorem dX1_paintNearer_62 : decode cX1_paintNearer 62 = .ok (.iconst 1, 1) := by decide +kernel
theorem dX1_paintNearer_63 : decode cX1_paintNearer 63 = .ok (.ireturn, 1) := by decide +kernel
theorem dX1_placeBeside_0 : decode cX1_placeBeside 0 = .ok (.iload_n 2, 1) := by decide +kernel
theorem dX1_placeBeside_1 : decode cX1_placeBeside 1 = .ok (.iload_n 1, 1) := by decide +kernel
theorem dX1_placeBeside_2 : decode cX1_placeBeside 2 = .ok (.isub, 1) := by decide +kernel
theorem dX1_placeBeside_3 : decode cX1_placeBeside 3 = .ok (.invokestatic 72, 3) := by decide +kernel
theorem dX1_placeBeside_6 : decode cX1_placeBeside 6 = .ok (.i2l, 1) := by decide +kernel
theorem dX1_placeBeside_7 : decode cX1_placeBeside 7 = .ok (.lstore 5, 2) := by decide +kernel
theorem dX1_placeBeside_9 : decode cX1_placeBeside 9 = .ok (.iload_n 2, 1) := by decide +kernel
theorem dX1_placeBeside_10 : decode cX1_placeBeside 10 = .ok (.iload_n 1, 1) := by decide +kernel
theorem dX1_placeBeside_11 : decode cX1_placeBeside 11 = .ok (.if_icmp .ge 10, 3) := by decide +kernel
theorem dX1_placeBeside_14 : decode cX1_placeBeside 14 = .ok (.iload_n 1, 1) := by decide +kernel
theorem dX1_placeBeside_15 : decode cX1_placeBeside 15 = .ok (.iload_n 0, 1) := by decide +kernel
theorem dX1_placeBeside_16 : decode cX1_placeBeside 16 = .ok (.isub, 1) := by decide +kernel
theorem dX1_placeBeside_17 : decode cX1_placeBeside 17 = .ok (.i2l, 1) := by decide +kernel
theorem dX1_placeBeside_18 : decode cX1_placeBeside 18 = .ok (.goto 7, 3) := by decide +kernel
theorem dX1_placeBeside_21 : decode cX1_placeBeside 21 = .ok (.iload_n 0, 1) := by decide +kernel
theorem dX1_placeBeside_22 : decode cX1_placeBeside 22 = .ok (.iload_n 1, 1) := by decide +kernel
theorem dX1_placeBeside_23 : decode cX1_placeBeside 23 = .ok (.isub, 1) := by decide +kernel
theorem dX1_placeBeside_24 : decode cX1_placeBeside 24 = .ok (.i2l, 1) := by decide +kernel
theorem dX1_placeBeside_25 : decode cX1_placeBeside 25 = .ok (.lstore 7, 2) := by decide +kernel
theorem dX1_placeBeside_27 : decode cX1_placeBeside 27 = .ok (.lload 7, 2) := by decide +kernel
theorem dX1_placeBeside_29 : decode cX1_placeBeside 29 = .ok (.lconst 0, 1) := by decide +kernel
theorem dX1_placeBeside_30 : decode cX1_placeBeside 30 = .ok (.lcmp, 1) := by decide +kernel
theorem dX1_placeBeside_31 : decode cX1_placeBeside 31 = .ok (.ifCond .lt 11, 3) := by decide +kernel
theorem dX1_placeBeside_34 : decode cX1_placeBeside 34 = .ok (.lload 7, 2) := by decide +kernel
theorem dX1_placeBeside_36 : decode cX1_placeBeside 36 = .ok (.lload 5, 2) := by decide +kernel
theorem dX1_placeBeside_38 : decode cX1_placeBeside 38 = .ok (.lcmp, 1) := by decide +kernel
theorem dX1_placeBeside_39 : decode cX1_placeBeside 39 = .ok (.ifCond .le 5, 3) := by decide +kernel
theorem dX1_placeBeside_42 : decode cX1_placeBeside 42 = .ok (.iconst (-1), 1) := by decide +kernel
theorem dX1_placeBeside_43 : decode cX1_placeBeside 43 = .ok (.ireturn, 1) := by decide +kernel
theorem dX1_placeBeside_44 : decode cX1_placeBeside 44 = .ok (.lload 5, 2) := by decide +kernel
theorem dX1_placeBeside_46 : decode cX1_placeBeside 46 = .ok (.lconst 0, 1) := by decide +kernel
theorem dX1_placeBeside_47 : decode cX1_placeBeside 47 = .ok (.lcmp, 1) := by decide +kernel
theorem dX1_placeBeside_48 : decode cX1_placeBeside 48 = .ok (.ifCond .ne 5, 3) := by decide +kernel
theorem dX1_placeBeside_51 : decode cX1_placeBeside 51 = .ok (.iload_n 3, 1) := by decide +kernel
theorem dX1_placeBeside_52 : decode cX1_placeBeside 52 = .ok (.ireturn, 1) := by decide +kernel
theorem dX1_placeBeside_53 : decode cX1_placeBeside 53 = .ok (.iload 4, 2) := by decide +kernel
theorem dX1_placeBeside_55 : decode cX1_placeBeside 55 = .ok (.iload_n 3, 1) := by decide +kernel
theorem dX1_placeBeside_56 : decode cX1_placeBeside 56 = .ok (.isub, 1) := by decide +kernel
theorem dX1_placeBeside_57 : decode cX1_placeBeside 57 = .ok (.invokestatic 72, 3) := by decide +kernel
theorem dX1_placeBeside_60 : decode cX1_placeBeside 60 = .ok (.i2l, 1) := by decide +kernel
theorem dX1_placeBeside_61 : decode cX1_placeBeside 61 = .ok (.lstore 9, 2) := by decide +kernel
theorem dX1_placeBeside_63 : decode cX1_placeBeside 63 = .ok (.ldc2_w 93, 3) := by decide +kernel
theorem dX1_placeBeside_66 : decode cX1_placeBeside 66 = .ok (.lload 7, 2) := by decide +kernel
theorem dX1_placeBeside_68 : decode cX1_placeBeside 68 = .ok (.lmul, 1) := by decide +kernel
theorem dX1_placeBeside_69 : decode cX1_placeBeside 69 = .ok (.lload 9, 2) := by decide +kernel
theorem dX1_placeBeside_71 : decode cX1_placeBeside 71 = .ok (.lmul, 1) := by decide +kernel
theorem dX1_placeBeside_72 : decode cX1_placeBeside 72 = .ok (.lload 5, 2) := by decide +kernel
theorem dX1_placeBeside_74 : decode cX1_placeBeside 74 = .ok (.ladd, 1) := by decide +kernel
theorem dX1_placeBeside_75 : decode cX1_placeBeside 75 = .ok (.lconst 1, 1) := by decide +kernel
theorem dX1_placeBeside_76 : decode cX1_placeBeside 76 = .ok (.lsub, 1) := by decide +kernel
theorem dX1_placeBeside_77 : decode cX1_placeBeside 77 = .ok (.ldc2_w 93, 3) := by decide +kernel
theorem dX1_placeBeside_80 : decode cX1_placeBeside 80 = .ok (.lload 5, 2) := by decide +kernel
theorem dX1_placeBeside_82 : decode cX1_placeBeside 82 = .ok (.lmul, 1) := by decide +kernel
theorem dX1_placeBeside_83 : decode cX1_placeBeside 83 = .ok (.ldiv, 1) := by decide +kernel
theorem dX1_placeBeside_84 : decode cX1_placeBeside 84 = .ok (.l2i, 1) := by decide +kernel
theorem dX1_placeBeside_85 : decode cX1_placeBeside 85 = .ok (.istore 11, 2) := by decide +kernel
theorem dX1_placeBeside_87 : decode cX1_placeBeside 87 = .ok (.iload 4, 2) := by decide +kernel
theorem dX1_placeBeside_89 : decode cX1_placeBeside 89 = .ok (.iload_n 3, 1) := by decide +kernel
theorem dX1_placeBeside_90 : decode cX1_placeBeside 90 = .ok (.if_icmp .ge 10, 3) := by decide +kernel
theorem dX1_placeBeside_93 : decode cX1_placeBeside 93 = .ok (.iload_n 3, 1) := by decide +kernel
theorem dX1_placeBeside_94 : decode cX1_placeBeside 94 = .ok (.iload 11, 2) := by decide +kernel
theorem dX1_placeBeside_96 : decode cX1_placeBeside 96 = .ok (.isub, 1) := by decide +kernel
theorem dX1_placeBeside_97 : decode cX1_placeBeside 97 = .ok (.goto 7, 3) := by decide +kernel
theorem dX1_placeBeside_100 : decode cX1_placeBeside 100 = .ok (.iload_n 3, 1) := by decide +kernel
theorem dX1_placeBeside_101 : decode cX1_placeBeside 101 = .ok (.iload 11, 2) := by decide +kernel
theorem dX1_placeBeside_103 : decode cX1_placeBeside 103 = .ok (.iadd, 1) := by decide +kernel
theorem dX1_placeBeside_104 : decode cX1_placeBeside 104 = .ok (.ireturn, 1) := by decide +kernel
theorem dX1_forgetReached_0 : decode cX1_forgetReached 0 = .ok (.iconst 0, 1) := by decide +kernel
theorem dX1_forgetReached_1 : decode cX1_forgetReached 1 = .ok (.istore_n 1, 1) := by decide +kernel
theorem dX1_forgetReached_2 : decode cX1_forgetReached 2 = .ok (.iload_n 1, 1) := by decide +kernel
theorem dX1_forgetReached_3 : decode cX1_forgetReached 3 = .ok (.aload_n 0, 1) := by decide +kernel
theorem dX1_forgetReached_4 : decode cX1_forgetReached 4 = .ok (.getfield 34, 3) := by decide +kernel
theorem dX1_forgetReached_7 : decode cX1_forgetReached 7 = .ok (.arraylength, 1) := by decide +kernel
theorem dX1_forgetReached_8 : decode cX1_forgetReached 8 = .ok (.if_icmp .ge 16, 3) := by decide +kernel
theorem dX1_forgetReached_11 : decode cX1_forgetReached 11 = .ok (.aload_n 0, 1) := by decide +kernel
theorem dX1_forgetReached_12 : decode cX1_forgetReached 12 = .ok (.getfield 34, 3) := by decide +kernel
theorem dX1_forgetReached_15 : decode cX1_forgetReached 15 = .ok (.iload_n 1, 1) := by decide +kernel
theorem dX1_forgetReached_16 : decode cX1_forgetReached 16 = .ok (.iconst 0, 1) := by decide +kernel
theorem dX1_forgetReached_17 : decode cX1_forgetReached 17 = .ok (.bastore, 1) := by decide +kernel
theorem dX1_forgetReached_18 : decode cX1_forgetReached 18 = .ok (.iinc 1 1, 3) := by decide +kernel
theorem dX1_forgetReached_21 : decode cX1_forgetReached 21 = .ok (.goto (-19), 3) := by decide +kernel
theorem dX1_forgetReached_24 : decode cX1_forgetReached 24 = .ok (.return_, 1) := by decide +kernel
set_option maxRecDepth 20000 in
theorem ggX1_reachPiece_X1_pixel : GoodIn wsX1_reachPiece wsX1_pixel := goodIn_r _ [8, 9, 10, 11, 12, 7, 13, 3, 14, 15, 16, 17, 23, 24, 25, 26, 27, 28, 29, 30] (by decide +kernel) (by decide +kernel)
set_option maxRecDepth 20000 in
theorem gX1_reachPiece_X1_pixel : GoodIn wsX1_reachPiece (wsV RX1 95 RX1 yX1_pixel wsX1_pixel) := goodIn_app (goodIn_of _ (by decide +kernel)) ggX1_reachPiece_X1_pixel
set_option maxRecDepth 20000 in
theorem ggX1_reachPiece_X1_reach : GoodIn wsX1_reachPiece wsX1_reach := goodIn_r _ [21, 22, 9, 1, 2, 10, 11, 12, 7, 13, 3, 14, 15, 16, 17, 23, 24, 25, 26, 27, 28, 29, 30] (by decide +kernel) (by decide +kernel)
set_option maxRecDepth 20000 in
theorem gX1_reachPiece_X1_reach : GoodIn wsX1_reachPiece (wsV RX1 98 RX1 yX1_reach wsX1_reach) := goodIn_app (goodIn_of _ (by decide +kernel)) ggX1_reachPiece_X1_reach
theorem dX1_reachPiece_0 : decode cX1_reachPiece 0 = .ok (.aload_n 0, 1) := by decide +kernel
theorem dX1_reachPiece_1 : decode cX1_reachPiece 1 = .ok (.iload_n 1, 1) := by decide +kernel
theorem dX1_reachPiece_2 : decode cX1_reachPiece 2 = .ok (.iload_n 2, 1) := by decide +kernel
theorem dX1_reachPiece_3 : decode cX1_reachPiece 3 = .ok (.invokevirtual 95, 3) := by decide +kernel
theorem dX1_reachPiece_6 : decode cX1_reachPiece 6 = .ok (.istore_n 3, 1) := by decide +kernel
theorem dX1_reachPiece_7 : decode cX1_reachPiece 7 = .ok (.aload_n 0, 1) := by decide +kernel
theorem dX1_reachPiece_8 : decode cX1_reachPiece 8 = .ok (.iconst 0, 1) := by decide +kernel
theorem dX1_reachPiece_9 : decode cX1_reachPiece 9 = .ok (.putfield 41, 3) := by decide +kernel
theorem dX1_reachPiece_12 : decode cX1_reachPiece 12 = .ok (.aload_n 0, 1) := by decide +kernel
theorem dX1_reachPiece_13 : decode cX1_reachPiece 13 = .ok (.iload_n 1, 1) := by decide +kernel
theorem dX1_reachPiece_14 : decode cX1_reachPiece 14 = .ok (.iload_n 2, 1) := by decide +kernel
theorem dX1_reachPiece_15 : decode cX1_reachPiece 15 = .ok (.iload_n 3, 1) := by decide +kernel
theorem dX1_reachPiece_16 : decode cX1_reachPiece 16 = .ok (.invokevirtual 98, 3) := by decide +kernel
theorem dX1_reachPiece_19 : decode cX1_reachPiece 19 = .ok (.iconst 0, 1) := by decide +kernel
theorem dX1_reachPiece_20 : decode cX1_reachPiece 20 = .ok (.istore 4, 2) := by decide +kernel
theorem dX1_reachPiece_22 : decode cX1_reachPiece 22 = .ok (.iload 4, 2) := by decide +kernel
theorem dX1_reachPiece_24 : decode cX1_reachPiece 24 = .ok (.aload_n 0, 1) := by decide +kernel
theorem dX1_reachPiece_25 : decode cX1_reachPiece 25 = .ok (.getfield 38, 3) := by decide +kernel
theorem dX1_reachPiece_28 : decode cX1_reachPiece 28 = .ok (.arraylength, 1) := by decide +kernel
theorem dX1_reachPiece_29 : decode cX1_reachPiece 29 = .ok (.if_icmp .ge 90, 3) := by decide +kernel
theorem dX1_reachPiece_32 : decode cX1_reachPiece 32 = .ok (.iload 4, 2) := by decide +kernel
theorem dX1_reachPiece_34 : decode cX1_reachPiece 34 = .ok (.aload_n 0, 1) := by decide +kernel
theorem dX1_reachPiece_35 : decode cX1_reachPiece 35 = .ok (.getfield 41, 3) := by decide +kernel
theorem dX1_reachPiece_38 : decode cX1_reachPiece 38 = .ok (.if_icmp .ge 81, 3) := by decide +kernel
theorem dX1_reachPiece_41 : decode cX1_reachPiece 41 = .ok (.aload_n 0, 1) := by decide +kernel
theorem dX1_reachPiece_42 : decode cX1_reachPiece 42 = .ok (.getfield 38, 3) := by decide +kernel
theorem dX1_reachPiece_45 : decode cX1_reachPiece 45 = .ok (.iload 4, 2) := by decide +kernel
theorem dX1_reachPiece_47 : decode cX1_reachPiece 47 = .ok (.iaload, 1) := by decide +kernel
theorem dX1_reachPiece_48 : decode cX1_reachPiece 48 = .ok (.aload_n 0, 1) := by decide +kernel
theorem dX1_reachPiece_49 : decode cX1_reachPiece 49 = .ok (.getfield 13, 3) := by decide +kernel
theorem dX1_reachPiece_52 : decode cX1_reachPiece 52 = .ok (.irem, 1) := by decide +kernel
theorem dX1_reachPiece_53 : decode cX1_reachPiece 53 = .ok (.istore 5, 2) := by decide +kernel
theorem dX1_reachPiece_55 : decode cX1_reachPiece 55 = .ok (.aload_n 0, 1) := by decide +kernel
theorem dX1_reachPiece_56 : decode cX1_reachPiece 56 = .ok (.getfield 38, 3) := by decide +kernel
theorem dX1_reachPiece_59 : decode cX1_reachPiece 59 = .ok (.iload 4, 2) := by decide +kernel
theorem dX1_reachPiece_61 : decode cX1_reachPiece 61 = .ok (.iaload, 1) := by decide +kernel
theorem dX1_reachPiece_62 : decode cX1_reachPiece 62 = .ok (.aload_n 0, 1) := by decide +kernel
theorem dX1_reachPiece_63 : decode cX1_reachPiece 63 = .ok (.getfield 13, 3) := by decide +kernel
theorem dX1_reachPiece_66 : decode cX1_reachPiece 66 = .ok (.idiv, 1) := by decide +kernel
theorem dX1_reachPiece_67 : decode cX1_reachPiece 67 = .ok (.istore 6, 2) := by decide +kernel
theorem dX1_reachPiece_69 : decode cX1_reachPiece 69 = .ok (.aload_n 0, 1) := by decide +kernel
theorem dX1_reachPiece_70 : decode cX1_reachPiece 70 = .ok (.iload 5, 2) := by decide +kernel
theorem dX1_reachPiece_72 : decode cX1_reachPiece 72 = .ok (.iconst 1, 1) := by decide +kernel
theorem dX1_reachPiece_73 : decode cX1_reachPiece 73 = .ok (.isub, 1) := by decide +kernel
theorem dX1_reachPiece_74 : decode cX1_reachPiece 74 = .ok (.iload 6, 2) := by decide +kernel
theorem dX1_reachPiece_76 : decode cX1_reachPiece 76 = .ok (.iload_n 3, 1) := by decide +kernel
theorem dX1_reachPiece_77 : decode cX1_reachPiece 77 = .ok (.invokevirtual 98, 3) := by decide +kernel
theorem dX1_reachPiece_80 : decode cX1_reachPiece 80 = .ok (.aload_n 0, 1) := by decide +kernel
theorem dX1_reachPiece_81 : decode cX1_reachPiece 81 = .ok (.iload 5, 2) := by decide +kernel
theorem dX1_reachPiece_83 : decode cX1_reachPiece 83 = .ok (.iconst 1, 1) := by decide +kernel
theorem dX1_reachPiece_84 : decode cX1_reachPiece 84 = .ok (.iadd, 1) := by decide +kernel
theorem dX1_reachPiece_85 : decode cX1_reachPiece 85 = .ok (.iload 6, 2) := by decide +kernel
theorem dX1_reachPiece_87 : decode cX1_reachPiece 87 = .ok (.iload_n 3, 1) := by decide +kernel
theorem dX1_reachPiece_88 : decode cX1_reachPiece 88 = .ok (.invokevirtual 98, 3) := by decide +kernel
theorem dX1_reachPiece_91 : decode cX1_reachPiece 91 = .ok (.aload_n 0, 1) := by decide +kernel
theorem dX1_reachPiece_92 : decode cX1_reachPiece 92 = .ok (.iload 5, 2) := by decide +kernel
theorem dX1_reachPiece_94 : decode cX1_reachPiece 94 = .ok (.iload 6, 2) := by decide +kernel
theorem dX1_reachPiece_96 : decode cX1_reachPiece 96 = .ok (.iconst 1, 1) := by decide +kernel
theorem dX1_reachPiece_97 : decode cX1_reachPiece 97 = .ok (.isub, 1) := by decide +kernel
theorem dX1_reachPiece_98 : decode cX1_reachPiece 98 = .ok (.iload_n 3, 1) := by decide +kernel
theorem dX1_reachPiece_99 : decode cX1_reachPiece 99 = .ok (.invokevirtual 98, 3) := by decide +kernel
theorem dX1_reachPiece_102 : decode cX1_reachPiece 102 = .ok (.aload_n 0, 1) := by decide +kernel
theorem dX1_reachPiece_103 : decode cX1_reachPiece 103 = .ok (.iload 5, 2) := by decide +kernel
theorem dX1_reachPiece_105 : decode cX1_reachPiece 105 = .ok (.iload 6, 2) := by decide +kernel
theorem dX1_reachPiece_107 : decode cX1_reachPiece 107 = .ok (.iconst 1, 1) := by decide +kernel
theorem dX1_reachPiece_108 : decode cX1_reachPiece 108 = .ok (.iadd, 1) := by decide +kernel
theorem dX1_reachPiece_109 : decode cX1_reachPiece 109 = .ok (.iload_n 3, 1) := by decide +kernel
theorem dX1_reachPiece_110 : decode cX1_reachPiece 110 = .ok (.invokevirtual 98, 3) := by decide +kernel
theorem dX1_reachPiece_113 : decode cX1_reachPiece 113 = .ok (.iinc 4 1, 3) := by decide +kernel
theorem dX1_reachPiece_116 : decode cX1_reachPiece 116 = .ok (.goto (-94), 3) := by decide +kernel
theorem dX1_reachPiece_119 : decode cX1_reachPiece 119 = .ok (.aload_n 0, 1) := by decide +kernel
theorem dX1_reachPiece_120 : decode cX1_reachPiece 120 = .ok (.getfield 41, 3) := by decide +kernel
theorem dX1_reachPiece_123 : decode cX1_reachPiece 123 = .ok (.ireturn, 1) := by decide +kernel
set_option maxRecDepth 20000 in
theorem ggX1_reach_X1_indexOf : GoodIn wsX1_reach wsX1_indexOf := goodIn_r _ [9, 10, 11, 12, 13, 8, 14, 15, 16, 17, 18, 19, 20, 21, 22] (by decide +kernel) (by decide +kernel)
set_option maxRecDepth 20000 in
theorem gX1_reach_X1_indexOf : GoodIn wsX1_reach (wsV RX1 84 RX1 yX1_indexOf wsX1_indexOf) := goodIn_app (goodIn_of _ (by decide +kernel)) ggX1_reach_X1_indexOf
theorem dX1_reach_0 : decode cX1_reach 0 = .ok (.aload_n 0, 1) := by decide +kernel
theorem dX1_reach_1 : decode cX1_reach 1 = .ok (.iload_n 1, 1) := by decide +kernel
theorem dX1_reach_2 : decode cX1_reach 2 = .ok (.iload_n 2, 1) := by decide +kernel
theorem dX1_reach_3 : decode cX1_reach 3 = .ok (.invokevirtual 84, 3) := by decide +kernel
theorem dX1_reach_6 : decode cX1_reach 6 = .ok (.istore 4, 2) := by decide +kernel
theorem dX1_reach_8 : decode cX1_reach 8 = .ok (.iload 4, 2) := by decide +kernel
theorem dX1_reach_10 : decode cX1_reach 10 = .ok (.iconst (-1), 1) := by decide +kernel
theorem dX1_reach_11 : decode cX1_reach 11 = .ok (.if_icmp .eq 36, 3) := by decide +kernel
theorem dX1_reach_14 : decode cX1_reach 14 = .ok (.aload_n 0, 1) := by decide +kernel
theorem dX1_reach_15 : decode cX1_reach 15 = .ok (.getfield 34, 3) := by decide +kernel
theorem dX1_reach_18 : decode cX1_reach 18 = .ok (.iload 4, 2) := by decide +kernel
theorem dX1_reach_20 : decode cX1_reach 20 = .ok (.baload, 1) := by decide +kernel
theorem dX1_reach_21 : decode cX1_reach 21 = .ok (.ifCond .ne 26, 3) := by decide +kernel
theorem dX1_reach_24 : decode cX1_reach 24 = .ok (.aload_n 0, 1) := by decide +kernel
theorem dX1_reach_25 : decode cX1_reach 25 = .ok (.getfield 20, 3) := by decide +kernel
theorem dX1_reach_28 : decode cX1_reach 28 = .ok (.iload 4, 2) := by decide +kernel
theorem dX1_reach_30 : decode cX1_reach 30 = .ok (.iaload, 1) := by decide +kernel
theorem dX1_reach_31 : decode cX1_reach 31 = .ok (.iload_n 3, 1) := by decide +kernel
theorem dX1_reach_32 : decode cX1_reach 32 = .ok (.if_icmp .ne 15, 3) := by decide +kernel
theorem dX1_reach_35 : decode cX1_reach 35 = .ok (.aload_n 0, 1) := by decide +kernel
theorem dX1_reach_36 : decode cX1_reach 36 = .ok (.getfield 41, 3) := by decide +kernel
theorem dX1_reach_39 : decode cX1_reach 39 = .ok (.aload_n 0, 1) := by decide +kernel
theorem dX1_reach_40 : decode cX1_reach 40 = .ok (.getfield 38, 3) := by decide +kernel
theorem dX1_reach_43 : decode cX1_reach 43 = .ok (.arraylength, 1) := by decide +kernel
theorem dX1_reach_44 : decode cX1_reach 44 = .ok (.if_icmp .lt 4, 3) := by decide +kernel
theorem dX1_reach_47 : decode cX1_reach 47 = .ok (.return_, 1) := by decide +kernel
theorem dX1_reach_48 : decode cX1_reach 48 = .ok (.aload_n 0, 1) := by decide +kernel
theorem dX1_reach_49 : decode cX1_reach 49 = .ok (.getfield 34, 3) := by decide +kernel
theorem dX1_reach_52 : decode cX1_reach 52 = .ok (.iload 4, 2) := by decide +kernel
theorem dX1_reach_54 : decode cX1_reach 54 = .ok (.iconst 1, 1) := by decide +kernel
theorem dX1_reach_55 : decode cX1_reach 55 = .ok (.bastore, 1) := by decide +kernel
theorem dX1_reach_56 : decode cX1_reach 56 = .ok (.aload_n 0, 1) := by decide +kernel
theorem dX1_reach_57 : decode cX1_reach 57 = .ok (.getfield 38, 3) := by decide +kernel
theorem dX1_reach_60 : decode cX1_reach 60 = .ok (.aload_n 0, 1) := by decide +kernel
theorem dX1_reach_61 : decode cX1_reach 61 = .ok (.getfield 41, 3) := by decide +kernel
theorem dX1_reach_64 : decode cX1_reach 64 = .ok (.iload 4, 2) := by decide +kernel
theorem dX1_reach_66 : decode cX1_reach 66 = .ok (.iastore, 1) := by decide +kernel
theorem dX1_reach_67 : decode cX1_reach 67 = .ok (.aload_n 0, 1) := by decide +kernel
theorem dX1_reach_68 : decode cX1_reach 68 = .ok (.dup, 1) := by decide +kernel
theorem dX1_reach_69 : decode cX1_reach 69 = .ok (.getfield 41, 3) := by decide +kernel
theorem dX1_reach_72 : decode cX1_reach 72 = .ok (.iconst 1, 1) := by decide +kernel
theorem dX1_reach_73 : decode cX1_reach 73 = .ok (.iadd, 1) := by decide +kernel
theorem dX1_reach_74 : decode cX1_reach 74 = .ok (.putfield 41, 3) := by decide +kernel
theorem dX1_reach_77 : decode cX1_reach 77 = .ok (.return_, 1) := by decide +kernel
