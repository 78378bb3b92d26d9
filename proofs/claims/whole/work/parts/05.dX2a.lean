theorem dX2_init_0 : decode cX2_init 0 = .ok (.aload_n 0, 1) := by decide +kernel
theorem dX2_init_1 : decode cX2_init 1 = .ok (.invokespecial 1, 3) := by decide +kernel
theorem dX2_init_4 : decode cX2_init 4 = .ok (.aload_n 0, 1) := by decide +kernel
theorem dX2_init_5 : decode cX2_init 5 = .ok (.sipush 576, 3) := by decide +kernel
theorem dX2_init_8 : decode cX2_init 8 = .ok (.newarray .int, 2) := by decide +kernel
theorem dX2_init_10 : decode cX2_init 10 = .ok (.putfield 7, 3) := by decide +kernel
theorem dX2_init_13 : decode cX2_init 13 = .ok (.aload_n 0, 1) := by decide +kernel
theorem dX2_init_14 : decode cX2_init 14 = .ok (.sipush 576, 3) := by decide +kernel
theorem dX2_init_17 : decode cX2_init 17 = .ok (.newarray .int, 2) := by decide +kernel
theorem dX2_init_19 : decode cX2_init 19 = .ok (.putfield 13, 3) := by decide +kernel
theorem dX2_init_22 : decode cX2_init 22 = .ok (.aload_n 0, 1) := by decide +kernel
theorem dX2_init_23 : decode cX2_init 23 = .ok (.iconst 3, 1) := by decide +kernel
theorem dX2_init_24 : decode cX2_init 24 = .ok (.newarray .int, 2) := by decide +kernel
theorem dX2_init_26 : decode cX2_init 26 = .ok (.putfield 16, 3) := by decide +kernel
theorem dX2_init_29 : decode cX2_init 29 = .ok (.aload_n 0, 1) := by decide +kernel
theorem dX2_init_30 : decode cX2_init 30 = .ok (.iconst 3, 1) := by decide +kernel
theorem dX2_init_31 : decode cX2_init 31 = .ok (.newarray .int, 2) := by decide +kernel
theorem dX2_init_33 : decode cX2_init 33 = .ok (.putfield 19, 3) := by decide +kernel
theorem dX2_init_36 : decode cX2_init 36 = .ok (.aload_n 0, 1) := by decide +kernel
theorem dX2_init_37 : decode cX2_init 37 = .ok (.iconst 3, 1) := by decide +kernel
theorem dX2_init_38 : decode cX2_init 38 = .ok (.newarray .int, 2) := by decide +kernel
theorem dX2_init_40 : decode cX2_init 40 = .ok (.putfield 22, 3) := by decide +kernel
theorem dX2_init_43 : decode cX2_init 43 = .ok (.aload_n 0, 1) := by decide +kernel
theorem dX2_init_44 : decode cX2_init 44 = .ok (.sipush 576, 3) := by decide +kernel
theorem dX2_init_47 : decode cX2_init 47 = .ok (.newarray .boolean, 2) := by decide +kernel
theorem dX2_init_49 : decode cX2_init 49 = .ok (.putfield 25, 3) := by decide +kernel
theorem dX2_init_52 : decode cX2_init 52 = .ok (.aload_n 0, 1) := by decide +kernel
theorem dX2_init_53 : decode cX2_init 53 = .ok (.iload_n 1, 1) := by decide +kernel
theorem dX2_init_54 : decode cX2_init 54 = .ok (.iconst 1, 1) := by decide +kernel
theorem dX2_init_55 : decode cX2_init 55 = .ok (.if_icmp .lt 13, 3) := by decide +kernel
theorem dX2_init_58 : decode cX2_init 58 = .ok (.iload_n 1, 1) := by decide +kernel
theorem dX2_init_59 : decode cX2_init 59 = .ok (.bipush 24, 2) := by decide +kernel
theorem dX2_init_61 : decode cX2_init 61 = .ok (.if_icmp .gt 7, 3) := by decide +kernel
theorem dX2_init_64 : decode cX2_init 64 = .ok (.iload_n 1, 1) := by decide +kernel
theorem dX2_init_65 : decode cX2_init 65 = .ok (.goto 4, 3) := by decide +kernel
theorem dX2_init_68 : decode cX2_init 68 = .ok (.iconst 1, 1) := by decide +kernel
theorem dX2_init_69 : decode cX2_init 69 = .ok (.putfield 29, 3) := by decide +kernel
theorem dX2_init_72 : decode cX2_init 72 = .ok (.aload_n 0, 1) := by decide +kernel
theorem dX2_init_73 : decode cX2_init 73 = .ok (.iload_n 2, 1) := by decide +kernel
theorem dX2_init_74 : decode cX2_init 74 = .ok (.iconst 1, 1) := by decide +kernel
theorem dX2_init_75 : decode cX2_init 75 = .ok (.if_icmp .lt 13, 3) := by decide +kernel
theorem dX2_init_78 : decode cX2_init 78 = .ok (.iload_n 2, 1) := by decide +kernel
theorem dX2_init_79 : decode cX2_init 79 = .ok (.bipush 24, 2) := by decide +kernel
theorem dX2_init_81 : decode cX2_init 81 = .ok (.if_icmp .gt 7, 3) := by decide +kernel
theorem dX2_init_84 : decode cX2_init 84 = .ok (.iload_n 2, 1) := by decide +kernel
theorem dX2_init_85 : decode cX2_init 85 = .ok (.goto 4, 3) := by decide +kernel
theorem dX2_init_88 : decode cX2_init 88 = .ok (.iconst 1, 1) := by decide +kernel
theorem dX2_init_89 : decode cX2_init 89 = .ok (.putfield 33, 3) := by decide +kernel
theorem dX2_init_92 : decode cX2_init 92 = .ok (.return_, 1) := by decide +kernel
theorem dX2_isPixel_0 : decode cX2_isPixel 0 = .ok (.iload_n 1, 1) := by decide +kernel
theorem dX2_isPixel_1 : decode cX2_isPixel 1 = .ok (.ifCond .lt 27, 3) := by decide +kernel
theorem dX2_isPixel_4 : decode cX2_isPixel 4 = .ok (.iload_n 1, 1) := by decide +kernel
theorem dX2_isPixel_5 : decode cX2_isPixel 5 = .ok (.aload_n 0, 1) := by decide +kernel
theorem dX2_isPixel_6 : decode cX2_isPixel 6 = .ok (.getfield 29, 3) := by decide +kernel
theorem dX2_isPixel_9 : decode cX2_isPixel 9 = .ok (.if_icmp .ge 19, 3) := by decide +kernel
theorem dX2_isPixel_12 : decode cX2_isPixel 12 = .ok (.iload_n 2, 1) := by decide +kernel
theorem dX2_isPixel_13 : decode cX2_isPixel 13 = .ok (.ifCond .lt 15, 3) := by decide +kernel
theorem dX2_isPixel_16 : decode cX2_isPixel 16 = .ok (.iload_n 2, 1) := by decide +kernel
theorem dX2_isPixel_17 : decode cX2_isPixel 17 = .ok (.aload_n 0, 1) := by decide +kernel
theorem dX2_isPixel_18 : decode cX2_isPixel 18 = .ok (.getfield 33, 3) := by decide +kernel
theorem dX2_isPixel_21 : decode cX2_isPixel 21 = .ok (.if_icmp .ge 7, 3) := by decide +kernel
theorem dX2_isPixel_24 : decode cX2_isPixel 24 = .ok (.iconst 1, 1) := by decide +kernel
theorem dX2_isPixel_25 : decode cX2_isPixel 25 = .ok (.goto 4, 3) := by decide +kernel
theorem dX2_isPixel_28 : decode cX2_isPixel 28 = .ok (.iconst 0, 1) := by decide +kernel
theorem dX2_isPixel_29 : decode cX2_isPixel 29 = .ok (.ireturn, 1) := by decide +kernel
theorem dX2_clear_0 : decode cX2_clear 0 = .ok (.iload_n 2, 1) := by decide +kernel
theorem dX2_clear_1 : decode cX2_clear 1 = .ok (.ifCond .lt 9, 3) := by decide +kernel
theorem dX2_clear_4 : decode cX2_clear 4 = .ok (.iload_n 2, 1) := by decide +kernel
theorem dX2_clear_5 : decode cX2_clear 5 = .ok (.ldc 36, 2) := by decide +kernel
theorem dX2_clear_7 : decode cX2_clear 7 = .ok (.if_icmp .le 5, 3) := by decide +kernel
theorem dX2_clear_10 : decode cX2_clear 10 = .ok (.iconst 0, 1) := by decide +kernel
theorem dX2_clear_11 : decode cX2_clear 11 = .ok (.ireturn, 1) := by decide +kernel
theorem dX2_clear_12 : decode cX2_clear 12 = .ok (.iconst 0, 1) := by decide +kernel
theorem dX2_clear_13 : decode cX2_clear 13 = .ok (.istore_n 3, 1) := by decide +kernel
theorem dX2_clear_14 : decode cX2_clear 14 = .ok (.iload_n 3, 1) := by decide +kernel
theorem dX2_clear_15 : decode cX2_clear 15 = .ok (.sipush 576, 3) := by decide +kernel
theorem dX2_clear_18 : decode cX2_clear 18 = .ok (.if_icmp .ge 23, 3) := by decide +kernel
theorem dX2_clear_21 : decode cX2_clear 21 = .ok (.aload_n 0, 1) := by decide +kernel
theorem dX2_clear_22 : decode cX2_clear 22 = .ok (.getfield 7, 3) := by decide +kernel
theorem dX2_clear_25 : decode cX2_clear 25 = .ok (.iload_n 3, 1) := by decide +kernel
theorem dX2_clear_26 : decode cX2_clear 26 = .ok (.iload_n 1, 1) := by decide +kernel
theorem dX2_clear_27 : decode cX2_clear 27 = .ok (.iastore, 1) := by decide +kernel
theorem dX2_clear_28 : decode cX2_clear 28 = .ok (.aload_n 0, 1) := by decide +kernel
theorem dX2_clear_29 : decode cX2_clear 29 = .ok (.getfield 13, 3) := by decide +kernel
theorem dX2_clear_32 : decode cX2_clear 32 = .ok (.iload_n 3, 1) := by decide +kernel
theorem dX2_clear_33 : decode cX2_clear 33 = .ok (.iload_n 2, 1) := by decide +kernel
theorem dX2_clear_34 : decode cX2_clear 34 = .ok (.iastore, 1) := by decide +kernel
theorem dX2_clear_35 : decode cX2_clear 35 = .ok (.iinc 3 1, 3) := by decide +kernel
theorem dX2_clear_38 : decode cX2_clear 38 = .ok (.goto (-24), 3) := by decide +kernel
theorem dX2_clear_41 : decode cX2_clear 41 = .ok (.iconst 1, 1) := by decide +kernel
theorem dX2_clear_42 : decode cX2_clear 42 = .ok (.ireturn, 1) := by decide +kernel
theorem dX2_isFar_0 : decode cX2_isFar 0 = .ok (.iload_n 0, 1) := by decide +kernel
theorem dX2_isFar_1 : decode cX2_isFar 1 = .ok (.sipush (-16384), 3) := by decide +kernel
theorem dX2_isFar_4 : decode cX2_isFar 4 = .ok (.if_icmp .lt 10, 3) := by decide +kernel
theorem dX2_isFar_7 : decode cX2_isFar 7 = .ok (.iload_n 0, 1) := by decide +kernel
theorem dX2_isFar_8 : decode cX2_isFar 8 = .ok (.sipush 16384, 3) := by decide +kernel
theorem dX2_isFar_11 : decode cX2_isFar 11 = .ok (.if_icmp .le 7, 3) := by decide +kernel
theorem dX2_isFar_14 : decode cX2_isFar 14 = .ok (.iconst 1, 1) := by decide +kernel
theorem dX2_isFar_15 : decode cX2_isFar 15 = .ok (.goto 4, 3) := by decide +kernel
theorem dX2_isFar_18 : decode cX2_isFar 18 = .ok (.iconst 0, 1) := by decide +kernel
theorem dX2_isFar_19 : decode cX2_isFar 19 = .ok (.ireturn, 1) := by decide +kernel
set_option maxRecDepth 20000 in
theorem ggX2_vertex_X2_isFar : GoodIn wsX2_vertex wsX2_isFar := goodIn_r _ [8] (by decide +kernel) (by decide +kernel)
set_option maxRecDepth 20000 in
theorem gX2_vertex_X2_isFar : GoodIn wsX2_vertex (va_wsS RX2 37 yX2_isFar wsX2_isFar) := goodIn_app (goodIn_of _ (by decide +kernel)) ggX2_vertex_X2_isFar
theorem dX2_vertex_0 : decode cX2_vertex 0 = .ok (.iload_n 1, 1) := by decide +kernel
theorem dX2_vertex_1 : decode cX2_vertex 1 = .ok (.ifCond .lt 34, 3) := by decide +kernel
theorem dX2_vertex_4 : decode cX2_vertex 4 = .ok (.iload_n 1, 1) := by decide +kernel
theorem dX2_vertex_5 : decode cX2_vertex 5 = .ok (.iconst 2, 1) := by decide +kernel
theorem dX2_vertex_6 : decode cX2_vertex 6 = .ok (.if_icmp .gt 29, 3) := by decide +kernel
theorem dX2_vertex_9 : decode cX2_vertex 9 = .ok (.iload_n 2, 1) := by decide +kernel
theorem dX2_vertex_10 : decode cX2_vertex 10 = .ok (.invokestatic 37, 3) := by decide +kernel
theorem dX2_vertex_13 : decode cX2_vertex 13 = .ok (.ifCond .ne 22, 3) := by decide +kernel
theorem dX2_vertex_16 : decode cX2_vertex 16 = .ok (.iload_n 3, 1) := by decide +kernel
theorem dX2_vertex_17 : decode cX2_vertex 17 = .ok (.invokestatic 37, 3) := by decide +kernel
theorem dX2_vertex_20 : decode cX2_vertex 20 = .ok (.ifCond .ne 15, 3) := by decide +kernel
theorem dX2_vertex_23 : decode cX2_vertex 23 = .ok (.iload 4, 2) := by decide +kernel
theorem dX2_vertex_25 : decode cX2_vertex 25 = .ok (.ifCond .lt 10, 3) := by decide +kernel
theorem dX2_vertex_28 : decode cX2_vertex 28 = .ok (.iload 4, 2) := by decide +kernel
theorem dX2_vertex_30 : decode cX2_vertex 30 = .ok (.ldc 41, 2) := by decide +kernel
theorem dX2_vertex_32 : decode cX2_vertex 32 = .ok (.if_icmp .le 5, 3) := by decide +kernel
theorem dX2_vertex_35 : decode cX2_vertex 35 = .ok (.iconst 0, 1) := by decide +kernel
theorem dX2_vertex_36 : decode cX2_vertex 36 = .ok (.ireturn, 1) := by decide +kernel
theorem dX2_vertex_37 : decode cX2_vertex 37 = .ok (.aload_n 0, 1) := by decide +kernel
theorem dX2_vertex_38 : decode cX2_vertex 38 = .ok (.getfield 16, 3) := by decide +kernel
theorem dX2_vertex_41 : decode cX2_vertex 41 = .ok (.iload_n 1, 1) := by decide +kernel
theorem dX2_vertex_42 : decode cX2_vertex 42 = .ok (.iload_n 2, 1) := by decide +kernel
theorem dX2_vertex_43 : decode cX2_vertex 43 = .ok (.iastore, 1) := by decide +kernel
theorem dX2_vertex_44 : decode cX2_vertex 44 = .ok (.aload_n 0, 1) := by decide +kernel
theorem dX2_vertex_45 : decode cX2_vertex 45 = .ok (.getfield 19, 3) := by decide +kernel
theorem dX2_vertex_48 : decode cX2_vertex 48 = .ok (.iload_n 1, 1) := by decide +kernel
theorem dX2_vertex_49 : decode cX2_vertex 49 = .ok (.iload_n 3, 1) := by decide +kernel
theorem dX2_vertex_50 : decode cX2_vertex 50 = .ok (.iastore, 1) := by decide +kernel
theorem dX2_vertex_51 : decode cX2_vertex 51 = .ok (.aload_n 0, 1) := by decide +kernel
theorem dX2_vertex_52 : decode cX2_vertex 52 = .ok (.getfield 22, 3) := by decide +kernel
theorem dX2_vertex_55 : decode cX2_vertex 55 = .ok (.iload_n 1, 1) := by decide +kernel
theorem dX2_vertex_56 : decode cX2_vertex 56 = .ok (.iload 4, 2) := by decide +kernel
theorem dX2_vertex_58 : decode cX2_vertex 58 = .ok (.iastore, 1) := by decide +kernel
theorem dX2_vertex_59 : decode cX2_vertex 59 = .ok (.iconst 1, 1) := by decide +kernel
theorem dX2_vertex_60 : decode cX2_vertex 60 = .ok (.ireturn, 1) := by decide +kernel
theorem dX2_edge_0 : decode cX2_edge 0 = .ok (.aload_n 0, 1) := by decide +kernel
theorem dX2_edge_1 : decode cX2_edge 1 = .ok (.getfield 16, 3) := by decide +kernel
theorem dX2_edge_4 : decode cX2_edge 4 = .ok (.iload_n 2, 1) := by decide +kernel
theorem dX2_edge_5 : decode cX2_edge 5 = .ok (.iaload, 1) := by decide +kernel
theorem dX2_edge_6 : decode cX2_edge 6 = .ok (.aload_n 0, 1) := by decide +kernel
theorem dX2_edge_7 : decode cX2_edge 7 = .ok (.getfield 16, 3) := by decide +kernel
theorem dX2_edge_10 : decode cX2_edge 10 = .ok (.iload_n 1, 1) := by decide +kernel
theorem dX2_edge_11 : decode cX2_edge 11 = .ok (.iaload, 1) := by decide +kernel
theorem dX2_edge_12 : decode cX2_edge 12 = .ok (.isub, 1) := by decide +kernel
theorem dX2_edge_13 : decode cX2_edge 13 = .ok (.i2l, 1) := by decide +kernel
theorem dX2_edge_14 : decode cX2_edge 14 = .ok (.lload 5, 2) := by decide +kernel
theorem dX2_edge_16 : decode cX2_edge 16 = .ok (.aload_n 0, 1) := by decide +kernel
theorem dX2_edge_17 : decode cX2_edge 17 = .ok (.getfield 19, 3) := by decide +kernel
theorem dX2_edge_20 : decode cX2_edge 20 = .ok (.iload_n 1, 1) := by decide +kernel
theorem dX2_edge_21 : decode cX2_edge 21 = .ok (.iaload, 1) := by decide +kernel
theorem dX2_edge_22 : decode cX2_edge 22 = .ok (.i2l, 1) := by decide +kernel
theorem dX2_edge_23 : decode cX2_edge 23 = .ok (.lsub, 1) := by decide +kernel
theorem dX2_edge_24 : decode cX2_edge 24 = .ok (.lmul, 1) := by decide +kernel
theorem dX2_edge_25 : decode cX2_edge 25 = .ok (.aload_n 0, 1) := by decide +kernel
theorem dX2_edge_26 : decode cX2_edge 26 = .ok (.getfield 19, 3) := by decide +kernel
theorem dX2_edge_29 : decode cX2_edge 29 = .ok (.iload_n 2, 1) := by decide +kernel
theorem dX2_edge_30 : decode cX2_edge 30 = .ok (.iaload, 1) := by decide +kernel
theorem dX2_edge_31 : decode cX2_edge 31 = .ok (.aload_n 0, 1) := by decide +kernel
theorem dX2_edge_32 : decode cX2_edge 32 = .ok (.getfield 19, 3) := by decide +kernel
theorem dX2_edge_35 : decode cX2_edge 35 = .ok (.iload_n 1, 1) := by decide +kernel
theorem dX2_edge_36 : decode cX2_edge 36 = .ok (.iaload, 1) := by decide +kernel
theorem dX2_edge_37 : decode cX2_edge 37 = .ok (.isub, 1) := by decide +kernel
theorem dX2_edge_38 : decode cX2_edge 38 = .ok (.i2l, 1) := by decide +kernel
theorem dX2_edge_39 : decode cX2_edge 39 = .ok (.lload_n 3, 1) := by decide +kernel
theorem dX2_edge_40 : decode cX2_edge 40 = .ok (.aload_n 0, 1) := by decide +kernel
theorem dX2_edge_41 : decode cX2_edge 41 = .ok (.getfield 16, 3) := by decide +kernel
theorem dX2_edge_44 : decode cX2_edge 44 = .ok (.iload_n 1, 1) := by decide +kernel
theorem dX2_edge_45 : decode cX2_edge 45 = .ok (.iaload, 1) := by decide +kernel
theorem dX2_edge_46 : decode cX2_edge 46 = .ok (.i2l, 1) := by decide +kernel
theorem dX2_edge_47 : decode cX2_edge 47 = .ok (.lsub, 1) := by decide +kernel
theorem dX2_edge_48 : decode cX2_edge 48 = .ok (.lmul, 1) := by decide +kernel
theorem dX2_edge_49 : decode cX2_edge 49 = .ok (.lsub, 1) := by decide +kernel
theorem dX2_edge_50 : decode cX2_edge 50 = .ok (.lreturn, 1) := by decide +kernel
set_option maxRecDepth 20000 in
theorem ggX2_area_X2_edge : GoodIn wsX2_area wsX2_edge := goodIn_r _ [7, 1, 2, 8, 9, 10, 11, 12, 13, 14, 15] (by decide +kernel) (by decide +kernel)
set_option maxRecDepth 20000 in
theorem gX2_area_X2_edge : GoodIn wsX2_area (wsV RX2 42 RX2 yX2_edge wsX2_edge) := goodIn_app (goodIn_of _ (by decide +kernel)) ggX2_area_X2_edge
theorem dX2_area_0 : decode cX2_area 0 = .ok (.aload_n 0, 1) := by decide +kernel
theorem dX2_area_1 : decode cX2_area 1 = .ok (.iconst 0, 1) := by decide +kernel
theorem dX2_area_2 : decode cX2_area 2 = .ok (.iconst 1, 1) := by decide +kernel
theorem dX2_area_3 : decode cX2_area 3 = .ok (.aload_n 0, 1) := by decide +kernel
theorem dX2_area_4 : decode cX2_area 4 = .ok (.getfield 16, 3) := by decide +kernel
theorem dX2_area_7 : decode cX2_area 7 = .ok (.iconst 2, 1) := by decide +kernel
theorem dX2_area_8 : decode cX2_area 8 = .ok (.iaload, 1) := by decide +kernel
theorem dX2_area_9 : decode cX2_area 9 = .ok (.i2l, 1) := by decide +kernel
theorem dX2_area_10 : decode cX2_area 10 = .ok (.aload_n 0, 1) := by decide +kernel
theorem dX2_area_11 : decode cX2_area 11 = .ok (.getfield 19, 3) := by decide +kernel
theorem dX2_area_14 : decode cX2_area 14 = .ok (.iconst 2, 1) := by decide +kernel
theorem dX2_area_15 : decode cX2_area 15 = .ok (.iaload, 1) := by decide +kernel
theorem dX2_area_16 : decode cX2_area 16 = .ok (.i2l, 1) := by decide +kernel
theorem dX2_area_17 : decode cX2_area 17 = .ok (.invokevirtual 42, 3) := by decide +kernel
theorem dX2_area_20 : decode cX2_area 20 = .ok (.lreturn, 1) := by decide +kernel
theorem dX2_isTopOrLeft_0 : decode cX2_isTopOrLeft 0 = .ok (.aload_n 0, 1) := by decide +kernel
theorem dX2_isTopOrLeft_1 : decode cX2_isTopOrLeft 1 = .ok (.getfield 19, 3) := by decide +kernel
theorem dX2_isTopOrLeft_4 : decode cX2_isTopOrLeft 4 = .ok (.iload_n 1, 1) := by decide +kernel
theorem dX2_isTopOrLeft_5 : decode cX2_isTopOrLeft 5 = .ok (.iaload, 1) := by decide +kernel
theorem dX2_isTopOrLeft_6 : decode cX2_isTopOrLeft 6 = .ok (.aload_n 0, 1) := by decide +kernel
theorem dX2_isTopOrLeft_7 : decode cX2_isTopOrLeft 7 = .ok (.getfield 19, 3) := by decide +kernel
theorem dX2_isTopOrLeft_10 : decode cX2_isTopOrLeft 10 = .ok (.iload_n 2, 1) := by decide +kernel
theorem dX2_isTopOrLeft_11 : decode cX2_isTopOrLeft 11 = .ok (.iaload, 1) := by decide +kernel
theorem dX2_isTopOrLeft_12 : decode cX2_isTopOrLeft 12 = .ok (.if_icmp .ne 18, 3) := by decide +kernel
theorem dX2_isTopOrLeft_15 : decode cX2_isTopOrLeft 15 = .ok (.aload_n 0, 1) := by decide +kernel
theorem dX2_isTopOrLeft_16 : decode cX2_isTopOrLeft 16 = .ok (.getfield 16, 3) := by decide +kernel
theorem dX2_isTopOrLeft_19 : decode cX2_isTopOrLeft 19 = .ok (.iload_n 2, 1) := by decide +kernel
theorem dX2_isTopOrLeft_20 : decode cX2_isTopOrLeft 20 = .ok (.iaload, 1) := by decide +kernel
theorem dX2_isTopOrLeft_21 : decode cX2_isTopOrLeft 21 = .ok (.aload_n 0, 1) := by decide +kernel
theorem dX2_isTopOrLeft_22 : decode cX2_isTopOrLeft 22 = .ok (.getfield 16, 3) := by decide +kernel
theorem dX2_isTopOrLeft_25 : decode cX2_isTopOrLeft 25 = .ok (.iload_n 1, 1) := by decide +kernel
theorem dX2_isTopOrLeft_26 : decode cX2_isTopOrLeft 26 = .ok (.iaload, 1) := by decide +kernel
theorem dX2_isTopOrLeft_27 : decode cX2_isTopOrLeft 27 = .ok (.if_icmp .gt 18, 3) := by decide +kernel
theorem dX2_isTopOrLeft_30 : decode cX2_isTopOrLeft 30 = .ok (.aload_n 0, 1) := by decide +kernel
theorem dX2_isTopOrLeft_31 : decode cX2_isTopOrLeft 31 = .ok (.getfield 19, 3) := by decide +kernel
theorem dX2_isTopOrLeft_34 : decode cX2_isTopOrLeft 34 = .ok (.iload_n 2, 1) := by decide +kernel
theorem dX2_isTopOrLeft_35 : decode cX2_isTopOrLeft 35 = .ok (.iaload, 1) := by decide +kernel
theorem dX2_isTopOrLeft_36 : decode cX2_isTopOrLeft 36 = .ok (.aload_n 0, 1) := by decide +kernel
theorem dX2_isTopOrLeft_37 : decode cX2_isTopOrLeft 37 = .ok (.getfield 19, 3) := by decide +kernel
theorem dX2_isTopOrLeft_40 : decode cX2_isTopOrLeft 40 = .ok (.iload_n 1, 1) := by decide +kernel
theorem dX2_isTopOrLeft_41 : decode cX2_isTopOrLeft 41 = .ok (.iaload, 1) := by decide +kernel
theorem dX2_isTopOrLeft_42 : decode cX2_isTopOrLeft 42 = .ok (.if_icmp .ge 7, 3) := by decide +kernel
theorem dX2_isTopOrLeft_45 : decode cX2_isTopOrLeft 45 = .ok (.iconst 1, 1) := by decide +kernel
theorem dX2_isTopOrLeft_46 : decode cX2_isTopOrLeft 46 = .ok (.goto 4, 3) := by decide +kernel
theorem dX2_isTopOrLeft_49 : decode cX2_isTopOrLeft 49 = .ok (.iconst 0, 1) := by decide +kernel
theorem dX2_isTopOrLeft_50 : decode cX2_isTopOrLeft 50 = .ok (.ireturn, 1) := by decide +kernel
set_option maxRecDepth 20000 in
theorem ggX2_isInside_X2_edge : GoodIn wsX2_isInside wsX2_edge := goodIn_r _ [5, 6, 7, 12, 13, 14, 15, 16, 17, 18, 19] (by decide +kernel) (by decide +kernel)
set_option maxRecDepth 20000 in
theorem gX2_isInside_X2_edge : GoodIn wsX2_isInside (wsV RX2 42 RX2 yX2_edge wsX2_edge) := goodIn_app (goodIn_of _ (by decide +kernel)) ggX2_isInside_X2_edge
set_option maxRecDepth 20000 in
theorem ggX2_isInside_X2_isTopOrLeft : GoodIn wsX2_isInside wsX2_isTopOrLeft := goodIn_r _ [11, 7, 6, 12, 13, 14, 15, 16, 17, 18, 19] (by decide +kernel) (by decide +kernel)
set_option maxRecDepth 20000 in
theorem gX2_isInside_X2_isTopOrLeft : GoodIn wsX2_isInside (wsV RX2 46 RX2 yX2_isTopOrLeft wsX2_isTopOrLeft) := goodIn_app (goodIn_of _ (by decide +kernel)) ggX2_isInside_X2_isTopOrLeft
theorem dX2_isInside_0 : decode cX2_isInside 0 = .ok (.aload_n 0, 1) := by decide +kernel
theorem dX2_isInside_1 : decode cX2_isInside 1 = .ok (.iload_n 1, 1) := by decide +kernel
theorem dX2_isInside_2 : decode cX2_isInside 2 = .ok (.iload_n 2, 1) := by decide +kernel
theorem dX2_isInside_3 : decode cX2_isInside 3 = .ok (.lload_n 3, 1) := by decide +kernel
theorem dX2_isInside_4 : decode cX2_isInside 4 = .ok (.lload 5, 2) := by decide +kernel
theorem dX2_isInside_6 : decode cX2_isInside 6 = .ok (.invokevirtual 42, 3) := by decide +kernel
theorem dX2_isInside_9 : decode cX2_isInside 9 = .ok (.lstore 7, 2) := by decide +kernel
theorem dX2_isInside_11 : decode cX2_isInside 11 = .ok (.lload 7, 2) := by decide +kernel
theorem dX2_isInside_13 : decode cX2_isInside 13 = .ok (.lconst 0, 1) := by decide +kernel
theorem dX2_isInside_14 : decode cX2_isInside 14 = .ok (.lcmp, 1) := by decide +kernel
theorem dX2_isInside_15 : decode cX2_isInside 15 = .ok (.ifCond .gt 19, 3) := by decide +kernel
theorem dX2_isInside_18 : decode cX2_isInside 18 = .ok (.lload 7, 2) := by decide +kernel
theorem dX2_isInside_20 : decode cX2_isInside 20 = .ok (.lconst 0, 1) := by decide +kernel
theorem dX2_isInside_21 : decode cX2_isInside 21 = .ok (.lcmp, 1) := by decide +kernel
theorem dX2_isInside_22 : decode cX2_isInside 22 = .ok (.ifCond .ne 16, 3) := by decide +kernel
theorem dX2_isInside_25 : decode cX2_isInside 25 = .ok (.aload_n 0, 1) := by decide +kernel
theorem dX2_isInside_26 : decode cX2_isInside 26 = .ok (.iload_n 1, 1) := by decide +kernel
theorem dX2_isInside_27 : decode cX2_isInside 27 = .ok (.iload_n 2, 1) := by decide +kernel
theorem dX2_isInside_28 : decode cX2_isInside 28 = .ok (.invokevirtual 46, 3) := by decide +kernel
theorem dX2_isInside_31 : decode cX2_isInside 31 = .ok (.ifCond .eq 7, 3) := by decide +kernel
theorem dX2_isInside_34 : decode cX2_isInside 34 = .ok (.iconst 1, 1) := by decide +kernel
theorem dX2_isInside_35 : decode cX2_isInside 35 = .ok (.goto 4, 3) := by decide +kernel
theorem dX2_isInside_38 : decode cX2_isInside 38 = .ok (.iconst 0, 1) := by decide +kernel
theorem dX2_isInside_39 : decode cX2_isInside 39 = .ok (.ireturn, 1) := by decide +kernel
set_option maxRecDepth 20000 in
theorem ggX2_isCovered_X2_area : GoodIn wsX2_isCovered wsX2_area := goodIn_r _ [7, 8, 9, 10, 11, 12, 6, 13, 22, 23, 24, 25, 26, 27, 28, 29] (by decide +kernel) (by decide +kernel)
set_option maxRecDepth 20000 in
theorem gX2_isCovered_X2_area : GoodIn wsX2_isCovered (wsV RX2 54 RX2 yX2_area wsX2_area) := goodIn_app (goodIn_of _ (by decide +kernel)) ggX2_isCovered_X2_area
set_option maxRecDepth 20000 in
theorem ggX2_isCovered_X2_isInside : GoodIn wsX2_isCovered wsX2_isInside := goodIn_r _ [17, 10, 11, 12, 6, 13, 8, 9, 18, 19, 20, 21, 22, 23, 24, 25, 26, 27, 28, 29] (by decide +kernel) (by decide +kernel)
set_option maxRecDepth 20000 in
theorem gX2_isCovered_X2_isInside : GoodIn wsX2_isCovered (wsV RX2 58 RX2 yX2_isInside wsX2_isInside) := goodIn_app (goodIn_of _ (by decide +kernel)) ggX2_isCovered_X2_isInside
theorem dX2_isCovered_0 : decode cX2_isCovered 0 = .ok (.ldc2_w 50, 3) := by decide +kernel
theorem dX2_isCovered_3 : decode cX2_isCovered 3 = .ok (.iload_n 1, 1) := by decide +kernel
theorem dX2_isCovered_4 : decode cX2_isCovered 4 = .ok (.i2l, 1) := by decide +kernel
theorem dX2_isCovered_5 : decode cX2_isCovered 5 = .ok (.lmul, 1) := by decide +kernel
theorem dX2_isCovered_6 : decode cX2_isCovered 6 = .ok (.ldc2_w 52, 3) := by decide +kernel
theorem dX2_isCovered_9 : decode cX2_isCovered 9 = .ok (.ladd, 1) := by decide +kernel
theorem dX2_isCovered_10 : decode cX2_isCovered 10 = .ok (.lstore_n 3, 1) := by decide +kernel
theorem dX2_isCovered_11 : decode cX2_isCovered 11 = .ok (.ldc2_w 50, 3) := by decide +kernel
theorem dX2_isCovered_14 : decode cX2_isCovered 14 = .ok (.iload_n 2, 1) := by decide +kernel
theorem dX2_isCovered_15 : decode cX2_isCovered 15 = .ok (.i2l, 1) := by decide +kernel
theorem dX2_isCovered_16 : decode cX2_isCovered 16 = .ok (.lmul, 1) := by decide +kernel
theorem dX2_isCovered_17 : decode cX2_isCovered 17 = .ok (.ldc2_w 52, 3) := by decide +kernel
theorem dX2_isCovered_20 : decode cX2_isCovered 20 = .ok (.ladd, 1) := by decide +kernel
theorem dX2_isCovered_21 : decode cX2_isCovered 21 = .ok (.lstore 5, 2) := by decide +kernel
theorem dX2_isCovered_23 : decode cX2_isCovered 23 = .ok (.aload_n 0, 1) := by decide +kernel
theorem dX2_isCovered_24 : decode cX2_isCovered 24 = .ok (.invokevirtual 54, 3) := by decide +kernel
theorem dX2_isCovered_27 : decode cX2_isCovered 27 = .ok (.lstore 7, 2) := by decide +kernel
theorem dX2_isCovered_29 : decode cX2_isCovered 29 = .ok (.lload 7, 2) := by decide +kernel
theorem dX2_isCovered_31 : decode cX2_isCovered 31 = .ok (.lconst 0, 1) := by decide +kernel
theorem dX2_isCovered_32 : decode cX2_isCovered 32 = .ok (.lcmp, 1) := by decide +kernel
theorem dX2_isCovered_33 : decode cX2_isCovered 33 = .ok (.ifCond .le 45, 3) := by decide +kernel
theorem dX2_isCovered_36 : decode cX2_isCovered 36 = .ok (.aload_n 0, 1) := by decide +kernel
theorem dX2_isCovered_37 : decode cX2_isCovered 37 = .ok (.iconst 0, 1) := by decide +kernel
theorem dX2_isCovered_38 : decode cX2_isCovered 38 = .ok (.iconst 1, 1) := by decide +kernel
theorem dX2_isCovered_39 : decode cX2_isCovered 39 = .ok (.lload_n 3, 1) := by decide +kernel
theorem dX2_isCovered_40 : decode cX2_isCovered 40 = .ok (.lload 5, 2) := by decide +kernel
theorem dX2_isCovered_42 : decode cX2_isCovered 42 = .ok (.invokevirtual 58, 3) := by decide +kernel
theorem dX2_isCovered_45 : decode cX2_isCovered 45 = .ok (.ifCond .eq 31, 3) := by decide +kernel
theorem dX2_isCovered_48 : decode cX2_isCovered 48 = .ok (.aload_n 0, 1) := by decide +kernel
theorem dX2_isCovered_49 : decode cX2_isCovered 49 = .ok (.iconst 1, 1) := by decide +kernel
theorem dX2_isCovered_50 : decode cX2_isCovered 50 = .ok (.iconst 2, 1) := by decide +kernel
theorem dX2_isCovered_51 : decode cX2_isCovered 51 = .ok (.lload_n 3, 1) := by decide +kernel
theorem dX2_isCovered_52 : decode cX2_isCovered 52 = .ok (.lload 5, 2) := by decide +kernel
theorem dX2_isCovered_54 : decode cX2_isCovered 54 = .ok (.invokevirtual 58, 3) := by decide +kernel
theorem dX2_isCovered_57 : decode cX2_isCovered 57 = .ok (.ifCond .eq 19, 3) := by decide +kernel
theorem dX2_isCovered_60 : decode cX2_isCovered 60 = .ok (.aload_n 0, 1) := by decide +kernel
theorem dX2_isCovered_61 : decode cX2_isCovered 61 = .ok (.iconst 2, 1) := by decide +kernel
theorem dX2_isCovered_62 : decode cX2_isCovered 62 = .ok (.iconst 0, 1) := by decide +kernel
theorem dX2_isCovered_63 : decode cX2_isCovered 63 = .ok (.lload_n 3, 1) := by decide +kernel
theorem dX2_isCovered_64 : decode cX2_isCovered 64 = .ok (.lload 5, 2) := by decide +kernel
theorem dX2_isCovered_66 : decode cX2_isCovered 66 = .ok (.invokevirtual 58, 3) := by decide +kernel
theorem dX2_isCovered_69 : decode cX2_isCovered 69 = .ok (.ifCond .eq 7, 3) := by decide +kernel
theorem dX2_isCovered_72 : decode cX2_isCovered 72 = .ok (.iconst 1, 1) := by decide +kernel
theorem dX2_isCovered_73 : decode cX2_isCovered 73 = .ok (.goto 4, 3) := by decide +kernel
theorem dX2_isCovered_76 : decode cX2_isCovered 76 = .ok (.iconst 0, 1) := by decide +kernel
theorem dX2_isCovered_77 : decode cX2_isCovered 77 = .ok (.ireturn, 1) := by decide +kernel
theorem dX2_isCovered_78 : decode cX2_isCovered 78 = .ok (.lload 7, 2) := by decide +kernel
theorem dX2_isCovered_80 : decode cX2_isCovered 80 = .ok (.lconst 0, 1) := by decide +kernel
theorem dX2_isCovered_81 : decode cX2_isCovered 81 = .ok (.lcmp, 1) := by decide +kernel
theorem dX2_isCovered_82 : decode cX2_isCovered 82 = .ok (.ifCond .ge 43, 3) := by decide +kernel
theorem dX2_isCovered_85 : decode cX2_isCovered 85 = .ok (.aload_n 0, 1) := by decide +kernel
theorem dX2_isCovered_86 : decode cX2_isCovered 86 = .ok (.iconst 0, 1) := by decide +kernel
theorem dX2_isCovered_87 : decode cX2_isCovered 87 = .ok (.iconst 2, 1) := by decide +kernel
theorem dX2_isCovered_88 : decode cX2_isCovered 88 = .ok (.lload_n 3, 1) := by decide +kernel
theorem dX2_isCovered_89 : decode cX2_isCovered 89 = .ok (.lload 5, 2) := by decide +kernel
theorem dX2_isCovered_91 : decode cX2_isCovered 91 = .ok (.invokevirtual 58, 3) := by decide +kernel
theorem dX2_isCovered_94 : decode cX2_isCovered 94 = .ok (.ifCond .eq 31, 3) := by decide +kernel
theorem dX2_isCovered_97 : decode cX2_isCovered 97 = .ok (.aload_n 0, 1) := by decide +kernel
theorem dX2_isCovered_98 : decode cX2_isCovered 98 = .ok (.iconst 2, 1) := by decide +kernel
theorem dX2_isCovered_99 : decode cX2_isCovered 99 = .ok (.iconst 1, 1) := by decide +kernel
theorem dX2_isCovered_100 : decode cX2_isCovered 100 = .ok (.lload_n 3, 1) := by decide +kernel
theorem dX2_isCovered_101 : decode cX2_isCovered 101 = .ok (.lload 5, 2) := by decide +kernel
theorem dX2_isCovered_103 : decode cX2_isCovered 103 = .ok (.invokevirtual 58, 3) := by decide +kernel
theorem dX2_isCovered_106 : decode cX2_isCovered 106 = .ok (.ifCond .eq 19, 3) := by decide +kernel
theorem dX2_isCovered_109 : decode cX2_isCovered 109 = .ok (.aload_n 0, 1) := by decide +kernel
theorem dX2_isCovered_110 : decode cX2_isCovered 110 = .ok (.iconst 1, 1) := by decide +kernel
theorem dX2_isCovered_111 : decode cX2_isCovered 111 = .ok (.iconst 0, 1) := by decide +kernel
theorem dX2_isCovered_112 : decode cX2_isCovered 112 = .ok (.lload_n 3, 1) := by decide +kernel
theorem dX2_isCovered_113 : decode cX2_isCovered 113 = .ok (.lload 5, 2) := by decide +kernel
theorem dX2_isCovered_115 : decode cX2_isCovered 115 = .ok (.invokevirtual 58, 3) := by decide +kernel
theorem dX2_isCovered_118 : decode cX2_isCovered 118 = .ok (.ifCond .eq 7, 3) := by decide +kernel
theorem dX2_isCovered_121 : decode cX2_isCovered 121 = .ok (.iconst 1, 1) := by decide +kernel
theorem dX2_isCovered_122 : decode cX2_isCovered 122 = .ok (.goto 4, 3) := by decide +kernel
theorem dX2_isCovered_125 : decode cX2_isCovered 125 = .ok (.iconst 0, 1) := by decide +kernel
theorem dX2_isCovered_126 : decode cX2_isCovered 126 = .ok (.ireturn, 1) := by decide +kernel
set_option maxRecDepth 20000 in
theorem ggX2_depthOf_X2_edge : GoodIn wsX2_depthOf wsX2_edge := goodIn_r _ [8, 9, 10, 15, 16, 17, 18, 19, 20, 21, 22] (by decide +kernel) (by decide +kernel)
set_option maxRecDepth 20000 in
theorem gX2_depthOf_X2_edge : GoodIn wsX2_depthOf (wsV RX2 42 RX2 yX2_edge wsX2_edge) := goodIn_app (goodIn_of _ (by decide +kernel)) ggX2_depthOf_X2_edge
set_option maxRecDepth 20000 in
theorem ggX2_depthOf_X2_area : GoodIn wsX2_depthOf wsX2_area := goodIn_r _ [14, 9, 10, 4, 5, 6, 7, 8, 15, 16, 17, 18, 19, 20, 21, 22] (by decide +kernel) (by decide +kernel)
set_option maxRecDepth 20000 in
theorem gX2_depthOf_X2_area : GoodIn wsX2_depthOf (wsV RX2 54 RX2 yX2_area wsX2_area) := goodIn_app (goodIn_of _ (by decide +kernel)) ggX2_depthOf_X2_area
theorem dX2_depthOf_0 : decode cX2_depthOf 0 = .ok (.ldc2_w 50, 3) := by decide +kernel
theorem dX2_depthOf_3 : decode cX2_depthOf 3 = .ok (.iload_n 1, 1) := by decide +kernel
theorem dX2_depthOf_4 : decode cX2_depthOf 4 = .ok (.i2l, 1) := by decide +kernel
theorem dX2_depthOf_5 : decode cX2_depthOf 5 = .ok (.lmul, 1) := by decide +kernel
theorem dX2_depthOf_6 : decode cX2_depthOf 6 = .ok (.ldc2_w 52, 3) := by decide +kernel
theorem dX2_depthOf_9 : decode cX2_depthOf 9 = .ok (.ladd, 1) := by decide +kernel
theorem dX2_depthOf_10 : decode cX2_depthOf 10 = .ok (.lstore_n 3, 1) := by decide +kernel
theorem dX2_depthOf_11 : decode cX2_depthOf 11 = .ok (.ldc2_w 50, 3) := by decide +kernel
theorem dX2_depthOf_14 : decode cX2_depthOf 14 = .ok (.iload_n 2, 1) := by decide +kernel
theorem dX2_depthOf_15 : decode cX2_depthOf 15 = .ok (.i2l, 1) := by decide +kernel
theorem dX2_depthOf_16 : decode cX2_depthOf 16 = .ok (.lmul, 1) := by decide +kernel
theorem dX2_depthOf_17 : decode cX2_depthOf 17 = .ok (.ldc2_w 52, 3) := by decide +kernel
theorem dX2_depthOf_20 : decode cX2_depthOf 20 = .ok (.ladd, 1) := by decide +kernel
theorem dX2_depthOf_21 : decode cX2_depthOf 21 = .ok (.lstore 5, 2) := by decide +kernel
theorem dX2_depthOf_23 : decode cX2_depthOf 23 = .ok (.aload_n 0, 1) := by decide +kernel
theorem dX2_depthOf_24 : decode cX2_depthOf 24 = .ok (.iconst 1, 1) := by decide +kernel
theorem dX2_depthOf_25 : decode cX2_depthOf 25 = .ok (.iconst 2, 1) := by decide +kernel
theorem dX2_depthOf_26 : decode cX2_depthOf 26 = .ok (.lload_n 3, 1) := by decide +kernel
theorem dX2_depthOf_27 : decode cX2_depthOf 27 = .ok (.lload 5, 2) := by decide +kernel
theorem dX2_depthOf_29 : decode cX2_depthOf 29 = .ok (.invokevirtual 42, 3) := by decide +kernel
theorem dX2_depthOf_32 : decode cX2_depthOf 32 = .ok (.aload_n 0, 1) := by decide +kernel
theorem dX2_depthOf_33 : decode cX2_depthOf 33 = .ok (.getfield 22, 3) := by decide +kernel
theorem dX2_depthOf_36 : decode cX2_depthOf 36 = .ok (.iconst 0, 1) := by decide +kernel
theorem dX2_depthOf_37 : decode cX2_depthOf 37 = .ok (.iaload, 1) := by decide +kernel
theorem dX2_depthOf_38 : decode cX2_depthOf 38 = .ok (.i2l, 1) := by decide +kernel
theorem dX2_depthOf_39 : decode cX2_depthOf 39 = .ok (.lmul, 1) := by decide +kernel
theorem dX2_depthOf_40 : decode cX2_depthOf 40 = .ok (.aload_n 0, 1) := by decide +kernel
theorem dX2_depthOf_41 : decode cX2_depthOf 41 = .ok (.iconst 2, 1) := by decide +kernel
theorem dX2_depthOf_42 : decode cX2_depthOf 42 = .ok (.iconst 0, 1) := by decide +kernel
theorem dX2_depthOf_43 : decode cX2_depthOf 43 = .ok (.lload_n 3, 1) := by decide +kernel
theorem dX2_depthOf_44 : decode cX2_depthOf 44 = .ok (.lload 5, 2) := by decide +kernel
theorem dX2_depthOf_46 : decode cX2_depthOf 46 = .ok (.invokevirtual 42, 3) := by decide +kernel
theorem dX2_depthOf_49 : decode cX2_depthOf 49 = .ok (.aload_n 0, 1) := by decide +kernel
theorem dX2_depthOf_50 : decode cX2_depthOf 50 = .ok (.getfield 22, 3) := by decide +kernel
theorem dX2_depthOf_53 : decode cX2_depthOf 53 = .ok (.iconst 1, 1) := by decide +kernel
theorem dX2_depthOf_54 : decode cX2_depthOf 54 = .ok (.iaload, 1) := by decide +kernel
theorem dX2_depthOf_55 : decode cX2_depthOf 55 = .ok (.i2l, 1) := by decide +kernel
theorem dX2_depthOf_56 : decode cX2_depthOf 56 = .ok (.lmul, 1) := by decide +kernel
theorem dX2_depthOf_57 : decode cX2_depthOf 57 = .ok (.ladd, 1) := by decide +kernel
theorem dX2_depthOf_58 : decode cX2_depthOf 58 = .ok (.aload_n 0, 1) := by decide +kernel
theorem dX2_depthOf_59 : decode cX2_depthOf 59 = .ok (.iconst 0, 1) := by decide +kernel
theorem dX2_depthOf_60 : decode cX2_depthOf 60 = .ok (.iconst 1, 1) := by decide +kernel
theorem dX2_depthOf_61 : decode cX2_depthOf 61 = .ok (.lload_n 3, 1) := by decide +kernel
theorem dX2_depthOf_62 : decode cX2_depthOf 62 = .ok (.lload 5, 2) := by decide +kernel
theorem dX2_depthOf_64 : decode cX2_depthOf 64 = .ok (.invokevirtual 42, 3) := by decide +kernel
theorem dX2_depthOf_67 : decode cX2_depthOf 67 = .ok (.aload_n 0, 1) := by decide +kernel
theorem dX2_depthOf_68 : decode cX2_depthOf 68 = .ok (.getfield 22, 3) := by decide +kernel
theorem dX2_depthOf_71 : decode cX2_depthOf 71 = .ok (.iconst 2, 1) := by decide +kernel
theorem dX2_depthOf_72 : decode cX2_depthOf 72 = .ok (.iaload, 1) := by decide +kernel
theorem dX2_depthOf_73 : decode cX2_depthOf 73 = .ok (.i2l, 1) := by decide +kernel
theorem dX2_depthOf_74 : decode cX2_depthOf 74 = .ok (.lmul, 1) := by decide +kernel
theorem dX2_depthOf_75 : decode cX2_depthOf 75 = .ok (.ladd, 1) := by decide +kernel
theorem dX2_depthOf_76 : decode cX2_depthOf 76 = .ok (.lstore 7, 2) := by decide +kernel
theorem dX2_depthOf_78 : decode cX2_depthOf 78 = .ok (.lload 7, 2) := by decide +kernel
theorem dX2_depthOf_80 : decode cX2_depthOf 80 = .ok (.aload_n 0, 1) := by decide +kernel
theorem dX2_depthOf_81 : decode cX2_depthOf 81 = .ok (.invokevirtual 54, 3) := by decide +kernel
theorem dX2_depthOf_84 : decode cX2_depthOf 84 = .ok (.ldiv, 1) := by decide +kernel
theorem dX2_depthOf_85 : decode cX2_depthOf 85 = .ok (.l2i, 1) := by decide +kernel
theorem dX2_depthOf_86 : decode cX2_depthOf 86 = .ok (.ireturn, 1) := by decide +kernel
set_option maxRecDepth 20000 in
theorem ggX2_triangle_X2_isCovered : GoodIn wsX2_triangle wsX2_isCovered := goodIn_r _ [9, 10, 11, 12, 13, 14, 8, 15, 16, 17, 18, 19, 20, 21, 22, 23, 24, 25, 26, 27, 28, 29, 35, 36, 37, 38, 39, 40, 41, 42] (by decide +kernel) (by decide +kernel)
set_option maxRecDepth 20000 in
theorem gX2_triangle_X2_isCovered : GoodIn wsX2_triangle (wsV RX2 62 RX2 yX2_isCovered wsX2_isCovered) := goodIn_app (goodIn_of _ (by decide +kernel)) ggX2_triangle_X2_isCovered
set_option maxRecDepth 20000 in
theorem ggX2_triangle_X2_depthOf : GoodIn wsX2_triangle wsX2_depthOf := goodIn_r _ [33, 10, 11, 34, 18, 19, 20, 8, 21, 16, 17, 12, 13, 14, 15, 35, 36, 37, 38, 39, 40, 41, 42] (by decide +kernel) (by decide +kernel)
set_option maxRecDepth 20000 in
theorem gX2_triangle_X2_depthOf : GoodIn wsX2_triangle (wsV RX2 65 RX2 yX2_depthOf wsX2_depthOf) := goodIn_app (goodIn_of _ (by decide +kernel)) ggX2_triangle_X2_depthOf
theorem dX2_triangle_0 : decode cX2_triangle 0 = .ok (.iconst 0, 1) := by decide +kernel
theorem dX2_triangle_1 : decode cX2_triangle 1 = .ok (.istore_n 2, 1) := by decide +kernel
theorem dX2_triangle_2 : decode cX2_triangle 2 = .ok (.iconst 0, 1) := by decide +kernel
theorem dX2_triangle_3 : decode cX2_triangle 3 = .ok (.istore_n 3, 1) := by decide +kernel
theorem dX2_triangle_4 : decode cX2_triangle 4 = .ok (.iload_n 3, 1) := by decide +kernel
theorem dX2_triangle_5 : decode cX2_triangle 5 = .ok (.aload_n 0, 1) := by decide +kernel
theorem dX2_triangle_6 : decode cX2_triangle 6 = .ok (.getfield 33, 3) := by decide +kernel
theorem dX2_triangle_9 : decode cX2_triangle 9 = .ok (.if_icmp .ge 94, 3) := by decide +kernel
theorem dX2_triangle_12 : decode cX2_triangle 12 = .ok (.iconst 0, 1) := by decide +kernel
theorem dX2_triangle_13 : decode cX2_triangle 13 = .ok (.istore 4, 2) := by decide +kernel
theorem dX2_triangle_15 : decode cX2_triangle 15 = .ok (.iload 4, 2) := by decide +kernel
theorem dX2_triangle_17 : decode cX2_triangle 17 = .ok (.aload_n 0, 1) := by decide +kernel
theorem dX2_triangle_18 : decode cX2_triangle 18 = .ok (.getfield 29, 3) := by decide +kernel
theorem dX2_triangle_21 : decode cX2_triangle 21 = .ok (.if_icmp .ge 76, 3) := by decide +kernel
theorem dX2_triangle_24 : decode cX2_triangle 24 = .ok (.aload_n 0, 1) := by decide +kernel
theorem dX2_triangle_25 : decode cX2_triangle 25 = .ok (.iload 4, 2) := by decide +kernel
theorem dX2_triangle_27 : decode cX2_triangle 27 = .ok (.iload_n 3, 1) := by decide +kernel
theorem dX2_triangle_28 : decode cX2_triangle 28 = .ok (.invokevirtual 62, 3) := by decide +kernel
theorem dX2_triangle_31 : decode cX2_triangle 31 = .ok (.ifCond .eq 60, 3) := by decide +kernel
theorem dX2_triangle_34 : decode cX2_triangle 34 = .ok (.aload_n 0, 1) := by decide +kernel
theorem dX2_triangle_35 : decode cX2_triangle 35 = .ok (.getfield 13, 3) := by decide +kernel
theorem dX2_triangle_38 : decode cX2_triangle 38 = .ok (.bipush 24, 2) := by decide +kernel
theorem dX2_triangle_40 : decode cX2_triangle 40 = .ok (.iload_n 3, 1) := by decide +kernel
theorem dX2_triangle_41 : decode cX2_triangle 41 = .ok (.imul, 1) := by decide +kernel
theorem dX2_triangle_42 : decode cX2_triangle 42 = .ok (.iload 4, 2) := by decide +kernel
theorem dX2_triangle_44 : decode cX2_triangle 44 = .ok (.iadd, 1) := by decide +kernel
theorem dX2_triangle_45 : decode cX2_triangle 45 = .ok (.iaload, 1) := by decide +kernel
theorem dX2_triangle_46 : decode cX2_triangle 46 = .ok (.aload_n 0, 1) := by decide +kernel
theorem dX2_triangle_47 : decode cX2_triangle 47 = .ok (.iload 4, 2) := by decide +kernel
theorem dX2_triangle_49 : decode cX2_triangle 49 = .ok (.iload_n 3, 1) := by decide +kernel
theorem dX2_triangle_50 : decode cX2_triangle 50 = .ok (.invokevirtual 65, 3) := by decide +kernel
theorem dX2_triangle_53 : decode cX2_triangle 53 = .ok (.if_icmp .le 38, 3) := by decide +kernel
theorem dX2_triangle_56 : decode cX2_triangle 56 = .ok (.aload_n 0, 1) := by decide +kernel
theorem dX2_triangle_57 : decode cX2_triangle 57 = .ok (.getfield 7, 3) := by decide +kernel
theorem dX2_triangle_60 : decode cX2_triangle 60 = .ok (.bipush 24, 2) := by decide +kernel
theorem dX2_triangle_62 : decode cX2_triangle 62 = .ok (.iload_n 3, 1) := by decide +kernel
theorem dX2_triangle_63 : decode cX2_triangle 63 = .ok (.imul, 1) := by decide +kernel
theorem dX2_triangle_64 : decode cX2_triangle 64 = .ok (.iload 4, 2) := by decide +kernel
theorem dX2_triangle_66 : decode cX2_triangle 66 = .ok (.iadd, 1) := by decide +kernel
theorem dX2_triangle_67 : decode cX2_triangle 67 = .ok (.iload_n 1, 1) := by decide +kernel
theorem dX2_triangle_68 : decode cX2_triangle 68 = .ok (.iastore, 1) := by decide +kernel
theorem dX2_triangle_69 : decode cX2_triangle 69 = .ok (.aload_n 0, 1) := by decide +kernel
theorem dX2_triangle_70 : decode cX2_triangle 70 = .ok (.getfield 13, 3) := by decide +kernel
theorem dX2_triangle_73 : decode cX2_triangle 73 = .ok (.bipush 24, 2) := by decide +kernel
theorem dX2_triangle_75 : decode cX2_triangle 75 = .ok (.iload_n 3, 1) := by decide +kernel
theorem dX2_triangle_76 : decode cX2_triangle 76 = .ok (.imul, 1) := by decide +kernel
theorem dX2_triangle_77 : decode cX2_triangle 77 = .ok (.iload 4, 2) := by decide +kernel
theorem dX2_triangle_79 : decode cX2_triangle 79 = .ok (.iadd, 1) := by decide +kernel
theorem dX2_triangle_80 : decode cX2_triangle 80 = .ok (.aload_n 0, 1) := by decide +kernel
theorem dX2_triangle_81 : decode cX2_triangle 81 = .ok (.iload 4, 2) := by decide +kernel
theorem dX2_triangle_83 : decode cX2_triangle 83 = .ok (.iload_n 3, 1) := by decide +kernel
theorem dX2_triangle_84 : decode cX2_triangle 84 = .ok (.invokevirtual 65, 3) := by decide +kernel
theorem dX2_triangle_87 : decode cX2_triangle 87 = .ok (.iastore, 1) := by decide +kernel
theorem dX2_triangle_88 : decode cX2_triangle 88 = .ok (.iinc 2 1, 3) := by decide +kernel
theorem dX2_triangle_91 : decode cX2_triangle 91 = .ok (.iinc 4 1, 3) := by decide +kernel
theorem dX2_triangle_94 : decode cX2_triangle 94 = .ok (.goto (-79), 3) := by decide +kernel
theorem dX2_triangle_97 : decode cX2_triangle 97 = .ok (.iinc 3 1, 3) := by decide +kernel
theorem dX2_triangle_100 : decode cX2_triangle 100 = .ok (.goto (-96), 3) := by decide +kernel
theorem dX2_triangle_103 : decode cX2_triangle 103 = .ok (.iload_n 2, 1) := by decide +kernel
theorem dX2_triangle_104 : decode cX2_triangle 104 = .ok (.ireturn, 1) := by decide +kernel
set_option maxRecDepth 20000 in
theorem ggX2_covers_X2_isCovered : GoodIn wsX2_covers wsX2_isCovered := goodIn_r _ [5, 6, 7, 8, 9, 10, 4, 11, 12, 13, 14, 15, 16, 17, 18, 19, 20, 21, 22, 23, 24, 25, 26, 27, 28, 29, 30, 31, 32, 33] (by decide +kernel) (by decide +kernel)
