set_option maxRecDepth 20000 in
theorem ggX1_init_X1_sideOf : GoodIn wsX1_init wsX1_sideOf := goodIn_r _ [20, 21, 22, 19, 23] (by decide +kernel) (by decide +kernel)
set_option maxRecDepth 20000 in
theorem gX1_init_X1_sideOf : GoodIn wsX1_init (va_wsS RX1 7 yX1_sideOf wsX1_sideOf) := goodIn_app (goodIn_of _ (by decide +kernel)) ggX1_init_X1_sideOf
set_option maxRecDepth 20000 in
theorem ggX1_init_X0_init : GoodIn wsX1_init wsX0_init := goodIn_r _ [25, 26, 2, 3, 6, 27, 28, 29, 30, 31, 32, 41, 42, 43, 44, 45, 46] (by decide +kernel) (by decide +kernel)
set_option maxRecDepth 20000 in
theorem gX1_init_X0_init_n29 : GoodIn wsX1_init (wsX0_init) := ggX1_init_X0_init
theorem dX1_init_0 : decode cX1_init 0 = .ok (.aload_n 0, 1) := by decide +kernel
theorem dX1_init_1 : decode cX1_init 1 = .ok (.invokespecial 1, 3) := by decide +kernel
theorem dX1_init_4 : decode cX1_init 4 = .ok (.aload_n 0, 1) := by decide +kernel
theorem dX1_init_5 : decode cX1_init 5 = .ok (.iload_n 1, 1) := by decide +kernel
theorem dX1_init_6 : decode cX1_init 6 = .ok (.invokestatic 7, 3) := by decide +kernel
theorem dX1_init_9 : decode cX1_init 9 = .ok (.putfield 13, 3) := by decide +kernel
theorem dX1_init_12 : decode cX1_init 12 = .ok (.aload_n 0, 1) := by decide +kernel
theorem dX1_init_13 : decode cX1_init 13 = .ok (.iload_n 2, 1) := by decide +kernel
theorem dX1_init_14 : decode cX1_init 14 = .ok (.invokestatic 7, 3) := by decide +kernel
theorem dX1_init_17 : decode cX1_init 17 = .ok (.putfield 17, 3) := by decide +kernel
theorem dX1_init_20 : decode cX1_init 20 = .ok (.aload_n 0, 1) := by decide +kernel
theorem dX1_init_21 : decode cX1_init 21 = .ok (.getfield 13, 3) := by decide +kernel
theorem dX1_init_24 : decode cX1_init 24 = .ok (.aload_n 0, 1) := by decide +kernel
theorem dX1_init_25 : decode cX1_init 25 = .ok (.getfield 17, 3) := by decide +kernel
theorem dX1_init_28 : decode cX1_init 28 = .ok (.imul, 1) := by decide +kernel
theorem dX1_init_29 : decode cX1_init 29 = .ok (.istore_n 3, 1) := by decide +kernel
theorem dX1_init_30 : decode cX1_init 30 = .ok (.aload_n 0, 1) := by decide +kernel
theorem dX1_init_31 : decode cX1_init 31 = .ok (.iload_n 3, 1) := by decide +kernel
theorem dX1_init_32 : decode cX1_init 32 = .ok (.newarray .int, 2) := by decide +kernel
theorem dX1_init_34 : decode cX1_init 34 = .ok (.putfield 20, 3) := by decide +kernel
theorem dX1_init_37 : decode cX1_init 37 = .ok (.aload_n 0, 1) := by decide +kernel
theorem dX1_init_38 : decode cX1_init 38 = .ok (.iload_n 3, 1) := by decide +kernel
theorem dX1_init_39 : decode cX1_init 39 = .ok (.newarray .int, 2) := by decide +kernel
theorem dX1_init_41 : decode cX1_init 41 = .ok (.putfield 24, 3) := by decide +kernel
theorem dX1_init_44 : decode cX1_init 44 = .ok (.aload_n 0, 1) := by decide +kernel
theorem dX1_init_45 : decode cX1_init 45 = .ok (.new 27, 3) := by decide +kernel
theorem dX1_init_48 : decode cX1_init 48 = .ok (.dup, 1) := by decide +kernel
theorem dX1_init_49 : decode cX1_init 49 = .ok (.invokespecial 29, 3) := by decide +kernel
theorem dX1_init_52 : decode cX1_init 52 = .ok (.putfield 30, 3) := by decide +kernel
theorem dX1_init_55 : decode cX1_init 55 = .ok (.aload_n 0, 1) := by decide +kernel
theorem dX1_init_56 : decode cX1_init 56 = .ok (.iload_n 3, 1) := by decide +kernel
theorem dX1_init_57 : decode cX1_init 57 = .ok (.newarray .boolean, 2) := by decide +kernel
theorem dX1_init_59 : decode cX1_init 59 = .ok (.putfield 34, 3) := by decide +kernel
theorem dX1_init_62 : decode cX1_init 62 = .ok (.aload_n 0, 1) := by decide +kernel
theorem dX1_init_63 : decode cX1_init 63 = .ok (.iload_n 3, 1) := by decide +kernel
theorem dX1_init_64 : decode cX1_init 64 = .ok (.newarray .int, 2) := by decide +kernel
theorem dX1_init_66 : decode cX1_init 66 = .ok (.putfield 38, 3) := by decide +kernel
theorem dX1_init_69 : decode cX1_init 69 = .ok (.aload_n 0, 1) := by decide +kernel
theorem dX1_init_70 : decode cX1_init 70 = .ok (.iconst 0, 1) := by decide +kernel
theorem dX1_init_71 : decode cX1_init 71 = .ok (.putfield 41, 3) := by decide +kernel
theorem dX1_init_74 : decode cX1_init 74 = .ok (.return_, 1) := by decide +kernel
set_option maxRecDepth 20000 in
theorem ggX1_clear_X1_isWithin : GoodIn wsX1_clear wsX1_isWithin := goodIn_r _ [7] (by decide +kernel) (by decide +kernel)
set_option maxRecDepth 20000 in
theorem gX1_clear_X1_isWithin : GoodIn wsX1_clear (va_wsS RX1 45 yX1_isWithin wsX1_isWithin) := goodIn_app (goodIn_of _ (by decide +kernel)) ggX1_clear_X1_isWithin
set_option maxRecDepth 20000 in
theorem ggX1_clear_J7_fill_53178 : GoodIn wsX1_clear wsJ7_fill_53178 := goodIn_r _ [11] (by decide +kernel) (by decide +kernel)
set_option maxRecDepth 20000 in
theorem gX1_clear_J7_fill_53178 : GoodIn wsX1_clear (va_wsS RX1 49 yJ7_fill_53178 wsJ7_fill_53178) := goodIn_app (goodIn_of _ (by decide +kernel)) ggX1_clear_J7_fill_53178
theorem dX1_clear_0 : decode cX1_clear 0 = .ok (.iload_n 2, 1) := by decide +kernel
theorem dX1_clear_1 : decode cX1_clear 1 = .ok (.iconst 0, 1) := by decide +kernel
theorem dX1_clear_2 : decode cX1_clear 2 = .ok (.ldc 44, 2) := by decide +kernel
theorem dX1_clear_4 : decode cX1_clear 4 = .ok (.invokestatic 45, 3) := by decide +kernel
theorem dX1_clear_7 : decode cX1_clear 7 = .ok (.ifCond .ne 5, 3) := by decide +kernel
theorem dX1_clear_10 : decode cX1_clear 10 = .ok (.iconst 0, 1) := by decide +kernel
theorem dX1_clear_11 : decode cX1_clear 11 = .ok (.ireturn, 1) := by decide +kernel
theorem dX1_clear_12 : decode cX1_clear 12 = .ok (.aload_n 0, 1) := by decide +kernel
theorem dX1_clear_13 : decode cX1_clear 13 = .ok (.getfield 20, 3) := by decide +kernel
theorem dX1_clear_16 : decode cX1_clear 16 = .ok (.iload_n 1, 1) := by decide +kernel
theorem dX1_clear_17 : decode cX1_clear 17 = .ok (.invokestatic 49, 3) := by decide +kernel
theorem dX1_clear_20 : decode cX1_clear 20 = .ok (.aload_n 0, 1) := by decide +kernel
theorem dX1_clear_21 : decode cX1_clear 21 = .ok (.getfield 24, 3) := by decide +kernel
theorem dX1_clear_24 : decode cX1_clear 24 = .ok (.iload_n 2, 1) := by decide +kernel
theorem dX1_clear_25 : decode cX1_clear 25 = .ok (.invokestatic 49, 3) := by decide +kernel
theorem dX1_clear_28 : decode cX1_clear 28 = .ok (.iconst 1, 1) := by decide +kernel
theorem dX1_clear_29 : decode cX1_clear 29 = .ok (.ireturn, 1) := by decide +kernel
set_option maxRecDepth 20000 in
theorem ggX1_vertex_X1_isWithin : GoodIn wsX1_vertex wsX1_isWithin := goodIn_r _ [6] (by decide +kernel) (by decide +kernel)
set_option maxRecDepth 20000 in
theorem gX1_vertex_X1_isWithin : GoodIn wsX1_vertex (va_wsS RX1 45 yX1_isWithin wsX1_isWithin) := goodIn_app (goodIn_of _ (by decide +kernel)) ggX1_vertex_X1_isWithin
set_option maxRecDepth 20000 in
theorem ggX1_vertex_X1_isCoordinate : GoodIn wsX1_vertex wsX1_isCoordinate := goodIn_r _ [9, 3, 4, 5, 6] (by decide +kernel) (by decide +kernel)
set_option maxRecDepth 20000 in
theorem gX1_vertex_X1_isCoordinate : GoodIn wsX1_vertex (va_wsS RX1 55 yX1_isCoordinate wsX1_isCoordinate) := goodIn_app (goodIn_of _ (by decide +kernel)) ggX1_vertex_X1_isCoordinate
set_option maxRecDepth 20000 in
theorem ggX1_vertex_X0_place : GoodIn wsX1_vertex wsX0_place := goodIn_r _ [13, 14, 15, 16, 17, 18, 19, 11, 20, 21, 22, 23, 24, 25, 26, 27, 28, 29, 30, 31, 40, 41, 42, 43, 44, 45] (by decide +kernel) (by decide +kernel)
set_option maxRecDepth 20000 in
theorem gX1_vertex_X0_place_n60 : GoodIn wsX1_vertex (wsX0_place) := ggX1_vertex_X0_place
theorem dX1_vertex_0 : decode cX1_vertex 0 = .ok (.iload_n 1, 1) := by decide +kernel
theorem dX1_vertex_1 : decode cX1_vertex 1 = .ok (.iconst 0, 1) := by decide +kernel
theorem dX1_vertex_2 : decode cX1_vertex 2 = .ok (.iconst 2, 1) := by decide +kernel
theorem dX1_vertex_3 : decode cX1_vertex 3 = .ok (.invokestatic 45, 3) := by decide +kernel
theorem dX1_vertex_6 : decode cX1_vertex 6 = .ok (.ifCond .eq 28, 3) := by decide +kernel
theorem dX1_vertex_9 : decode cX1_vertex 9 = .ok (.iload_n 2, 1) := by decide +kernel
theorem dX1_vertex_10 : decode cX1_vertex 10 = .ok (.invokestatic 55, 3) := by decide +kernel
theorem dX1_vertex_13 : decode cX1_vertex 13 = .ok (.ifCond .eq 21, 3) := by decide +kernel
theorem dX1_vertex_16 : decode cX1_vertex 16 = .ok (.iload_n 3, 1) := by decide +kernel
theorem dX1_vertex_17 : decode cX1_vertex 17 = .ok (.invokestatic 55, 3) := by decide +kernel
theorem dX1_vertex_20 : decode cX1_vertex 20 = .ok (.ifCond .eq 14, 3) := by decide +kernel
theorem dX1_vertex_23 : decode cX1_vertex 23 = .ok (.iload 4, 2) := by decide +kernel
theorem dX1_vertex_25 : decode cX1_vertex 25 = .ok (.iconst 0, 1) := by decide +kernel
theorem dX1_vertex_26 : decode cX1_vertex 26 = .ok (.ldc 59, 2) := by decide +kernel
theorem dX1_vertex_28 : decode cX1_vertex 28 = .ok (.invokestatic 45, 3) := by decide +kernel
theorem dX1_vertex_31 : decode cX1_vertex 31 = .ok (.ifCond .ne 5, 3) := by decide +kernel
theorem dX1_vertex_34 : decode cX1_vertex 34 = .ok (.iconst 0, 1) := by decide +kernel
theorem dX1_vertex_35 : decode cX1_vertex 35 = .ok (.ireturn, 1) := by decide +kernel
theorem dX1_vertex_36 : decode cX1_vertex 36 = .ok (.aload_n 0, 1) := by decide +kernel
theorem dX1_vertex_37 : decode cX1_vertex 37 = .ok (.getfield 30, 3) := by decide +kernel
theorem dX1_vertex_40 : decode cX1_vertex 40 = .ok (.iload_n 1, 1) := by decide +kernel
theorem dX1_vertex_41 : decode cX1_vertex 41 = .ok (.iload_n 2, 1) := by decide +kernel
theorem dX1_vertex_42 : decode cX1_vertex 42 = .ok (.iload_n 3, 1) := by decide +kernel
theorem dX1_vertex_43 : decode cX1_vertex 43 = .ok (.iload 4, 2) := by decide +kernel
theorem dX1_vertex_45 : decode cX1_vertex 45 = .ok (.invokevirtual 60, 3) := by decide +kernel
theorem dX1_vertex_48 : decode cX1_vertex 48 = .ok (.iconst 1, 1) := by decide +kernel
theorem dX1_vertex_49 : decode cX1_vertex 49 = .ok (.ireturn, 1) := by decide +kernel
set_option maxRecDepth 20000 in
theorem ggX1_triangle_X1_paintNearer : GoodIn wsX1_triangle wsX1_paintNearer := goodIn_r _ [7, 8, 9, 10, 11, 12, 13, 6, 14, 2, 1, 15, 16, 17, 18, 19, 20, 21, 22, 23, 24, 25, 26, 27, 28, 29, 30, 31, 32, 33, 34, 35, 36, 37, 38, 39, 40, 41, 42, 43, 44, 45, 46, 47, 48, 49, 50, 51, 52, 53] (by decide +kernel) (by decide +kernel)
set_option maxRecDepth 20000 in
theorem gX1_triangle_X1_paintNearer : GoodIn wsX1_triangle (wsV RX1 64 RX1 yX1_paintNearer wsX1_paintNearer) := goodIn_app (goodIn_of _ (by decide +kernel)) ggX1_triangle_X1_paintNearer
theorem dX1_triangle_0 : decode cX1_triangle 0 = .ok (.iconst 0, 1) := by decide +kernel
theorem dX1_triangle_1 : decode cX1_triangle 1 = .ok (.istore_n 2, 1) := by decide +kernel
theorem dX1_triangle_2 : decode cX1_triangle 2 = .ok (.iconst 0, 1) := by decide +kernel
theorem dX1_triangle_3 : decode cX1_triangle 3 = .ok (.istore_n 3, 1) := by decide +kernel
theorem dX1_triangle_4 : decode cX1_triangle 4 = .ok (.iload_n 3, 1) := by decide +kernel
theorem dX1_triangle_5 : decode cX1_triangle 5 = .ok (.aload_n 0, 1) := by decide +kernel
theorem dX1_triangle_6 : decode cX1_triangle 6 = .ok (.getfield 17, 3) := by decide +kernel
theorem dX1_triangle_9 : decode cX1_triangle 9 = .ok (.if_icmp .ge 38, 3) := by decide +kernel
theorem dX1_triangle_12 : decode cX1_triangle 12 = .ok (.iconst 0, 1) := by decide +kernel
theorem dX1_triangle_13 : decode cX1_triangle 13 = .ok (.istore 4, 2) := by decide +kernel
theorem dX1_triangle_15 : decode cX1_triangle 15 = .ok (.iload 4, 2) := by decide +kernel
theorem dX1_triangle_17 : decode cX1_triangle 17 = .ok (.aload_n 0, 1) := by decide +kernel
theorem dX1_triangle_18 : decode cX1_triangle 18 = .ok (.getfield 13, 3) := by decide +kernel
theorem dX1_triangle_21 : decode cX1_triangle 21 = .ok (.if_icmp .ge 20, 3) := by decide +kernel
theorem dX1_triangle_24 : decode cX1_triangle 24 = .ok (.iload_n 2, 1) := by decide +kernel
theorem dX1_triangle_25 : decode cX1_triangle 25 = .ok (.aload_n 0, 1) := by decide +kernel
theorem dX1_triangle_26 : decode cX1_triangle 26 = .ok (.iload 4, 2) := by decide +kernel
theorem dX1_triangle_28 : decode cX1_triangle 28 = .ok (.iload_n 3, 1) := by decide +kernel
theorem dX1_triangle_29 : decode cX1_triangle 29 = .ok (.iload_n 1, 1) := by decide +kernel
theorem dX1_triangle_30 : decode cX1_triangle 30 = .ok (.invokevirtual 64, 3) := by decide +kernel
theorem dX1_triangle_33 : decode cX1_triangle 33 = .ok (.iadd, 1) := by decide +kernel
theorem dX1_triangle_34 : decode cX1_triangle 34 = .ok (.istore_n 2, 1) := by decide +kernel
theorem dX1_triangle_35 : decode cX1_triangle 35 = .ok (.iinc 4 1, 3) := by decide +kernel
theorem dX1_triangle_38 : decode cX1_triangle 38 = .ok (.goto (-23), 3) := by decide +kernel
theorem dX1_triangle_41 : decode cX1_triangle 41 = .ok (.iinc 3 1, 3) := by decide +kernel
theorem dX1_triangle_44 : decode cX1_triangle 44 = .ok (.goto (-40), 3) := by decide +kernel
theorem dX1_triangle_47 : decode cX1_triangle 47 = .ok (.iload_n 2, 1) := by decide +kernel
theorem dX1_triangle_48 : decode cX1_triangle 48 = .ok (.ireturn, 1) := by decide +kernel
set_option maxRecDepth 20000 in
theorem ggX1_covers_X1_isWithin : GoodIn wsX1_covers wsX1_isWithin := goodIn_r _ [5] (by decide +kernel) (by decide +kernel)
set_option maxRecDepth 20000 in
theorem gX1_covers_X1_isWithin : GoodIn wsX1_covers (va_wsS RX1 45 yX1_isWithin wsX1_isWithin) := goodIn_app (goodIn_of _ (by decide +kernel)) ggX1_covers_X1_isWithin
set_option maxRecDepth 20000 in
theorem ggX1_covers_X0_depthOver : GoodIn wsX1_covers wsX0_depthOver := goodIn_r _ [9, 10, 11, 12, 13, 14, 15, 16, 7, 17, 18, 19, 20, 21, 22, 23, 24, 25, 26, 27, 36, 37, 38, 39, 40, 41] (by decide +kernel) (by decide +kernel)
set_option maxRecDepth 20000 in
theorem gX1_covers_X0_depthOver_n68 : GoodIn wsX1_covers (wsX0_depthOver) := ggX1_covers_X0_depthOver
theorem dX1_covers_0 : decode cX1_covers 0 = .ok (.iload_n 1, 1) := by decide +kernel
theorem dX1_covers_1 : decode cX1_covers 1 = .ok (.sipush (-2000), 3) := by decide +kernel
theorem dX1_covers_4 : decode cX1_covers 4 = .ok (.sipush 2000, 3) := by decide +kernel
theorem dX1_covers_7 : decode cX1_covers 7 = .ok (.invokestatic 45, 3) := by decide +kernel
theorem dX1_covers_10 : decode cX1_covers 10 = .ok (.ifCond .eq 33, 3) := by decide +kernel
theorem dX1_covers_13 : decode cX1_covers 13 = .ok (.iload_n 2, 1) := by decide +kernel
theorem dX1_covers_14 : decode cX1_covers 14 = .ok (.sipush (-2000), 3) := by decide +kernel
theorem dX1_covers_17 : decode cX1_covers 17 = .ok (.sipush 2000, 3) := by decide +kernel
theorem dX1_covers_20 : decode cX1_covers 20 = .ok (.invokestatic 45, 3) := by decide +kernel
theorem dX1_covers_23 : decode cX1_covers 23 = .ok (.ifCond .eq 20, 3) := by decide +kernel
theorem dX1_covers_26 : decode cX1_covers 26 = .ok (.aload_n 0, 1) := by decide +kernel
theorem dX1_covers_27 : decode cX1_covers 27 = .ok (.getfield 30, 3) := by decide +kernel
theorem dX1_covers_30 : decode cX1_covers 30 = .ok (.iload_n 1, 1) := by decide +kernel
theorem dX1_covers_31 : decode cX1_covers 31 = .ok (.iload_n 2, 1) := by decide +kernel
theorem dX1_covers_32 : decode cX1_covers 32 = .ok (.invokevirtual 68, 3) := by decide +kernel
theorem dX1_covers_35 : decode cX1_covers 35 = .ok (.iconst (-1), 1) := by decide +kernel
theorem dX1_covers_36 : decode cX1_covers 36 = .ok (.if_icmp .eq 7, 3) := by decide +kernel
theorem dX1_covers_39 : decode cX1_covers 39 = .ok (.iconst 1, 1) := by decide +kernel
theorem dX1_covers_40 : decode cX1_covers 40 = .ok (.goto 4, 3) := by decide +kernel
theorem dX1_covers_43 : decode cX1_covers 43 = .ok (.iconst 0, 1) := by decide +kernel
theorem dX1_covers_44 : decode cX1_covers 44 = .ok (.ireturn, 1) := by decide +kernel
set_option maxRecDepth 20000 in
theorem ggX1_line_X1_isCoordinate : GoodIn wsX1_line wsX1_isCoordinate := goodIn_r _ [10, 11, 12, 9, 13] (by decide +kernel) (by decide +kernel)
set_option maxRecDepth 20000 in
theorem gX1_line_X1_isCoordinate : GoodIn wsX1_line (va_wsS RX1 55 yX1_isCoordinate wsX1_isCoordinate) := goodIn_app (goodIn_of _ (by decide +kernel)) ggX1_line_X1_isCoordinate
set_option maxRecDepth 20000 in
theorem ggX1_line_X1_placeBeside : GoodIn wsX1_line wsX1_placeBeside := goodIn_r _ [16, 1, 2, 3, 4, 17] (by decide +kernel) (by decide +kernel)
set_option maxRecDepth 20000 in
theorem gX1_line_X1_placeBeside : GoodIn wsX1_line (va_wsS RX1 77 yX1_placeBeside wsX1_placeBeside) := goodIn_app (goodIn_of _ (by decide +kernel)) ggX1_line_X1_placeBeside
set_option maxRecDepth 20000 in
theorem ggX1_line_X1_paint : GoodIn wsX1_line wsX1_paint := goodIn_r _ [21, 22, 23, 24, 25, 9, 26, 5, 6, 11, 12, 13, 27, 28, 29, 30, 31, 32, 33, 34] (by decide +kernel) (by decide +kernel)
set_option maxRecDepth 20000 in
theorem gX1_line_X1_paint : GoodIn wsX1_line (wsV RX1 81 RX1 yX1_paint wsX1_paint) := goodIn_app (goodIn_of _ (by decide +kernel)) ggX1_line_X1_paint
theorem dX1_line_0 : decode cX1_line 0 = .ok (.iload_n 1, 1) := by decide +kernel
theorem dX1_line_1 : decode cX1_line 1 = .ok (.invokestatic 55, 3) := by decide +kernel
theorem dX1_line_4 : decode cX1_line 4 = .ok (.ifCond .eq 25, 3) := by decide +kernel
theorem dX1_line_7 : decode cX1_line 7 = .ok (.iload_n 2, 1) := by decide +kernel
theorem dX1_line_8 : decode cX1_line 8 = .ok (.invokestatic 55, 3) := by decide +kernel
theorem dX1_line_11 : decode cX1_line 11 = .ok (.ifCond .eq 18, 3) := by decide +kernel
theorem dX1_line_14 : decode cX1_line 14 = .ok (.iload_n 3, 1) := by decide +kernel
theorem dX1_line_15 : decode cX1_line 15 = .ok (.invokestatic 55, 3) := by decide +kernel
theorem dX1_line_18 : decode cX1_line 18 = .ok (.ifCond .eq 11, 3) := by decide +kernel
theorem dX1_line_21 : decode cX1_line 21 = .ok (.iload 4, 2) := by decide +kernel
theorem dX1_line_23 : decode cX1_line 23 = .ok (.invokestatic 55, 3) := by decide +kernel
theorem dX1_line_26 : decode cX1_line 26 = .ok (.ifCond .ne 5, 3) := by decide +kernel
theorem dX1_line_29 : decode cX1_line 29 = .ok (.iconst (-1), 1) := by decide +kernel
theorem dX1_line_30 : decode cX1_line 30 = .ok (.ireturn, 1) := by decide +kernel
theorem dX1_line_31 : decode cX1_line 31 = .ok (.iconst 0, 1) := by decide +kernel
theorem dX1_line_32 : decode cX1_line 32 = .ok (.istore 6, 2) := by decide +kernel
theorem dX1_line_34 : decode cX1_line 34 = .ok (.iload_n 3, 1) := by decide +kernel
theorem dX1_line_35 : decode cX1_line 35 = .ok (.iload_n 1, 1) := by decide +kernel
theorem dX1_line_36 : decode cX1_line 36 = .ok (.isub, 1) := by decide +kernel
theorem dX1_line_37 : decode cX1_line 37 = .ok (.invokestatic 72, 3) := by decide +kernel
theorem dX1_line_40 : decode cX1_line 40 = .ok (.iload 4, 2) := by decide +kernel
theorem dX1_line_42 : decode cX1_line 42 = .ok (.iload_n 2, 1) := by decide +kernel
theorem dX1_line_43 : decode cX1_line 43 = .ok (.isub, 1) := by decide +kernel
theorem dX1_line_44 : decode cX1_line 44 = .ok (.invokestatic 72, 3) := by decide +kernel
theorem dX1_line_47 : decode cX1_line 47 = .ok (.if_icmp .lt 47, 3) := by decide +kernel
theorem dX1_line_50 : decode cX1_line 50 = .ok (.iconst 0, 1) := by decide +kernel
theorem dX1_line_51 : decode cX1_line 51 = .ok (.istore 7, 2) := by decide +kernel
theorem dX1_line_53 : decode cX1_line 53 = .ok (.iload 7, 2) := by decide +kernel
theorem dX1_line_55 : decode cX1_line 55 = .ok (.aload_n 0, 1) := by decide +kernel
theorem dX1_line_56 : decode cX1_line 56 = .ok (.getfield 13, 3) := by decide +kernel
theorem dX1_line_59 : decode cX1_line 59 = .ok (.if_icmp .ge 32, 3) := by decide +kernel
theorem dX1_line_62 : decode cX1_line 62 = .ok (.iload 6, 2) := by decide +kernel
theorem dX1_line_64 : decode cX1_line 64 = .ok (.aload_n 0, 1) := by decide +kernel
theorem dX1_line_65 : decode cX1_line 65 = .ok (.iload 7, 2) := by decide +kernel
theorem dX1_line_67 : decode cX1_line 67 = .ok (.iload 7, 2) := by decide +kernel
theorem dX1_line_69 : decode cX1_line 69 = .ok (.iload_n 1, 1) := by decide +kernel
theorem dX1_line_70 : decode cX1_line 70 = .ok (.iload_n 3, 1) := by decide +kernel
theorem dX1_line_71 : decode cX1_line 71 = .ok (.iload_n 2, 1) := by decide +kernel
theorem dX1_line_72 : decode cX1_line 72 = .ok (.iload 4, 2) := by decide +kernel
theorem dX1_line_74 : decode cX1_line 74 = .ok (.invokestatic 77, 3) := by decide +kernel
theorem dX1_line_77 : decode cX1_line 77 = .ok (.iload 5, 2) := by decide +kernel
theorem dX1_line_79 : decode cX1_line 79 = .ok (.invokevirtual 81, 3) := by decide +kernel
theorem dX1_line_82 : decode cX1_line 82 = .ok (.iadd, 1) := by decide +kernel
theorem dX1_line_83 : decode cX1_line 83 = .ok (.istore 6, 2) := by decide +kernel
theorem dX1_line_85 : decode cX1_line 85 = .ok (.iinc 7 1, 3) := by decide +kernel
theorem dX1_line_88 : decode cX1_line 88 = .ok (.goto (-35), 3) := by decide +kernel
theorem dX1_line_91 : decode cX1_line 91 = .ok (.goto 44, 3) := by decide +kernel
theorem dX1_line_94 : decode cX1_line 94 = .ok (.iconst 0, 1) := by decide +kernel
theorem dX1_line_95 : decode cX1_line 95 = .ok (.istore 7, 2) := by decide +kernel
theorem dX1_line_97 : decode cX1_line 97 = .ok (.iload 7, 2) := by decide +kernel
theorem dX1_line_99 : decode cX1_line 99 = .ok (.aload_n 0, 1) := by decide +kernel
theorem dX1_line_100 : decode cX1_line 100 = .ok (.getfield 17, 3) := by decide +kernel
theorem dX1_line_103 : decode cX1_line 103 = .ok (.if_icmp .ge 32, 3) := by decide +kernel
theorem dX1_line_106 : decode cX1_line 106 = .ok (.iload 6, 2) := by decide +kernel
theorem dX1_line_108 : decode cX1_line 108 = .ok (.aload_n 0, 1) := by decide +kernel
theorem dX1_line_109 : decode cX1_line 109 = .ok (.iload 7, 2) := by decide +kernel
theorem dX1_line_111 : decode cX1_line 111 = .ok (.iload_n 2, 1) := by decide +kernel
theorem dX1_line_112 : decode cX1_line 112 = .ok (.iload 4, 2) := by decide +kernel
theorem dX1_line_114 : decode cX1_line 114 = .ok (.iload_n 1, 1) := by decide +kernel
theorem dX1_line_115 : decode cX1_line 115 = .ok (.iload_n 3, 1) := by decide +kernel
theorem dX1_line_116 : decode cX1_line 116 = .ok (.invokestatic 77, 3) := by decide +kernel
theorem dX1_line_119 : decode cX1_line 119 = .ok (.iload 7, 2) := by decide +kernel
theorem dX1_line_121 : decode cX1_line 121 = .ok (.iload 5, 2) := by decide +kernel
theorem dX1_line_123 : decode cX1_line 123 = .ok (.invokevirtual 81, 3) := by decide +kernel
theorem dX1_line_126 : decode cX1_line 126 = .ok (.iadd, 1) := by decide +kernel
theorem dX1_line_127 : decode cX1_line 127 = .ok (.istore 6, 2) := by decide +kernel
theorem dX1_line_129 : decode cX1_line 129 = .ok (.iinc 7 1, 3) := by decide +kernel
theorem dX1_line_132 : decode cX1_line 132 = .ok (.goto (-35), 3) := by decide +kernel
theorem dX1_line_135 : decode cX1_line 135 = .ok (.iload 6, 2) := by decide +kernel
theorem dX1_line_137 : decode cX1_line 137 = .ok (.ireturn, 1) := by decide +kernel
set_option maxRecDepth 20000 in
theorem ggX1_fill_X1_indexOf : GoodIn wsX1_fill wsX1_indexOf := goodIn_r _ [7, 8, 9, 10, 11, 6, 12, 31, 32, 33, 34, 35, 36, 37, 38] (by decide +kernel) (by decide +kernel)
set_option maxRecDepth 20000 in
theorem gX1_fill_X1_indexOf : GoodIn wsX1_fill (wsV RX1 84 RX1 yX1_indexOf wsX1_indexOf) := goodIn_app (goodIn_of _ (by decide +kernel)) ggX1_fill_X1_indexOf
set_option maxRecDepth 20000 in
theorem ggX1_fill_X1_forgetReached : GoodIn wsX1_fill wsX1_forgetReached := goodIn_r _ [16, 17, 31, 32, 33, 34, 35, 36, 37, 38] (by decide +kernel) (by decide +kernel)
set_option maxRecDepth 20000 in
theorem gX1_fill_X1_forgetReached : GoodIn wsX1_fill (wsV RX1 87 RX1 yX1_forgetReached wsX1_forgetReached) := goodIn_app (goodIn_of _ (by decide +kernel)) ggX1_fill_X1_forgetReached
set_option maxRecDepth 20000 in
theorem ggX1_fill_X1_reachPiece : GoodIn wsX1_fill wsX1_reachPiece := goodIn_r _ [21, 22, 2, 8, 23, 24, 25, 6, 26, 1, 3, 4, 5, 7, 9, 10, 11, 12, 27, 28, 29, 30, 17, 31, 32, 33, 34, 35, 36, 37, 38] (by decide +kernel) (by decide +kernel)
set_option maxRecDepth 20000 in
theorem gX1_fill_X1_reachPiece : GoodIn wsX1_fill (wsV RX1 90 RX1 yX1_reachPiece wsX1_reachPiece) := goodIn_app (goodIn_of _ (by decide +kernel)) ggX1_fill_X1_reachPiece
theorem dX1_fill_0 : decode cX1_fill 0 = .ok (.aload_n 0, 1) := by decide +kernel
theorem dX1_fill_1 : decode cX1_fill 1 = .ok (.iload_n 1, 1) := by decide +kernel
theorem dX1_fill_2 : decode cX1_fill 2 = .ok (.iload_n 2, 1) := by decide +kernel
theorem dX1_fill_3 : decode cX1_fill 3 = .ok (.invokevirtual 84, 3) := by decide +kernel
theorem dX1_fill_6 : decode cX1_fill 6 = .ok (.istore 4, 2) := by decide +kernel
theorem dX1_fill_8 : decode cX1_fill 8 = .ok (.iload 4, 2) := by decide +kernel
theorem dX1_fill_10 : decode cX1_fill 10 = .ok (.iconst (-1), 1) := by decide +kernel
theorem dX1_fill_11 : decode cX1_fill 11 = .ok (.if_icmp .eq 14, 3) := by decide +kernel
theorem dX1_fill_14 : decode cX1_fill 14 = .ok (.aload_n 0, 1) := by decide +kernel
theorem dX1_fill_15 : decode cX1_fill 15 = .ok (.getfield 20, 3) := by decide +kernel
theorem dX1_fill_18 : decode cX1_fill 18 = .ok (.iload 4, 2) := by decide +kernel
theorem dX1_fill_20 : decode cX1_fill 20 = .ok (.iaload, 1) := by decide +kernel
theorem dX1_fill_21 : decode cX1_fill 21 = .ok (.iload_n 3, 1) := by decide +kernel
theorem dX1_fill_22 : decode cX1_fill 22 = .ok (.if_icmp .ne 5, 3) := by decide +kernel
theorem dX1_fill_25 : decode cX1_fill 25 = .ok (.iconst 0, 1) := by decide +kernel
theorem dX1_fill_26 : decode cX1_fill 26 = .ok (.ireturn, 1) := by decide +kernel
theorem dX1_fill_27 : decode cX1_fill 27 = .ok (.aload_n 0, 1) := by decide +kernel
theorem dX1_fill_28 : decode cX1_fill 28 = .ok (.invokevirtual 87, 3) := by decide +kernel
theorem dX1_fill_31 : decode cX1_fill 31 = .ok (.aload_n 0, 1) := by decide +kernel
theorem dX1_fill_32 : decode cX1_fill 32 = .ok (.iload_n 1, 1) := by decide +kernel
theorem dX1_fill_33 : decode cX1_fill 33 = .ok (.iload_n 2, 1) := by decide +kernel
theorem dX1_fill_34 : decode cX1_fill 34 = .ok (.invokevirtual 90, 3) := by decide +kernel
theorem dX1_fill_37 : decode cX1_fill 37 = .ok (.istore 5, 2) := by decide +kernel
theorem dX1_fill_39 : decode cX1_fill 39 = .ok (.iconst 0, 1) := by decide +kernel
theorem dX1_fill_40 : decode cX1_fill 40 = .ok (.istore 6, 2) := by decide +kernel
theorem dX1_fill_42 : decode cX1_fill 42 = .ok (.iload 6, 2) := by decide +kernel
theorem dX1_fill_44 : decode cX1_fill 44 = .ok (.iload 5, 2) := by decide +kernel
theorem dX1_fill_46 : decode cX1_fill 46 = .ok (.if_icmp .ge 22, 3) := by decide +kernel
theorem dX1_fill_49 : decode cX1_fill 49 = .ok (.aload_n 0, 1) := by decide +kernel
theorem dX1_fill_50 : decode cX1_fill 50 = .ok (.getfield 20, 3) := by decide +kernel
theorem dX1_fill_53 : decode cX1_fill 53 = .ok (.aload_n 0, 1) := by decide +kernel
theorem dX1_fill_54 : decode cX1_fill 54 = .ok (.getfield 38, 3) := by decide +kernel
theorem dX1_fill_57 : decode cX1_fill 57 = .ok (.iload 6, 2) := by decide +kernel
theorem dX1_fill_59 : decode cX1_fill 59 = .ok (.iaload, 1) := by decide +kernel
theorem dX1_fill_60 : decode cX1_fill 60 = .ok (.iload_n 3, 1) := by decide +kernel
theorem dX1_fill_61 : decode cX1_fill 61 = .ok (.iastore, 1) := by decide +kernel
theorem dX1_fill_62 : decode cX1_fill 62 = .ok (.iinc 6 1, 3) := by decide +kernel
theorem dX1_fill_65 : decode cX1_fill 65 = .ok (.goto (-23), 3) := by decide +kernel
theorem dX1_fill_68 : decode cX1_fill 68 = .ok (.iload 5, 2) := by decide +kernel
theorem dX1_fill_70 : decode cX1_fill 70 = .ok (.ireturn, 1) := by decide +kernel
set_option maxRecDepth 20000 in
theorem ggX1_pixel_X1_indexOf : GoodIn wsX1_pixel wsX1_indexOf := goodIn_r _ [6, 7, 8, 9, 10, 5, 11, 12, 13, 14, 15, 16, 17, 18, 19] (by decide +kernel) (by decide +kernel)
set_option maxRecDepth 20000 in
theorem gX1_pixel_X1_indexOf : GoodIn wsX1_pixel (wsV RX1 84 RX1 yX1_indexOf wsX1_indexOf) := goodIn_app (goodIn_of _ (by decide +kernel)) ggX1_pixel_X1_indexOf
theorem dX1_pixel_0 : decode cX1_pixel 0 = .ok (.aload_n 0, 1) := by decide +kernel
theorem dX1_pixel_1 : decode cX1_pixel 1 = .ok (.iload_n 1, 1) := by decide +kernel
theorem dX1_pixel_2 : decode cX1_pixel 2 = .ok (.iload_n 2, 1) := by decide +kernel
theorem dX1_pixel_3 : decode cX1_pixel 3 = .ok (.invokevirtual 84, 3) := by decide +kernel
theorem dX1_pixel_6 : decode cX1_pixel 6 = .ok (.istore_n 3, 1) := by decide +kernel
theorem dX1_pixel_7 : decode cX1_pixel 7 = .ok (.iload_n 3, 1) := by decide +kernel
theorem dX1_pixel_8 : decode cX1_pixel 8 = .ok (.iconst (-1), 1) := by decide +kernel
theorem dX1_pixel_9 : decode cX1_pixel 9 = .ok (.if_icmp .ne 7, 3) := by decide +kernel
theorem dX1_pixel_12 : decode cX1_pixel 12 = .ok (.iconst (-1), 1) := by decide +kernel
theorem dX1_pixel_13 : decode cX1_pixel 13 = .ok (.goto 9, 3) := by decide +kernel
theorem dX1_pixel_16 : decode cX1_pixel 16 = .ok (.aload_n 0, 1) := by decide +kernel
theorem dX1_pixel_17 : decode cX1_pixel 17 = .ok (.getfield 20, 3) := by decide +kernel
theorem dX1_pixel_20 : decode cX1_pixel 20 = .ok (.iload_n 3, 1) := by decide +kernel
theorem dX1_pixel_21 : decode cX1_pixel 21 = .ok (.iaload, 1) := by decide +kernel
theorem dX1_pixel_22 : decode cX1_pixel 22 = .ok (.ireturn, 1) := by decide +kernel
set_option maxRecDepth 20000 in
theorem ggX1_depthAt_X1_indexOf : GoodIn wsX1_depthAt wsX1_indexOf := goodIn_r _ [6, 7, 8, 9, 10, 5, 11, 12, 13, 14, 15, 16, 17, 18, 19] (by decide +kernel) (by decide +kernel)
set_option maxRecDepth 20000 in
theorem gX1_depthAt_X1_indexOf : GoodIn wsX1_depthAt (wsV RX1 84 RX1 yX1_indexOf wsX1_indexOf) := goodIn_app (goodIn_of _ (by decide +kernel)) ggX1_depthAt_X1_indexOf
theorem dX1_depthAt_0 : decode cX1_depthAt 0 = .ok (.aload_n 0, 1) := by decide +kernel
theorem dX1_depthAt_1 : decode cX1_depthAt 1 = .ok (.iload_n 1, 1) := by decide +kernel
theorem dX1_depthAt_2 : decode cX1_depthAt 2 = .ok (.iload_n 2, 1) := by decide +kernel
theorem dX1_depthAt_3 : decode cX1_depthAt 3 = .ok (.invokevirtual 84, 3) := by decide +kernel
theorem dX1_depthAt_6 : decode cX1_depthAt 6 = .ok (.istore_n 3, 1) := by decide +kernel
theorem dX1_depthAt_7 : decode cX1_depthAt 7 = .ok (.iload_n 3, 1) := by decide +kernel
theorem dX1_depthAt_8 : decode cX1_depthAt 8 = .ok (.iconst (-1), 1) := by decide +kernel
theorem dX1_depthAt_9 : decode cX1_depthAt 9 = .ok (.if_icmp .ne 7, 3) := by decide +kernel
theorem dX1_depthAt_12 : decode cX1_depthAt 12 = .ok (.iconst (-1), 1) := by decide +kernel
theorem dX1_depthAt_13 : decode cX1_depthAt 13 = .ok (.goto 9, 3) := by decide +kernel
theorem dX1_depthAt_16 : decode cX1_depthAt 16 = .ok (.aload_n 0, 1) := by decide +kernel
theorem dX1_depthAt_17 : decode cX1_depthAt 17 = .ok (.getfield 24, 3) := by decide +kernel
theorem dX1_depthAt_20 : decode cX1_depthAt 20 = .ok (.iload_n 3, 1) := by decide +kernel
theorem dX1_depthAt_21 : decode cX1_depthAt 21 = .ok (.iaload, 1) := by decide +kernel
theorem dX1_depthAt_22 : decode cX1_depthAt 22 = .ok (.ireturn, 1) := by decide +kernel
theorem dX1_count_0 : decode cX1_count 0 = .ok (.iconst 0, 1) := by decide +kernel
theorem dX1_count_1 : decode cX1_count 1 = .ok (.istore_n 2, 1) := by decide +kernel
theorem dX1_count_2 : decode cX1_count 2 = .ok (.iconst 0, 1) := by decide +kernel
theorem dX1_count_3 : decode cX1_count 3 = .ok (.istore_n 3, 1) := by decide +kernel
theorem dX1_count_4 : decode cX1_count 4 = .ok (.iload_n 3, 1) := by decide +kernel
theorem dX1_count_5 : decode cX1_count 5 = .ok (.aload_n 0, 1) := by decide +kernel
theorem dX1_count_6 : decode cX1_count 6 = .ok (.getfield 20, 3) := by decide +kernel
theorem dX1_count_9 : decode cX1_count 9 = .ok (.arraylength, 1) := by decide +kernel
theorem dX1_count_10 : decode cX1_count 10 = .ok (.if_icmp .ge 22, 3) := by decide +kernel
theorem dX1_count_13 : decode cX1_count 13 = .ok (.aload_n 0, 1) := by decide +kernel
theorem dX1_count_14 : decode cX1_count 14 = .ok (.getfield 20, 3) := by decide +kernel
theorem dX1_count_17 : decode cX1_count 17 = .ok (.iload_n 3, 1) := by decide +kernel
theorem dX1_count_18 : decode cX1_count 18 = .ok (.iaload, 1) := by decide +kernel
theorem dX1_count_19 : decode cX1_count 19 = .ok (.iload_n 1, 1) := by decide +kernel
theorem dX1_count_20 : decode cX1_count 20 = .ok (.if_icmp .ne 6, 3) := by decide +kernel
theorem dX1_count_23 : decode cX1_count 23 = .ok (.iinc 2 1, 3) := by decide +kernel
theorem dX1_count_26 : decode cX1_count 26 = .ok (.iinc 3 1, 3) := by decide +kernel
theorem dX1_count_29 : decode cX1_count 29 = .ok (.goto (-25), 3) := by decide +kernel
theorem dX1_count_32 : decode cX1_count 32 = .ok (.iload_n 2, 1) := by decide +kernel
theorem dX1_count_33 : decode cX1_count 33 = .ok (.ireturn, 1) := by decide +kernel
set_option maxRecDepth 20000 in
theorem ggX1_pieces_X1_forgetReached : GoodIn wsX1_pieces wsX1_forgetReached := goodIn_r _ [8, 2, 31, 32, 33, 34, 35, 36, 37, 38] (by decide +kernel) (by decide +kernel)
set_option maxRecDepth 20000 in
theorem gX1_pieces_X1_forgetReached : GoodIn wsX1_pieces (wsV RX1 87 RX1 yX1_forgetReached wsX1_forgetReached) := goodIn_app (goodIn_of _ (by decide +kernel)) ggX1_pieces_X1_forgetReached
set_option maxRecDepth 20000 in
theorem ggX1_pieces_X1_reachPiece : GoodIn wsX1_pieces wsX1_reachPiece := goodIn_r _ [12, 13, 14, 3, 15, 16, 17, 7, 18, 1, 19, 20, 21, 22, 23, 24, 25, 26, 27, 28, 29, 30, 2, 31, 32, 33, 34, 35, 36, 37, 38] (by decide +kernel) (by decide +kernel)
set_option maxRecDepth 20000 in
theorem gX1_pieces_X1_reachPiece : GoodIn wsX1_pieces (wsV RX1 90 RX1 yX1_reachPiece wsX1_reachPiece) := goodIn_app (goodIn_of _ (by decide +kernel)) ggX1_pieces_X1_reachPiece
theorem dX1_pieces_0 : decode cX1_pieces 0 = .ok (.aload_n 0, 1) := by decide +kernel
theorem dX1_pieces_1 : decode cX1_pieces 1 = .ok (.invokevirtual 87, 3) := by decide +kernel
theorem dX1_pieces_4 : decode cX1_pieces 4 = .ok (.iconst 0, 1) := by decide +kernel
theorem dX1_pieces_5 : decode cX1_pieces 5 = .ok (.istore_n 2, 1) := by decide +kernel
theorem dX1_pieces_6 : decode cX1_pieces 6 = .ok (.iconst 0, 1) := by decide +kernel
theorem dX1_pieces_7 : decode cX1_pieces 7 = .ok (.istore_n 3, 1) := by decide +kernel
theorem dX1_pieces_8 : decode cX1_pieces 8 = .ok (.iload_n 3, 1) := by decide +kernel
theorem dX1_pieces_9 : decode cX1_pieces 9 = .ok (.aload_n 0, 1) := by decide +kernel
theorem dX1_pieces_10 : decode cX1_pieces 10 = .ok (.getfield 20, 3) := by decide +kernel
theorem dX1_pieces_13 : decode cX1_pieces 13 = .ok (.arraylength, 1) := by decide +kernel
theorem dX1_pieces_14 : decode cX1_pieces 14 = .ok (.if_icmp .ge 48, 3) := by decide +kernel
theorem dX1_pieces_17 : decode cX1_pieces 17 = .ok (.aload_n 0, 1) := by decide +kernel
theorem dX1_pieces_18 : decode cX1_pieces 18 = .ok (.getfield 20, 3) := by decide +kernel
theorem dX1_pieces_21 : decode cX1_pieces 21 = .ok (.iload_n 3, 1) := by decide +kernel
theorem dX1_pieces_22 : decode cX1_pieces 22 = .ok (.iaload, 1) := by decide +kernel
theorem dX1_pieces_23 : decode cX1_pieces 23 = .ok (.iload_n 1, 1) := by decide +kernel
theorem dX1_pieces_24 : decode cX1_pieces 24 = .ok (.if_icmp .ne 32, 3) := by decide +kernel
theorem dX1_pieces_27 : decode cX1_pieces 27 = .ok (.aload_n 0, 1) := by decide +kernel
theorem dX1_pieces_28 : decode cX1_pieces 28 = .ok (.getfield 34, 3) := by decide +kernel
theorem dX1_pieces_31 : decode cX1_pieces 31 = .ok (.iload_n 3, 1) := by decide +kernel
theorem dX1_pieces_32 : decode cX1_pieces 32 = .ok (.baload, 1) := by decide +kernel
theorem dX1_pieces_33 : decode cX1_pieces 33 = .ok (.ifCond .ne 23, 3) := by decide +kernel
theorem dX1_pieces_36 : decode cX1_pieces 36 = .ok (.aload_n 0, 1) := by decide +kernel
theorem dX1_pieces_37 : decode cX1_pieces 37 = .ok (.iload_n 3, 1) := by decide +kernel
theorem dX1_pieces_38 : decode cX1_pieces 38 = .ok (.aload_n 0, 1) := by decide +kernel
theorem dX1_pieces_39 : decode cX1_pieces 39 = .ok (.getfield 13, 3) := by decide +kernel
theorem dX1_pieces_42 : decode cX1_pieces 42 = .ok (.irem, 1) := by decide +kernel
theorem dX1_pieces_43 : decode cX1_pieces 43 = .ok (.iload_n 3, 1) := by decide +kernel
theorem dX1_pieces_44 : decode cX1_pieces 44 = .ok (.aload_n 0, 1) := by decide +kernel
theorem dX1_pieces_45 : decode cX1_pieces 45 = .ok (.getfield 13, 3) := by decide +kernel
theorem dX1_pieces_48 : decode cX1_pieces 48 = .ok (.idiv, 1) := by decide +kernel
theorem dX1_pieces_49 : decode cX1_pieces 49 = .ok (.invokevirtual 90, 3) := by decide +kernel
theorem dX1_pieces_52 : decode cX1_pieces 52 = .ok (.pop, 1) := by decide +kernel
theorem dX1_pieces_53 : decode cX1_pieces 53 = .ok (.iinc 2 1, 3) := by decide +kernel
theorem dX1_pieces_56 : decode cX1_pieces 56 = .ok (.iinc 3 1, 3) := by decide +kernel
theorem dX1_pieces_59 : decode cX1_pieces 59 = .ok (.goto (-51), 3) := by decide +kernel
theorem dX1_pieces_62 : decode cX1_pieces 62 = .ok (.iload_n 2, 1) := by decide +kernel
theorem dX1_pieces_63 : decode cX1_pieces 63 = .ok (.ireturn, 1) := by decide +kernel
set_option maxRecDepth 20000 in
theorem ggX1_sideOf_X1_isWithin : GoodIn wsX1_sideOf wsX1_isWithin := goodIn_r _ [4] (by decide +kernel) (by decide +kernel)
set_option maxRecDepth 20000 in
theorem gX1_sideOf_X1_isWithin : GoodIn wsX1_sideOf (va_wsS RX1 45 yX1_isWithin wsX1_isWithin) := goodIn_app (goodIn_of _ (by decide +kernel)) ggX1_sideOf_X1_isWithin
theorem dX1_sideOf_0 : decode cX1_sideOf 0 = .ok (.iload_n 0, 1) := by decide +kernel
theorem dX1_sideOf_1 : decode cX1_sideOf 1 = .ok (.iconst 1, 1) := by decide +kernel
theorem dX1_sideOf_2 : decode cX1_sideOf 2 = .ok (.bipush 24, 2) := by decide +kernel
theorem dX1_sideOf_4 : decode cX1_sideOf 4 = .ok (.invokestatic 45, 3) := by decide +kernel
theorem dX1_sideOf_7 : decode cX1_sideOf 7 = .ok (.ifCond .eq 7, 3) := by decide +kernel
theorem dX1_sideOf_10 : decode cX1_sideOf 10 = .ok (.iload_n 0, 1) := by decide +kernel
theorem dX1_sideOf_11 : decode cX1_sideOf 11 = .ok (.goto 4, 3) := by decide +kernel
theorem dX1_sideOf_14 : decode cX1_sideOf 14 = .ok (.iconst 1, 1) := by decide +kernel
theorem dX1_sideOf_15 : decode cX1_sideOf 15 = .ok (.ireturn, 1) := by decide +kernel
theorem dX1_isWithin_0 : decode cX1_isWithin 0 = .ok (.iload_n 0, 1) := by decide +kernel
theorem dX1_isWithin_1 : decode cX1_isWithin 1 = .ok (.iload_n 1, 1) := by decide +kernel
theorem dX1_isWithin_2 : decode cX1_isWithin 2 = .ok (.if_icmp .lt 12, 3) := by decide +kernel
theorem dX1_isWithin_5 : decode cX1_isWithin 5 = .ok (.iload_n 0, 1) := by decide +kernel
theorem dX1_isWithin_6 : decode cX1_isWithin 6 = .ok (.iload_n 2, 1) := by decide +kernel
theorem dX1_isWithin_7 : decode cX1_isWithin 7 = .ok (.if_icmp .gt 7, 3) := by decide +kernel
theorem dX1_isWithin_10 : decode cX1_isWithin 10 = .ok (.iconst 1, 1) := by decide +kernel
theorem dX1_isWithin_11 : decode cX1_isWithin 11 = .ok (.goto 4, 3) := by decide +kernel
theorem dX1_isWithin_14 : decode cX1_isWithin 14 = .ok (.iconst 0, 1) := by decide +kernel
theorem dX1_isWithin_15 : decode cX1_isWithin 15 = .ok (.ireturn, 1) := by decide +kernel
set_option maxRecDepth 20000 in
theorem ggX1_isCoordinate_X1_isWithin : GoodIn wsX1_isCoordinate wsX1_isWithin := goodIn_r _ [4] (by decide +kernel) (by decide +kernel)
set_option maxRecDepth 20000 in
theorem gX1_isCoordinate_X1_isWithin : GoodIn wsX1_isCoordinate (va_wsS RX1 45 yX1_isWithin wsX1_isWithin) := goodIn_app (goodIn_of _ (by decide +kernel)) ggX1_isCoordinate_X1_isWithin
theorem dX1_isCoordinate_0 : decode cX1_isCoordinate 0 = .ok (.iload_n 0, 1) := by decide +kernel
theorem dX1_isCoordinate_1 : decode cX1_isCoordinate 1 = .ok (.sipush (-16384), 3) := by decide +kernel
theorem dX1_isCoordinate_4 : decode cX1_isCoordinate 4 = .ok (.sipush 16384, 3) := by decide +kernel
theorem dX1_isCoordinate_7 : decode cX1_isCoordinate 7 = .ok (.invokestatic 45, 3) := by decide +kernel
theorem dX1_isCoordinate_10 : decode cX1_isCoordinate 10 = .ok (.ireturn, 1) := by decide +kernel
set_option maxRecDepth 20000 in
theorem ggX1_indexOf_X1_isWithin : GoodIn wsX1_indexOf wsX1_isWithin := goodIn_r _ [6] (by decide +kernel) (by decide +kernel)
set_option maxRecDepth 20000 in
theorem gX1_indexOf_X1_isWithin : GoodIn wsX1_indexOf (va_wsS RX1 45 yX1_isWithin wsX1_isWithin) := goodIn_app (goodIn_of _ (by decide +kernel)) ggX1_indexOf_X1_isWithin
theorem dX1_indexOf_0 : decode cX1_indexOf 0 = .ok (.iload_n 1, 1) := by decide +kernel
theorem dX1_indexOf_1 : decode cX1_indexOf 1 = .ok (.iconst 0, 1) := by decide +kernel
theorem dX1_indexOf_2 : decode cX1_indexOf 2 = .ok (.aload_n 0, 1) := by decide +kernel
theorem dX1_indexOf_3 : decode cX1_indexOf 3 = .ok (.getfield 13, 3) := by decide +kernel
theorem dX1_indexOf_6 : decode cX1_indexOf 6 = .ok (.iconst 1, 1) := by decide +kernel
theorem dX1_indexOf_7 : decode cX1_indexOf 7 = .ok (.isub, 1) := by decide +kernel
theorem dX1_indexOf_8 : decode cX1_indexOf 8 = .ok (.invokestatic 45, 3) := by decide +kernel
theorem dX1_indexOf_11 : decode cX1_indexOf 11 = .ok (.ifCond .eq 21, 3) := by decide +kernel
theorem dX1_indexOf_14 : decode cX1_indexOf 14 = .ok (.iload_n 2, 1) := by decide +kernel
theorem dX1_indexOf_15 : decode cX1_indexOf 15 = .ok (.iconst 0, 1) := by decide +kernel
theorem dX1_indexOf_16 : decode cX1_indexOf 16 = .ok (.aload_n 0, 1) := by decide +kernel
theorem dX1_indexOf_17 : decode cX1_indexOf 17 = .ok (.getfield 17, 3) := by decide +kernel
theorem dX1_indexOf_20 : decode cX1_indexOf 20 = .ok (.iconst 1, 1) := by decide +kernel
theorem dX1_indexOf_21 : decode cX1_indexOf 21 = .ok (.isub, 1) := by decide +kernel
theorem dX1_indexOf_22 : decode cX1_indexOf 22 = .ok (.invokestatic 45, 3) := by decide +kernel
theorem dX1_indexOf_25 : decode cX1_indexOf 25 = .ok (.ifCond .eq 7, 3) := by decide +kernel
theorem dX1_indexOf_28 : decode cX1_indexOf 28 = .ok (.iconst 1, 1) := by decide +kernel
theorem dX1_indexOf_29 : decode cX1_indexOf 29 = .ok (.goto 4, 3) := by decide +kernel
theorem dX1_indexOf_32 : decode cX1_indexOf 32 = .ok (.iconst 0, 1) := by decide +kernel
theorem dX1_indexOf_33 : decode cX1_indexOf 33 = .ok (.istore_n 3, 1) := by decide +kernel
theorem dX1_indexOf_34 : decode cX1_indexOf 34 = .ok (.iload_n 3, 1) := by decide +kernel
theorem dX1_indexOf_35 : decode cX1_indexOf 35 = .ok (.ifCond .eq 14, 3) := by decide +kernel
theorem dX1_indexOf_38 : decode cX1_indexOf 38 = .ok (.iload_n 2, 1) := by decide +kernel
theorem dX1_indexOf_39 : decode cX1_indexOf 39 = .ok (.aload_n 0, 1) := by decide +kernel
theorem dX1_indexOf_40 : decode cX1_indexOf 40 = .ok (.getfield 13, 3) := by decide +kernel
theorem dX1_indexOf_43 : decode cX1_indexOf 43 = .ok (.imul, 1) := by decide +kernel
theorem dX1_indexOf_44 : decode cX1_indexOf 44 = .ok (.iload_n 1, 1) := by decide +kernel
theorem dX1_indexOf_45 : decode cX1_indexOf 45 = .ok (.iadd, 1) := by decide +kernel
theorem dX1_indexOf_46 : decode cX1_indexOf 46 = .ok (.goto 4, 3) := by decide +kernel
theorem dX1_indexOf_49 : decode cX1_indexOf 49 = .ok (.iconst (-1), 1) := by decide +kernel
theorem dX1_indexOf_50 : decode cX1_indexOf 50 = .ok (.ireturn, 1) := by decide +kernel
set_option maxRecDepth 20000 in
theorem ggX1_paint_X1_indexOf : GoodIn wsX1_paint wsX1_indexOf := goodIn_r _ [6, 7, 8, 9, 10, 5, 11, 12, 13, 14, 15, 16, 17, 18, 19] (by decide +kernel) (by decide +kernel)
