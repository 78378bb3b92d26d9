theorem dX0_init_0 : decode cX0_init 0 = .ok (.aload_n 0, 1) := by decide +kernel
theorem dX0_init_1 : decode cX0_init 1 = .ok (.invokespecial 3, 3) := by decide +kernel
theorem dX0_init_4 : decode cX0_init 4 = .ok (.aload_n 0, 1) := by decide +kernel
theorem dX0_init_5 : decode cX0_init 5 = .ok (.iconst 3, 1) := by decide +kernel
theorem dX0_init_6 : decode cX0_init 6 = .ok (.newarray .int, 2) := by decide +kernel
theorem dX0_init_8 : decode cX0_init 8 = .ok (.putfield 9, 3) := by decide +kernel
theorem dX0_init_11 : decode cX0_init 11 = .ok (.aload_n 0, 1) := by decide +kernel
theorem dX0_init_12 : decode cX0_init 12 = .ok (.iconst 3, 1) := by decide +kernel
theorem dX0_init_13 : decode cX0_init 13 = .ok (.newarray .int, 2) := by decide +kernel
theorem dX0_init_15 : decode cX0_init 15 = .ok (.putfield 15, 3) := by decide +kernel
theorem dX0_init_18 : decode cX0_init 18 = .ok (.aload_n 0, 1) := by decide +kernel
theorem dX0_init_19 : decode cX0_init 19 = .ok (.iconst 3, 1) := by decide +kernel
theorem dX0_init_20 : decode cX0_init 20 = .ok (.newarray .int, 2) := by decide +kernel
theorem dX0_init_22 : decode cX0_init 22 = .ok (.putfield 18, 3) := by decide +kernel
theorem dX0_init_25 : decode cX0_init 25 = .ok (.aload_n 0, 1) := by decide +kernel
theorem dX0_init_26 : decode cX0_init 26 = .ok (.iconst 1, 1) := by decide +kernel
theorem dX0_init_27 : decode cX0_init 27 = .ok (.putfield 21, 3) := by decide +kernel
theorem dX0_init_30 : decode cX0_init 30 = .ok (.aload_n 0, 1) := by decide +kernel
theorem dX0_init_31 : decode cX0_init 31 = .ok (.iconst 2, 1) := by decide +kernel
theorem dX0_init_32 : decode cX0_init 32 = .ok (.putfield 25, 3) := by decide +kernel
theorem dX0_init_35 : decode cX0_init 35 = .ok (.aload_n 0, 1) := by decide +kernel
theorem dX0_init_36 : decode cX0_init 36 = .ok (.lconst 0, 1) := by decide +kernel
theorem dX0_init_37 : decode cX0_init 37 = .ok (.putfield 28, 3) := by decide +kernel
theorem dX0_init_40 : decode cX0_init 40 = .ok (.return_, 1) := by decide +kernel
set_option maxRecDepth 20000 in
theorem ggX0_place_X0_takeRound : GoodIn wsX0_place wsX0_takeRound := goodIn_r _ [8, 1, 2, 9, 10, 11, 12, 13, 14, 15, 16, 17, 18, 7, 19, 20, 21, 22, 23, 24, 25] (by decide +kernel) (by decide +kernel)
set_option maxRecDepth 20000 in
theorem gX0_place_X0_takeRound : GoodIn wsX0_place (wsV RX0 32 RX0 yX0_takeRound wsX0_takeRound) := goodIn_app (goodIn_of _ (by decide +kernel)) ggX0_place_X0_takeRound
theorem dX0_place_0 : decode cX0_place 0 = .ok (.aload_n 0, 1) := by decide +kernel
theorem dX0_place_1 : decode cX0_place 1 = .ok (.getfield 9, 3) := by decide +kernel
theorem dX0_place_4 : decode cX0_place 4 = .ok (.iload_n 1, 1) := by decide +kernel
theorem dX0_place_5 : decode cX0_place 5 = .ok (.iload_n 2, 1) := by decide +kernel
theorem dX0_place_6 : decode cX0_place 6 = .ok (.iastore, 1) := by decide +kernel
theorem dX0_place_7 : decode cX0_place 7 = .ok (.aload_n 0, 1) := by decide +kernel
theorem dX0_place_8 : decode cX0_place 8 = .ok (.getfield 15, 3) := by decide +kernel
theorem dX0_place_11 : decode cX0_place 11 = .ok (.iload_n 1, 1) := by decide +kernel
theorem dX0_place_12 : decode cX0_place 12 = .ok (.iload_n 3, 1) := by decide +kernel
theorem dX0_place_13 : decode cX0_place 13 = .ok (.iastore, 1) := by decide +kernel
theorem dX0_place_14 : decode cX0_place 14 = .ok (.aload_n 0, 1) := by decide +kernel
theorem dX0_place_15 : decode cX0_place 15 = .ok (.getfield 18, 3) := by decide +kernel
theorem dX0_place_18 : decode cX0_place 18 = .ok (.iload_n 1, 1) := by decide +kernel
theorem dX0_place_19 : decode cX0_place 19 = .ok (.iload 4, 2) := by decide +kernel
theorem dX0_place_21 : decode cX0_place 21 = .ok (.iastore, 1) := by decide +kernel
theorem dX0_place_22 : decode cX0_place 22 = .ok (.aload_n 0, 1) := by decide +kernel
theorem dX0_place_23 : decode cX0_place 23 = .ok (.invokevirtual 32, 3) := by decide +kernel
theorem dX0_place_26 : decode cX0_place 26 = .ok (.return_, 1) := by decide +kernel
set_option maxRecDepth 20000 in
theorem ggX0_takeRound_X0_edge : GoodIn wsX0_takeRound wsX0_edge := goodIn_r _ [14, 1, 2, 15, 16, 17, 18, 19, 20] (by decide +kernel) (by decide +kernel)
set_option maxRecDepth 20000 in
theorem gX0_takeRound_X0_edge : GoodIn wsX0_takeRound (wsV RX0 35 RX0 yX0_edge wsX0_edge) := goodIn_app (goodIn_of _ (by decide +kernel)) ggX0_takeRound_X0_edge
theorem dX0_takeRound_0 : decode cX0_takeRound 0 = .ok (.aload_n 0, 1) := by decide +kernel
theorem dX0_takeRound_1 : decode cX0_takeRound 1 = .ok (.iconst 0, 1) := by decide +kernel
theorem dX0_takeRound_2 : decode cX0_takeRound 2 = .ok (.iconst 1, 1) := by decide +kernel
theorem dX0_takeRound_3 : decode cX0_takeRound 3 = .ok (.aload_n 0, 1) := by decide +kernel
theorem dX0_takeRound_4 : decode cX0_takeRound 4 = .ok (.getfield 9, 3) := by decide +kernel
theorem dX0_takeRound_7 : decode cX0_takeRound 7 = .ok (.iconst 2, 1) := by decide +kernel
theorem dX0_takeRound_8 : decode cX0_takeRound 8 = .ok (.iaload, 1) := by decide +kernel
theorem dX0_takeRound_9 : decode cX0_takeRound 9 = .ok (.aload_n 0, 1) := by decide +kernel
theorem dX0_takeRound_10 : decode cX0_takeRound 10 = .ok (.getfield 15, 3) := by decide +kernel
theorem dX0_takeRound_13 : decode cX0_takeRound 13 = .ok (.iconst 2, 1) := by decide +kernel
theorem dX0_takeRound_14 : decode cX0_takeRound 14 = .ok (.iaload, 1) := by decide +kernel
theorem dX0_takeRound_15 : decode cX0_takeRound 15 = .ok (.invokevirtual 35, 3) := by decide +kernel
theorem dX0_takeRound_18 : decode cX0_takeRound 18 = .ok (.lstore_n 1, 1) := by decide +kernel
theorem dX0_takeRound_19 : decode cX0_takeRound 19 = .ok (.aload_n 0, 1) := by decide +kernel
theorem dX0_takeRound_20 : decode cX0_takeRound 20 = .ok (.lload_n 1, 1) := by decide +kernel
theorem dX0_takeRound_21 : decode cX0_takeRound 21 = .ok (.lconst 0, 1) := by decide +kernel
theorem dX0_takeRound_22 : decode cX0_takeRound 22 = .ok (.lcmp, 1) := by decide +kernel
theorem dX0_takeRound_23 : decode cX0_takeRound 23 = .ok (.ifCond .ge 7, 3) := by decide +kernel
theorem dX0_takeRound_26 : decode cX0_takeRound 26 = .ok (.iconst 2, 1) := by decide +kernel
theorem dX0_takeRound_27 : decode cX0_takeRound 27 = .ok (.goto 4, 3) := by decide +kernel
theorem dX0_takeRound_30 : decode cX0_takeRound 30 = .ok (.iconst 1, 1) := by decide +kernel
theorem dX0_takeRound_31 : decode cX0_takeRound 31 = .ok (.putfield 21, 3) := by decide +kernel
theorem dX0_takeRound_34 : decode cX0_takeRound 34 = .ok (.aload_n 0, 1) := by decide +kernel
theorem dX0_takeRound_35 : decode cX0_takeRound 35 = .ok (.lload_n 1, 1) := by decide +kernel
theorem dX0_takeRound_36 : decode cX0_takeRound 36 = .ok (.lconst 0, 1) := by decide +kernel
theorem dX0_takeRound_37 : decode cX0_takeRound 37 = .ok (.lcmp, 1) := by decide +kernel
theorem dX0_takeRound_38 : decode cX0_takeRound 38 = .ok (.ifCond .ge 7, 3) := by decide +kernel
theorem dX0_takeRound_41 : decode cX0_takeRound 41 = .ok (.iconst 1, 1) := by decide +kernel
theorem dX0_takeRound_42 : decode cX0_takeRound 42 = .ok (.goto 4, 3) := by decide +kernel
theorem dX0_takeRound_45 : decode cX0_takeRound 45 = .ok (.iconst 2, 1) := by decide +kernel
theorem dX0_takeRound_46 : decode cX0_takeRound 46 = .ok (.putfield 25, 3) := by decide +kernel
theorem dX0_takeRound_49 : decode cX0_takeRound 49 = .ok (.aload_n 0, 1) := by decide +kernel
theorem dX0_takeRound_50 : decode cX0_takeRound 50 = .ok (.lload_n 1, 1) := by decide +kernel
theorem dX0_takeRound_51 : decode cX0_takeRound 51 = .ok (.invokestatic 39, 3) := by decide +kernel
theorem dX0_takeRound_54 : decode cX0_takeRound 54 = .ok (.putfield 28, 3) := by decide +kernel
theorem dX0_takeRound_57 : decode cX0_takeRound 57 = .ok (.return_, 1) := by decide +kernel
set_option maxRecDepth 20000 in
theorem ggX0_depthOver_X0_edge : GoodIn wsX0_depthOver wsX0_edge := goodIn_r _ [9, 10, 11, 20, 21, 22, 23, 24, 25] (by decide +kernel) (by decide +kernel)
set_option maxRecDepth 20000 in
theorem gX0_depthOver_X0_edge : GoodIn wsX0_depthOver (wsV RX0 35 RX0 yX0_edge wsX0_edge) := goodIn_app (goodIn_of _ (by decide +kernel)) ggX0_depthOver_X0_edge
set_option maxRecDepth 20000 in
theorem ggX0_depthOver_X0_isInside : GoodIn wsX0_depthOver wsX0_isInside := goodIn_r _ [15, 16, 17, 18, 8, 19, 11, 10, 20, 21, 22, 23, 24, 25] (by decide +kernel) (by decide +kernel)
set_option maxRecDepth 20000 in
theorem gX0_depthOver_X0_isInside : GoodIn wsX0_depthOver (wsV RX0 45 RX0 yX0_isInside wsX0_isInside) := goodIn_app (goodIn_of _ (by decide +kernel)) ggX0_depthOver_X0_isInside
theorem dX0_depthOver_0 : decode cX0_depthOver 0 = .ok (.aload_n 0, 1) := by decide +kernel
theorem dX0_depthOver_1 : decode cX0_depthOver 1 = .ok (.getfield 28, 3) := by decide +kernel
theorem dX0_depthOver_4 : decode cX0_depthOver 4 = .ok (.lconst 0, 1) := by decide +kernel
theorem dX0_depthOver_5 : decode cX0_depthOver 5 = .ok (.lcmp, 1) := by decide +kernel
theorem dX0_depthOver_6 : decode cX0_depthOver 6 = .ok (.ifCond .ne 5, 3) := by decide +kernel
theorem dX0_depthOver_9 : decode cX0_depthOver 9 = .ok (.iconst (-1), 1) := by decide +kernel
theorem dX0_depthOver_10 : decode cX0_depthOver 10 = .ok (.ireturn, 1) := by decide +kernel
theorem dX0_depthOver_11 : decode cX0_depthOver 11 = .ok (.bipush 16, 2) := by decide +kernel
theorem dX0_depthOver_13 : decode cX0_depthOver 13 = .ok (.iload_n 1, 1) := by decide +kernel
theorem dX0_depthOver_14 : decode cX0_depthOver 14 = .ok (.imul, 1) := by decide +kernel
theorem dX0_depthOver_15 : decode cX0_depthOver 15 = .ok (.bipush 8, 2) := by decide +kernel
theorem dX0_depthOver_17 : decode cX0_depthOver 17 = .ok (.iadd, 1) := by decide +kernel
theorem dX0_depthOver_18 : decode cX0_depthOver 18 = .ok (.istore_n 3, 1) := by decide +kernel
theorem dX0_depthOver_19 : decode cX0_depthOver 19 = .ok (.bipush 16, 2) := by decide +kernel
theorem dX0_depthOver_21 : decode cX0_depthOver 21 = .ok (.iload_n 2, 1) := by decide +kernel
theorem dX0_depthOver_22 : decode cX0_depthOver 22 = .ok (.imul, 1) := by decide +kernel
theorem dX0_depthOver_23 : decode cX0_depthOver 23 = .ok (.bipush 8, 2) := by decide +kernel
theorem dX0_depthOver_25 : decode cX0_depthOver 25 = .ok (.iadd, 1) := by decide +kernel
theorem dX0_depthOver_26 : decode cX0_depthOver 26 = .ok (.istore 4, 2) := by decide +kernel
theorem dX0_depthOver_28 : decode cX0_depthOver 28 = .ok (.aload_n 0, 1) := by decide +kernel
theorem dX0_depthOver_29 : decode cX0_depthOver 29 = .ok (.aload_n 0, 1) := by decide +kernel
theorem dX0_depthOver_30 : decode cX0_depthOver 30 = .ok (.getfield 21, 3) := by decide +kernel
theorem dX0_depthOver_33 : decode cX0_depthOver 33 = .ok (.aload_n 0, 1) := by decide +kernel
theorem dX0_depthOver_34 : decode cX0_depthOver 34 = .ok (.getfield 25, 3) := by decide +kernel
theorem dX0_depthOver_37 : decode cX0_depthOver 37 = .ok (.iload_n 3, 1) := by decide +kernel
theorem dX0_depthOver_38 : decode cX0_depthOver 38 = .ok (.iload 4, 2) := by decide +kernel
theorem dX0_depthOver_40 : decode cX0_depthOver 40 = .ok (.invokevirtual 35, 3) := by decide +kernel
theorem dX0_depthOver_43 : decode cX0_depthOver 43 = .ok (.lstore 5, 2) := by decide +kernel
theorem dX0_depthOver_45 : decode cX0_depthOver 45 = .ok (.aload_n 0, 1) := by decide +kernel
theorem dX0_depthOver_46 : decode cX0_depthOver 46 = .ok (.aload_n 0, 1) := by decide +kernel
theorem dX0_depthOver_47 : decode cX0_depthOver 47 = .ok (.getfield 25, 3) := by decide +kernel
theorem dX0_depthOver_50 : decode cX0_depthOver 50 = .ok (.iconst 0, 1) := by decide +kernel
theorem dX0_depthOver_51 : decode cX0_depthOver 51 = .ok (.iload_n 3, 1) := by decide +kernel
theorem dX0_depthOver_52 : decode cX0_depthOver 52 = .ok (.iload 4, 2) := by decide +kernel
theorem dX0_depthOver_54 : decode cX0_depthOver 54 = .ok (.invokevirtual 35, 3) := by decide +kernel
theorem dX0_depthOver_57 : decode cX0_depthOver 57 = .ok (.lstore 7, 2) := by decide +kernel
theorem dX0_depthOver_59 : decode cX0_depthOver 59 = .ok (.aload_n 0, 1) := by decide +kernel
theorem dX0_depthOver_60 : decode cX0_depthOver 60 = .ok (.iconst 0, 1) := by decide +kernel
theorem dX0_depthOver_61 : decode cX0_depthOver 61 = .ok (.aload_n 0, 1) := by decide +kernel
theorem dX0_depthOver_62 : decode cX0_depthOver 62 = .ok (.getfield 21, 3) := by decide +kernel
theorem dX0_depthOver_65 : decode cX0_depthOver 65 = .ok (.iload_n 3, 1) := by decide +kernel
theorem dX0_depthOver_66 : decode cX0_depthOver 66 = .ok (.iload 4, 2) := by decide +kernel
theorem dX0_depthOver_68 : decode cX0_depthOver 68 = .ok (.invokevirtual 35, 3) := by decide +kernel
theorem dX0_depthOver_71 : decode cX0_depthOver 71 = .ok (.lstore 9, 2) := by decide +kernel
theorem dX0_depthOver_73 : decode cX0_depthOver 73 = .ok (.aload_n 0, 1) := by decide +kernel
theorem dX0_depthOver_74 : decode cX0_depthOver 74 = .ok (.lload 5, 2) := by decide +kernel
theorem dX0_depthOver_76 : decode cX0_depthOver 76 = .ok (.aload_n 0, 1) := by decide +kernel
theorem dX0_depthOver_77 : decode cX0_depthOver 77 = .ok (.getfield 21, 3) := by decide +kernel
theorem dX0_depthOver_80 : decode cX0_depthOver 80 = .ok (.aload_n 0, 1) := by decide +kernel
theorem dX0_depthOver_81 : decode cX0_depthOver 81 = .ok (.getfield 25, 3) := by decide +kernel
theorem dX0_depthOver_84 : decode cX0_depthOver 84 = .ok (.invokevirtual 45, 3) := by decide +kernel
theorem dX0_depthOver_87 : decode cX0_depthOver 87 = .ok (.ifCond .eq 31, 3) := by decide +kernel
theorem dX0_depthOver_90 : decode cX0_depthOver 90 = .ok (.aload_n 0, 1) := by decide +kernel
theorem dX0_depthOver_91 : decode cX0_depthOver 91 = .ok (.lload 7, 2) := by decide +kernel
theorem dX0_depthOver_93 : decode cX0_depthOver 93 = .ok (.aload_n 0, 1) := by decide +kernel
theorem dX0_depthOver_94 : decode cX0_depthOver 94 = .ok (.getfield 25, 3) := by decide +kernel
theorem dX0_depthOver_97 : decode cX0_depthOver 97 = .ok (.iconst 0, 1) := by decide +kernel
theorem dX0_depthOver_98 : decode cX0_depthOver 98 = .ok (.invokevirtual 45, 3) := by decide +kernel
theorem dX0_depthOver_101 : decode cX0_depthOver 101 = .ok (.ifCond .eq 17, 3) := by decide +kernel
theorem dX0_depthOver_104 : decode cX0_depthOver 104 = .ok (.aload_n 0, 1) := by decide +kernel
theorem dX0_depthOver_105 : decode cX0_depthOver 105 = .ok (.lload 9, 2) := by decide +kernel
theorem dX0_depthOver_107 : decode cX0_depthOver 107 = .ok (.iconst 0, 1) := by decide +kernel
theorem dX0_depthOver_108 : decode cX0_depthOver 108 = .ok (.aload_n 0, 1) := by decide +kernel
theorem dX0_depthOver_109 : decode cX0_depthOver 109 = .ok (.getfield 21, 3) := by decide +kernel
theorem dX0_depthOver_112 : decode cX0_depthOver 112 = .ok (.invokevirtual 45, 3) := by decide +kernel
theorem dX0_depthOver_115 : decode cX0_depthOver 115 = .ok (.ifCond .ne 5, 3) := by decide +kernel
theorem dX0_depthOver_118 : decode cX0_depthOver 118 = .ok (.iconst (-1), 1) := by decide +kernel
theorem dX0_depthOver_119 : decode cX0_depthOver 119 = .ok (.ireturn, 1) := by decide +kernel
theorem dX0_depthOver_120 : decode cX0_depthOver 120 = .ok (.lload 5, 2) := by decide +kernel
theorem dX0_depthOver_122 : decode cX0_depthOver 122 = .ok (.aload_n 0, 1) := by decide +kernel
theorem dX0_depthOver_123 : decode cX0_depthOver 123 = .ok (.getfield 18, 3) := by decide +kernel
theorem dX0_depthOver_126 : decode cX0_depthOver 126 = .ok (.iconst 0, 1) := by decide +kernel
theorem dX0_depthOver_127 : decode cX0_depthOver 127 = .ok (.iaload, 1) := by decide +kernel
theorem dX0_depthOver_128 : decode cX0_depthOver 128 = .ok (.i2l, 1) := by decide +kernel
theorem dX0_depthOver_129 : decode cX0_depthOver 129 = .ok (.lmul, 1) := by decide +kernel
theorem dX0_depthOver_130 : decode cX0_depthOver 130 = .ok (.lload 7, 2) := by decide +kernel
theorem dX0_depthOver_132 : decode cX0_depthOver 132 = .ok (.aload_n 0, 1) := by decide +kernel
theorem dX0_depthOver_133 : decode cX0_depthOver 133 = .ok (.getfield 18, 3) := by decide +kernel
theorem dX0_depthOver_136 : decode cX0_depthOver 136 = .ok (.aload_n 0, 1) := by decide +kernel
theorem dX0_depthOver_137 : decode cX0_depthOver 137 = .ok (.getfield 21, 3) := by decide +kernel
theorem dX0_depthOver_140 : decode cX0_depthOver 140 = .ok (.iaload, 1) := by decide +kernel
theorem dX0_depthOver_141 : decode cX0_depthOver 141 = .ok (.i2l, 1) := by decide +kernel
theorem dX0_depthOver_142 : decode cX0_depthOver 142 = .ok (.lmul, 1) := by decide +kernel
theorem dX0_depthOver_143 : decode cX0_depthOver 143 = .ok (.ladd, 1) := by decide +kernel
theorem dX0_depthOver_144 : decode cX0_depthOver 144 = .ok (.lload 9, 2) := by decide +kernel
theorem dX0_depthOver_146 : decode cX0_depthOver 146 = .ok (.aload_n 0, 1) := by decide +kernel
theorem dX0_depthOver_147 : decode cX0_depthOver 147 = .ok (.getfield 18, 3) := by decide +kernel
theorem dX0_depthOver_150 : decode cX0_depthOver 150 = .ok (.aload_n 0, 1) := by decide +kernel
theorem dX0_depthOver_151 : decode cX0_depthOver 151 = .ok (.getfield 25, 3) := by decide +kernel
theorem dX0_depthOver_154 : decode cX0_depthOver 154 = .ok (.iaload, 1) := by decide +kernel
theorem dX0_depthOver_155 : decode cX0_depthOver 155 = .ok (.i2l, 1) := by decide +kernel
theorem dX0_depthOver_156 : decode cX0_depthOver 156 = .ok (.lmul, 1) := by decide +kernel
theorem dX0_depthOver_157 : decode cX0_depthOver 157 = .ok (.ladd, 1) := by decide +kernel
theorem dX0_depthOver_158 : decode cX0_depthOver 158 = .ok (.aload_n 0, 1) := by decide +kernel
theorem dX0_depthOver_159 : decode cX0_depthOver 159 = .ok (.getfield 28, 3) := by decide +kernel
theorem dX0_depthOver_162 : decode cX0_depthOver 162 = .ok (.ldiv, 1) := by decide +kernel
theorem dX0_depthOver_163 : decode cX0_depthOver 163 = .ok (.l2i, 1) := by decide +kernel
theorem dX0_depthOver_164 : decode cX0_depthOver 164 = .ok (.ireturn, 1) := by decide +kernel
theorem dX0_edge_0 : decode cX0_edge 0 = .ok (.aload_n 0, 1) := by decide +kernel
theorem dX0_edge_1 : decode cX0_edge 1 = .ok (.getfield 9, 3) := by decide +kernel
theorem dX0_edge_4 : decode cX0_edge 4 = .ok (.iload_n 2, 1) := by decide +kernel
theorem dX0_edge_5 : decode cX0_edge 5 = .ok (.iaload, 1) := by decide +kernel
theorem dX0_edge_6 : decode cX0_edge 6 = .ok (.aload_n 0, 1) := by decide +kernel
theorem dX0_edge_7 : decode cX0_edge 7 = .ok (.getfield 9, 3) := by decide +kernel
theorem dX0_edge_10 : decode cX0_edge 10 = .ok (.iload_n 1, 1) := by decide +kernel
theorem dX0_edge_11 : decode cX0_edge 11 = .ok (.iaload, 1) := by decide +kernel
theorem dX0_edge_12 : decode cX0_edge 12 = .ok (.isub, 1) := by decide +kernel
theorem dX0_edge_13 : decode cX0_edge 13 = .ok (.i2l, 1) := by decide +kernel
theorem dX0_edge_14 : decode cX0_edge 14 = .ok (.lstore 5, 2) := by decide +kernel
theorem dX0_edge_16 : decode cX0_edge 16 = .ok (.aload_n 0, 1) := by decide +kernel
theorem dX0_edge_17 : decode cX0_edge 17 = .ok (.getfield 15, 3) := by decide +kernel
theorem dX0_edge_20 : decode cX0_edge 20 = .ok (.iload_n 2, 1) := by decide +kernel
theorem dX0_edge_21 : decode cX0_edge 21 = .ok (.iaload, 1) := by decide +kernel
theorem dX0_edge_22 : decode cX0_edge 22 = .ok (.aload_n 0, 1) := by decide +kernel
theorem dX0_edge_23 : decode cX0_edge 23 = .ok (.getfield 15, 3) := by decide +kernel
theorem dX0_edge_26 : decode cX0_edge 26 = .ok (.iload_n 1, 1) := by decide +kernel
theorem dX0_edge_27 : decode cX0_edge 27 = .ok (.iaload, 1) := by decide +kernel
theorem dX0_edge_28 : decode cX0_edge 28 = .ok (.isub, 1) := by decide +kernel
theorem dX0_edge_29 : decode cX0_edge 29 = .ok (.i2l, 1) := by decide +kernel
theorem dX0_edge_30 : decode cX0_edge 30 = .ok (.lstore 7, 2) := by decide +kernel
theorem dX0_edge_32 : decode cX0_edge 32 = .ok (.lload 5, 2) := by decide +kernel
theorem dX0_edge_34 : decode cX0_edge 34 = .ok (.iload 4, 2) := by decide +kernel
theorem dX0_edge_36 : decode cX0_edge 36 = .ok (.aload_n 0, 1) := by decide +kernel
theorem dX0_edge_37 : decode cX0_edge 37 = .ok (.getfield 15, 3) := by decide +kernel
theorem dX0_edge_40 : decode cX0_edge 40 = .ok (.iload_n 1, 1) := by decide +kernel
theorem dX0_edge_41 : decode cX0_edge 41 = .ok (.iaload, 1) := by decide +kernel
theorem dX0_edge_42 : decode cX0_edge 42 = .ok (.isub, 1) := by decide +kernel
theorem dX0_edge_43 : decode cX0_edge 43 = .ok (.i2l, 1) := by decide +kernel
theorem dX0_edge_44 : decode cX0_edge 44 = .ok (.lmul, 1) := by decide +kernel
theorem dX0_edge_45 : decode cX0_edge 45 = .ok (.lload 7, 2) := by decide +kernel
theorem dX0_edge_47 : decode cX0_edge 47 = .ok (.iload_n 3, 1) := by decide +kernel
theorem dX0_edge_48 : decode cX0_edge 48 = .ok (.aload_n 0, 1) := by decide +kernel
theorem dX0_edge_49 : decode cX0_edge 49 = .ok (.getfield 9, 3) := by decide +kernel
theorem dX0_edge_52 : decode cX0_edge 52 = .ok (.iload_n 1, 1) := by decide +kernel
theorem dX0_edge_53 : decode cX0_edge 53 = .ok (.iaload, 1) := by decide +kernel
theorem dX0_edge_54 : decode cX0_edge 54 = .ok (.isub, 1) := by decide +kernel
theorem dX0_edge_55 : decode cX0_edge 55 = .ok (.i2l, 1) := by decide +kernel
theorem dX0_edge_56 : decode cX0_edge 56 = .ok (.lmul, 1) := by decide +kernel
theorem dX0_edge_57 : decode cX0_edge 57 = .ok (.lsub, 1) := by decide +kernel
theorem dX0_edge_58 : decode cX0_edge 58 = .ok (.lreturn, 1) := by decide +kernel
set_option maxRecDepth 20000 in
theorem ggX0_isInside_X0_isTopOrLeft : GoodIn wsX0_isInside wsX0_isTopOrLeft := goodIn_r _ [5, 6, 7, 8, 9, 10, 11, 12, 13] (by decide +kernel) (by decide +kernel)
set_option maxRecDepth 20000 in
theorem gX0_isInside_X0_isTopOrLeft : GoodIn wsX0_isInside (wsV RX0 49 RX0 yX0_isTopOrLeft wsX0_isTopOrLeft) := goodIn_app (goodIn_of _ (by decide +kernel)) ggX0_isInside_X0_isTopOrLeft
theorem dX0_isInside_0 : decode cX0_isInside 0 = .ok (.lload_n 1, 1) := by decide +kernel
theorem dX0_isInside_1 : decode cX0_isInside 1 = .ok (.lconst 0, 1) := by decide +kernel
theorem dX0_isInside_2 : decode cX0_isInside 2 = .ok (.lcmp, 1) := by decide +kernel
theorem dX0_isInside_3 : decode cX0_isInside 3 = .ok (.ifCond .gt 19, 3) := by decide +kernel
theorem dX0_isInside_6 : decode cX0_isInside 6 = .ok (.lload_n 1, 1) := by decide +kernel
theorem dX0_isInside_7 : decode cX0_isInside 7 = .ok (.lconst 0, 1) := by decide +kernel
theorem dX0_isInside_8 : decode cX0_isInside 8 = .ok (.lcmp, 1) := by decide +kernel
theorem dX0_isInside_9 : decode cX0_isInside 9 = .ok (.ifCond .ne 17, 3) := by decide +kernel
theorem dX0_isInside_12 : decode cX0_isInside 12 = .ok (.aload_n 0, 1) := by decide +kernel
theorem dX0_isInside_13 : decode cX0_isInside 13 = .ok (.iload_n 3, 1) := by decide +kernel
theorem dX0_isInside_14 : decode cX0_isInside 14 = .ok (.iload 4, 2) := by decide +kernel
theorem dX0_isInside_16 : decode cX0_isInside 16 = .ok (.invokevirtual 49, 3) := by decide +kernel
theorem dX0_isInside_19 : decode cX0_isInside 19 = .ok (.ifCond .eq 7, 3) := by decide +kernel
theorem dX0_isInside_22 : decode cX0_isInside 22 = .ok (.iconst 1, 1) := by decide +kernel
theorem dX0_isInside_23 : decode cX0_isInside 23 = .ok (.goto 4, 3) := by decide +kernel
theorem dX0_isInside_26 : decode cX0_isInside 26 = .ok (.iconst 0, 1) := by decide +kernel
theorem dX0_isInside_27 : decode cX0_isInside 27 = .ok (.ireturn, 1) := by decide +kernel
theorem dX0_isTopOrLeft_0 : decode cX0_isTopOrLeft 0 = .ok (.aload_n 0, 1) := by decide +kernel
theorem dX0_isTopOrLeft_1 : decode cX0_isTopOrLeft 1 = .ok (.getfield 15, 3) := by decide +kernel
theorem dX0_isTopOrLeft_4 : decode cX0_isTopOrLeft 4 = .ok (.iload_n 1, 1) := by decide +kernel
theorem dX0_isTopOrLeft_5 : decode cX0_isTopOrLeft 5 = .ok (.iaload, 1) := by decide +kernel
theorem dX0_isTopOrLeft_6 : decode cX0_isTopOrLeft 6 = .ok (.aload_n 0, 1) := by decide +kernel
theorem dX0_isTopOrLeft_7 : decode cX0_isTopOrLeft 7 = .ok (.getfield 15, 3) := by decide +kernel
theorem dX0_isTopOrLeft_10 : decode cX0_isTopOrLeft 10 = .ok (.iload_n 2, 1) := by decide +kernel
theorem dX0_isTopOrLeft_11 : decode cX0_isTopOrLeft 11 = .ok (.iaload, 1) := by decide +kernel
theorem dX0_isTopOrLeft_12 : decode cX0_isTopOrLeft 12 = .ok (.if_icmp .ne 22, 3) := by decide +kernel
theorem dX0_isTopOrLeft_15 : decode cX0_isTopOrLeft 15 = .ok (.aload_n 0, 1) := by decide +kernel
theorem dX0_isTopOrLeft_16 : decode cX0_isTopOrLeft 16 = .ok (.getfield 9, 3) := by decide +kernel
theorem dX0_isTopOrLeft_19 : decode cX0_isTopOrLeft 19 = .ok (.iload_n 2, 1) := by decide +kernel
theorem dX0_isTopOrLeft_20 : decode cX0_isTopOrLeft 20 = .ok (.iaload, 1) := by decide +kernel
theorem dX0_isTopOrLeft_21 : decode cX0_isTopOrLeft 21 = .ok (.aload_n 0, 1) := by decide +kernel
theorem dX0_isTopOrLeft_22 : decode cX0_isTopOrLeft 22 = .ok (.getfield 9, 3) := by decide +kernel
theorem dX0_isTopOrLeft_25 : decode cX0_isTopOrLeft 25 = .ok (.iload_n 1, 1) := by decide +kernel
theorem dX0_isTopOrLeft_26 : decode cX0_isTopOrLeft 26 = .ok (.iaload, 1) := by decide +kernel
theorem dX0_isTopOrLeft_27 : decode cX0_isTopOrLeft 27 = .ok (.if_icmp .le 7, 3) := by decide +kernel
theorem dX0_isTopOrLeft_30 : decode cX0_isTopOrLeft 30 = .ok (.iconst 1, 1) := by decide +kernel
theorem dX0_isTopOrLeft_31 : decode cX0_isTopOrLeft 31 = .ok (.goto 4, 3) := by decide +kernel
theorem dX0_isTopOrLeft_34 : decode cX0_isTopOrLeft 34 = .ok (.iconst 0, 1) := by decide +kernel
theorem dX0_isTopOrLeft_35 : decode cX0_isTopOrLeft 35 = .ok (.istore_n 3, 1) := by decide +kernel
theorem dX0_isTopOrLeft_36 : decode cX0_isTopOrLeft 36 = .ok (.aload_n 0, 1) := by decide +kernel
theorem dX0_isTopOrLeft_37 : decode cX0_isTopOrLeft 37 = .ok (.getfield 15, 3) := by decide +kernel
theorem dX0_isTopOrLeft_40 : decode cX0_isTopOrLeft 40 = .ok (.iload_n 2, 1) := by decide +kernel
theorem dX0_isTopOrLeft_41 : decode cX0_isTopOrLeft 41 = .ok (.iaload, 1) := by decide +kernel
theorem dX0_isTopOrLeft_42 : decode cX0_isTopOrLeft 42 = .ok (.aload_n 0, 1) := by decide +kernel
theorem dX0_isTopOrLeft_43 : decode cX0_isTopOrLeft 43 = .ok (.getfield 15, 3) := by decide +kernel
theorem dX0_isTopOrLeft_46 : decode cX0_isTopOrLeft 46 = .ok (.iload_n 1, 1) := by decide +kernel
theorem dX0_isTopOrLeft_47 : decode cX0_isTopOrLeft 47 = .ok (.iaload, 1) := by decide +kernel
theorem dX0_isTopOrLeft_48 : decode cX0_isTopOrLeft 48 = .ok (.if_icmp .ge 7, 3) := by decide +kernel
theorem dX0_isTopOrLeft_51 : decode cX0_isTopOrLeft 51 = .ok (.iconst 1, 1) := by decide +kernel
theorem dX0_isTopOrLeft_52 : decode cX0_isTopOrLeft 52 = .ok (.goto 4, 3) := by decide +kernel
theorem dX0_isTopOrLeft_55 : decode cX0_isTopOrLeft 55 = .ok (.iconst 0, 1) := by decide +kernel
theorem dX0_isTopOrLeft_56 : decode cX0_isTopOrLeft 56 = .ok (.istore 4, 2) := by decide +kernel
theorem dX0_isTopOrLeft_58 : decode cX0_isTopOrLeft 58 = .ok (.iload_n 3, 1) := by decide +kernel
theorem dX0_isTopOrLeft_59 : decode cX0_isTopOrLeft 59 = .ok (.ifCond .ne 8, 3) := by decide +kernel
theorem dX0_isTopOrLeft_62 : decode cX0_isTopOrLeft 62 = .ok (.iload 4, 2) := by decide +kernel
theorem dX0_isTopOrLeft_64 : decode cX0_isTopOrLeft 64 = .ok (.ifCond .eq 7, 3) := by decide +kernel
theorem dX0_isTopOrLeft_67 : decode cX0_isTopOrLeft 67 = .ok (.iconst 1, 1) := by decide +kernel
theorem dX0_isTopOrLeft_68 : decode cX0_isTopOrLeft 68 = .ok (.goto 4, 3) := by decide +kernel
theorem dX0_isTopOrLeft_71 : decode cX0_isTopOrLeft 71 = .ok (.iconst 0, 1) := by decide +kernel
theorem dX0_isTopOrLeft_72 : decode cX0_isTopOrLeft 72 = .ok (.ireturn, 1) := by decide +kernel
