theorem dX4_layAll_73 : decode cX4_layAll 73 = .ok (.aload_n 0, 1) := by decide +kernel
theorem dX4_layAll_74 : decode cX4_layAll 74 = .ok (.getfield 26, 3) := by decide +kernel
theorem dX4_layAll_77 : decode cX4_layAll 77 = .ok (.iconst 3, 1) := by decide +kernel
theorem dX4_layAll_78 : decode cX4_layAll 78 = .ok (.iload_n 2, 1) := by decide +kernel
theorem dX4_layAll_79 : decode cX4_layAll 79 = .ok (.imul, 1) := by decide +kernel
theorem dX4_layAll_80 : decode cX4_layAll 80 = .ok (.iaload, 1) := by decide +kernel
theorem dX4_layAll_81 : decode cX4_layAll 81 = .ok (.aload_n 0, 1) := by decide +kernel
theorem dX4_layAll_82 : decode cX4_layAll 82 = .ok (.getfield 26, 3) := by decide +kernel
theorem dX4_layAll_85 : decode cX4_layAll 85 = .ok (.iconst 3, 1) := by decide +kernel
theorem dX4_layAll_86 : decode cX4_layAll 86 = .ok (.iload_n 2, 1) := by decide +kernel
theorem dX4_layAll_87 : decode cX4_layAll 87 = .ok (.imul, 1) := by decide +kernel
theorem dX4_layAll_88 : decode cX4_layAll 88 = .ok (.iconst 1, 1) := by decide +kernel
theorem dX4_layAll_89 : decode cX4_layAll 89 = .ok (.iadd, 1) := by decide +kernel
theorem dX4_layAll_90 : decode cX4_layAll 90 = .ok (.iaload, 1) := by decide +kernel
theorem dX4_layAll_91 : decode cX4_layAll 91 = .ok (.aload_n 0, 1) := by decide +kernel
theorem dX4_layAll_92 : decode cX4_layAll 92 = .ok (.getfield 26, 3) := by decide +kernel
theorem dX4_layAll_95 : decode cX4_layAll 95 = .ok (.iconst 3, 1) := by decide +kernel
theorem dX4_layAll_96 : decode cX4_layAll 96 = .ok (.iload_n 2, 1) := by decide +kernel
theorem dX4_layAll_97 : decode cX4_layAll 97 = .ok (.imul, 1) := by decide +kernel
theorem dX4_layAll_98 : decode cX4_layAll 98 = .ok (.iconst 2, 1) := by decide +kernel
theorem dX4_layAll_99 : decode cX4_layAll 99 = .ok (.iadd, 1) := by decide +kernel
theorem dX4_layAll_100 : decode cX4_layAll 100 = .ok (.iaload, 1) := by decide +kernel
theorem dX4_layAll_101 : decode cX4_layAll 101 = .ok (.invokestatic 79, 3) := by decide +kernel
theorem dX4_layAll_104 : decode cX4_layAll 104 = .ok (.ifCond .ge 5, 3) := by decide +kernel
theorem dX4_layAll_107 : decode cX4_layAll 107 = .ok (.iload_n 3, 1) := by decide +kernel
theorem dX4_layAll_108 : decode cX4_layAll 108 = .ok (.ireturn, 1) := by decide +kernel
theorem dX4_layAll_109 : decode cX4_layAll 109 = .ok (.iinc 2 1, 3) := by decide +kernel
theorem dX4_layAll_112 : decode cX4_layAll 112 = .ok (.goto (-81), 3) := by decide +kernel
theorem dX4_layAll_115 : decode cX4_layAll 115 = .ok (.aload_n 0, 1) := by decide +kernel
theorem dX4_layAll_116 : decode cX4_layAll 116 = .ok (.invokevirtual 76, 3) := by decide +kernel
theorem dX4_layAll_119 : decode cX4_layAll 119 = .ok (.aload_n 0, 1) := by decide +kernel
theorem dX4_layAll_120 : decode cX4_layAll 120 = .ok (.getfield 13, 3) := by decide +kernel
theorem dX4_layAll_123 : decode cX4_layAll 123 = .ok (.iconst 0, 1) := by decide +kernel
theorem dX4_layAll_124 : decode cX4_layAll 124 = .ok (.aload_n 0, 1) := by decide +kernel
theorem dX4_layAll_125 : decode cX4_layAll 125 = .ok (.getfield 7, 3) := by decide +kernel
theorem dX4_layAll_128 : decode cX4_layAll 128 = .ok (.iconst 0, 1) := by decide +kernel
theorem dX4_layAll_129 : decode cX4_layAll 129 = .ok (.invokestatic 33, 3) := by decide +kernel
theorem dX4_layAll_132 : decode cX4_layAll 132 = .ok (.aload_n 0, 1) := by decide +kernel
theorem dX4_layAll_133 : decode cX4_layAll 133 = .ok (.invokevirtual 90, 3) := by decide +kernel
theorem dX4_layAll_136 : decode cX4_layAll 136 = .ok (.ireturn, 1) := by decide +kernel
set_option maxRecDepth 20000 in
theorem ggX4_takeOff_X4_hasWire : GoodIn wsX4_takeOff wsX4_hasWire := goodIn_r _ [6, 1, 7, 8, 5, 9, 10, 11, 12, 13, 14, 15, 29, 30, 31, 32, 33, 34, 35, 36, 37, 38, 39] (by decide +kernel) (by decide +kernel)
set_option maxRecDepth 20000 in
theorem gX4_takeOff_X4_hasWire : GoodIn wsX4_takeOff (wsV RX4 49 RX4 yX4_hasWire wsX4_hasWire) := goodIn_app (goodIn_of _ (by decide +kernel)) ggX4_takeOff_X4_hasWire
set_option maxRecDepth 20000 in
theorem ggX4_takeOff_X4_records : GoodIn wsX4_takeOff wsX4_records := goodIn_r _ [19, 20, 21, 1, 22, 23, 5, 24, 29, 30, 31, 32, 33, 34, 35, 36, 37, 38, 39] (by decide +kernel) (by decide +kernel)
set_option maxRecDepth 20000 in
theorem gX4_takeOff_X4_records : GoodIn wsX4_takeOff (wsV RX4 76 RX4 yX4_records wsX4_records) := goodIn_app (goodIn_of _ (by decide +kernel)) ggX4_takeOff_X4_records
set_option maxRecDepth 20000 in
theorem ggX4_takeOff_X4_of : GoodIn wsX4_takeOff wsX4_of := goodIn_r _ [15] (by decide +kernel) (by decide +kernel)
set_option maxRecDepth 20000 in
theorem gX4_takeOff_X4_of : GoodIn wsX4_takeOff (va_wsS RX4 45 yX4_of wsX4_of) := goodIn_app (goodIn_of _ (by decide +kernel)) ggX4_takeOff_X4_of
set_option maxRecDepth 20000 in
theorem ggX4_takeOff_X4_goes : GoodIn wsX4_takeOff wsX4_goes := goodIn_r _ [28, 1, 29, 30, 31, 32, 33, 34, 35, 36, 37, 38, 39] (by decide +kernel) (by decide +kernel)
set_option maxRecDepth 20000 in
theorem gX4_takeOff_X4_goes : GoodIn wsX4_takeOff (wsV RX4 93 RX4 yX4_goes wsX4_goes) := goodIn_app (goodIn_of _ (by decide +kernel)) ggX4_takeOff_X4_goes
theorem dX4_takeOff_0 : decode cX4_takeOff 0 = .ok (.aload_n 0, 1) := by decide +kernel
theorem dX4_takeOff_1 : decode cX4_takeOff 1 = .ok (.iload_n 1, 1) := by decide +kernel
theorem dX4_takeOff_2 : decode cX4_takeOff 2 = .ok (.invokevirtual 49, 3) := by decide +kernel
theorem dX4_takeOff_5 : decode cX4_takeOff 5 = .ok (.ifCond .ne 5, 3) := by decide +kernel
theorem dX4_takeOff_8 : decode cX4_takeOff 8 = .ok (.iconst (-1), 1) := by decide +kernel
theorem dX4_takeOff_9 : decode cX4_takeOff 9 = .ok (.ireturn, 1) := by decide +kernel
theorem dX4_takeOff_10 : decode cX4_takeOff 10 = .ok (.aload_n 0, 1) := by decide +kernel
theorem dX4_takeOff_11 : decode cX4_takeOff 11 = .ok (.invokevirtual 76, 3) := by decide +kernel
theorem dX4_takeOff_14 : decode cX4_takeOff 14 = .ok (.aload_n 0, 1) := by decide +kernel
theorem dX4_takeOff_15 : decode cX4_takeOff 15 = .ok (.getfield 7, 3) := by decide +kernel
theorem dX4_takeOff_18 : decode cX4_takeOff 18 = .ok (.iload_n 1, 1) := by decide +kernel
theorem dX4_takeOff_19 : decode cX4_takeOff 19 = .ok (.iconst 2, 1) := by decide +kernel
theorem dX4_takeOff_20 : decode cX4_takeOff 20 = .ok (.invokestatic 45, 3) := by decide +kernel
theorem dX4_takeOff_23 : decode cX4_takeOff 23 = .ok (.istore_n 2, 1) := by decide +kernel
theorem dX4_takeOff_24 : decode cX4_takeOff 24 = .ok (.aload_n 0, 1) := by decide +kernel
theorem dX4_takeOff_25 : decode cX4_takeOff 25 = .ok (.iload_n 1, 1) := by decide +kernel
theorem dX4_takeOff_26 : decode cX4_takeOff 26 = .ok (.invokevirtual 93, 3) := by decide +kernel
theorem dX4_takeOff_29 : decode cX4_takeOff 29 = .ok (.iload_n 2, 1) := by decide +kernel
theorem dX4_takeOff_30 : decode cX4_takeOff 30 = .ok (.ireturn, 1) := by decide +kernel
set_option maxRecDepth 20000 in
theorem ggX4_bend_X4_hasWire : GoodIn wsX4_bend wsX4_hasWire := goodIn_r _ [5, 6, 7, 8, 4, 9, 10, 11, 12, 13, 14, 15, 32, 33, 34, 35, 36, 37, 38, 39, 40, 41, 42] (by decide +kernel) (by decide +kernel)
set_option maxRecDepth 20000 in
theorem gX4_bend_X4_hasWire : GoodIn wsX4_bend (wsV RX4 49 RX4 yX4_hasWire wsX4_hasWire) := goodIn_app (goodIn_of _ (by decide +kernel)) ggX4_bend_X4_hasWire
set_option maxRecDepth 20000 in
theorem ggX4_bend_X4_isHeight : GoodIn wsX4_bend wsX4_isHeight := goodIn_r _ [18, 10, 11, 4, 12] (by decide +kernel) (by decide +kernel)
set_option maxRecDepth 20000 in
theorem gX4_bend_X4_isHeight : GoodIn wsX4_bend (va_wsS RX4 70 yX4_isHeight wsX4_isHeight) := goodIn_app (goodIn_of _ (by decide +kernel)) ggX4_bend_X4_isHeight
set_option maxRecDepth 20000 in
theorem ggX4_bend_X4_becomes : GoodIn wsX4_bend wsX4_becomes := goodIn_r _ [22, 6, 23, 24, 25, 4, 26, 27, 28, 29, 30, 31, 32, 33, 34, 35, 36, 37, 38, 39, 40, 41, 42] (by decide +kernel) (by decide +kernel)
set_option maxRecDepth 20000 in
theorem gX4_bend_X4_becomes : GoodIn wsX4_bend (wsV RX4 97 RX4 yX4_becomes wsX4_becomes) := goodIn_app (goodIn_of _ (by decide +kernel)) ggX4_bend_X4_becomes
theorem dX4_bend_0 : decode cX4_bend 0 = .ok (.aload_n 0, 1) := by decide +kernel
theorem dX4_bend_1 : decode cX4_bend 1 = .ok (.iload_n 1, 1) := by decide +kernel
theorem dX4_bend_2 : decode cX4_bend 2 = .ok (.invokevirtual 49, 3) := by decide +kernel
theorem dX4_bend_5 : decode cX4_bend 5 = .ok (.ifCond .ne 5, 3) := by decide +kernel
theorem dX4_bend_8 : decode cX4_bend 8 = .ok (.iconst (-1), 1) := by decide +kernel
theorem dX4_bend_9 : decode cX4_bend 9 = .ok (.ireturn, 1) := by decide +kernel
theorem dX4_bend_10 : decode cX4_bend 10 = .ok (.iload_n 2, 1) := by decide +kernel
theorem dX4_bend_11 : decode cX4_bend 11 = .ok (.invokestatic 70, 3) := by decide +kernel
theorem dX4_bend_14 : decode cX4_bend 14 = .ok (.ifCond .eq 19, 3) := by decide +kernel
theorem dX4_bend_17 : decode cX4_bend 17 = .ok (.aload_n 0, 1) := by decide +kernel
theorem dX4_bend_18 : decode cX4_bend 18 = .ok (.bipush 16, 2) := by decide +kernel
theorem dX4_bend_20 : decode cX4_bend 20 = .ok (.iconst 4, 1) := by decide +kernel
theorem dX4_bend_21 : decode cX4_bend 21 = .ok (.iload_n 1, 1) := by decide +kernel
theorem dX4_bend_22 : decode cX4_bend 22 = .ok (.imul, 1) := by decide +kernel
theorem dX4_bend_23 : decode cX4_bend 23 = .ok (.iadd, 1) := by decide +kernel
theorem dX4_bend_24 : decode cX4_bend 24 = .ok (.iconst 1, 1) := by decide +kernel
theorem dX4_bend_25 : decode cX4_bend 25 = .ok (.iadd, 1) := by decide +kernel
theorem dX4_bend_26 : decode cX4_bend 26 = .ok (.iload_n 2, 1) := by decide +kernel
theorem dX4_bend_27 : decode cX4_bend 27 = .ok (.invokevirtual 97, 3) := by decide +kernel
theorem dX4_bend_30 : decode cX4_bend 30 = .ok (.goto 5, 3) := by decide +kernel
theorem dX4_bend_33 : decode cX4_bend 33 = .ok (.bipush (-2), 2) := by decide +kernel
theorem dX4_bend_35 : decode cX4_bend 35 = .ok (.ireturn, 1) := by decide +kernel
set_option maxRecDepth 20000 in
theorem ggX4_becomes_X4_records : GoodIn wsX4_becomes wsX4_records := goodIn_r _ [6, 7, 8, 1, 9, 10, 5, 11, 12, 13, 14, 15, 16, 17, 18, 19, 20, 21, 22] (by decide +kernel) (by decide +kernel)
set_option maxRecDepth 20000 in
theorem gX4_becomes_X4_records : GoodIn wsX4_becomes (wsV RX4 76 RX4 yX4_records wsX4_records) := goodIn_app (goodIn_of _ (by decide +kernel)) ggX4_becomes_X4_records
theorem dX4_becomes_0 : decode cX4_becomes 0 = .ok (.aload_n 0, 1) := by decide +kernel
theorem dX4_becomes_1 : decode cX4_becomes 1 = .ok (.getfield 7, 3) := by decide +kernel
theorem dX4_becomes_4 : decode cX4_becomes 4 = .ok (.iload_n 1, 1) := by decide +kernel
theorem dX4_becomes_5 : decode cX4_becomes 5 = .ok (.iaload, 1) := by decide +kernel
theorem dX4_becomes_6 : decode cX4_becomes 6 = .ok (.istore_n 3, 1) := by decide +kernel
theorem dX4_becomes_7 : decode cX4_becomes 7 = .ok (.iload_n 3, 1) := by decide +kernel
theorem dX4_becomes_8 : decode cX4_becomes 8 = .ok (.iload_n 2, 1) := by decide +kernel
theorem dX4_becomes_9 : decode cX4_becomes 9 = .ok (.if_icmp .ne 6, 3) := by decide +kernel
theorem dX4_becomes_12 : decode cX4_becomes 12 = .ok (.bipush (-5), 2) := by decide +kernel
theorem dX4_becomes_14 : decode cX4_becomes 14 = .ok (.ireturn, 1) := by decide +kernel
theorem dX4_becomes_15 : decode cX4_becomes 15 = .ok (.aload_n 0, 1) := by decide +kernel
theorem dX4_becomes_16 : decode cX4_becomes 16 = .ok (.invokevirtual 76, 3) := by decide +kernel
theorem dX4_becomes_19 : decode cX4_becomes 19 = .ok (.aload_n 0, 1) := by decide +kernel
theorem dX4_becomes_20 : decode cX4_becomes 20 = .ok (.getfield 7, 3) := by decide +kernel
theorem dX4_becomes_23 : decode cX4_becomes 23 = .ok (.iload_n 1, 1) := by decide +kernel
theorem dX4_becomes_24 : decode cX4_becomes 24 = .ok (.iload_n 2, 1) := by decide +kernel
theorem dX4_becomes_25 : decode cX4_becomes 25 = .ok (.iastore, 1) := by decide +kernel
theorem dX4_becomes_26 : decode cX4_becomes 26 = .ok (.iload_n 3, 1) := by decide +kernel
theorem dX4_becomes_27 : decode cX4_becomes 27 = .ok (.ireturn, 1) := by decide +kernel
set_option maxRecDepth 20000 in
theorem ggX4_moveLead_X4_isLead : GoodIn wsX4_moveLead wsX4_isLead := goodIn_r _ [5, 6, 7, 4, 8] (by decide +kernel) (by decide +kernel)
set_option maxRecDepth 20000 in
theorem gX4_moveLead_X4_isLead : GoodIn wsX4_moveLead (va_wsS RX4 67 yX4_isLead wsX4_isLead) := goodIn_app (goodIn_of _ (by decide +kernel)) ggX4_moveLead_X4_isLead
set_option maxRecDepth 20000 in
theorem ggX4_moveLead_X4_in : GoodIn wsX4_moveLead wsX4_in := goodIn_r _ [8] (by decide +kernel) (by decide +kernel)
set_option maxRecDepth 20000 in
theorem gX4_moveLead_X4_in : GoodIn wsX4_moveLead (va_wsS RX4 37 yX4_in wsX4_in) := goodIn_app (goodIn_of _ (by decide +kernel)) ggX4_moveLead_X4_in
set_option maxRecDepth 20000 in
theorem ggX4_moveLead_X4_padOf : GoodIn wsX4_moveLead wsX4_padOf := goodIn_r _ [11, 12, 13, 4, 14] (by decide +kernel) (by decide +kernel)
set_option maxRecDepth 20000 in
theorem gX4_moveLead_X4_padOf : GoodIn wsX4_moveLead (va_wsS RX4 52 yX4_padOf wsX4_padOf) := goodIn_app (goodIn_of _ (by decide +kernel)) ggX4_moveLead_X4_padOf
set_option maxRecDepth 20000 in
theorem ggX4_moveLead_X4_becomes : GoodIn wsX4_moveLead wsX4_becomes := goodIn_r _ [18, 1, 19, 20, 21, 4, 22, 23, 24, 25, 26, 27, 28, 29, 30, 31, 32, 33, 34, 35, 36, 37, 38] (by decide +kernel) (by decide +kernel)
set_option maxRecDepth 20000 in
theorem gX4_moveLead_X4_becomes : GoodIn wsX4_moveLead (wsV RX4 97 RX4 yX4_becomes wsX4_becomes) := goodIn_app (goodIn_of _ (by decide +kernel)) ggX4_moveLead_X4_becomes
theorem dX4_moveLead_0 : decode cX4_moveLead 0 = .ok (.iload_n 1, 1) := by decide +kernel
theorem dX4_moveLead_1 : decode cX4_moveLead 1 = .ok (.invokestatic 67, 3) := by decide +kernel
theorem dX4_moveLead_4 : decode cX4_moveLead 4 = .ok (.ifCond .ne 5, 3) := by decide +kernel
theorem dX4_moveLead_7 : decode cX4_moveLead 7 = .ok (.iconst (-1), 1) := by decide +kernel
theorem dX4_moveLead_8 : decode cX4_moveLead 8 = .ok (.ireturn, 1) := by decide +kernel
theorem dX4_moveLead_9 : decode cX4_moveLead 9 = .ok (.iload_n 2, 1) := by decide +kernel
theorem dX4_moveLead_10 : decode cX4_moveLead 10 = .ok (.iconst 0, 1) := by decide +kernel
theorem dX4_moveLead_11 : decode cX4_moveLead 11 = .ok (.sipush 600, 3) := by decide +kernel
theorem dX4_moveLead_14 : decode cX4_moveLead 14 = .ok (.invokestatic 37, 3) := by decide +kernel
theorem dX4_moveLead_17 : decode cX4_moveLead 17 = .ok (.ifCond .ne 6, 3) := by decide +kernel
theorem dX4_moveLead_20 : decode cX4_moveLead 20 = .ok (.bipush (-2), 2) := by decide +kernel
theorem dX4_moveLead_22 : decode cX4_moveLead 22 = .ok (.ireturn, 1) := by decide +kernel
theorem dX4_moveLead_23 : decode cX4_moveLead 23 = .ok (.aload_n 0, 1) := by decide +kernel
theorem dX4_moveLead_24 : decode cX4_moveLead 24 = .ok (.getfield 7, 3) := by decide +kernel
theorem dX4_moveLead_27 : decode cX4_moveLead 27 = .ok (.iload_n 1, 1) := by decide +kernel
theorem dX4_moveLead_28 : decode cX4_moveLead 28 = .ok (.invokestatic 52, 3) := by decide +kernel
theorem dX4_moveLead_31 : decode cX4_moveLead 31 = .ok (.bipush (-5), 2) := by decide +kernel
theorem dX4_moveLead_33 : decode cX4_moveLead 33 = .ok (.if_icmp .eq 8, 3) := by decide +kernel
theorem dX4_moveLead_36 : decode cX4_moveLead 36 = .ok (.bipush (-4), 2) := by decide +kernel
theorem dX4_moveLead_38 : decode cX4_moveLead 38 = .ok (.goto 11, 3) := by decide +kernel
theorem dX4_moveLead_41 : decode cX4_moveLead 41 = .ok (.aload_n 0, 1) := by decide +kernel
theorem dX4_moveLead_42 : decode cX4_moveLead 42 = .ok (.iconst 0, 1) := by decide +kernel
theorem dX4_moveLead_43 : decode cX4_moveLead 43 = .ok (.iload_n 1, 1) := by decide +kernel
theorem dX4_moveLead_44 : decode cX4_moveLead 44 = .ok (.iadd, 1) := by decide +kernel
theorem dX4_moveLead_45 : decode cX4_moveLead 45 = .ok (.iload_n 2, 1) := by decide +kernel
theorem dX4_moveLead_46 : decode cX4_moveLead 46 = .ok (.invokevirtual 97, 3) := by decide +kernel
theorem dX4_moveLead_49 : decode cX4_moveLead 49 = .ok (.ireturn, 1) := by decide +kernel
set_option maxRecDepth 20000 in
theorem ggX4_setWidth_X4_in : GoodIn wsX4_setWidth wsX4_in := goodIn_r _ [4] (by decide +kernel) (by decide +kernel)
set_option maxRecDepth 20000 in
theorem gX4_setWidth_X4_in : GoodIn wsX4_setWidth (va_wsS RX4 37 yX4_in wsX4_in) := goodIn_app (goodIn_of _ (by decide +kernel)) ggX4_setWidth_X4_in
set_option maxRecDepth 20000 in
theorem ggX4_setWidth_X4_becomes : GoodIn wsX4_setWidth wsX4_becomes := goodIn_r _ [8, 9, 10, 11, 12, 3, 13, 14, 15, 16, 17, 18, 19, 20, 21, 22, 23, 24, 25, 26, 27, 28, 29] (by decide +kernel) (by decide +kernel)
set_option maxRecDepth 20000 in
theorem gX4_setWidth_X4_becomes : GoodIn wsX4_setWidth (wsV RX4 97 RX4 yX4_becomes wsX4_becomes) := goodIn_app (goodIn_of _ (by decide +kernel)) ggX4_setWidth_X4_becomes
theorem dX4_setWidth_0 : decode cX4_setWidth 0 = .ok (.iload_n 1, 1) := by decide +kernel
theorem dX4_setWidth_1 : decode cX4_setWidth 1 = .ok (.iconst 1, 1) := by decide +kernel
theorem dX4_setWidth_2 : decode cX4_setWidth 2 = .ok (.bipush 50, 2) := by decide +kernel
theorem dX4_setWidth_4 : decode cX4_setWidth 4 = .ok (.invokestatic 37, 3) := by decide +kernel
theorem dX4_setWidth_7 : decode cX4_setWidth 7 = .ok (.ifCond .eq 13, 3) := by decide +kernel
theorem dX4_setWidth_10 : decode cX4_setWidth 10 = .ok (.aload_n 0, 1) := by decide +kernel
theorem dX4_setWidth_11 : decode cX4_setWidth 11 = .ok (.bipush 64, 2) := by decide +kernel
theorem dX4_setWidth_13 : decode cX4_setWidth 13 = .ok (.iload_n 1, 1) := by decide +kernel
theorem dX4_setWidth_14 : decode cX4_setWidth 14 = .ok (.invokevirtual 97, 3) := by decide +kernel
theorem dX4_setWidth_17 : decode cX4_setWidth 17 = .ok (.goto 5, 3) := by decide +kernel
theorem dX4_setWidth_20 : decode cX4_setWidth 20 = .ok (.bipush (-2), 2) := by decide +kernel
theorem dX4_setWidth_22 : decode cX4_setWidth 22 = .ok (.ireturn, 1) := by decide +kernel
set_option maxRecDepth 20000 in
theorem ggX4_changeTool_X4_records : GoodIn wsX4_changeTool wsX4_records := goodIn_r _ [6, 7, 8, 1, 9, 10, 5, 11, 12, 13, 14, 15, 16, 17, 18, 19, 20, 21, 22] (by decide +kernel) (by decide +kernel)
set_option maxRecDepth 20000 in
theorem gX4_changeTool_X4_records : GoodIn wsX4_changeTool (wsV RX4 76 RX4 yX4_records wsX4_records) := goodIn_app (goodIn_of _ (by decide +kernel)) ggX4_changeTool_X4_records
theorem dX4_changeTool_0 : decode cX4_changeTool 0 = .ok (.aload_n 0, 1) := by decide +kernel
theorem dX4_changeTool_1 : decode cX4_changeTool 1 = .ok (.getfield 7, 3) := by decide +kernel
theorem dX4_changeTool_4 : decode cX4_changeTool 4 = .ok (.bipush 65, 2) := by decide +kernel
theorem dX4_changeTool_6 : decode cX4_changeTool 6 = .ok (.iaload, 1) := by decide +kernel
theorem dX4_changeTool_7 : decode cX4_changeTool 7 = .ok (.istore_n 1, 1) := by decide +kernel
theorem dX4_changeTool_8 : decode cX4_changeTool 8 = .ok (.iload_n 1, 1) := by decide +kernel
theorem dX4_changeTool_9 : decode cX4_changeTool 9 = .ok (.ifCond .ne 6, 3) := by decide +kernel
theorem dX4_changeTool_12 : decode cX4_changeTool 12 = .ok (.bipush (-5), 2) := by decide +kernel
theorem dX4_changeTool_14 : decode cX4_changeTool 14 = .ok (.ireturn, 1) := by decide +kernel
theorem dX4_changeTool_15 : decode cX4_changeTool 15 = .ok (.aload_n 0, 1) := by decide +kernel
theorem dX4_changeTool_16 : decode cX4_changeTool 16 = .ok (.invokevirtual 76, 3) := by decide +kernel
theorem dX4_changeTool_19 : decode cX4_changeTool 19 = .ok (.aload_n 0, 1) := by decide +kernel
theorem dX4_changeTool_20 : decode cX4_changeTool 20 = .ok (.getfield 7, 3) := by decide +kernel
theorem dX4_changeTool_23 : decode cX4_changeTool 23 = .ok (.bipush 65, 2) := by decide +kernel
theorem dX4_changeTool_25 : decode cX4_changeTool 25 = .ok (.iconst 0, 1) := by decide +kernel
theorem dX4_changeTool_26 : decode cX4_changeTool 26 = .ok (.iastore, 1) := by decide +kernel
theorem dX4_changeTool_27 : decode cX4_changeTool 27 = .ok (.aload_n 0, 1) := by decide +kernel
theorem dX4_changeTool_28 : decode cX4_changeTool 28 = .ok (.getfield 7, 3) := by decide +kernel
theorem dX4_changeTool_31 : decode cX4_changeTool 31 = .ok (.bipush 70, 2) := by decide +kernel
theorem dX4_changeTool_33 : decode cX4_changeTool 33 = .ok (.dup2, 1) := by decide +kernel
theorem dX4_changeTool_34 : decode cX4_changeTool 34 = .ok (.iaload, 1) := by decide +kernel
theorem dX4_changeTool_35 : decode cX4_changeTool 35 = .ok (.iconst 1, 1) := by decide +kernel
theorem dX4_changeTool_36 : decode cX4_changeTool 36 = .ok (.iadd, 1) := by decide +kernel
theorem dX4_changeTool_37 : decode cX4_changeTool 37 = .ok (.iastore, 1) := by decide +kernel
theorem dX4_changeTool_38 : decode cX4_changeTool 38 = .ok (.iload_n 1, 1) := by decide +kernel
theorem dX4_changeTool_39 : decode cX4_changeTool 39 = .ok (.ireturn, 1) := by decide +kernel
set_option maxRecDepth 20000 in
theorem ggX4_thread_X4_records : GoodIn wsX4_thread wsX4_records := goodIn_r _ [6, 7, 8, 1, 9, 10, 5, 11, 12, 13, 14, 15, 16, 17, 18, 19, 20, 21, 22] (by decide +kernel) (by decide +kernel)
set_option maxRecDepth 20000 in
theorem gX4_thread_X4_records : GoodIn wsX4_thread (wsV RX4 76 RX4 yX4_records wsX4_records) := goodIn_app (goodIn_of _ (by decide +kernel)) ggX4_thread_X4_records
theorem dX4_thread_0 : decode cX4_thread 0 = .ok (.aload_n 0, 1) := by decide +kernel
theorem dX4_thread_1 : decode cX4_thread 1 = .ok (.getfield 7, 3) := by decide +kernel
theorem dX4_thread_4 : decode cX4_thread 4 = .ok (.bipush 66, 2) := by decide +kernel
theorem dX4_thread_6 : decode cX4_thread 6 = .ok (.iaload, 1) := by decide +kernel
theorem dX4_thread_7 : decode cX4_thread 7 = .ok (.ifCond .ne 6, 3) := by decide +kernel
theorem dX4_thread_10 : decode cX4_thread 10 = .ok (.bipush (-5), 2) := by decide +kernel
theorem dX4_thread_12 : decode cX4_thread 12 = .ok (.ireturn, 1) := by decide +kernel
theorem dX4_thread_13 : decode cX4_thread 13 = .ok (.aload_n 0, 1) := by decide +kernel
theorem dX4_thread_14 : decode cX4_thread 14 = .ok (.invokevirtual 76, 3) := by decide +kernel
theorem dX4_thread_17 : decode cX4_thread 17 = .ok (.aload_n 0, 1) := by decide +kernel
theorem dX4_thread_18 : decode cX4_thread 18 = .ok (.getfield 7, 3) := by decide +kernel
theorem dX4_thread_21 : decode cX4_thread 21 = .ok (.bipush 66, 2) := by decide +kernel
theorem dX4_thread_23 : decode cX4_thread 23 = .ok (.iconst 0, 1) := by decide +kernel
theorem dX4_thread_24 : decode cX4_thread 24 = .ok (.iastore, 1) := by decide +kernel
theorem dX4_thread_25 : decode cX4_thread 25 = .ok (.aload_n 0, 1) := by decide +kernel
theorem dX4_thread_26 : decode cX4_thread 26 = .ok (.getfield 7, 3) := by decide +kernel
theorem dX4_thread_29 : decode cX4_thread 29 = .ok (.bipush 67, 2) := by decide +kernel
theorem dX4_thread_31 : decode cX4_thread 31 = .ok (.iaload, 1) := by decide +kernel
theorem dX4_thread_32 : decode cX4_thread 32 = .ok (.ireturn, 1) := by decide +kernel
set_option maxRecDepth 20000 in
theorem ggX4_pulls_X4_goes : GoodIn wsX4_pulls wsX4_goes := goodIn_r _ [6, 1, 7, 8, 9, 10, 11, 12, 13, 14, 15, 16, 17] (by decide +kernel) (by decide +kernel)
set_option maxRecDepth 20000 in
theorem gX4_pulls_X4_goes : GoodIn wsX4_pulls (wsV RX4 93 RX4 yX4_goes wsX4_goes) := goodIn_app (goodIn_of _ (by decide +kernel)) ggX4_pulls_X4_goes
theorem dX4_pulls_0 : decode cX4_pulls 0 = .ok (.bipush 16, 2) := by decide +kernel
theorem dX4_pulls_2 : decode cX4_pulls 2 = .ok (.iconst 4, 1) := by decide +kernel
theorem dX4_pulls_3 : decode cX4_pulls 3 = .ok (.iload_n 1, 1) := by decide +kernel
theorem dX4_pulls_4 : decode cX4_pulls 4 = .ok (.imul, 1) := by decide +kernel
theorem dX4_pulls_5 : decode cX4_pulls 5 = .ok (.iadd, 1) := by decide +kernel
theorem dX4_pulls_6 : decode cX4_pulls 6 = .ok (.iconst 2, 1) := by decide +kernel
theorem dX4_pulls_7 : decode cX4_pulls 7 = .ok (.iadd, 1) := by decide +kernel
theorem dX4_pulls_8 : decode cX4_pulls 8 = .ok (.istore_n 3, 1) := by decide +kernel
theorem dX4_pulls_9 : decode cX4_pulls 9 = .ok (.aload_n 0, 1) := by decide +kernel
theorem dX4_pulls_10 : decode cX4_pulls 10 = .ok (.getfield 7, 3) := by decide +kernel
theorem dX4_pulls_13 : decode cX4_pulls 13 = .ok (.iload_n 3, 1) := by decide +kernel
theorem dX4_pulls_14 : decode cX4_pulls 14 = .ok (.iaload, 1) := by decide +kernel
theorem dX4_pulls_15 : decode cX4_pulls 15 = .ok (.iload_n 2, 1) := by decide +kernel
theorem dX4_pulls_16 : decode cX4_pulls 16 = .ok (.if_icmp .ge 23, 3) := by decide +kernel
theorem dX4_pulls_19 : decode cX4_pulls 19 = .ok (.aload_n 0, 1) := by decide +kernel
theorem dX4_pulls_20 : decode cX4_pulls 20 = .ok (.iload_n 1, 1) := by decide +kernel
theorem dX4_pulls_21 : decode cX4_pulls 21 = .ok (.invokevirtual 93, 3) := by decide +kernel
theorem dX4_pulls_24 : decode cX4_pulls 24 = .ok (.aload_n 0, 1) := by decide +kernel
theorem dX4_pulls_25 : decode cX4_pulls 25 = .ok (.getfield 7, 3) := by decide +kernel
theorem dX4_pulls_28 : decode cX4_pulls 28 = .ok (.bipush 69, 2) := by decide +kernel
theorem dX4_pulls_30 : decode cX4_pulls 30 = .ok (.dup2, 1) := by decide +kernel
theorem dX4_pulls_31 : decode cX4_pulls 31 = .ok (.iaload, 1) := by decide +kernel
theorem dX4_pulls_32 : decode cX4_pulls 32 = .ok (.iconst 1, 1) := by decide +kernel
theorem dX4_pulls_33 : decode cX4_pulls 33 = .ok (.iadd, 1) := by decide +kernel
theorem dX4_pulls_34 : decode cX4_pulls 34 = .ok (.iastore, 1) := by decide +kernel
theorem dX4_pulls_35 : decode cX4_pulls 35 = .ok (.sipush 1000, 3) := by decide +kernel
theorem dX4_pulls_38 : decode cX4_pulls 38 = .ok (.ireturn, 1) := by decide +kernel
theorem dX4_pulls_39 : decode cX4_pulls 39 = .ok (.aload_n 0, 1) := by decide +kernel
theorem dX4_pulls_40 : decode cX4_pulls 40 = .ok (.getfield 7, 3) := by decide +kernel
theorem dX4_pulls_43 : decode cX4_pulls 43 = .ok (.iload_n 3, 1) := by decide +kernel
theorem dX4_pulls_44 : decode cX4_pulls 44 = .ok (.dup2, 1) := by decide +kernel
theorem dX4_pulls_45 : decode cX4_pulls 45 = .ok (.iaload, 1) := by decide +kernel
theorem dX4_pulls_46 : decode cX4_pulls 46 = .ok (.iload_n 2, 1) := by decide +kernel
theorem dX4_pulls_47 : decode cX4_pulls 47 = .ok (.bipush 10, 2) := by decide +kernel
theorem dX4_pulls_49 : decode cX4_pulls 49 = .ok (.idiv, 1) := by decide +kernel
theorem dX4_pulls_50 : decode cX4_pulls 50 = .ok (.isub, 1) := by decide +kernel
theorem dX4_pulls_51 : decode cX4_pulls 51 = .ok (.iastore, 1) := by decide +kernel
theorem dX4_pulls_52 : decode cX4_pulls 52 = .ok (.aload_n 0, 1) := by decide +kernel
theorem dX4_pulls_53 : decode cX4_pulls 53 = .ok (.getfield 7, 3) := by decide +kernel
theorem dX4_pulls_56 : decode cX4_pulls 56 = .ok (.iload_n 3, 1) := by decide +kernel
theorem dX4_pulls_57 : decode cX4_pulls 57 = .ok (.iaload, 1) := by decide +kernel
theorem dX4_pulls_58 : decode cX4_pulls 58 = .ok (.ireturn, 1) := by decide +kernel
set_option maxRecDepth 20000 in
theorem ggX4_pull_X4_hasWire : GoodIn wsX4_pull wsX4_hasWire := goodIn_r _ [5, 6, 7, 8, 4, 9, 10, 11, 12, 13, 14, 15, 33, 34, 35, 36, 37, 38, 39, 40, 41, 42, 43] (by decide +kernel) (by decide +kernel)
set_option maxRecDepth 20000 in
theorem gX4_pull_X4_hasWire : GoodIn wsX4_pull (wsV RX4 49 RX4 yX4_hasWire wsX4_hasWire) := goodIn_app (goodIn_of _ (by decide +kernel)) ggX4_pull_X4_hasWire
set_option maxRecDepth 20000 in
theorem ggX4_pull_X4_in : GoodIn wsX4_pull wsX4_in := goodIn_r _ [12] (by decide +kernel) (by decide +kernel)
set_option maxRecDepth 20000 in
theorem gX4_pull_X4_in : GoodIn wsX4_pull (va_wsS RX4 37 yX4_in wsX4_in) := goodIn_app (goodIn_of _ (by decide +kernel)) ggX4_pull_X4_in
set_option maxRecDepth 20000 in
theorem ggX4_pull_X4_records : GoodIn wsX4_pull wsX4_records := goodIn_r _ [19, 20, 21, 6, 22, 23, 4, 24, 33, 34, 35, 36, 37, 38, 39, 40, 41, 42, 43] (by decide +kernel) (by decide +kernel)
set_option maxRecDepth 20000 in
theorem gX4_pull_X4_records : GoodIn wsX4_pull (wsV RX4 76 RX4 yX4_records wsX4_records) := goodIn_app (goodIn_of _ (by decide +kernel)) ggX4_pull_X4_records
set_option maxRecDepth 20000 in
theorem ggX4_pull_X4_pulls : GoodIn wsX4_pull wsX4_pulls := goodIn_r _ [28, 6, 29, 30, 31, 4, 32, 33, 34, 35, 36, 37, 38, 39, 40, 41, 42, 43] (by decide +kernel) (by decide +kernel)
set_option maxRecDepth 20000 in
theorem gX4_pull_X4_pulls : GoodIn wsX4_pull (wsV RX4 100 RX4 yX4_pulls wsX4_pulls) := goodIn_app (goodIn_of _ (by decide +kernel)) ggX4_pull_X4_pulls
theorem dX4_pull_0 : decode cX4_pull 0 = .ok (.aload_n 0, 1) := by decide +kernel
theorem dX4_pull_1 : decode cX4_pull 1 = .ok (.iload_n 1, 1) := by decide +kernel
theorem dX4_pull_2 : decode cX4_pull 2 = .ok (.invokevirtual 49, 3) := by decide +kernel
theorem dX4_pull_5 : decode cX4_pull 5 = .ok (.ifCond .ne 5, 3) := by decide +kernel
theorem dX4_pull_8 : decode cX4_pull 8 = .ok (.iconst (-1), 1) := by decide +kernel
theorem dX4_pull_9 : decode cX4_pull 9 = .ok (.ireturn, 1) := by decide +kernel
theorem dX4_pull_10 : decode cX4_pull 10 = .ok (.iload_n 2, 1) := by decide +kernel
theorem dX4_pull_11 : decode cX4_pull 11 = .ok (.iconst 1, 1) := by decide +kernel
theorem dX4_pull_12 : decode cX4_pull 12 = .ok (.bipush 100, 2) := by decide +kernel
theorem dX4_pull_14 : decode cX4_pull 14 = .ok (.invokestatic 37, 3) := by decide +kernel
theorem dX4_pull_17 : decode cX4_pull 17 = .ok (.ifCond .ne 6, 3) := by decide +kernel
theorem dX4_pull_20 : decode cX4_pull 20 = .ok (.bipush (-2), 2) := by decide +kernel
theorem dX4_pull_22 : decode cX4_pull 22 = .ok (.ireturn, 1) := by decide +kernel
theorem dX4_pull_23 : decode cX4_pull 23 = .ok (.aload_n 0, 1) := by decide +kernel
theorem dX4_pull_24 : decode cX4_pull 24 = .ok (.invokevirtual 76, 3) := by decide +kernel
theorem dX4_pull_27 : decode cX4_pull 27 = .ok (.aload_n 0, 1) := by decide +kernel
theorem dX4_pull_28 : decode cX4_pull 28 = .ok (.iload_n 1, 1) := by decide +kernel
theorem dX4_pull_29 : decode cX4_pull 29 = .ok (.iload_n 2, 1) := by decide +kernel
theorem dX4_pull_30 : decode cX4_pull 30 = .ok (.invokevirtual 100, 3) := by decide +kernel
theorem dX4_pull_33 : decode cX4_pull 33 = .ok (.ireturn, 1) := by decide +kernel
set_option maxRecDepth 20000 in
theorem ggX4_sample_X4_in : GoodIn wsX4_sample wsX4_in := goodIn_r _ [4] (by decide +kernel) (by decide +kernel)
set_option maxRecDepth 20000 in
theorem gX4_sample_X4_in : GoodIn wsX4_sample (va_wsS RX4 37 yX4_in wsX4_in) := goodIn_app (goodIn_of _ (by decide +kernel)) ggX4_sample_X4_in
set_option maxRecDepth 20000 in
theorem ggX4_sample_X4_wires : GoodIn wsX4_sample wsX4_wires := goodIn_r _ [8, 9, 10, 11, 3, 12, 13, 14, 15, 16, 1, 2, 4, 17, 18, 19, 37, 38, 39, 40, 41, 42, 43, 44, 45, 46, 47] (by decide +kernel) (by decide +kernel)
set_option maxRecDepth 20000 in
theorem gX4_sample_X4_wires : GoodIn wsX4_sample (wsV RX4 90 RX4 yX4_wires wsX4_wires) := goodIn_app (goodIn_of _ (by decide +kernel)) ggX4_sample_X4_wires
set_option maxRecDepth 20000 in
theorem ggX4_sample_X4_records : GoodIn wsX4_sample wsX4_records := goodIn_r _ [23, 24, 25, 13, 26, 27, 3, 28, 37, 38, 39, 40, 41, 42, 43, 44, 45, 46, 47] (by decide +kernel) (by decide +kernel)
set_option maxRecDepth 20000 in
theorem gX4_sample_X4_records : GoodIn wsX4_sample (wsV RX4 76 RX4 yX4_records wsX4_records) := goodIn_app (goodIn_of _ (by decide +kernel)) ggX4_sample_X4_records
set_option maxRecDepth 20000 in
theorem ggX4_sample_X4_hasWire : GoodIn wsX4_sample wsX4_hasWire := goodIn_r _ [12, 13, 14, 15, 3, 16, 1, 2, 4, 17, 18, 19, 37, 38, 39, 40, 41, 42, 43, 44, 45, 46, 47] (by decide +kernel) (by decide +kernel)
set_option maxRecDepth 20000 in
theorem gX4_sample_X4_hasWire : GoodIn wsX4_sample (wsV RX4 49 RX4 yX4_hasWire wsX4_hasWire) := goodIn_app (goodIn_of _ (by decide +kernel)) ggX4_sample_X4_hasWire
set_option maxRecDepth 20000 in
theorem ggX4_sample_X4_pulls : GoodIn wsX4_sample wsX4_pulls := goodIn_r _ [32, 13, 33, 34, 35, 3, 36, 37, 38, 39, 40, 41, 42, 43, 44, 45, 46, 47] (by decide +kernel) (by decide +kernel)
set_option maxRecDepth 20000 in
theorem gX4_sample_X4_pulls : GoodIn wsX4_sample (wsV RX4 100 RX4 yX4_pulls wsX4_pulls) := goodIn_app (goodIn_of _ (by decide +kernel)) ggX4_sample_X4_pulls
theorem dX4_sample_0 : decode cX4_sample 0 = .ok (.iload_n 1, 1) := by decide +kernel
theorem dX4_sample_1 : decode cX4_sample 1 = .ok (.iconst 1, 1) := by decide +kernel
theorem dX4_sample_2 : decode cX4_sample 2 = .ok (.bipush 12, 2) := by decide +kernel
theorem dX4_sample_4 : decode cX4_sample 4 = .ok (.invokestatic 37, 3) := by decide +kernel
theorem dX4_sample_7 : decode cX4_sample 7 = .ok (.ifCond .eq 13, 3) := by decide +kernel
theorem dX4_sample_10 : decode cX4_sample 10 = .ok (.iload_n 2, 1) := by decide +kernel
theorem dX4_sample_11 : decode cX4_sample 11 = .ok (.iconst 1, 1) := by decide +kernel
theorem dX4_sample_12 : decode cX4_sample 12 = .ok (.bipush 100, 2) := by decide +kernel
theorem dX4_sample_14 : decode cX4_sample 14 = .ok (.invokestatic 37, 3) := by decide +kernel
theorem dX4_sample_17 : decode cX4_sample 17 = .ok (.ifCond .ne 6, 3) := by decide +kernel
theorem dX4_sample_20 : decode cX4_sample 20 = .ok (.bipush (-2), 2) := by decide +kernel
theorem dX4_sample_22 : decode cX4_sample 22 = .ok (.ireturn, 1) := by decide +kernel
theorem dX4_sample_23 : decode cX4_sample 23 = .ok (.aload_n 0, 1) := by decide +kernel
theorem dX4_sample_24 : decode cX4_sample 24 = .ok (.invokevirtual 90, 3) := by decide +kernel
theorem dX4_sample_27 : decode cX4_sample 27 = .ok (.ifCond .ne 6, 3) := by decide +kernel
theorem dX4_sample_30 : decode cX4_sample 30 = .ok (.bipush (-5), 2) := by decide +kernel
theorem dX4_sample_32 : decode cX4_sample 32 = .ok (.ireturn, 1) := by decide +kernel
theorem dX4_sample_33 : decode cX4_sample 33 = .ok (.aload_n 0, 1) := by decide +kernel
theorem dX4_sample_34 : decode cX4_sample 34 = .ok (.invokevirtual 76, 3) := by decide +kernel
theorem dX4_sample_37 : decode cX4_sample 37 = .ok (.iconst 0, 1) := by decide +kernel
theorem dX4_sample_38 : decode cX4_sample 38 = .ok (.istore_n 3, 1) := by decide +kernel
theorem dX4_sample_39 : decode cX4_sample 39 = .ok (.iconst 0, 1) := by decide +kernel
theorem dX4_sample_40 : decode cX4_sample 40 = .ok (.istore 4, 2) := by decide +kernel
theorem dX4_sample_42 : decode cX4_sample 42 = .ok (.iconst 0, 1) := by decide +kernel
theorem dX4_sample_43 : decode cX4_sample 43 = .ok (.istore 5, 2) := by decide +kernel
theorem dX4_sample_45 : decode cX4_sample 45 = .ok (.iload 5, 2) := by decide +kernel
theorem dX4_sample_47 : decode cX4_sample 47 = .ok (.bipush 12, 2) := by decide +kernel
theorem dX4_sample_49 : decode cX4_sample 49 = .ok (.if_icmp .ge 49, 3) := by decide +kernel
theorem dX4_sample_52 : decode cX4_sample 52 = .ok (.aload_n 0, 1) := by decide +kernel
theorem dX4_sample_53 : decode cX4_sample 53 = .ok (.iload 5, 2) := by decide +kernel
theorem dX4_sample_55 : decode cX4_sample 55 = .ok (.invokevirtual 49, 3) := by decide +kernel
theorem dX4_sample_58 : decode cX4_sample 58 = .ok (.ifCond .eq 34, 3) := by decide +kernel
theorem dX4_sample_61 : decode cX4_sample 61 = .ok (.iload_n 3, 1) := by decide +kernel
theorem dX4_sample_62 : decode cX4_sample 62 = .ok (.iload 4, 2) := by decide +kernel
theorem dX4_sample_64 : decode cX4_sample 64 = .ok (.iload_n 1, 1) := by decide +kernel
theorem dX4_sample_65 : decode cX4_sample 65 = .ok (.irem, 1) := by decide +kernel
theorem dX4_sample_66 : decode cX4_sample 66 = .ok (.ifCond .ne 20, 3) := by decide +kernel
theorem dX4_sample_69 : decode cX4_sample 69 = .ok (.aload_n 0, 1) := by decide +kernel
theorem dX4_sample_70 : decode cX4_sample 70 = .ok (.iload 5, 2) := by decide +kernel
theorem dX4_sample_72 : decode cX4_sample 72 = .ok (.iload_n 2, 1) := by decide +kernel
theorem dX4_sample_73 : decode cX4_sample 73 = .ok (.invokevirtual 100, 3) := by decide +kernel
theorem dX4_sample_76 : decode cX4_sample 76 = .ok (.sipush 1000, 3) := by decide +kernel
theorem dX4_sample_79 : decode cX4_sample 79 = .ok (.if_icmp .ne 7, 3) := by decide +kernel
theorem dX4_sample_82 : decode cX4_sample 82 = .ok (.iconst 1, 1) := by decide +kernel
theorem dX4_sample_83 : decode cX4_sample 83 = .ok (.goto 4, 3) := by decide +kernel
theorem dX4_sample_86 : decode cX4_sample 86 = .ok (.iconst 0, 1) := by decide +kernel
theorem dX4_sample_87 : decode cX4_sample 87 = .ok (.iadd, 1) := by decide +kernel
theorem dX4_sample_88 : decode cX4_sample 88 = .ok (.istore_n 3, 1) := by decide +kernel
theorem dX4_sample_89 : decode cX4_sample 89 = .ok (.iinc 4 1, 3) := by decide +kernel
theorem dX4_sample_92 : decode cX4_sample 92 = .ok (.iinc 5 1, 3) := by decide +kernel
theorem dX4_sample_95 : decode cX4_sample 95 = .ok (.goto (-50), 3) := by decide +kernel
theorem dX4_sample_98 : decode cX4_sample 98 = .ok (.iload_n 3, 1) := by decide +kernel
theorem dX4_sample_99 : decode cX4_sample 99 = .ok (.ireturn, 1) := by decide +kernel
theorem dX4_heightOf_0 : decode cX4_heightOf 0 = .ok (.iload_n 0, 1) := by decide +kernel
theorem dX4_heightOf_1 : decode cX4_heightOf 1 = .ok (.iload_n 1, 1) := by decide +kernel
theorem dX4_heightOf_2 : decode cX4_heightOf 2 = .ok (.imul, 1) := by decide +kernel
theorem dX4_heightOf_3 : decode cX4_heightOf 3 = .ok (.sipush 200, 3) := by decide +kernel
theorem dX4_heightOf_6 : decode cX4_heightOf 6 = .ok (.iload_n 1, 1) := by decide +kernel
theorem dX4_heightOf_7 : decode cX4_heightOf 7 = .ok (.isub, 1) := by decide +kernel
theorem dX4_heightOf_8 : decode cX4_heightOf 8 = .ok (.imul, 1) := by decide +kernel
theorem dX4_heightOf_9 : decode cX4_heightOf 9 = .ok (.iconst 4, 1) := by decide +kernel
theorem dX4_heightOf_10 : decode cX4_heightOf 10 = .ok (.imul, 1) := by decide +kernel
theorem dX4_heightOf_11 : decode cX4_heightOf 11 = .ok (.ldc 103, 2) := by decide +kernel
theorem dX4_heightOf_13 : decode cX4_heightOf 13 = .ok (.idiv, 1) := by decide +kernel
theorem dX4_heightOf_14 : decode cX4_heightOf 14 = .ok (.ireturn, 1) := by decide +kernel
set_option maxRecDepth 20000 in
theorem ggX4_crossingY_X4_of : GoodIn wsX4_crossingY wsX4_of := goodIn_r _ [5] (by decide +kernel) (by decide +kernel)
set_option maxRecDepth 20000 in
theorem gX4_crossingY_X4_of : GoodIn wsX4_crossingY (va_wsS RX4 45 yX4_of wsX4_of) := goodIn_app (goodIn_of _ (by decide +kernel)) ggX4_crossingY_X4_of
set_option maxRecDepth 20000 in
theorem ggX4_crossingY_X4_padX : GoodIn wsX4_crossingY wsX4_padX := goodIn_r _ [8] (by decide +kernel) (by decide +kernel)
set_option maxRecDepth 20000 in
theorem gX4_crossingY_X4_padX : GoodIn wsX4_crossingY (va_wsS RX4 56 yX4_padX wsX4_padX) := goodIn_app (goodIn_of _ (by decide +kernel)) ggX4_crossingY_X4_padX
theorem dX4_crossingY_0 : decode cX4_crossingY 0 = .ok (.iload_n 1, 1) := by decide +kernel
theorem dX4_crossingY_1 : decode cX4_crossingY 1 = .ok (.iload_n 2, 1) := by decide +kernel
theorem dX4_crossingY_2 : decode cX4_crossingY 2 = .ok (.if_icmp .ge 7, 3) := by decide +kernel
theorem dX4_crossingY_5 : decode cX4_crossingY 5 = .ok (.iload_n 1, 1) := by decide +kernel
theorem dX4_crossingY_6 : decode cX4_crossingY 6 = .ok (.goto 4, 3) := by decide +kernel
theorem dX4_crossingY_9 : decode cX4_crossingY 9 = .ok (.iload_n 2, 1) := by decide +kernel
theorem dX4_crossingY_10 : decode cX4_crossingY 10 = .ok (.istore_n 3, 1) := by decide +kernel
theorem dX4_crossingY_11 : decode cX4_crossingY 11 = .ok (.iload_n 1, 1) := by decide +kernel
theorem dX4_crossingY_12 : decode cX4_crossingY 12 = .ok (.iload_n 2, 1) := by decide +kernel
theorem dX4_crossingY_13 : decode cX4_crossingY 13 = .ok (.if_icmp .ge 7, 3) := by decide +kernel
theorem dX4_crossingY_16 : decode cX4_crossingY 16 = .ok (.iload_n 2, 1) := by decide +kernel
theorem dX4_crossingY_17 : decode cX4_crossingY 17 = .ok (.goto 4, 3) := by decide +kernel
theorem dX4_crossingY_20 : decode cX4_crossingY 20 = .ok (.iload_n 1, 1) := by decide +kernel
theorem dX4_crossingY_21 : decode cX4_crossingY 21 = .ok (.istore 4, 2) := by decide +kernel
theorem dX4_crossingY_23 : decode cX4_crossingY 23 = .ok (.aload_n 0, 1) := by decide +kernel
theorem dX4_crossingY_24 : decode cX4_crossingY 24 = .ok (.getfield 7, 3) := by decide +kernel
theorem dX4_crossingY_27 : decode cX4_crossingY 27 = .ok (.iconst 0, 1) := by decide +kernel
theorem dX4_crossingY_28 : decode cX4_crossingY 28 = .ok (.aload_n 0, 1) := by decide +kernel
theorem dX4_crossingY_29 : decode cX4_crossingY 29 = .ok (.getfield 7, 3) := by decide +kernel
theorem dX4_crossingY_32 : decode cX4_crossingY 32 = .ok (.iload_n 3, 1) := by decide +kernel
theorem dX4_crossingY_33 : decode cX4_crossingY 33 = .ok (.iconst 0, 1) := by decide +kernel
theorem dX4_crossingY_34 : decode cX4_crossingY 34 = .ok (.invokestatic 45, 3) := by decide +kernel
theorem dX4_crossingY_37 : decode cX4_crossingY 37 = .ok (.iadd, 1) := by decide +kernel
theorem dX4_crossingY_38 : decode cX4_crossingY 38 = .ok (.iaload, 1) := by decide +kernel
theorem dX4_crossingY_39 : decode cX4_crossingY 39 = .ok (.aload_n 0, 1) := by decide +kernel
theorem dX4_crossingY_40 : decode cX4_crossingY 40 = .ok (.getfield 7, 3) := by decide +kernel
theorem dX4_crossingY_43 : decode cX4_crossingY 43 = .ok (.iconst 0, 1) := by decide +kernel
theorem dX4_crossingY_44 : decode cX4_crossingY 44 = .ok (.aload_n 0, 1) := by decide +kernel
theorem dX4_crossingY_45 : decode cX4_crossingY 45 = .ok (.getfield 7, 3) := by decide +kernel
theorem dX4_crossingY_48 : decode cX4_crossingY 48 = .ok (.iload 4, 2) := by decide +kernel
theorem dX4_crossingY_50 : decode cX4_crossingY 50 = .ok (.iconst 0, 1) := by decide +kernel
theorem dX4_crossingY_51 : decode cX4_crossingY 51 = .ok (.invokestatic 45, 3) := by decide +kernel
theorem dX4_crossingY_54 : decode cX4_crossingY 54 = .ok (.iadd, 1) := by decide +kernel
theorem dX4_crossingY_55 : decode cX4_crossingY 55 = .ok (.iaload, 1) := by decide +kernel
theorem dX4_crossingY_56 : decode cX4_crossingY 56 = .ok (.isub, 1) := by decide +kernel
theorem dX4_crossingY_57 : decode cX4_crossingY 57 = .ok (.istore 5, 2) := by decide +kernel
theorem dX4_crossingY_59 : decode cX4_crossingY 59 = .ok (.iload 4, 2) := by decide +kernel
theorem dX4_crossingY_61 : decode cX4_crossingY 61 = .ok (.invokestatic 56, 3) := by decide +kernel
theorem dX4_crossingY_64 : decode cX4_crossingY 64 = .ok (.iload_n 3, 1) := by decide +kernel
theorem dX4_crossingY_65 : decode cX4_crossingY 65 = .ok (.invokestatic 56, 3) := by decide +kernel
theorem dX4_crossingY_68 : decode cX4_crossingY 68 = .ok (.isub, 1) := by decide +kernel
theorem dX4_crossingY_69 : decode cX4_crossingY 69 = .ok (.istore 6, 2) := by decide +kernel
theorem dX4_crossingY_71 : decode cX4_crossingY 71 = .ok (.iload_n 3, 1) := by decide +kernel
theorem dX4_crossingY_72 : decode cX4_crossingY 72 = .ok (.iload 4, 2) := by decide +kernel
theorem dX4_crossingY_74 : decode cX4_crossingY 74 = .ok (.if_icmp .eq 8, 3) := by decide +kernel
theorem dX4_crossingY_77 : decode cX4_crossingY 77 = .ok (.iload 5, 2) := by decide +kernel
theorem dX4_crossingY_79 : decode cX4_crossingY 79 = .ok (.ifCond .gt 8, 3) := by decide +kernel
theorem dX4_crossingY_82 : decode cX4_crossingY 82 = .ok (.bipush (-5), 2) := by decide +kernel
theorem dX4_crossingY_84 : decode cX4_crossingY 84 = .ok (.goto 15, 3) := by decide +kernel
theorem dX4_crossingY_87 : decode cX4_crossingY 87 = .ok (.sipush 200, 3) := by decide +kernel
theorem dX4_crossingY_90 : decode cX4_crossingY 90 = .ok (.iload 6, 2) := by decide +kernel
theorem dX4_crossingY_92 : decode cX4_crossingY 92 = .ok (.imul, 1) := by decide +kernel
theorem dX4_crossingY_93 : decode cX4_crossingY 93 = .ok (.iload 6, 2) := by decide +kernel
theorem dX4_crossingY_95 : decode cX4_crossingY 95 = .ok (.iload 5, 2) := by decide +kernel
theorem dX4_crossingY_97 : decode cX4_crossingY 97 = .ok (.iadd, 1) := by decide +kernel
theorem dX4_crossingY_98 : decode cX4_crossingY 98 = .ok (.idiv, 1) := by decide +kernel
theorem dX4_crossingY_99 : decode cX4_crossingY 99 = .ok (.ireturn, 1) := by decide +kernel
set_option maxRecDepth 20000 in
theorem ggX4_gap_X4_crossingY : GoodIn wsX4_gap wsX4_crossingY := goodIn_r _ [6, 1, 7, 8, 5, 9, 10, 11, 12, 20, 21, 22, 23, 24, 25, 26, 27, 28, 29, 30] (by decide +kernel) (by decide +kernel)
set_option maxRecDepth 20000 in
theorem gX4_gap_X4_crossingY : GoodIn wsX4_gap (wsV RX4 104 RX4 yX4_crossingY wsX4_crossingY) := goodIn_app (goodIn_of _ (by decide +kernel)) ggX4_gap_X4_crossingY
set_option maxRecDepth 20000 in
theorem ggX4_gap_X4_heightOf : GoodIn wsX4_gap wsX4_heightOf := goodIn_r _ [15, 16] (by decide +kernel) (by decide +kernel)
set_option maxRecDepth 20000 in
theorem gX4_gap_X4_heightOf : GoodIn wsX4_gap (va_wsS RX4 107 yX4_heightOf wsX4_heightOf) := goodIn_app (goodIn_of _ (by decide +kernel)) ggX4_gap_X4_heightOf
set_option maxRecDepth 20000 in
theorem ggX4_gap_X4_of : GoodIn wsX4_gap wsX4_of := goodIn_r _ [9] (by decide +kernel) (by decide +kernel)
set_option maxRecDepth 20000 in
theorem gX4_gap_X4_of : GoodIn wsX4_gap (va_wsS RX4 45 yX4_of wsX4_of) := goodIn_app (goodIn_of _ (by decide +kernel)) ggX4_gap_X4_of
set_option maxRecDepth 20000 in
theorem ggX4_gap_X4_apart : GoodIn wsX4_gap wsX4_apart := goodIn_r _ [19] (by decide +kernel) (by decide +kernel)
set_option maxRecDepth 20000 in
theorem gX4_gap_X4_apart : GoodIn wsX4_gap (va_wsS RX4 60 yX4_apart wsX4_apart) := goodIn_app (goodIn_of _ (by decide +kernel)) ggX4_gap_X4_apart
theorem dX4_gap_0 : decode cX4_gap 0 = .ok (.aload_n 0, 1) := by decide +kernel
theorem dX4_gap_1 : decode cX4_gap 1 = .ok (.iload_n 1, 1) := by decide +kernel
theorem dX4_gap_2 : decode cX4_gap 2 = .ok (.iload_n 3, 1) := by decide +kernel
theorem dX4_gap_3 : decode cX4_gap 3 = .ok (.invokevirtual 104, 3) := by decide +kernel
theorem dX4_gap_6 : decode cX4_gap 6 = .ok (.istore 4, 2) := by decide +kernel
theorem dX4_gap_8 : decode cX4_gap 8 = .ok (.iload_n 2, 1) := by decide +kernel
theorem dX4_gap_9 : decode cX4_gap 9 = .ok (.iload 4, 2) := by decide +kernel
theorem dX4_gap_11 : decode cX4_gap 11 = .ok (.invokestatic 107, 3) := by decide +kernel
theorem dX4_gap_14 : decode cX4_gap 14 = .ok (.aload_n 0, 1) := by decide +kernel
theorem dX4_gap_15 : decode cX4_gap 15 = .ok (.getfield 7, 3) := by decide +kernel
theorem dX4_gap_18 : decode cX4_gap 18 = .ok (.iload_n 3, 1) := by decide +kernel
theorem dX4_gap_19 : decode cX4_gap 19 = .ok (.iconst 1, 1) := by decide +kernel
theorem dX4_gap_20 : decode cX4_gap 20 = .ok (.invokestatic 45, 3) := by decide +kernel
theorem dX4_gap_23 : decode cX4_gap 23 = .ok (.iload 4, 2) := by decide +kernel
theorem dX4_gap_25 : decode cX4_gap 25 = .ok (.invokestatic 107, 3) := by decide +kernel
theorem dX4_gap_28 : decode cX4_gap 28 = .ok (.invokestatic 60, 3) := by decide +kernel
theorem dX4_gap_31 : decode cX4_gap 31 = .ok (.ireturn, 1) := by decide +kernel
set_option maxRecDepth 20000 in
theorem ggX4_cross_X4_hasWire : GoodIn wsX4_cross wsX4_hasWire := goodIn_r _ [5, 6, 7, 8, 4, 9, 10, 11, 12, 13, 14, 15, 23, 24, 25, 26, 27, 28, 29, 30, 31, 32, 33] (by decide +kernel) (by decide +kernel)
set_option maxRecDepth 20000 in
theorem gX4_cross_X4_hasWire : GoodIn wsX4_cross (wsV RX4 49 RX4 yX4_hasWire wsX4_hasWire) := goodIn_app (goodIn_of _ (by decide +kernel)) ggX4_cross_X4_hasWire
set_option maxRecDepth 20000 in
theorem ggX4_cross_X4_crossingY : GoodIn wsX4_cross wsX4_crossingY := goodIn_r _ [19, 6, 13, 14, 4, 15, 20, 21, 22, 23, 24, 25, 26, 27, 28, 29, 30, 31, 32, 33] (by decide +kernel) (by decide +kernel)
set_option maxRecDepth 20000 in
theorem gX4_cross_X4_crossingY : GoodIn wsX4_cross (wsV RX4 104 RX4 yX4_crossingY wsX4_crossingY) := goodIn_app (goodIn_of _ (by decide +kernel)) ggX4_cross_X4_crossingY
theorem dX4_cross_0 : decode cX4_cross 0 = .ok (.aload_n 0, 1) := by decide +kernel
theorem dX4_cross_1 : decode cX4_cross 1 = .ok (.iload_n 1, 1) := by decide +kernel
theorem dX4_cross_2 : decode cX4_cross 2 = .ok (.invokevirtual 49, 3) := by decide +kernel
theorem dX4_cross_5 : decode cX4_cross 5 = .ok (.ifCond .eq 26, 3) := by decide +kernel
theorem dX4_cross_8 : decode cX4_cross 8 = .ok (.aload_n 0, 1) := by decide +kernel
theorem dX4_cross_9 : decode cX4_cross 9 = .ok (.iload_n 2, 1) := by decide +kernel
theorem dX4_cross_10 : decode cX4_cross 10 = .ok (.invokevirtual 49, 3) := by decide +kernel
theorem dX4_cross_13 : decode cX4_cross 13 = .ok (.ifCond .eq 18, 3) := by decide +kernel
theorem dX4_cross_16 : decode cX4_cross 16 = .ok (.aload_n 0, 1) := by decide +kernel
theorem dX4_cross_17 : decode cX4_cross 17 = .ok (.iload_n 1, 1) := by decide +kernel
theorem dX4_cross_18 : decode cX4_cross 18 = .ok (.iload_n 2, 1) := by decide +kernel
theorem dX4_cross_19 : decode cX4_cross 19 = .ok (.invokevirtual 104, 3) := by decide +kernel
theorem dX4_cross_22 : decode cX4_cross 22 = .ok (.bipush (-5), 2) := by decide +kernel
theorem dX4_cross_24 : decode cX4_cross 24 = .ok (.if_icmp .eq 7, 3) := by decide +kernel
theorem dX4_cross_27 : decode cX4_cross 27 = .ok (.iconst 1, 1) := by decide +kernel
theorem dX4_cross_28 : decode cX4_cross 28 = .ok (.goto 4, 3) := by decide +kernel
theorem dX4_cross_31 : decode cX4_cross 31 = .ok (.iconst 0, 1) := by decide +kernel
theorem dX4_cross_32 : decode cX4_cross 32 = .ok (.ireturn, 1) := by decide +kernel
set_option maxRecDepth 20000 in
theorem ggX4_crossings_X4_cross : GoodIn wsX4_crossings wsX4_cross := goodIn_r _ [5, 6, 7, 8, 4, 9, 10, 11, 12, 13, 14, 15, 16, 17, 18, 19, 20, 21, 22, 23, 24, 25, 26, 27, 28, 29, 30, 31, 32, 33, 34, 35, 36, 37] (by decide +kernel) (by decide +kernel)
set_option maxRecDepth 20000 in
theorem gX4_crossings_X4_cross : GoodIn wsX4_crossings (wsV RX4 110 RX4 yX4_cross wsX4_cross) := goodIn_app (goodIn_of _ (by decide +kernel)) ggX4_crossings_X4_cross
theorem dX4_crossings_0 : decode cX4_crossings 0 = .ok (.iconst 0, 1) := by decide +kernel
theorem dX4_crossings_1 : decode cX4_crossings 1 = .ok (.istore_n 2, 1) := by decide +kernel
theorem dX4_crossings_2 : decode cX4_crossings 2 = .ok (.iconst 0, 1) := by decide +kernel
theorem dX4_crossings_3 : decode cX4_crossings 3 = .ok (.istore_n 3, 1) := by decide +kernel
theorem dX4_crossings_4 : decode cX4_crossings 4 = .ok (.iload_n 3, 1) := by decide +kernel
theorem dX4_crossings_5 : decode cX4_crossings 5 = .ok (.bipush 12, 2) := by decide +kernel
theorem dX4_crossings_7 : decode cX4_crossings 7 = .ok (.if_icmp .ge 26, 3) := by decide +kernel
theorem dX4_crossings_10 : decode cX4_crossings 10 = .ok (.iload_n 2, 1) := by decide +kernel
theorem dX4_crossings_11 : decode cX4_crossings 11 = .ok (.aload_n 0, 1) := by decide +kernel
theorem dX4_crossings_12 : decode cX4_crossings 12 = .ok (.iload_n 1, 1) := by decide +kernel
theorem dX4_crossings_13 : decode cX4_crossings 13 = .ok (.iload_n 3, 1) := by decide +kernel
theorem dX4_crossings_14 : decode cX4_crossings 14 = .ok (.invokevirtual 110, 3) := by decide +kernel
theorem dX4_crossings_17 : decode cX4_crossings 17 = .ok (.ifCond .eq 7, 3) := by decide +kernel
theorem dX4_crossings_20 : decode cX4_crossings 20 = .ok (.iconst 1, 1) := by decide +kernel
theorem dX4_crossings_21 : decode cX4_crossings 21 = .ok (.goto 4, 3) := by decide +kernel
theorem dX4_crossings_24 : decode cX4_crossings 24 = .ok (.iconst 0, 1) := by decide +kernel
theorem dX4_crossings_25 : decode cX4_crossings 25 = .ok (.iadd, 1) := by decide +kernel
theorem dX4_crossings_26 : decode cX4_crossings 26 = .ok (.istore_n 2, 1) := by decide +kernel
theorem dX4_crossings_27 : decode cX4_crossings 27 = .ok (.iinc 3 1, 3) := by decide +kernel
theorem dX4_crossings_30 : decode cX4_crossings 30 = .ok (.goto (-26), 3) := by decide +kernel
theorem dX4_crossings_33 : decode cX4_crossings 33 = .ok (.iload_n 2, 1) := by decide +kernel
theorem dX4_crossings_34 : decode cX4_crossings 34 = .ok (.ireturn, 1) := by decide +kernel
set_option maxRecDepth 20000 in
theorem ggX4_shortOnes_X4_cross : GoodIn wsX4_shortOnes wsX4_cross := goodIn_r _ [6, 7, 8, 9, 5, 10, 1, 11, 12, 13, 14, 15, 16, 17, 18, 19, 20, 21, 22, 23, 24, 25, 26, 38, 39, 40, 41, 42, 43, 44, 45, 46, 47, 48] (by decide +kernel) (by decide +kernel)
set_option maxRecDepth 20000 in
theorem gX4_shortOnes_X4_cross : GoodIn wsX4_shortOnes (wsV RX4 110 RX4 yX4_cross wsX4_cross) := goodIn_app (goodIn_of _ (by decide +kernel)) ggX4_shortOnes_X4_cross
set_option maxRecDepth 20000 in
theorem ggX4_shortOnes_X4_gap : GoodIn wsX4_shortOnes wsX4_gap := goodIn_r _ [30, 1, 20, 21, 22, 5, 23, 17, 18, 19, 24, 25, 26, 31, 32, 33, 34, 35, 36, 37, 38, 39, 40, 41, 42, 43, 44, 45, 46, 47, 48] (by decide +kernel) (by decide +kernel)
set_option maxRecDepth 20000 in
theorem gX4_shortOnes_X4_gap : GoodIn wsX4_shortOnes (wsV RX4 114 RX4 yX4_gap wsX4_gap) := goodIn_app (goodIn_of _ (by decide +kernel)) ggX4_shortOnes_X4_gap
theorem dX4_shortOnes_0 : decode cX4_shortOnes 0 = .ok (.iconst 0, 1) := by decide +kernel
theorem dX4_shortOnes_1 : decode cX4_shortOnes 1 = .ok (.istore_n 3, 1) := by decide +kernel
theorem dX4_shortOnes_2 : decode cX4_shortOnes 2 = .ok (.iconst 0, 1) := by decide +kernel
theorem dX4_shortOnes_3 : decode cX4_shortOnes 3 = .ok (.istore 4, 2) := by decide +kernel
theorem dX4_shortOnes_5 : decode cX4_shortOnes 5 = .ok (.iload 4, 2) := by decide +kernel
theorem dX4_shortOnes_7 : decode cX4_shortOnes 7 = .ok (.bipush 12, 2) := by decide +kernel
theorem dX4_shortOnes_9 : decode cX4_shortOnes 9 = .ok (.if_icmp .ge 45, 3) := by decide +kernel
theorem dX4_shortOnes_12 : decode cX4_shortOnes 12 = .ok (.iload_n 3, 1) := by decide +kernel
theorem dX4_shortOnes_13 : decode cX4_shortOnes 13 = .ok (.aload_n 0, 1) := by decide +kernel
theorem dX4_shortOnes_14 : decode cX4_shortOnes 14 = .ok (.iload_n 1, 1) := by decide +kernel
theorem dX4_shortOnes_15 : decode cX4_shortOnes 15 = .ok (.iload 4, 2) := by decide +kernel
theorem dX4_shortOnes_17 : decode cX4_shortOnes 17 = .ok (.invokevirtual 110, 3) := by decide +kernel
theorem dX4_shortOnes_20 : decode cX4_shortOnes 20 = .ok (.ifCond .eq 25, 3) := by decide +kernel
theorem dX4_shortOnes_23 : decode cX4_shortOnes 23 = .ok (.aload_n 0, 1) := by decide +kernel
theorem dX4_shortOnes_24 : decode cX4_shortOnes 24 = .ok (.iload_n 1, 1) := by decide +kernel
theorem dX4_shortOnes_25 : decode cX4_shortOnes 25 = .ok (.iload_n 2, 1) := by decide +kernel
theorem dX4_shortOnes_26 : decode cX4_shortOnes 26 = .ok (.iload 4, 2) := by decide +kernel
theorem dX4_shortOnes_28 : decode cX4_shortOnes 28 = .ok (.invokevirtual 114, 3) := by decide +kernel
theorem dX4_shortOnes_31 : decode cX4_shortOnes 31 = .ok (.aload_n 0, 1) := by decide +kernel
theorem dX4_shortOnes_32 : decode cX4_shortOnes 32 = .ok (.getfield 7, 3) := by decide +kernel
theorem dX4_shortOnes_35 : decode cX4_shortOnes 35 = .ok (.bipush 64, 2) := by decide +kernel
theorem dX4_shortOnes_37 : decode cX4_shortOnes 37 = .ok (.iaload, 1) := by decide +kernel
theorem dX4_shortOnes_38 : decode cX4_shortOnes 38 = .ok (.if_icmp .ge 7, 3) := by decide +kernel
theorem dX4_shortOnes_41 : decode cX4_shortOnes 41 = .ok (.iconst 1, 1) := by decide +kernel
theorem dX4_shortOnes_42 : decode cX4_shortOnes 42 = .ok (.goto 4, 3) := by decide +kernel
theorem dX4_shortOnes_45 : decode cX4_shortOnes 45 = .ok (.iconst 0, 1) := by decide +kernel
theorem dX4_shortOnes_46 : decode cX4_shortOnes 46 = .ok (.iadd, 1) := by decide +kernel
theorem dX4_shortOnes_47 : decode cX4_shortOnes 47 = .ok (.istore_n 3, 1) := by decide +kernel
theorem dX4_shortOnes_48 : decode cX4_shortOnes 48 = .ok (.iinc 4 1, 3) := by decide +kernel
theorem dX4_shortOnes_51 : decode cX4_shortOnes 51 = .ok (.goto (-46), 3) := by decide +kernel
theorem dX4_shortOnes_54 : decode cX4_shortOnes 54 = .ok (.iload_n 3, 1) := by decide +kernel
theorem dX4_shortOnes_55 : decode cX4_shortOnes 55 = .ok (.ireturn, 1) := by decide +kernel
set_option maxRecDepth 20000 in
theorem ggX4_leastGap_X4_cross : GoodIn wsX4_leastGap wsX4_cross := goodIn_r _ [6, 7, 8, 9, 5, 10, 1, 11, 12, 13, 14, 15, 16, 17, 18, 19, 20, 21, 22, 23, 24, 25, 26, 38, 39, 40, 41, 42, 43, 44, 45, 46, 47, 48] (by decide +kernel) (by decide +kernel)
set_option maxRecDepth 20000 in
theorem gX4_leastGap_X4_cross : GoodIn wsX4_leastGap (wsV RX4 110 RX4 yX4_cross wsX4_cross) := goodIn_app (goodIn_of _ (by decide +kernel)) ggX4_leastGap_X4_cross
set_option maxRecDepth 20000 in
theorem ggX4_leastGap_X4_of : GoodIn wsX4_leastGap wsX4_of := goodIn_r _ [19] (by decide +kernel) (by decide +kernel)
set_option maxRecDepth 20000 in
theorem gX4_leastGap_X4_of : GoodIn wsX4_leastGap (va_wsS RX4 45 yX4_of wsX4_of) := goodIn_app (goodIn_of _ (by decide +kernel)) ggX4_leastGap_X4_of
set_option maxRecDepth 20000 in
theorem ggX4_leastGap_X4_gap : GoodIn wsX4_leastGap wsX4_gap := goodIn_r _ [30, 1, 20, 21, 22, 5, 23, 17, 18, 19, 24, 25, 26, 31, 32, 33, 34, 35, 36, 37, 38, 39, 40, 41, 42, 43, 44, 45, 46, 47, 48] (by decide +kernel) (by decide +kernel)
set_option maxRecDepth 20000 in
theorem gX4_leastGap_X4_gap : GoodIn wsX4_leastGap (wsV RX4 114 RX4 yX4_gap wsX4_gap) := goodIn_app (goodIn_of _ (by decide +kernel)) ggX4_leastGap_X4_gap
theorem dX4_leastGap_0 : decode cX4_leastGap 0 = .ok (.bipush (-5), 2) := by decide +kernel
theorem dX4_leastGap_2 : decode cX4_leastGap 2 = .ok (.istore_n 2, 1) := by decide +kernel
theorem dX4_leastGap_3 : decode cX4_leastGap 3 = .ok (.iconst 0, 1) := by decide +kernel
theorem dX4_leastGap_4 : decode cX4_leastGap 4 = .ok (.istore_n 3, 1) := by decide +kernel
theorem dX4_leastGap_5 : decode cX4_leastGap 5 = .ok (.iload_n 3, 1) := by decide +kernel
theorem dX4_leastGap_6 : decode cX4_leastGap 6 = .ok (.bipush 12, 2) := by decide +kernel
theorem dX4_leastGap_8 : decode cX4_leastGap 8 = .ok (.if_icmp .ge 54, 3) := by decide +kernel
theorem dX4_leastGap_11 : decode cX4_leastGap 11 = .ok (.aload_n 0, 1) := by decide +kernel
theorem dX4_leastGap_12 : decode cX4_leastGap 12 = .ok (.iload_n 1, 1) := by decide +kernel
theorem dX4_leastGap_13 : decode cX4_leastGap 13 = .ok (.iload_n 3, 1) := by decide +kernel
theorem dX4_leastGap_14 : decode cX4_leastGap 14 = .ok (.invokevirtual 110, 3) := by decide +kernel
theorem dX4_leastGap_17 : decode cX4_leastGap 17 = .ok (.ifCond .eq 39, 3) := by decide +kernel
theorem dX4_leastGap_20 : decode cX4_leastGap 20 = .ok (.aload_n 0, 1) := by decide +kernel
theorem dX4_leastGap_21 : decode cX4_leastGap 21 = .ok (.iload_n 1, 1) := by decide +kernel
theorem dX4_leastGap_22 : decode cX4_leastGap 22 = .ok (.aload_n 0, 1) := by decide +kernel
theorem dX4_leastGap_23 : decode cX4_leastGap 23 = .ok (.getfield 7, 3) := by decide +kernel
theorem dX4_leastGap_26 : decode cX4_leastGap 26 = .ok (.iload_n 1, 1) := by decide +kernel
theorem dX4_leastGap_27 : decode cX4_leastGap 27 = .ok (.iconst 1, 1) := by decide +kernel
theorem dX4_leastGap_28 : decode cX4_leastGap 28 = .ok (.invokestatic 45, 3) := by decide +kernel
theorem dX4_leastGap_31 : decode cX4_leastGap 31 = .ok (.iload_n 3, 1) := by decide +kernel
theorem dX4_leastGap_32 : decode cX4_leastGap 32 = .ok (.invokevirtual 114, 3) := by decide +kernel
theorem dX4_leastGap_35 : decode cX4_leastGap 35 = .ok (.istore 4, 2) := by decide +kernel
theorem dX4_leastGap_37 : decode cX4_leastGap 37 = .ok (.iload_n 2, 1) := by decide +kernel
theorem dX4_leastGap_38 : decode cX4_leastGap 38 = .ok (.bipush (-5), 2) := by decide +kernel
theorem dX4_leastGap_40 : decode cX4_leastGap 40 = .ok (.if_icmp .eq 9, 3) := by decide +kernel
theorem dX4_leastGap_43 : decode cX4_leastGap 43 = .ok (.iload 4, 2) := by decide +kernel
theorem dX4_leastGap_45 : decode cX4_leastGap 45 = .ok (.iload_n 2, 1) := by decide +kernel
theorem dX4_leastGap_46 : decode cX4_leastGap 46 = .ok (.if_icmp .ge 8, 3) := by decide +kernel
theorem dX4_leastGap_49 : decode cX4_leastGap 49 = .ok (.iload 4, 2) := by decide +kernel
theorem dX4_leastGap_51 : decode cX4_leastGap 51 = .ok (.goto 4, 3) := by decide +kernel
theorem dX4_leastGap_54 : decode cX4_leastGap 54 = .ok (.iload_n 2, 1) := by decide +kernel
theorem dX4_leastGap_55 : decode cX4_leastGap 55 = .ok (.istore_n 2, 1) := by decide +kernel
theorem dX4_leastGap_56 : decode cX4_leastGap 56 = .ok (.iinc 3 1, 3) := by decide +kernel
theorem dX4_leastGap_59 : decode cX4_leastGap 59 = .ok (.goto (-54), 3) := by decide +kernel
theorem dX4_leastGap_62 : decode cX4_leastGap 62 = .ok (.iload_n 2, 1) := by decide +kernel
theorem dX4_leastGap_63 : decode cX4_leastGap 63 = .ok (.ireturn, 1) := by decide +kernel
theorem dX4_type_0 : decode cX4_type 0 = .ok (.aload_n 0, 1) := by decide +kernel
theorem dX4_type_1 : decode cX4_type 1 = .ok (.getfield 118, 3) := by decide +kernel
theorem dX4_type_4 : decode cX4_type 4 = .ok (.bipush 80, 2) := by decide +kernel
theorem dX4_type_6 : decode cX4_type 6 = .ok (.if_icmp .ne 6, 3) := by decide +kernel
theorem dX4_type_9 : decode cX4_type 9 = .ok (.bipush (-3), 2) := by decide +kernel
theorem dX4_type_11 : decode cX4_type 11 = .ok (.ireturn, 1) := by decide +kernel
theorem dX4_type_12 : decode cX4_type 12 = .ok (.aload_n 0, 1) := by decide +kernel
theorem dX4_type_13 : decode cX4_type 13 = .ok (.getfield 22, 3) := by decide +kernel
theorem dX4_type_16 : decode cX4_type 16 = .ok (.aload_n 0, 1) := by decide +kernel
theorem dX4_type_17 : decode cX4_type 17 = .ok (.getfield 118, 3) := by decide +kernel
theorem dX4_type_20 : decode cX4_type 20 = .ok (.iload_n 1, 1) := by decide +kernel
theorem dX4_type_21 : decode cX4_type 21 = .ok (.castore, 1) := by decide +kernel
theorem dX4_type_22 : decode cX4_type 22 = .ok (.aload_n 0, 1) := by decide +kernel
theorem dX4_type_23 : decode cX4_type 23 = .ok (.dup, 1) := by decide +kernel
theorem dX4_type_24 : decode cX4_type 24 = .ok (.getfield 118, 3) := by decide +kernel
theorem dX4_type_27 : decode cX4_type 27 = .ok (.iconst 1, 1) := by decide +kernel
theorem dX4_type_28 : decode cX4_type 28 = .ok (.iadd, 1) := by decide +kernel
theorem dX4_type_29 : decode cX4_type 29 = .ok (.putfield 118, 3) := by decide +kernel
theorem dX4_type_32 : decode cX4_type 32 = .ok (.aload_n 0, 1) := by decide +kernel
theorem dX4_type_33 : decode cX4_type 33 = .ok (.getfield 118, 3) := by decide +kernel
theorem dX4_type_36 : decode cX4_type 36 = .ok (.ireturn, 1) := by decide +kernel
theorem dX4_clearText_0 : decode cX4_clearText 0 = .ok (.aload_n 0, 1) := by decide +kernel
theorem dX4_clearText_1 : decode cX4_clearText 1 = .ok (.getfield 118, 3) := by decide +kernel
theorem dX4_clearText_4 : decode cX4_clearText 4 = .ok (.istore_n 1, 1) := by decide +kernel
theorem dX4_clearText_5 : decode cX4_clearText 5 = .ok (.aload_n 0, 1) := by decide +kernel
theorem dX4_clearText_6 : decode cX4_clearText 6 = .ok (.iconst 0, 1) := by decide +kernel
theorem dX4_clearText_7 : decode cX4_clearText 7 = .ok (.putfield 118, 3) := by decide +kernel
theorem dX4_clearText_10 : decode cX4_clearText 10 = .ok (.iload_n 1, 1) := by decide +kernel
theorem dX4_clearText_11 : decode cX4_clearText 11 = .ok (.ireturn, 1) := by decide +kernel
set_option maxRecDepth 20000 in
theorem ggX4_sees_X4_in : GoodIn wsX4_sees wsX4_in := goodIn_r _ [7] (by decide +kernel) (by decide +kernel)
set_option maxRecDepth 20000 in
theorem gX4_sees_X4_in : GoodIn wsX4_sees (va_wsS RX4 37 yX4_in wsX4_in) := goodIn_app (goodIn_of _ (by decide +kernel)) ggX4_sees_X4_in
theorem dX4_sees_0 : decode cX4_sees 0 = .ok (.aload_n 0, 1) := by decide +kernel
theorem dX4_sees_1 : decode cX4_sees 1 = .ok (.getfield 121, 3) := by decide +kernel
theorem dX4_sees_4 : decode cX4_sees 4 = .ok (.aload_n 0, 1) := by decide +kernel
theorem dX4_sees_5 : decode cX4_sees 5 = .ok (.getfield 118, 3) := by decide +kernel
theorem dX4_sees_8 : decode cX4_sees 8 = .ok (.if_icmp .ge 24, 3) := by decide +kernel
theorem dX4_sees_11 : decode cX4_sees 11 = .ok (.aload_n 0, 1) := by decide +kernel
theorem dX4_sees_12 : decode cX4_sees 12 = .ok (.getfield 22, 3) := by decide +kernel
theorem dX4_sees_15 : decode cX4_sees 15 = .ok (.aload_n 0, 1) := by decide +kernel
theorem dX4_sees_16 : decode cX4_sees 16 = .ok (.getfield 121, 3) := by decide +kernel
theorem dX4_sees_19 : decode cX4_sees 19 = .ok (.caload, 1) := by decide +kernel
theorem dX4_sees_20 : decode cX4_sees 20 = .ok (.iload_n 1, 1) := by decide +kernel
theorem dX4_sees_21 : decode cX4_sees 21 = .ok (.iload_n 2, 1) := by decide +kernel
theorem dX4_sees_22 : decode cX4_sees 22 = .ok (.invokestatic 37, 3) := by decide +kernel
theorem dX4_sees_25 : decode cX4_sees 25 = .ok (.ifCond .eq 7, 3) := by decide +kernel
theorem dX4_sees_28 : decode cX4_sees 28 = .ok (.iconst 1, 1) := by decide +kernel
theorem dX4_sees_29 : decode cX4_sees 29 = .ok (.goto 4, 3) := by decide +kernel
theorem dX4_sees_32 : decode cX4_sees 32 = .ok (.iconst 0, 1) := by decide +kernel
theorem dX4_sees_33 : decode cX4_sees 33 = .ok (.ireturn, 1) := by decide +kernel
set_option maxRecDepth 20000 in
theorem ggX4_takes_X4_sees : GoodIn wsX4_takes wsX4_sees := goodIn_r _ [6, 1, 7, 8, 9, 10, 5, 11, 12, 13, 14, 15, 16, 17, 18, 19, 20, 21, 22] (by decide +kernel) (by decide +kernel)
set_option maxRecDepth 20000 in
theorem gX4_takes_X4_sees : GoodIn wsX4_takes (wsV RX4 124 RX4 yX4_sees wsX4_sees) := goodIn_app (goodIn_of _ (by decide +kernel)) ggX4_takes_X4_sees
theorem dX4_takes_0 : decode cX4_takes 0 = .ok (.aload_n 0, 1) := by decide +kernel
theorem dX4_takes_1 : decode cX4_takes 1 = .ok (.iload_n 1, 1) := by decide +kernel
theorem dX4_takes_2 : decode cX4_takes 2 = .ok (.iload_n 1, 1) := by decide +kernel
theorem dX4_takes_3 : decode cX4_takes 3 = .ok (.invokevirtual 124, 3) := by decide +kernel
theorem dX4_takes_6 : decode cX4_takes 6 = .ok (.istore_n 2, 1) := by decide +kernel
theorem dX4_takes_7 : decode cX4_takes 7 = .ok (.aload_n 0, 1) := by decide +kernel
theorem dX4_takes_8 : decode cX4_takes 8 = .ok (.dup, 1) := by decide +kernel
theorem dX4_takes_9 : decode cX4_takes 9 = .ok (.getfield 121, 3) := by decide +kernel
theorem dX4_takes_12 : decode cX4_takes 12 = .ok (.iload_n 2, 1) := by decide +kernel
theorem dX4_takes_13 : decode cX4_takes 13 = .ok (.ifCond .eq 7, 3) := by decide +kernel
theorem dX4_takes_16 : decode cX4_takes 16 = .ok (.iconst 1, 1) := by decide +kernel
theorem dX4_takes_17 : decode cX4_takes 17 = .ok (.goto 4, 3) := by decide +kernel
theorem dX4_takes_20 : decode cX4_takes 20 = .ok (.iconst 0, 1) := by decide +kernel
theorem dX4_takes_21 : decode cX4_takes 21 = .ok (.iadd, 1) := by decide +kernel
theorem dX4_takes_22 : decode cX4_takes 22 = .ok (.putfield 121, 3) := by decide +kernel
theorem dX4_takes_25 : decode cX4_takes 25 = .ok (.iload_n 2, 1) := by decide +kernel
theorem dX4_takes_26 : decode cX4_takes 26 = .ok (.ireturn, 1) := by decide +kernel
set_option maxRecDepth 20000 in
theorem ggX4_isNumber_X4_sees : GoodIn wsX4_isNumber wsX4_sees := goodIn_r _ [9, 2, 10, 1, 11, 12, 8, 13, 14, 15, 16, 17, 18, 19, 20, 21, 22, 23, 24] (by decide +kernel) (by decide +kernel)
set_option maxRecDepth 20000 in
theorem gX4_isNumber_X4_sees : GoodIn wsX4_isNumber (wsV RX4 124 RX4 yX4_sees wsX4_sees) := goodIn_app (goodIn_of _ (by decide +kernel)) ggX4_isNumber_X4_sees
theorem dX4_isNumber_0 : decode cX4_isNumber 0 = .ok (.aload_n 0, 1) := by decide +kernel
theorem dX4_isNumber_1 : decode cX4_isNumber 1 = .ok (.iload_n 2, 1) := by decide +kernel
theorem dX4_isNumber_2 : decode cX4_isNumber 2 = .ok (.ifCond .le 8, 3) := by decide +kernel
theorem dX4_isNumber_5 : decode cX4_isNumber 5 = .ok (.bipush 49, 2) := by decide +kernel
theorem dX4_isNumber_7 : decode cX4_isNumber 7 = .ok (.goto 5, 3) := by decide +kernel
theorem dX4_isNumber_10 : decode cX4_isNumber 10 = .ok (.bipush 48, 2) := by decide +kernel
theorem dX4_isNumber_12 : decode cX4_isNumber 12 = .ok (.bipush 57, 2) := by decide +kernel
theorem dX4_isNumber_14 : decode cX4_isNumber 14 = .ok (.invokevirtual 124, 3) := by decide +kernel
theorem dX4_isNumber_17 : decode cX4_isNumber 17 = .ok (.ifCond .ne 5, 3) := by decide +kernel
theorem dX4_isNumber_20 : decode cX4_isNumber 20 = .ok (.iconst 0, 1) := by decide +kernel
theorem dX4_isNumber_21 : decode cX4_isNumber 21 = .ok (.ireturn, 1) := by decide +kernel
theorem dX4_isNumber_22 : decode cX4_isNumber 22 = .ok (.aload_n 0, 1) := by decide +kernel
theorem dX4_isNumber_23 : decode cX4_isNumber 23 = .ok (.getfield 22, 3) := by decide +kernel
theorem dX4_isNumber_26 : decode cX4_isNumber 26 = .ok (.aload_n 0, 1) := by decide +kernel
theorem dX4_isNumber_27 : decode cX4_isNumber 27 = .ok (.getfield 121, 3) := by decide +kernel
theorem dX4_isNumber_30 : decode cX4_isNumber 30 = .ok (.caload, 1) := by decide +kernel
theorem dX4_isNumber_31 : decode cX4_isNumber 31 = .ok (.bipush 48, 2) := by decide +kernel
theorem dX4_isNumber_33 : decode cX4_isNumber 33 = .ok (.isub, 1) := by decide +kernel
theorem dX4_isNumber_34 : decode cX4_isNumber 34 = .ok (.istore 4, 2) := by decide +kernel
theorem dX4_isNumber_36 : decode cX4_isNumber 36 = .ok (.aload_n 0, 1) := by decide +kernel
theorem dX4_isNumber_37 : decode cX4_isNumber 37 = .ok (.dup, 1) := by decide +kernel
theorem dX4_isNumber_38 : decode cX4_isNumber 38 = .ok (.getfield 121, 3) := by decide +kernel
theorem dX4_isNumber_41 : decode cX4_isNumber 41 = .ok (.iconst 1, 1) := by decide +kernel
theorem dX4_isNumber_42 : decode cX4_isNumber 42 = .ok (.iadd, 1) := by decide +kernel
theorem dX4_isNumber_43 : decode cX4_isNumber 43 = .ok (.putfield 121, 3) := by decide +kernel
theorem dX4_isNumber_46 : decode cX4_isNumber 46 = .ok (.iload 4, 2) := by decide +kernel
theorem dX4_isNumber_48 : decode cX4_isNumber 48 = .ok (.ifCond .le 69, 3) := by decide +kernel
theorem dX4_isNumber_51 : decode cX4_isNumber 51 = .ok (.aload_n 0, 1) := by decide +kernel
theorem dX4_isNumber_52 : decode cX4_isNumber 52 = .ok (.bipush 48, 2) := by decide +kernel
theorem dX4_isNumber_54 : decode cX4_isNumber 54 = .ok (.bipush 57, 2) := by decide +kernel
theorem dX4_isNumber_56 : decode cX4_isNumber 56 = .ok (.invokevirtual 124, 3) := by decide +kernel
theorem dX4_isNumber_59 : decode cX4_isNumber 59 = .ok (.ifCond .eq 58, 3) := by decide +kernel
theorem dX4_isNumber_62 : decode cX4_isNumber 62 = .ok (.bipush 10, 2) := by decide +kernel
theorem dX4_isNumber_64 : decode cX4_isNumber 64 = .ok (.iload 4, 2) := by decide +kernel
theorem dX4_isNumber_66 : decode cX4_isNumber 66 = .ok (.imul, 1) := by decide +kernel
theorem dX4_isNumber_67 : decode cX4_isNumber 67 = .ok (.aload_n 0, 1) := by decide +kernel
theorem dX4_isNumber_68 : decode cX4_isNumber 68 = .ok (.getfield 22, 3) := by decide +kernel
theorem dX4_isNumber_71 : decode cX4_isNumber 71 = .ok (.aload_n 0, 1) := by decide +kernel
theorem dX4_isNumber_72 : decode cX4_isNumber 72 = .ok (.getfield 121, 3) := by decide +kernel
theorem dX4_isNumber_75 : decode cX4_isNumber 75 = .ok (.caload, 1) := by decide +kernel
theorem dX4_isNumber_76 : decode cX4_isNumber 76 = .ok (.iadd, 1) := by decide +kernel
theorem dX4_isNumber_77 : decode cX4_isNumber 77 = .ok (.bipush 48, 2) := by decide +kernel
theorem dX4_isNumber_79 : decode cX4_isNumber 79 = .ok (.isub, 1) := by decide +kernel
theorem dX4_isNumber_80 : decode cX4_isNumber 80 = .ok (.iload_n 3, 1) := by decide +kernel
theorem dX4_isNumber_81 : decode cX4_isNumber 81 = .ok (.if_icmp .gt 36, 3) := by decide +kernel
theorem dX4_isNumber_84 : decode cX4_isNumber 84 = .ok (.bipush 10, 2) := by decide +kernel
theorem dX4_isNumber_86 : decode cX4_isNumber 86 = .ok (.iload 4, 2) := by decide +kernel
theorem dX4_isNumber_88 : decode cX4_isNumber 88 = .ok (.imul, 1) := by decide +kernel
theorem dX4_isNumber_89 : decode cX4_isNumber 89 = .ok (.aload_n 0, 1) := by decide +kernel
theorem dX4_isNumber_90 : decode cX4_isNumber 90 = .ok (.getfield 22, 3) := by decide +kernel
theorem dX4_isNumber_93 : decode cX4_isNumber 93 = .ok (.aload_n 0, 1) := by decide +kernel
theorem dX4_isNumber_94 : decode cX4_isNumber 94 = .ok (.getfield 121, 3) := by decide +kernel
theorem dX4_isNumber_97 : decode cX4_isNumber 97 = .ok (.caload, 1) := by decide +kernel
theorem dX4_isNumber_98 : decode cX4_isNumber 98 = .ok (.iadd, 1) := by decide +kernel
theorem dX4_isNumber_99 : decode cX4_isNumber 99 = .ok (.bipush 48, 2) := by decide +kernel
theorem dX4_isNumber_101 : decode cX4_isNumber 101 = .ok (.isub, 1) := by decide +kernel
theorem dX4_isNumber_102 : decode cX4_isNumber 102 = .ok (.istore 4, 2) := by decide +kernel
theorem dX4_isNumber_104 : decode cX4_isNumber 104 = .ok (.aload_n 0, 1) := by decide +kernel
theorem dX4_isNumber_105 : decode cX4_isNumber 105 = .ok (.dup, 1) := by decide +kernel
theorem dX4_isNumber_106 : decode cX4_isNumber 106 = .ok (.getfield 121, 3) := by decide +kernel
theorem dX4_isNumber_109 : decode cX4_isNumber 109 = .ok (.iconst 1, 1) := by decide +kernel
theorem dX4_isNumber_110 : decode cX4_isNumber 110 = .ok (.iadd, 1) := by decide +kernel
theorem dX4_isNumber_111 : decode cX4_isNumber 111 = .ok (.putfield 121, 3) := by decide +kernel
theorem dX4_isNumber_114 : decode cX4_isNumber 114 = .ok (.goto (-68), 3) := by decide +kernel
theorem dX4_isNumber_117 : decode cX4_isNumber 117 = .ok (.aload_n 0, 1) := by decide +kernel
theorem dX4_isNumber_118 : decode cX4_isNumber 118 = .ok (.getfield 26, 3) := by decide +kernel
theorem dX4_isNumber_121 : decode cX4_isNumber 121 = .ok (.iconst 3, 1) := by decide +kernel
theorem dX4_isNumber_122 : decode cX4_isNumber 122 = .ok (.aload_n 0, 1) := by decide +kernel
theorem dX4_isNumber_123 : decode cX4_isNumber 123 = .ok (.getfield 87, 3) := by decide +kernel
theorem dX4_isNumber_126 : decode cX4_isNumber 126 = .ok (.imul, 1) := by decide +kernel
theorem dX4_isNumber_127 : decode cX4_isNumber 127 = .ok (.iload_n 1, 1) := by decide +kernel
theorem dX4_isNumber_128 : decode cX4_isNumber 128 = .ok (.iadd, 1) := by decide +kernel
theorem dX4_isNumber_129 : decode cX4_isNumber 129 = .ok (.iload 4, 2) := by decide +kernel
theorem dX4_isNumber_131 : decode cX4_isNumber 131 = .ok (.iastore, 1) := by decide +kernel
theorem dX4_isNumber_132 : decode cX4_isNumber 132 = .ok (.iload 4, 2) := by decide +kernel
theorem dX4_isNumber_134 : decode cX4_isNumber 134 = .ok (.iload_n 2, 1) := by decide +kernel
theorem dX4_isNumber_135 : decode cX4_isNumber 135 = .ok (.if_icmp .lt 7, 3) := by decide +kernel
theorem dX4_isNumber_138 : decode cX4_isNumber 138 = .ok (.iconst 1, 1) := by decide +kernel
theorem dX4_isNumber_139 : decode cX4_isNumber 139 = .ok (.goto 4, 3) := by decide +kernel
theorem dX4_isNumber_142 : decode cX4_isNumber 142 = .ok (.iconst 0, 1) := by decide +kernel
theorem dX4_isNumber_143 : decode cX4_isNumber 143 = .ok (.ireturn, 1) := by decide +kernel
set_option maxRecDepth 20000 in
theorem ggX4_isWire_X4_isNumber : GoodIn wsX4_isWire wsX4_isNumber := goodIn_r _ [7, 8, 9, 1, 2, 10, 11, 12, 6, 13, 14, 15, 16, 17, 22, 23, 24, 25, 26, 27, 28, 29, 30, 31, 32] (by decide +kernel) (by decide +kernel)
set_option maxRecDepth 20000 in
theorem gX4_isWire_X4_isNumber : GoodIn wsX4_isWire (wsV RX4 127 RX4 yX4_isNumber wsX4_isNumber) := goodIn_app (goodIn_of _ (by decide +kernel)) ggX4_isWire_X4_isNumber
set_option maxRecDepth 20000 in
theorem ggX4_isWire_X4_takes : GoodIn wsX4_isWire wsX4_takes := goodIn_r _ [21, 9, 10, 11, 12, 6, 13, 14, 8, 15, 16, 17, 22, 23, 24, 25, 26, 27, 28, 29, 30, 31, 32] (by decide +kernel) (by decide +kernel)
set_option maxRecDepth 20000 in
theorem gX4_isWire_X4_takes : GoodIn wsX4_isWire (wsV RX4 130 RX4 yX4_takes wsX4_takes) := goodIn_app (goodIn_of _ (by decide +kernel)) ggX4_isWire_X4_takes
theorem dX4_isWire_0 : decode cX4_isWire 0 = .ok (.aload_n 0, 1) := by decide +kernel
theorem dX4_isWire_1 : decode cX4_isWire 1 = .ok (.iconst 0, 1) := by decide +kernel
theorem dX4_isWire_2 : decode cX4_isWire 2 = .ok (.iconst 0, 1) := by decide +kernel
theorem dX4_isWire_3 : decode cX4_isWire 3 = .ok (.bipush 11, 2) := by decide +kernel
theorem dX4_isWire_5 : decode cX4_isWire 5 = .ok (.invokevirtual 127, 3) := by decide +kernel
theorem dX4_isWire_8 : decode cX4_isWire 8 = .ok (.ifCond .eq 27, 3) := by decide +kernel
theorem dX4_isWire_11 : decode cX4_isWire 11 = .ok (.aload_n 0, 1) := by decide +kernel
theorem dX4_isWire_12 : decode cX4_isWire 12 = .ok (.bipush 45, 2) := by decide +kernel
theorem dX4_isWire_14 : decode cX4_isWire 14 = .ok (.invokevirtual 130, 3) := by decide +kernel
theorem dX4_isWire_17 : decode cX4_isWire 17 = .ok (.ifCond .eq 18, 3) := by decide +kernel
theorem dX4_isWire_20 : decode cX4_isWire 20 = .ok (.aload_n 0, 1) := by decide +kernel
theorem dX4_isWire_21 : decode cX4_isWire 21 = .ok (.iconst 1, 1) := by decide +kernel
theorem dX4_isWire_22 : decode cX4_isWire 22 = .ok (.iconst 0, 1) := by decide +kernel
theorem dX4_isWire_23 : decode cX4_isWire 23 = .ok (.bipush 15, 2) := by decide +kernel
theorem dX4_isWire_25 : decode cX4_isWire 25 = .ok (.invokevirtual 127, 3) := by decide +kernel
theorem dX4_isWire_28 : decode cX4_isWire 28 = .ok (.ifCond .eq 7, 3) := by decide +kernel
theorem dX4_isWire_31 : decode cX4_isWire 31 = .ok (.iconst 1, 1) := by decide +kernel
theorem dX4_isWire_32 : decode cX4_isWire 32 = .ok (.goto 4, 3) := by decide +kernel
theorem dX4_isWire_35 : decode cX4_isWire 35 = .ok (.iconst 0, 1) := by decide +kernel
theorem dX4_isWire_36 : decode cX4_isWire 36 = .ok (.istore_n 1, 1) := by decide +kernel
theorem dX4_isWire_37 : decode cX4_isWire 37 = .ok (.aload_n 0, 1) := by decide +kernel
theorem dX4_isWire_38 : decode cX4_isWire 38 = .ok (.getfield 26, 3) := by decide +kernel
theorem dX4_isWire_41 : decode cX4_isWire 41 = .ok (.iconst 3, 1) := by decide +kernel
theorem dX4_isWire_42 : decode cX4_isWire 42 = .ok (.aload_n 0, 1) := by decide +kernel
theorem dX4_isWire_43 : decode cX4_isWire 43 = .ok (.getfield 87, 3) := by decide +kernel
theorem dX4_isWire_46 : decode cX4_isWire 46 = .ok (.imul, 1) := by decide +kernel
theorem dX4_isWire_47 : decode cX4_isWire 47 = .ok (.iconst 2, 1) := by decide +kernel
theorem dX4_isWire_48 : decode cX4_isWire 48 = .ok (.iadd, 1) := by decide +kernel
theorem dX4_isWire_49 : decode cX4_isWire 49 = .ok (.bipush 60, 2) := by decide +kernel
theorem dX4_isWire_51 : decode cX4_isWire 51 = .ok (.iastore, 1) := by decide +kernel
theorem dX4_isWire_52 : decode cX4_isWire 52 = .ok (.iload_n 1, 1) := by decide +kernel
theorem dX4_isWire_53 : decode cX4_isWire 53 = .ok (.ifCond .eq 29, 3) := by decide +kernel
theorem dX4_isWire_56 : decode cX4_isWire 56 = .ok (.aload_n 0, 1) := by decide +kernel
theorem dX4_isWire_57 : decode cX4_isWire 57 = .ok (.bipush 58, 2) := by decide +kernel
theorem dX4_isWire_59 : decode cX4_isWire 59 = .ok (.invokevirtual 130, 3) := by decide +kernel
theorem dX4_isWire_62 : decode cX4_isWire 62 = .ok (.ifCond .eq 16, 3) := by decide +kernel
theorem dX4_isWire_65 : decode cX4_isWire 65 = .ok (.aload_n 0, 1) := by decide +kernel
theorem dX4_isWire_66 : decode cX4_isWire 66 = .ok (.iconst 2, 1) := by decide +kernel
theorem dX4_isWire_67 : decode cX4_isWire 67 = .ok (.bipush 10, 2) := by decide +kernel
theorem dX4_isWire_69 : decode cX4_isWire 69 = .ok (.sipush 200, 3) := by decide +kernel
theorem dX4_isWire_72 : decode cX4_isWire 72 = .ok (.invokevirtual 127, 3) := by decide +kernel
theorem dX4_isWire_75 : decode cX4_isWire 75 = .ok (.ifCond .eq 7, 3) := by decide +kernel
theorem dX4_isWire_78 : decode cX4_isWire 78 = .ok (.iconst 1, 1) := by decide +kernel
theorem dX4_isWire_79 : decode cX4_isWire 79 = .ok (.goto 4, 3) := by decide +kernel
theorem dX4_isWire_82 : decode cX4_isWire 82 = .ok (.iconst 0, 1) := by decide +kernel
theorem dX4_isWire_83 : decode cX4_isWire 83 = .ok (.ireturn, 1) := by decide +kernel
set_option maxRecDepth 20000 in
theorem ggX4_fault_X4_isWire : GoodIn wsX4_fault wsX4_isWire := goodIn_r _ [8, 9, 2, 10, 11, 12, 7, 13, 14, 1, 15, 16, 17, 18, 3, 19, 20, 21, 22, 23, 24, 25, 26, 27, 28, 29, 30, 31, 32, 33, 34, 35, 36] (by decide +kernel) (by decide +kernel)
set_option maxRecDepth 20000 in
theorem gX4_fault_X4_isWire : GoodIn wsX4_fault (wsV RX4 133 RX4 yX4_isWire wsX4_isWire) := goodIn_app (goodIn_of _ (by decide +kernel)) ggX4_fault_X4_isWire
set_option maxRecDepth 20000 in
theorem ggX4_fault_X4_takes : GoodIn wsX4_fault wsX4_takes := goodIn_r _ [25, 1, 15, 16, 17, 7, 18, 3, 14, 19, 20, 21, 26, 27, 28, 29, 30, 31, 32, 33, 34, 35, 36] (by decide +kernel) (by decide +kernel)
set_option maxRecDepth 20000 in
theorem gX4_fault_X4_takes : GoodIn wsX4_fault (wsV RX4 130 RX4 yX4_takes wsX4_takes) := goodIn_app (goodIn_of _ (by decide +kernel)) ggX4_fault_X4_takes
theorem dX4_fault_0 : decode cX4_fault 0 = .ok (.aload_n 0, 1) := by decide +kernel
theorem dX4_fault_1 : decode cX4_fault 1 = .ok (.iconst 0, 1) := by decide +kernel
theorem dX4_fault_2 : decode cX4_fault 2 = .ok (.putfield 121, 3) := by decide +kernel
theorem dX4_fault_5 : decode cX4_fault 5 = .ok (.aload_n 0, 1) := by decide +kernel
theorem dX4_fault_6 : decode cX4_fault 6 = .ok (.iconst 0, 1) := by decide +kernel
theorem dX4_fault_7 : decode cX4_fault 7 = .ok (.putfield 87, 3) := by decide +kernel
theorem dX4_fault_10 : decode cX4_fault 10 = .ok (.iconst 1, 1) := by decide +kernel
theorem dX4_fault_11 : decode cX4_fault 11 = .ok (.istore_n 1, 1) := by decide +kernel
theorem dX4_fault_12 : decode cX4_fault 12 = .ok (.iload_n 1, 1) := by decide +kernel
theorem dX4_fault_13 : decode cX4_fault 13 = .ok (.ifCond .eq 35, 3) := by decide +kernel
theorem dX4_fault_16 : decode cX4_fault 16 = .ok (.aload_n 0, 1) := by decide +kernel
theorem dX4_fault_17 : decode cX4_fault 17 = .ok (.invokevirtual 133, 3) := by decide +kernel
theorem dX4_fault_20 : decode cX4_fault 20 = .ok (.ifCond .ne 8, 3) := by decide +kernel
theorem dX4_fault_23 : decode cX4_fault 23 = .ok (.aload_n 0, 1) := by decide +kernel
theorem dX4_fault_24 : decode cX4_fault 24 = .ok (.getfield 121, 3) := by decide +kernel
theorem dX4_fault_27 : decode cX4_fault 27 = .ok (.ireturn, 1) := by decide +kernel
theorem dX4_fault_28 : decode cX4_fault 28 = .ok (.aload_n 0, 1) := by decide +kernel
theorem dX4_fault_29 : decode cX4_fault 29 = .ok (.dup, 1) := by decide +kernel
theorem dX4_fault_30 : decode cX4_fault 30 = .ok (.getfield 87, 3) := by decide +kernel
theorem dX4_fault_33 : decode cX4_fault 33 = .ok (.iconst 1, 1) := by decide +kernel
theorem dX4_fault_34 : decode cX4_fault 34 = .ok (.iadd, 1) := by decide +kernel
theorem dX4_fault_35 : decode cX4_fault 35 = .ok (.putfield 87, 3) := by decide +kernel
theorem dX4_fault_38 : decode cX4_fault 38 = .ok (.aload_n 0, 1) := by decide +kernel
theorem dX4_fault_39 : decode cX4_fault 39 = .ok (.bipush 44, 2) := by decide +kernel
theorem dX4_fault_41 : decode cX4_fault 41 = .ok (.invokevirtual 130, 3) := by decide +kernel
theorem dX4_fault_44 : decode cX4_fault 44 = .ok (.istore_n 1, 1) := by decide +kernel
theorem dX4_fault_45 : decode cX4_fault 45 = .ok (.goto (-33), 3) := by decide +kernel
theorem dX4_fault_48 : decode cX4_fault 48 = .ok (.aload_n 0, 1) := by decide +kernel
theorem dX4_fault_49 : decode cX4_fault 49 = .ok (.getfield 121, 3) := by decide +kernel
theorem dX4_fault_52 : decode cX4_fault 52 = .ok (.aload_n 0, 1) := by decide +kernel
theorem dX4_fault_53 : decode cX4_fault 53 = .ok (.getfield 118, 3) := by decide +kernel
theorem dX4_fault_56 : decode cX4_fault 56 = .ok (.if_icmp .ne 8, 3) := by decide +kernel
theorem dX4_fault_59 : decode cX4_fault 59 = .ok (.bipush (-5), 2) := by decide +kernel
theorem dX4_fault_61 : decode cX4_fault 61 = .ok (.goto 7, 3) := by decide +kernel
theorem dX4_fault_64 : decode cX4_fault 64 = .ok (.aload_n 0, 1) := by decide +kernel
theorem dX4_fault_65 : decode cX4_fault 65 = .ok (.getfield 121, 3) := by decide +kernel
theorem dX4_fault_68 : decode cX4_fault 68 = .ok (.ireturn, 1) := by decide +kernel
set_option maxRecDepth 20000 in
theorem ggX4_undo_X4_lays : GoodIn wsX4_undo wsX4_lays := goodIn_r _ [7] (by decide +kernel) (by decide +kernel)
set_option maxRecDepth 20000 in
theorem gX4_undo_X4_lays : GoodIn wsX4_undo (va_wsS RX4 33 yX4_lays wsX4_lays) := goodIn_app (goodIn_of _ (by decide +kernel)) ggX4_undo_X4_lays
theorem dX4_undo_0 : decode cX4_undo 0 = .ok (.aload_n 0, 1) := by decide +kernel
theorem dX4_undo_1 : decode cX4_undo 1 = .ok (.getfield 29, 3) := by decide +kernel
theorem dX4_undo_4 : decode cX4_undo 4 = .ok (.ifCond .ne 6, 3) := by decide +kernel
theorem dX4_undo_7 : decode cX4_undo 7 = .ok (.bipush (-5), 2) := by decide +kernel
theorem dX4_undo_9 : decode cX4_undo 9 = .ok (.ireturn, 1) := by decide +kernel
theorem dX4_undo_10 : decode cX4_undo 10 = .ok (.aload_n 0, 1) := by decide +kernel
theorem dX4_undo_11 : decode cX4_undo 11 = .ok (.dup, 1) := by decide +kernel
theorem dX4_undo_12 : decode cX4_undo 12 = .ok (.getfield 29, 3) := by decide +kernel
theorem dX4_undo_15 : decode cX4_undo 15 = .ok (.iconst 1, 1) := by decide +kernel
theorem dX4_undo_16 : decode cX4_undo 16 = .ok (.isub, 1) := by decide +kernel
theorem dX4_undo_17 : decode cX4_undo 17 = .ok (.putfield 29, 3) := by decide +kernel
theorem dX4_undo_20 : decode cX4_undo 20 = .ok (.aload_n 0, 1) := by decide +kernel
theorem dX4_undo_21 : decode cX4_undo 21 = .ok (.getfield 16, 3) := by decide +kernel
theorem dX4_undo_24 : decode cX4_undo 24 = .ok (.bipush 71, 2) := by decide +kernel
theorem dX4_undo_26 : decode cX4_undo 26 = .ok (.aload_n 0, 1) := by decide +kernel
theorem dX4_undo_27 : decode cX4_undo 27 = .ok (.getfield 29, 3) := by decide +kernel
theorem dX4_undo_30 : decode cX4_undo 30 = .ok (.imul, 1) := by decide +kernel
theorem dX4_undo_31 : decode cX4_undo 31 = .ok (.aload_n 0, 1) := by decide +kernel
theorem dX4_undo_32 : decode cX4_undo 32 = .ok (.getfield 7, 3) := by decide +kernel
theorem dX4_undo_35 : decode cX4_undo 35 = .ok (.iconst 0, 1) := by decide +kernel
theorem dX4_undo_36 : decode cX4_undo 36 = .ok (.invokestatic 33, 3) := by decide +kernel
theorem dX4_undo_39 : decode cX4_undo 39 = .ok (.aload_n 0, 1) := by decide +kernel
theorem dX4_undo_40 : decode cX4_undo 40 = .ok (.getfield 29, 3) := by decide +kernel
theorem dX4_undo_43 : decode cX4_undo 43 = .ok (.ireturn, 1) := by decide +kernel
set_option maxRecDepth 20000 in
theorem ggX4_keep_X4_lays : GoodIn wsX4_keep wsX4_lays := goodIn_r _ [7] (by decide +kernel) (by decide +kernel)
set_option maxRecDepth 20000 in
theorem gX4_keep_X4_lays : GoodIn wsX4_keep (va_wsS RX4 33 yX4_lays wsX4_lays) := goodIn_app (goodIn_of _ (by decide +kernel)) ggX4_keep_X4_lays
set_option maxRecDepth 20000 in
theorem ggX4_keep_X4_wires : GoodIn wsX4_keep wsX4_wires := goodIn_r _ [11, 12, 13, 14, 6, 15, 1, 16, 17, 18, 19, 20, 21, 22, 23, 24, 25, 26, 27, 28, 29, 30, 31, 32, 33, 34, 35] (by decide +kernel) (by decide +kernel)
set_option maxRecDepth 20000 in
theorem gX4_keep_X4_wires : GoodIn wsX4_keep (wsV RX4 90 RX4 yX4_wires wsX4_wires) := goodIn_app (goodIn_of _ (by decide +kernel)) ggX4_keep_X4_wires
theorem dX4_keep_0 : decode cX4_keep 0 = .ok (.aload_n 0, 1) := by decide +kernel
theorem dX4_keep_1 : decode cX4_keep 1 = .ok (.getfield 7, 3) := by decide +kernel
theorem dX4_keep_4 : decode cX4_keep 4 = .ok (.iconst 0, 1) := by decide +kernel
theorem dX4_keep_5 : decode cX4_keep 5 = .ok (.aload_n 0, 1) := by decide +kernel
theorem dX4_keep_6 : decode cX4_keep 6 = .ok (.getfield 19, 3) := by decide +kernel
theorem dX4_keep_9 : decode cX4_keep 9 = .ok (.iconst 0, 1) := by decide +kernel
theorem dX4_keep_10 : decode cX4_keep 10 = .ok (.invokestatic 33, 3) := by decide +kernel
theorem dX4_keep_13 : decode cX4_keep 13 = .ok (.aload_n 0, 1) := by decide +kernel
theorem dX4_keep_14 : decode cX4_keep 14 = .ok (.iconst 1, 1) := by decide +kernel
theorem dX4_keep_15 : decode cX4_keep 15 = .ok (.putfield 137, 3) := by decide +kernel
theorem dX4_keep_18 : decode cX4_keep 18 = .ok (.aload_n 0, 1) := by decide +kernel
theorem dX4_keep_19 : decode cX4_keep 19 = .ok (.invokevirtual 90, 3) := by decide +kernel
theorem dX4_keep_22 : decode cX4_keep 22 = .ok (.ireturn, 1) := by decide +kernel
set_option maxRecDepth 20000 in
theorem ggX4_restore_X4_records : GoodIn wsX4_restore wsX4_records := goodIn_r _ [8, 9, 10, 3, 11, 12, 7, 13, 31, 32, 33, 34, 35, 36, 37, 38, 39, 40, 41] (by decide +kernel) (by decide +kernel)
set_option maxRecDepth 20000 in
theorem gX4_restore_X4_records : GoodIn wsX4_restore (wsV RX4 76 RX4 yX4_records wsX4_records) := goodIn_app (goodIn_of _ (by decide +kernel)) ggX4_restore_X4_records
set_option maxRecDepth 20000 in
theorem ggX4_restore_X4_lays : GoodIn wsX4_restore wsX4_lays := goodIn_r _ [13] (by decide +kernel) (by decide +kernel)
set_option maxRecDepth 20000 in
theorem gX4_restore_X4_lays : GoodIn wsX4_restore (va_wsS RX4 33 yX4_lays wsX4_lays) := goodIn_app (goodIn_of _ (by decide +kernel)) ggX4_restore_X4_lays
set_option maxRecDepth 20000 in
theorem ggX4_restore_X4_wires : GoodIn wsX4_restore wsX4_wires := goodIn_r _ [17, 18, 19, 20, 7, 21, 3, 22, 23, 24, 25, 26, 27, 28, 29, 30, 31, 32, 33, 34, 35, 36, 37, 38, 39, 40, 41] (by decide +kernel) (by decide +kernel)
set_option maxRecDepth 20000 in
theorem gX4_restore_X4_wires : GoodIn wsX4_restore (wsV RX4 90 RX4 yX4_wires wsX4_wires) := goodIn_app (goodIn_of _ (by decide +kernel)) ggX4_restore_X4_wires
theorem dX4_restore_0 : decode cX4_restore 0 = .ok (.aload_n 0, 1) := by decide +kernel
theorem dX4_restore_1 : decode cX4_restore 1 = .ok (.getfield 137, 3) := by decide +kernel
theorem dX4_restore_4 : decode cX4_restore 4 = .ok (.ifCond .ne 6, 3) := by decide +kernel
theorem dX4_restore_7 : decode cX4_restore 7 = .ok (.bipush (-5), 2) := by decide +kernel
theorem dX4_restore_9 : decode cX4_restore 9 = .ok (.ireturn, 1) := by decide +kernel
theorem dX4_restore_10 : decode cX4_restore 10 = .ok (.aload_n 0, 1) := by decide +kernel
theorem dX4_restore_11 : decode cX4_restore 11 = .ok (.invokevirtual 76, 3) := by decide +kernel
theorem dX4_restore_14 : decode cX4_restore 14 = .ok (.aload_n 0, 1) := by decide +kernel
theorem dX4_restore_15 : decode cX4_restore 15 = .ok (.getfield 19, 3) := by decide +kernel
theorem dX4_restore_18 : decode cX4_restore 18 = .ok (.iconst 0, 1) := by decide +kernel
theorem dX4_restore_19 : decode cX4_restore 19 = .ok (.aload_n 0, 1) := by decide +kernel
theorem dX4_restore_20 : decode cX4_restore 20 = .ok (.getfield 7, 3) := by decide +kernel
theorem dX4_restore_23 : decode cX4_restore 23 = .ok (.iconst 0, 1) := by decide +kernel
theorem dX4_restore_24 : decode cX4_restore 24 = .ok (.invokestatic 33, 3) := by decide +kernel
theorem dX4_restore_27 : decode cX4_restore 27 = .ok (.aload_n 0, 1) := by decide +kernel
theorem dX4_restore_28 : decode cX4_restore 28 = .ok (.invokevirtual 90, 3) := by decide +kernel
theorem dX4_restore_31 : decode cX4_restore 31 = .ok (.ireturn, 1) := by decide +kernel
set_option maxRecDepth 20000 in
theorem ggX4_wire_X4_hasWire : GoodIn wsX4_wire wsX4_hasWire := goodIn_r _ [6, 1, 7, 8, 5, 9, 10, 11, 12, 13, 14, 15, 50, 51, 52, 53, 54, 55, 56, 57, 58, 59, 60] (by decide +kernel) (by decide +kernel)
set_option maxRecDepth 20000 in
theorem gX4_wire_X4_hasWire : GoodIn wsX4_wire (wsV RX4 49 RX4 yX4_hasWire wsX4_hasWire) := goodIn_app (goodIn_of _ (by decide +kernel)) ggX4_wire_X4_hasWire
set_option maxRecDepth 20000 in
theorem ggX4_wire_X4_of : GoodIn wsX4_wire wsX4_of := goodIn_r _ [15] (by decide +kernel) (by decide +kernel)
set_option maxRecDepth 20000 in
theorem gX4_wire_X4_of : GoodIn wsX4_wire (va_wsS RX4 45 yX4_of wsX4_of) := goodIn_app (goodIn_of _ (by decide +kernel)) ggX4_wire_X4_of
set_option maxRecDepth 20000 in
theorem ggX4_wire_X4_crossings : GoodIn wsX4_wire wsX4_crossings := goodIn_r _ [19, 20, 21, 22, 5, 23, 2, 3, 4, 6, 1, 7, 8, 9, 10, 11, 12, 13, 14, 15, 24, 25, 26, 27, 28, 29, 30, 50, 51, 52, 53, 54, 55, 56, 57, 58, 59, 60] (by decide +kernel) (by decide +kernel)
set_option maxRecDepth 20000 in
theorem gX4_wire_X4_crossings : GoodIn wsX4_wire (wsV RX4 141 RX4 yX4_crossings wsX4_crossings) := goodIn_app (goodIn_of _ (by decide +kernel)) ggX4_wire_X4_crossings
set_option maxRecDepth 20000 in
theorem ggX4_wire_X4_shortOnes : GoodIn wsX4_wire wsX4_shortOnes := goodIn_r _ [34, 1, 20, 21, 22, 5, 23, 2, 3, 4, 6, 7, 8, 9, 10, 11, 12, 13, 14, 15, 24, 25, 26, 27, 28, 29, 30, 35, 36, 37, 38, 39, 40, 41, 42, 43, 44, 45, 50, 51, 52, 53, 54, 55, 56, 57, 58, 59, 60] (by decide +kernel) (by decide +kernel)
set_option maxRecDepth 20000 in
theorem gX4_wire_X4_shortOnes : GoodIn wsX4_wire (wsV RX4 144 RX4 yX4_shortOnes wsX4_shortOnes) := goodIn_app (goodIn_of _ (by decide +kernel)) ggX4_wire_X4_shortOnes
set_option maxRecDepth 20000 in
theorem ggX4_wire_X4_leastGap : GoodIn wsX4_wire wsX4_leastGap := goodIn_r _ [49, 1, 20, 21, 22, 5, 23, 2, 3, 4, 6, 7, 8, 9, 10, 11, 12, 13, 14, 15, 24, 25, 26, 27, 28, 29, 30, 35, 36, 37, 38, 39, 40, 41, 42, 43, 44, 45, 50, 51, 52, 53, 54, 55, 56, 57, 58, 59, 60] (by decide +kernel) (by decide +kernel)
set_option maxRecDepth 20000 in
theorem gX4_wire_X4_leastGap : GoodIn wsX4_wire (wsV RX4 147 RX4 yX4_leastGap wsX4_leastGap) := goodIn_app (goodIn_of _ (by decide +kernel)) ggX4_wire_X4_leastGap
theorem dX4_wire_0 : decode cX4_wire 0 = .ok (.aload_n 0, 1) := by decide +kernel
theorem dX4_wire_1 : decode cX4_wire 1 = .ok (.iload_n 1, 1) := by decide +kernel
theorem dX4_wire_2 : decode cX4_wire 2 = .ok (.invokevirtual 49, 3) := by decide +kernel
theorem dX4_wire_5 : decode cX4_wire 5 = .ok (.ifCond .ne 5, 3) := by decide +kernel
theorem dX4_wire_8 : decode cX4_wire 8 = .ok (.iconst (-1), 1) := by decide +kernel
theorem dX4_wire_9 : decode cX4_wire 9 = .ok (.ireturn, 1) := by decide +kernel
theorem dX4_wire_10 : decode cX4_wire 10 = .ok (.iload_n 2, 1) := by decide +kernel
theorem dX4_wire_11 : decode cX4_wire 11 = .ok (.tableswitch 88 0 6 #[41, 41, 41, 51, 57, 72, 78], 41) := by decide +kernel
theorem dX4_wire_52 : decode cX4_wire 52 = .ok (.aload_n 0, 1) := by decide +kernel
theorem dX4_wire_53 : decode cX4_wire 53 = .ok (.getfield 7, 3) := by decide +kernel
theorem dX4_wire_56 : decode cX4_wire 56 = .ok (.iload_n 1, 1) := by decide +kernel
theorem dX4_wire_57 : decode cX4_wire 57 = .ok (.iload_n 2, 1) := by decide +kernel
theorem dX4_wire_58 : decode cX4_wire 58 = .ok (.invokestatic 45, 3) := by decide +kernel
theorem dX4_wire_61 : decode cX4_wire 61 = .ok (.ireturn, 1) := by decide +kernel
theorem dX4_wire_62 : decode cX4_wire 62 = .ok (.aload_n 0, 1) := by decide +kernel
theorem dX4_wire_63 : decode cX4_wire 63 = .ok (.iload_n 1, 1) := by decide +kernel
theorem dX4_wire_64 : decode cX4_wire 64 = .ok (.invokevirtual 141, 3) := by decide +kernel
theorem dX4_wire_67 : decode cX4_wire 67 = .ok (.ireturn, 1) := by decide +kernel
theorem dX4_wire_68 : decode cX4_wire 68 = .ok (.aload_n 0, 1) := by decide +kernel
theorem dX4_wire_69 : decode cX4_wire 69 = .ok (.iload_n 1, 1) := by decide +kernel
theorem dX4_wire_70 : decode cX4_wire 70 = .ok (.aload_n 0, 1) := by decide +kernel
theorem dX4_wire_71 : decode cX4_wire 71 = .ok (.getfield 7, 3) := by decide +kernel
theorem dX4_wire_74 : decode cX4_wire 74 = .ok (.iload_n 1, 1) := by decide +kernel
theorem dX4_wire_75 : decode cX4_wire 75 = .ok (.iconst 1, 1) := by decide +kernel
theorem dX4_wire_76 : decode cX4_wire 76 = .ok (.invokestatic 45, 3) := by decide +kernel
theorem dX4_wire_79 : decode cX4_wire 79 = .ok (.invokevirtual 144, 3) := by decide +kernel
theorem dX4_wire_82 : decode cX4_wire 82 = .ok (.ireturn, 1) := by decide +kernel
theorem dX4_wire_83 : decode cX4_wire 83 = .ok (.aload_n 0, 1) := by decide +kernel
theorem dX4_wire_84 : decode cX4_wire 84 = .ok (.iload_n 1, 1) := by decide +kernel
theorem dX4_wire_85 : decode cX4_wire 85 = .ok (.invokevirtual 147, 3) := by decide +kernel
theorem dX4_wire_88 : decode cX4_wire 88 = .ok (.ireturn, 1) := by decide +kernel
theorem dX4_wire_89 : decode cX4_wire 89 = .ok (.aload_n 0, 1) := by decide +kernel
theorem dX4_wire_90 : decode cX4_wire 90 = .ok (.getfield 7, 3) := by decide +kernel
theorem dX4_wire_93 : decode cX4_wire 93 = .ok (.iload_n 1, 1) := by decide +kernel
theorem dX4_wire_94 : decode cX4_wire 94 = .ok (.iconst 3, 1) := by decide +kernel
theorem dX4_wire_95 : decode cX4_wire 95 = .ok (.invokestatic 45, 3) := by decide +kernel
theorem dX4_wire_98 : decode cX4_wire 98 = .ok (.ireturn, 1) := by decide +kernel
theorem dX4_wire_99 : decode cX4_wire 99 = .ok (.bipush (-2), 2) := by decide +kernel
theorem dX4_wire_101 : decode cX4_wire 101 = .ok (.ireturn, 1) := by decide +kernel
set_option maxRecDepth 20000 in
theorem ggX4_heightAt_X4_hasWire : GoodIn wsX4_heightAt wsX4_hasWire := goodIn_r _ [6, 1, 7, 8, 5, 9, 10, 11, 12, 13, 14, 15, 20, 21, 22, 23, 24, 25, 26, 27, 28, 29, 30] (by decide +kernel) (by decide +kernel)
set_option maxRecDepth 20000 in
theorem gX4_heightAt_X4_hasWire : GoodIn wsX4_heightAt (wsV RX4 49 RX4 yX4_hasWire wsX4_hasWire) := goodIn_app (goodIn_of _ (by decide +kernel)) ggX4_heightAt_X4_hasWire
set_option maxRecDepth 20000 in
theorem ggX4_heightAt_X4_in : GoodIn wsX4_heightAt wsX4_in := goodIn_r _ [12] (by decide +kernel) (by decide +kernel)
set_option maxRecDepth 20000 in
theorem gX4_heightAt_X4_in : GoodIn wsX4_heightAt (va_wsS RX4 37 yX4_in wsX4_in) := goodIn_app (goodIn_of _ (by decide +kernel)) ggX4_heightAt_X4_in
set_option maxRecDepth 20000 in
theorem ggX4_heightAt_X4_of : GoodIn wsX4_heightAt wsX4_of := goodIn_r _ [15] (by decide +kernel) (by decide +kernel)
set_option maxRecDepth 20000 in
theorem gX4_heightAt_X4_of : GoodIn wsX4_heightAt (va_wsS RX4 45 yX4_of wsX4_of) := goodIn_app (goodIn_of _ (by decide +kernel)) ggX4_heightAt_X4_of
set_option maxRecDepth 20000 in
theorem ggX4_heightAt_X4_heightOf : GoodIn wsX4_heightAt wsX4_heightOf := goodIn_r _ [18, 19] (by decide +kernel) (by decide +kernel)
set_option maxRecDepth 20000 in
theorem gX4_heightAt_X4_heightOf : GoodIn wsX4_heightAt (va_wsS RX4 107 yX4_heightOf wsX4_heightOf) := goodIn_app (goodIn_of _ (by decide +kernel)) ggX4_heightAt_X4_heightOf
theorem dX4_heightAt_0 : decode cX4_heightAt 0 = .ok (.aload_n 0, 1) := by decide +kernel
theorem dX4_heightAt_1 : decode cX4_heightAt 1 = .ok (.iload_n 1, 1) := by decide +kernel
theorem dX4_heightAt_2 : decode cX4_heightAt 2 = .ok (.invokevirtual 49, 3) := by decide +kernel
theorem dX4_heightAt_5 : decode cX4_heightAt 5 = .ok (.ifCond .ne 5, 3) := by decide +kernel
theorem dX4_heightAt_8 : decode cX4_heightAt 8 = .ok (.iconst (-1), 1) := by decide +kernel
theorem dX4_heightAt_9 : decode cX4_heightAt 9 = .ok (.ireturn, 1) := by decide +kernel
theorem dX4_heightAt_10 : decode cX4_heightAt 10 = .ok (.iload_n 2, 1) := by decide +kernel
theorem dX4_heightAt_11 : decode cX4_heightAt 11 = .ok (.iconst 0, 1) := by decide +kernel
theorem dX4_heightAt_12 : decode cX4_heightAt 12 = .ok (.sipush 200, 3) := by decide +kernel
theorem dX4_heightAt_15 : decode cX4_heightAt 15 = .ok (.invokestatic 37, 3) := by decide +kernel
theorem dX4_heightAt_18 : decode cX4_heightAt 18 = .ok (.ifCond .eq 19, 3) := by decide +kernel
theorem dX4_heightAt_21 : decode cX4_heightAt 21 = .ok (.aload_n 0, 1) := by decide +kernel
theorem dX4_heightAt_22 : decode cX4_heightAt 22 = .ok (.getfield 7, 3) := by decide +kernel
theorem dX4_heightAt_25 : decode cX4_heightAt 25 = .ok (.iload_n 1, 1) := by decide +kernel
theorem dX4_heightAt_26 : decode cX4_heightAt 26 = .ok (.iconst 1, 1) := by decide +kernel
theorem dX4_heightAt_27 : decode cX4_heightAt 27 = .ok (.invokestatic 45, 3) := by decide +kernel
