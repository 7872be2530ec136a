set_option maxRecDepth 20000 in
theorem gX3_moveLead_X1_record : GoodIn wsX3_moveLead (wsV RX3 54 RX1 yX1_record wsX1_record) := goodIn_app (goodIn_of _ (by decide +kernel)) ggX3_moveLead_X1_record
set_option maxRecDepth 20000 in
theorem ggX3_moveLead_X0_placeLead : GoodIn wsX3_moveLead wsX0_placeLead := goodIn_r _ [63, 26, 4, 5, 6, 70, 71, 72, 73, 74, 75, 76, 77, 78, 79, 80, 81] (by decide +kernel) (by decide +kernel)
set_option maxRecDepth 20000 in
theorem gX3_moveLead_X0_placeLead : GoodIn wsX3_moveLead (wsV RX3 104 RX0 yX0_placeLead wsX0_placeLead) := goodIn_app (goodIn_of _ (by decide +kernel)) ggX3_moveLead_X0_placeLead
theorem dX3_moveLead_0 : decode cX3_moveLead 0 = .ok (.iload_n 1, 1) := by decide +kernel
theorem dX3_moveLead_1 : decode cX3_moveLead 1 = .ok (.invokestatic 44, 3) := by decide +kernel
theorem dX3_moveLead_4 : decode cX3_moveLead 4 = .ok (.ifCond .ne 5, 3) := by decide +kernel
theorem dX3_moveLead_7 : decode cX3_moveLead 7 = .ok (.iconst (-1), 1) := by decide +kernel
theorem dX3_moveLead_8 : decode cX3_moveLead 8 = .ok (.ireturn, 1) := by decide +kernel
theorem dX3_moveLead_9 : decode cX3_moveLead 9 = .ok (.iload_n 2, 1) := by decide +kernel
theorem dX3_moveLead_10 : decode cX3_moveLead 10 = .ok (.iconst 0, 1) := by decide +kernel
theorem dX3_moveLead_11 : decode cX3_moveLead 11 = .ok (.sipush 600, 3) := by decide +kernel
theorem dX3_moveLead_14 : decode cX3_moveLead 14 = .ok (.invokestatic 94, 3) := by decide +kernel
theorem dX3_moveLead_17 : decode cX3_moveLead 17 = .ok (.ifCond .ne 6, 3) := by decide +kernel
theorem dX3_moveLead_20 : decode cX3_moveLead 20 = .ok (.bipush (-2), 2) := by decide +kernel
theorem dX3_moveLead_22 : decode cX3_moveLead 22 = .ok (.ireturn, 1) := by decide +kernel
theorem dX3_moveLead_23 : decode cX3_moveLead 23 = .ok (.aload_n 0, 1) := by decide +kernel
theorem dX3_moveLead_24 : decode cX3_moveLead 24 = .ok (.getfield 10, 3) := by decide +kernel
theorem dX3_moveLead_27 : decode cX3_moveLead 27 = .ok (.iload_n 1, 1) := by decide +kernel
theorem dX3_moveLead_28 : decode cX3_moveLead 28 = .ok (.invokevirtual 98, 3) := by decide +kernel
theorem dX3_moveLead_31 : decode cX3_moveLead 31 = .ok (.bipush (-5), 2) := by decide +kernel
theorem dX3_moveLead_33 : decode cX3_moveLead 33 = .ok (.if_icmp .eq 6, 3) := by decide +kernel
theorem dX3_moveLead_36 : decode cX3_moveLead 36 = .ok (.bipush (-4), 2) := by decide +kernel
theorem dX3_moveLead_38 : decode cX3_moveLead 38 = .ok (.ireturn, 1) := by decide +kernel
theorem dX3_moveLead_39 : decode cX3_moveLead 39 = .ok (.aload_n 0, 1) := by decide +kernel
theorem dX3_moveLead_40 : decode cX3_moveLead 40 = .ok (.getfield 10, 3) := by decide +kernel
theorem dX3_moveLead_43 : decode cX3_moveLead 43 = .ok (.iload_n 1, 1) := by decide +kernel
theorem dX3_moveLead_44 : decode cX3_moveLead 44 = .ok (.invokevirtual 101, 3) := by decide +kernel
theorem dX3_moveLead_47 : decode cX3_moveLead 47 = .ok (.istore_n 3, 1) := by decide +kernel
theorem dX3_moveLead_48 : decode cX3_moveLead 48 = .ok (.iload_n 3, 1) := by decide +kernel
theorem dX3_moveLead_49 : decode cX3_moveLead 49 = .ok (.iload_n 2, 1) := by decide +kernel
theorem dX3_moveLead_50 : decode cX3_moveLead 50 = .ok (.if_icmp .ne 6, 3) := by decide +kernel
theorem dX3_moveLead_53 : decode cX3_moveLead 53 = .ok (.bipush (-5), 2) := by decide +kernel
theorem dX3_moveLead_55 : decode cX3_moveLead 55 = .ok (.ireturn, 1) := by decide +kernel
theorem dX3_moveLead_56 : decode cX3_moveLead 56 = .ok (.aload_n 0, 1) := by decide +kernel
theorem dX3_moveLead_57 : decode cX3_moveLead 57 = .ok (.getfield 29, 3) := by decide +kernel
theorem dX3_moveLead_60 : decode cX3_moveLead 60 = .ok (.aload_n 0, 1) := by decide +kernel
theorem dX3_moveLead_61 : decode cX3_moveLead 61 = .ok (.getfield 10, 3) := by decide +kernel
theorem dX3_moveLead_64 : decode cX3_moveLead 64 = .ok (.invokevirtual 54, 3) := by decide +kernel
theorem dX3_moveLead_67 : decode cX3_moveLead 67 = .ok (.aload_n 0, 1) := by decide +kernel
theorem dX3_moveLead_68 : decode cX3_moveLead 68 = .ok (.getfield 10, 3) := by decide +kernel
theorem dX3_moveLead_71 : decode cX3_moveLead 71 = .ok (.iload_n 1, 1) := by decide +kernel
theorem dX3_moveLead_72 : decode cX3_moveLead 72 = .ok (.iload_n 2, 1) := by decide +kernel
theorem dX3_moveLead_73 : decode cX3_moveLead 73 = .ok (.invokevirtual 104, 3) := by decide +kernel
theorem dX3_moveLead_76 : decode cX3_moveLead 76 = .ok (.iload_n 3, 1) := by decide +kernel
theorem dX3_moveLead_77 : decode cX3_moveLead 77 = .ok (.ireturn, 1) := by decide +kernel
set_option maxRecDepth 20000 in
theorem ggX3_setWidth_X3_isWithin : GoodIn wsX3_setWidth wsX3_isWithin := goodIn_r _ [6] (by decide +kernel) (by decide +kernel)
set_option maxRecDepth 20000 in
theorem gX3_setWidth_X3_isWithin : GoodIn wsX3_setWidth (va_wsS RX3 94 yX3_isWithin wsX3_isWithin) := goodIn_app (goodIn_of _ (by decide +kernel)) ggX3_setWidth_X3_isWithin
set_option maxRecDepth 20000 in
theorem ggX3_setWidth_X1_record : GoodIn wsX3_setWidth wsX1_record := goodIn_r _ [11, 12, 13, 14, 15, 10, 16, 17, 18, 19, 20, 21, 4, 5, 6, 22, 23, 24, 25, 26, 27, 28, 29, 30, 31, 32, 33, 34, 35, 36, 37, 38, 39, 40, 41, 42, 61, 62, 49, 50, 51, 52, 53, 54, 55, 56, 57, 58, 59, 60] (by decide +kernel) (by decide +kernel)
set_option maxRecDepth 20000 in
theorem gX3_setWidth_X1_record : GoodIn wsX3_setWidth (wsV RX3 54 RX1 yX1_record wsX1_record) := goodIn_app (goodIn_of _ (by decide +kernel)) ggX3_setWidth_X1_record
theorem dX3_setWidth_0 : decode cX3_setWidth 0 = .ok (.iload_n 1, 1) := by decide +kernel
theorem dX3_setWidth_1 : decode cX3_setWidth 1 = .ok (.iconst 1, 1) := by decide +kernel
theorem dX3_setWidth_2 : decode cX3_setWidth 2 = .ok (.bipush 50, 2) := by decide +kernel
theorem dX3_setWidth_4 : decode cX3_setWidth 4 = .ok (.invokestatic 94, 3) := by decide +kernel
theorem dX3_setWidth_7 : decode cX3_setWidth 7 = .ok (.ifCond .ne 6, 3) := by decide +kernel
theorem dX3_setWidth_10 : decode cX3_setWidth 10 = .ok (.bipush (-2), 2) := by decide +kernel
theorem dX3_setWidth_12 : decode cX3_setWidth 12 = .ok (.ireturn, 1) := by decide +kernel
theorem dX3_setWidth_13 : decode cX3_setWidth 13 = .ok (.aload_n 0, 1) := by decide +kernel
theorem dX3_setWidth_14 : decode cX3_setWidth 14 = .ok (.getfield 10, 3) := by decide +kernel
theorem dX3_setWidth_17 : decode cX3_setWidth 17 = .ok (.getfield 107, 3) := by decide +kernel
theorem dX3_setWidth_20 : decode cX3_setWidth 20 = .ok (.istore_n 2, 1) := by decide +kernel
theorem dX3_setWidth_21 : decode cX3_setWidth 21 = .ok (.iload_n 2, 1) := by decide +kernel
theorem dX3_setWidth_22 : decode cX3_setWidth 22 = .ok (.iload_n 1, 1) := by decide +kernel
theorem dX3_setWidth_23 : decode cX3_setWidth 23 = .ok (.if_icmp .ne 6, 3) := by decide +kernel
theorem dX3_setWidth_26 : decode cX3_setWidth 26 = .ok (.bipush (-5), 2) := by decide +kernel
theorem dX3_setWidth_28 : decode cX3_setWidth 28 = .ok (.ireturn, 1) := by decide +kernel
theorem dX3_setWidth_29 : decode cX3_setWidth 29 = .ok (.aload_n 0, 1) := by decide +kernel
theorem dX3_setWidth_30 : decode cX3_setWidth 30 = .ok (.getfield 29, 3) := by decide +kernel
theorem dX3_setWidth_33 : decode cX3_setWidth 33 = .ok (.aload_n 0, 1) := by decide +kernel
theorem dX3_setWidth_34 : decode cX3_setWidth 34 = .ok (.getfield 10, 3) := by decide +kernel
theorem dX3_setWidth_37 : decode cX3_setWidth 37 = .ok (.invokevirtual 54, 3) := by decide +kernel
theorem dX3_setWidth_40 : decode cX3_setWidth 40 = .ok (.aload_n 0, 1) := by decide +kernel
theorem dX3_setWidth_41 : decode cX3_setWidth 41 = .ok (.getfield 10, 3) := by decide +kernel
theorem dX3_setWidth_44 : decode cX3_setWidth 44 = .ok (.iload_n 1, 1) := by decide +kernel
theorem dX3_setWidth_45 : decode cX3_setWidth 45 = .ok (.putfield 107, 3) := by decide +kernel
theorem dX3_setWidth_48 : decode cX3_setWidth 48 = .ok (.iload_n 2, 1) := by decide +kernel
theorem dX3_setWidth_49 : decode cX3_setWidth 49 = .ok (.ireturn, 1) := by decide +kernel
set_option maxRecDepth 20000 in
theorem ggX3_changeTool_X1_record : GoodIn wsX3_changeTool wsX1_record := goodIn_r _ [7, 8, 9, 10, 11, 6, 12, 13, 14, 15, 16, 17, 18, 19, 20, 21, 22, 23, 24, 25, 26, 27, 28, 29, 30, 31, 32, 33, 34, 35, 36, 37, 38, 39, 40, 41, 60, 61, 48, 49, 50, 51, 52, 53, 54, 55, 56, 57, 58, 59] (by decide +kernel) (by decide +kernel)
set_option maxRecDepth 20000 in
theorem gX3_changeTool_X1_record : GoodIn wsX3_changeTool (wsV RX3 54 RX1 yX1_record wsX1_record) := goodIn_app (goodIn_of _ (by decide +kernel)) ggX3_changeTool_X1_record
theorem dX3_changeTool_0 : decode cX3_changeTool 0 = .ok (.aload_n 0, 1) := by decide +kernel
theorem dX3_changeTool_1 : decode cX3_changeTool 1 = .ok (.getfield 10, 3) := by decide +kernel
theorem dX3_changeTool_4 : decode cX3_changeTool 4 = .ok (.getfield 111, 3) := by decide +kernel
theorem dX3_changeTool_7 : decode cX3_changeTool 7 = .ok (.istore_n 1, 1) := by decide +kernel
theorem dX3_changeTool_8 : decode cX3_changeTool 8 = .ok (.iload_n 1, 1) := by decide +kernel
theorem dX3_changeTool_9 : decode cX3_changeTool 9 = .ok (.ifCond .ne 6, 3) := by decide +kernel
theorem dX3_changeTool_12 : decode cX3_changeTool 12 = .ok (.bipush (-5), 2) := by decide +kernel
theorem dX3_changeTool_14 : decode cX3_changeTool 14 = .ok (.ireturn, 1) := by decide +kernel
theorem dX3_changeTool_15 : decode cX3_changeTool 15 = .ok (.aload_n 0, 1) := by decide +kernel
theorem dX3_changeTool_16 : decode cX3_changeTool 16 = .ok (.getfield 29, 3) := by decide +kernel
theorem dX3_changeTool_19 : decode cX3_changeTool 19 = .ok (.aload_n 0, 1) := by decide +kernel
theorem dX3_changeTool_20 : decode cX3_changeTool 20 = .ok (.getfield 10, 3) := by decide +kernel
theorem dX3_changeTool_23 : decode cX3_changeTool 23 = .ok (.invokevirtual 54, 3) := by decide +kernel
theorem dX3_changeTool_26 : decode cX3_changeTool 26 = .ok (.aload_n 0, 1) := by decide +kernel
theorem dX3_changeTool_27 : decode cX3_changeTool 27 = .ok (.getfield 10, 3) := by decide +kernel
theorem dX3_changeTool_30 : decode cX3_changeTool 30 = .ok (.iconst 0, 1) := by decide +kernel
theorem dX3_changeTool_31 : decode cX3_changeTool 31 = .ok (.putfield 111, 3) := by decide +kernel
theorem dX3_changeTool_34 : decode cX3_changeTool 34 = .ok (.aload_n 0, 1) := by decide +kernel
theorem dX3_changeTool_35 : decode cX3_changeTool 35 = .ok (.getfield 10, 3) := by decide +kernel
theorem dX3_changeTool_38 : decode cX3_changeTool 38 = .ok (.dup, 1) := by decide +kernel
theorem dX3_changeTool_39 : decode cX3_changeTool 39 = .ok (.getfield 114, 3) := by decide +kernel
theorem dX3_changeTool_42 : decode cX3_changeTool 42 = .ok (.iconst 1, 1) := by decide +kernel
theorem dX3_changeTool_43 : decode cX3_changeTool 43 = .ok (.iadd, 1) := by decide +kernel
theorem dX3_changeTool_44 : decode cX3_changeTool 44 = .ok (.putfield 114, 3) := by decide +kernel
theorem dX3_changeTool_47 : decode cX3_changeTool 47 = .ok (.iload_n 1, 1) := by decide +kernel
theorem dX3_changeTool_48 : decode cX3_changeTool 48 = .ok (.ireturn, 1) := by decide +kernel
set_option maxRecDepth 20000 in
theorem ggX3_thread_X1_record : GoodIn wsX3_thread wsX1_record := goodIn_r _ [7, 8, 9, 10, 11, 6, 12, 13, 14, 15, 16, 17, 18, 19, 20, 21, 22, 23, 24, 25, 26, 27, 28, 29, 30, 31, 32, 33, 34, 35, 36, 37, 38, 39, 40, 41, 60, 61, 48, 49, 50, 51, 52, 53, 54, 55, 56, 57, 58, 59] (by decide +kernel) (by decide +kernel)
set_option maxRecDepth 20000 in
theorem gX3_thread_X1_record : GoodIn wsX3_thread (wsV RX3 54 RX1 yX1_record wsX1_record) := goodIn_app (goodIn_of _ (by decide +kernel)) ggX3_thread_X1_record
theorem dX3_thread_0 : decode cX3_thread 0 = .ok (.aload_n 0, 1) := by decide +kernel
theorem dX3_thread_1 : decode cX3_thread 1 = .ok (.getfield 10, 3) := by decide +kernel
theorem dX3_thread_4 : decode cX3_thread 4 = .ok (.getfield 117, 3) := by decide +kernel
theorem dX3_thread_7 : decode cX3_thread 7 = .ok (.ifCond .ne 6, 3) := by decide +kernel
theorem dX3_thread_10 : decode cX3_thread 10 = .ok (.bipush (-5), 2) := by decide +kernel
theorem dX3_thread_12 : decode cX3_thread 12 = .ok (.ireturn, 1) := by decide +kernel
theorem dX3_thread_13 : decode cX3_thread 13 = .ok (.aload_n 0, 1) := by decide +kernel
theorem dX3_thread_14 : decode cX3_thread 14 = .ok (.getfield 29, 3) := by decide +kernel
theorem dX3_thread_17 : decode cX3_thread 17 = .ok (.aload_n 0, 1) := by decide +kernel
theorem dX3_thread_18 : decode cX3_thread 18 = .ok (.getfield 10, 3) := by decide +kernel
theorem dX3_thread_21 : decode cX3_thread 21 = .ok (.invokevirtual 54, 3) := by decide +kernel
theorem dX3_thread_24 : decode cX3_thread 24 = .ok (.aload_n 0, 1) := by decide +kernel
theorem dX3_thread_25 : decode cX3_thread 25 = .ok (.getfield 10, 3) := by decide +kernel
theorem dX3_thread_28 : decode cX3_thread 28 = .ok (.iconst 0, 1) := by decide +kernel
theorem dX3_thread_29 : decode cX3_thread 29 = .ok (.putfield 117, 3) := by decide +kernel
theorem dX3_thread_32 : decode cX3_thread 32 = .ok (.aload_n 0, 1) := by decide +kernel
theorem dX3_thread_33 : decode cX3_thread 33 = .ok (.getfield 10, 3) := by decide +kernel
theorem dX3_thread_36 : decode cX3_thread 36 = .ok (.getfield 120, 3) := by decide +kernel
theorem dX3_thread_39 : decode cX3_thread 39 = .ok (.ireturn, 1) := by decide +kernel
set_option maxRecDepth 20000 in
theorem ggX3_pull_X0_hasWire : GoodIn wsX3_pull wsX0_hasWire := goodIn_r _ [7, 8, 9, 10, 11, 72, 73, 74, 75, 76, 77, 78, 79, 80, 81, 82, 83] (by decide +kernel) (by decide +kernel)
set_option maxRecDepth 20000 in
theorem gX3_pull_X0_hasWire : GoodIn wsX3_pull (wsV RX3 80 RX0 yX0_hasWire wsX0_hasWire) := goodIn_app (goodIn_of _ (by decide +kernel)) ggX3_pull_X0_hasWire
set_option maxRecDepth 20000 in
theorem ggX3_pull_X3_isWithin : GoodIn wsX3_pull wsX3_isWithin := goodIn_r _ [14] (by decide +kernel) (by decide +kernel)
set_option maxRecDepth 20000 in
theorem gX3_pull_X3_isWithin : GoodIn wsX3_pull (va_wsS RX3 94 yX3_isWithin wsX3_isWithin) := goodIn_app (goodIn_of _ (by decide +kernel)) ggX3_pull_X3_isWithin
set_option maxRecDepth 20000 in
theorem ggX3_pull_X1_record : GoodIn wsX3_pull wsX1_record := goodIn_r _ [19, 20, 21, 22, 23, 18, 24, 25, 26, 27, 28, 29, 13, 10, 14, 30, 31, 32, 6, 33, 34, 35, 36, 37, 38, 8, 39, 40, 41, 42, 43, 44, 45, 46, 47, 48, 84, 85, 72, 73, 74, 75, 76, 77, 78, 79, 80, 81, 82, 83] (by decide +kernel) (by decide +kernel)
set_option maxRecDepth 20000 in
theorem gX3_pull_X1_record : GoodIn wsX3_pull (wsV RX3 54 RX1 yX1_record wsX1_record) := goodIn_app (goodIn_of _ (by decide +kernel)) ggX3_pull_X1_record
set_option maxRecDepth 20000 in
theorem ggX3_pull_X0_breaksUnder : GoodIn wsX3_pull wsX0_breaksUnder := goodIn_r _ [52, 40, 48, 53, 54, 55, 56, 57, 4, 5, 6, 7, 8, 9, 10, 11, 58, 59, 60, 61, 72, 73, 74, 75, 76, 77, 78, 79, 80, 81, 82, 83] (by decide +kernel) (by decide +kernel)
set_option maxRecDepth 20000 in
theorem gX3_pull_X0_breaksUnder : GoodIn wsX3_pull (wsV RX3 123 RX0 yX0_breaksUnder wsX0_breaksUnder) := goodIn_app (goodIn_of _ (by decide +kernel)) ggX3_pull_X0_breaksUnder
set_option maxRecDepth 20000 in
theorem ggX3_pull_X0_strengthOf : GoodIn wsX3_pull wsX0_strengthOf := goodIn_r _ [65, 40, 9, 10, 11, 72, 73, 74, 75, 76, 77, 78, 79, 80, 81, 82, 83] (by decide +kernel) (by decide +kernel)
set_option maxRecDepth 20000 in
theorem gX3_pull_X0_strengthOf : GoodIn wsX3_pull (wsV RX3 62 RX0 yX0_strengthOf wsX0_strengthOf) := goodIn_app (goodIn_of _ (by decide +kernel)) ggX3_pull_X0_strengthOf
theorem dX3_pull_0 : decode cX3_pull 0 = .ok (.aload_n 0, 1) := by decide +kernel
theorem dX3_pull_1 : decode cX3_pull 1 = .ok (.getfield 10, 3) := by decide +kernel
theorem dX3_pull_4 : decode cX3_pull 4 = .ok (.iload_n 1, 1) := by decide +kernel
theorem dX3_pull_5 : decode cX3_pull 5 = .ok (.invokevirtual 80, 3) := by decide +kernel
theorem dX3_pull_8 : decode cX3_pull 8 = .ok (.ifCond .ne 5, 3) := by decide +kernel
theorem dX3_pull_11 : decode cX3_pull 11 = .ok (.iconst (-1), 1) := by decide +kernel
theorem dX3_pull_12 : decode cX3_pull 12 = .ok (.ireturn, 1) := by decide +kernel
theorem dX3_pull_13 : decode cX3_pull 13 = .ok (.iload_n 2, 1) := by decide +kernel
theorem dX3_pull_14 : decode cX3_pull 14 = .ok (.iconst 1, 1) := by decide +kernel
theorem dX3_pull_15 : decode cX3_pull 15 = .ok (.bipush 100, 2) := by decide +kernel
theorem dX3_pull_17 : decode cX3_pull 17 = .ok (.invokestatic 94, 3) := by decide +kernel
theorem dX3_pull_20 : decode cX3_pull 20 = .ok (.ifCond .ne 6, 3) := by decide +kernel
theorem dX3_pull_23 : decode cX3_pull 23 = .ok (.bipush (-2), 2) := by decide +kernel
theorem dX3_pull_25 : decode cX3_pull 25 = .ok (.ireturn, 1) := by decide +kernel
theorem dX3_pull_26 : decode cX3_pull 26 = .ok (.aload_n 0, 1) := by decide +kernel
theorem dX3_pull_27 : decode cX3_pull 27 = .ok (.getfield 29, 3) := by decide +kernel
theorem dX3_pull_30 : decode cX3_pull 30 = .ok (.aload_n 0, 1) := by decide +kernel
theorem dX3_pull_31 : decode cX3_pull 31 = .ok (.getfield 10, 3) := by decide +kernel
theorem dX3_pull_34 : decode cX3_pull 34 = .ok (.invokevirtual 54, 3) := by decide +kernel
theorem dX3_pull_37 : decode cX3_pull 37 = .ok (.aload_n 0, 1) := by decide +kernel
theorem dX3_pull_38 : decode cX3_pull 38 = .ok (.getfield 10, 3) := by decide +kernel
theorem dX3_pull_41 : decode cX3_pull 41 = .ok (.iload_n 1, 1) := by decide +kernel
theorem dX3_pull_42 : decode cX3_pull 42 = .ok (.iload_n 2, 1) := by decide +kernel
theorem dX3_pull_43 : decode cX3_pull 43 = .ok (.invokevirtual 123, 3) := by decide +kernel
theorem dX3_pull_46 : decode cX3_pull 46 = .ok (.ifCond .eq 9, 3) := by decide +kernel
theorem dX3_pull_49 : decode cX3_pull 49 = .ok (.sipush 1000, 3) := by decide +kernel
theorem dX3_pull_52 : decode cX3_pull 52 = .ok (.goto 11, 3) := by decide +kernel
theorem dX3_pull_55 : decode cX3_pull 55 = .ok (.aload_n 0, 1) := by decide +kernel
theorem dX3_pull_56 : decode cX3_pull 56 = .ok (.getfield 10, 3) := by decide +kernel
theorem dX3_pull_59 : decode cX3_pull 59 = .ok (.iload_n 1, 1) := by decide +kernel
theorem dX3_pull_60 : decode cX3_pull 60 = .ok (.invokevirtual 62, 3) := by decide +kernel
theorem dX3_pull_63 : decode cX3_pull 63 = .ok (.ireturn, 1) := by decide +kernel
set_option maxRecDepth 20000 in
theorem ggX3_sample_X3_isWithin : GoodIn wsX3_sample wsX3_isWithin := goodIn_r _ [6] (by decide +kernel) (by decide +kernel)
set_option maxRecDepth 20000 in
theorem gX3_sample_X3_isWithin : GoodIn wsX3_sample (va_wsS RX3 94 yX3_isWithin wsX3_isWithin) := goodIn_app (goodIn_of _ (by decide +kernel)) ggX3_sample_X3_isWithin
set_option maxRecDepth 20000 in
theorem ggX3_sample_X0_wires : GoodIn wsX3_sample wsX0_wires := goodIn_r _ [11, 12, 13, 14, 10, 15, 16, 17, 5, 18, 75, 76, 77, 78, 79, 80, 81, 82, 83, 84, 85, 86] (by decide +kernel) (by decide +kernel)
set_option maxRecDepth 20000 in
theorem gX3_sample_X0_wires : GoodIn wsX3_sample (wsV RX3 77 RX0 yX0_wires wsX0_wires) := goodIn_app (goodIn_of _ (by decide +kernel)) ggX3_sample_X0_wires
set_option maxRecDepth 20000 in
theorem ggX3_sample_X1_record : GoodIn wsX3_sample wsX1_record := goodIn_r _ [23, 24, 25, 26, 27, 22, 28, 29, 30, 31, 32, 33, 4, 5, 6, 34, 35, 36, 10, 37, 38, 39, 40, 41, 42, 16, 43, 44, 45, 46, 47, 48, 49, 50, 51, 52, 87, 88, 75, 76, 77, 78, 79, 80, 81, 82, 83, 84, 85, 86] (by decide +kernel) (by decide +kernel)
set_option maxRecDepth 20000 in
theorem gX3_sample_X1_record : GoodIn wsX3_sample (wsV RX3 54 RX1 yX1_record wsX1_record) := goodIn_app (goodIn_of _ (by decide +kernel)) ggX3_sample_X1_record
set_option maxRecDepth 20000 in
theorem ggX3_sample_X0_breakingOfSample : GoodIn wsX3_sample wsX0_breakingOfSample := goodIn_r _ [56, 12, 13, 14, 10, 15, 16, 17, 5, 18, 57, 58, 59, 60, 44, 52, 61, 62, 63, 64, 65, 66, 67, 68, 75, 76, 77, 78, 79, 80, 81, 82, 83, 84, 85, 86] (by decide +kernel) (by decide +kernel)
set_option maxRecDepth 20000 in
theorem gX3_sample_X0_breakingOfSample : GoodIn wsX3_sample (wsV RX3 127 RX0 yX0_breakingOfSample wsX0_breakingOfSample) := goodIn_app (goodIn_of _ (by decide +kernel)) ggX3_sample_X0_breakingOfSample
theorem dX3_sample_0 : decode cX3_sample 0 = .ok (.iload_n 1, 1) := by decide +kernel
theorem dX3_sample_1 : decode cX3_sample 1 = .ok (.iconst 1, 1) := by decide +kernel
theorem dX3_sample_2 : decode cX3_sample 2 = .ok (.bipush 12, 2) := by decide +kernel
theorem dX3_sample_4 : decode cX3_sample 4 = .ok (.invokestatic 94, 3) := by decide +kernel
theorem dX3_sample_7 : decode cX3_sample 7 = .ok (.ifCond .eq 13, 3) := by decide +kernel
theorem dX3_sample_10 : decode cX3_sample 10 = .ok (.iload_n 2, 1) := by decide +kernel
theorem dX3_sample_11 : decode cX3_sample 11 = .ok (.iconst 1, 1) := by decide +kernel
theorem dX3_sample_12 : decode cX3_sample 12 = .ok (.bipush 100, 2) := by decide +kernel
theorem dX3_sample_14 : decode cX3_sample 14 = .ok (.invokestatic 94, 3) := by decide +kernel
theorem dX3_sample_17 : decode cX3_sample 17 = .ok (.ifCond .ne 6, 3) := by decide +kernel
theorem dX3_sample_20 : decode cX3_sample 20 = .ok (.bipush (-2), 2) := by decide +kernel
theorem dX3_sample_22 : decode cX3_sample 22 = .ok (.ireturn, 1) := by decide +kernel
theorem dX3_sample_23 : decode cX3_sample 23 = .ok (.aload_n 0, 1) := by decide +kernel
theorem dX3_sample_24 : decode cX3_sample 24 = .ok (.getfield 10, 3) := by decide +kernel
theorem dX3_sample_27 : decode cX3_sample 27 = .ok (.invokevirtual 77, 3) := by decide +kernel
theorem dX3_sample_30 : decode cX3_sample 30 = .ok (.ifCond .ne 6, 3) := by decide +kernel
theorem dX3_sample_33 : decode cX3_sample 33 = .ok (.bipush (-5), 2) := by decide +kernel
theorem dX3_sample_35 : decode cX3_sample 35 = .ok (.ireturn, 1) := by decide +kernel
theorem dX3_sample_36 : decode cX3_sample 36 = .ok (.aload_n 0, 1) := by decide +kernel
theorem dX3_sample_37 : decode cX3_sample 37 = .ok (.getfield 29, 3) := by decide +kernel
theorem dX3_sample_40 : decode cX3_sample 40 = .ok (.aload_n 0, 1) := by decide +kernel
theorem dX3_sample_41 : decode cX3_sample 41 = .ok (.getfield 10, 3) := by decide +kernel
theorem dX3_sample_44 : decode cX3_sample 44 = .ok (.invokevirtual 54, 3) := by decide +kernel
theorem dX3_sample_47 : decode cX3_sample 47 = .ok (.aload_n 0, 1) := by decide +kernel
theorem dX3_sample_48 : decode cX3_sample 48 = .ok (.getfield 10, 3) := by decide +kernel
theorem dX3_sample_51 : decode cX3_sample 51 = .ok (.iload_n 1, 1) := by decide +kernel
theorem dX3_sample_52 : decode cX3_sample 52 = .ok (.iload_n 2, 1) := by decide +kernel
theorem dX3_sample_53 : decode cX3_sample 53 = .ok (.invokevirtual 127, 3) := by decide +kernel
theorem dX3_sample_56 : decode cX3_sample 56 = .ok (.ireturn, 1) := by decide +kernel
set_option maxRecDepth 20000 in
theorem ggX3_type_X2_append : GoodIn wsX3_type wsX2_append := goodIn_r _ [6, 7, 8, 19, 20, 21, 22, 23, 24, 25] (by decide +kernel) (by decide +kernel)
set_option maxRecDepth 20000 in
theorem gX3_type_X2_append : GoodIn wsX3_type (wsV RX3 130 RX2 yX2_append wsX2_append) := goodIn_app (goodIn_of _ (by decide +kernel)) ggX3_type_X2_append
set_option maxRecDepth 20000 in
theorem ggX3_type_X2_length : GoodIn wsX3_type wsX2_length := goodIn_r _ [12, 7, 19, 20, 21, 22, 23, 24, 25] (by decide +kernel) (by decide +kernel)
set_option maxRecDepth 20000 in
theorem gX3_type_X2_length : GoodIn wsX3_type (wsV RX3 134 RX2 yX2_length wsX2_length) := goodIn_app (goodIn_of _ (by decide +kernel)) ggX3_type_X2_length
theorem dX3_type_0 : decode cX3_type 0 = .ok (.aload_n 0, 1) := by decide +kernel
theorem dX3_type_1 : decode cX3_type 1 = .ok (.getfield 36, 3) := by decide +kernel
theorem dX3_type_4 : decode cX3_type 4 = .ok (.iload_n 1, 1) := by decide +kernel
theorem dX3_type_5 : decode cX3_type 5 = .ok (.invokevirtual 130, 3) := by decide +kernel
theorem dX3_type_8 : decode cX3_type 8 = .ok (.ifCond .ne 6, 3) := by decide +kernel
theorem dX3_type_11 : decode cX3_type 11 = .ok (.bipush (-3), 2) := by decide +kernel
theorem dX3_type_13 : decode cX3_type 13 = .ok (.ireturn, 1) := by decide +kernel
theorem dX3_type_14 : decode cX3_type 14 = .ok (.aload_n 0, 1) := by decide +kernel
theorem dX3_type_15 : decode cX3_type 15 = .ok (.getfield 36, 3) := by decide +kernel
theorem dX3_type_18 : decode cX3_type 18 = .ok (.invokevirtual 134, 3) := by decide +kernel
theorem dX3_type_21 : decode cX3_type 21 = .ok (.ireturn, 1) := by decide +kernel
set_option maxRecDepth 20000 in
theorem ggX3_clearText_X2_length : GoodIn wsX3_clearText wsX2_length := goodIn_r _ [6, 7, 18, 19, 20, 21, 22, 23, 24] (by decide +kernel) (by decide +kernel)
set_option maxRecDepth 20000 in
theorem gX3_clearText_X2_length : GoodIn wsX3_clearText (wsV RX3 134 RX2 yX2_length wsX2_length) := goodIn_app (goodIn_of _ (by decide +kernel)) ggX3_clearText_X2_length
set_option maxRecDepth 20000 in
theorem ggX3_clearText_X2_empty : GoodIn wsX3_clearText wsX2_empty := goodIn_r _ [11, 7, 18, 19, 20, 21, 22, 23, 24] (by decide +kernel) (by decide +kernel)
set_option maxRecDepth 20000 in
theorem gX3_clearText_X2_empty : GoodIn wsX3_clearText (wsV RX3 137 RX2 yX2_empty wsX2_empty) := goodIn_app (goodIn_of _ (by decide +kernel)) ggX3_clearText_X2_empty
theorem dX3_clearText_0 : decode cX3_clearText 0 = .ok (.aload_n 0, 1) := by decide +kernel
theorem dX3_clearText_1 : decode cX3_clearText 1 = .ok (.getfield 36, 3) := by decide +kernel
theorem dX3_clearText_4 : decode cX3_clearText 4 = .ok (.invokevirtual 134, 3) := by decide +kernel
theorem dX3_clearText_7 : decode cX3_clearText 7 = .ok (.istore_n 1, 1) := by decide +kernel
theorem dX3_clearText_8 : decode cX3_clearText 8 = .ok (.aload_n 0, 1) := by decide +kernel
theorem dX3_clearText_9 : decode cX3_clearText 9 = .ok (.getfield 36, 3) := by decide +kernel
theorem dX3_clearText_12 : decode cX3_clearText 12 = .ok (.invokevirtual 137, 3) := by decide +kernel
theorem dX3_clearText_15 : decode cX3_clearText 15 = .ok (.iload_n 1, 1) := by decide +kernel
theorem dX3_clearText_16 : decode cX3_clearText 16 = .ok (.ireturn, 1) := by decide +kernel
set_option maxRecDepth 20000 in
theorem ggX3_undo_X1_states : GoodIn wsX3_undo wsX1_states := goodIn_r _ [7, 8, 48, 49] (by decide +kernel) (by decide +kernel)
set_option maxRecDepth 20000 in
theorem gX3_undo_X1_states : GoodIn wsX3_undo (wsV RX3 140 RX1 yX1_states wsX1_states) := goodIn_app (goodIn_of _ (by decide +kernel)) ggX3_undo_X1_states
set_option maxRecDepth 20000 in
theorem ggX3_undo_X1_takeLatest : GoodIn wsX3_undo wsX1_takeLatest := goodIn_r _ [12, 8, 13, 14, 15, 6, 16, 17, 18, 19, 20, 21, 22, 23, 24, 25, 26, 27, 28, 29, 30, 31, 32, 33, 34, 35, 36, 37, 38, 39, 40, 41, 48, 49, 50, 51, 52, 53, 54, 55, 56, 57, 58, 59, 60, 61] (by decide +kernel) (by decide +kernel)
set_option maxRecDepth 20000 in
theorem gX3_undo_X1_takeLatest : GoodIn wsX3_undo (wsV RX3 143 RX1 yX1_takeLatest wsX1_takeLatest) := goodIn_app (goodIn_of _ (by decide +kernel)) ggX3_undo_X1_takeLatest
theorem dX3_undo_0 : decode cX3_undo 0 = .ok (.aload_n 0, 1) := by decide +kernel
theorem dX3_undo_1 : decode cX3_undo 1 = .ok (.getfield 29, 3) := by decide +kernel
theorem dX3_undo_4 : decode cX3_undo 4 = .ok (.invokevirtual 140, 3) := by decide +kernel
theorem dX3_undo_7 : decode cX3_undo 7 = .ok (.ifCond .ne 6, 3) := by decide +kernel
theorem dX3_undo_10 : decode cX3_undo 10 = .ok (.bipush (-5), 2) := by decide +kernel
theorem dX3_undo_12 : decode cX3_undo 12 = .ok (.ireturn, 1) := by decide +kernel
theorem dX3_undo_13 : decode cX3_undo 13 = .ok (.aload_n 0, 1) := by decide +kernel
theorem dX3_undo_14 : decode cX3_undo 14 = .ok (.getfield 29, 3) := by decide +kernel
theorem dX3_undo_17 : decode cX3_undo 17 = .ok (.aload_n 0, 1) := by decide +kernel
theorem dX3_undo_18 : decode cX3_undo 18 = .ok (.getfield 10, 3) := by decide +kernel
theorem dX3_undo_21 : decode cX3_undo 21 = .ok (.invokevirtual 143, 3) := by decide +kernel
theorem dX3_undo_24 : decode cX3_undo 24 = .ok (.aload_n 0, 1) := by decide +kernel
theorem dX3_undo_25 : decode cX3_undo 25 = .ok (.getfield 29, 3) := by decide +kernel
theorem dX3_undo_28 : decode cX3_undo 28 = .ok (.invokevirtual 140, 3) := by decide +kernel
theorem dX3_undo_31 : decode cX3_undo 31 = .ok (.ireturn, 1) := by decide +kernel
set_option maxRecDepth 20000 in
theorem ggX3_keep_X0_copyFrom : GoodIn wsX3_keep wsX0_copyFrom := goodIn_r _ [8, 9, 10, 11, 12, 13, 14, 15, 16, 17, 18, 19, 20, 21, 22, 23, 24, 42, 43, 44, 45, 46, 47, 48, 49, 50, 51, 52, 53] (by decide +kernel) (by decide +kernel)
set_option maxRecDepth 20000 in
theorem gX3_keep_X0_copyFrom : GoodIn wsX3_keep (wsV RX3 70 RX0 yX0_copyFrom wsX0_copyFrom) := goodIn_app (goodIn_of _ (by decide +kernel)) ggX3_keep_X0_copyFrom
set_option maxRecDepth 20000 in
theorem ggX3_keep_X0_wires : GoodIn wsX3_keep wsX0_wires := goodIn_r _ [28, 29, 30, 31, 7, 32, 14, 33, 34, 35, 42, 43, 44, 45, 46, 47, 48, 49, 50, 51, 52, 53] (by decide +kernel) (by decide +kernel)
set_option maxRecDepth 20000 in
theorem gX3_keep_X0_wires : GoodIn wsX3_keep (wsV RX3 77 RX0 yX0_wires wsX0_wires) := goodIn_app (goodIn_of _ (by decide +kernel)) ggX3_keep_X0_wires
theorem dX3_keep_0 : decode cX3_keep 0 = .ok (.aload_n 0, 1) := by decide +kernel
theorem dX3_keep_1 : decode cX3_keep 1 = .ok (.getfield 19, 3) := by decide +kernel
theorem dX3_keep_4 : decode cX3_keep 4 = .ok (.aload_n 0, 1) := by decide +kernel
theorem dX3_keep_5 : decode cX3_keep 5 = .ok (.getfield 10, 3) := by decide +kernel
theorem dX3_keep_8 : decode cX3_keep 8 = .ok (.invokevirtual 70, 3) := by decide +kernel
theorem dX3_keep_11 : decode cX3_keep 11 = .ok (.aload_n 0, 1) := by decide +kernel
theorem dX3_keep_12 : decode cX3_keep 12 = .ok (.iconst 1, 1) := by decide +kernel
theorem dX3_keep_13 : decode cX3_keep 13 = .ok (.putfield 22, 3) := by decide +kernel
theorem dX3_keep_16 : decode cX3_keep 16 = .ok (.aload_n 0, 1) := by decide +kernel
theorem dX3_keep_17 : decode cX3_keep 17 = .ok (.getfield 10, 3) := by decide +kernel
theorem dX3_keep_20 : decode cX3_keep 20 = .ok (.invokevirtual 77, 3) := by decide +kernel
theorem dX3_keep_23 : decode cX3_keep 23 = .ok (.ireturn, 1) := by decide +kernel
set_option maxRecDepth 20000 in
theorem ggX3_restore_X1_record : GoodIn wsX3_restore wsX1_record := goodIn_r _ [9, 10, 11, 12, 13, 8, 14, 15, 16, 17, 18, 19, 20, 21, 22, 23, 24, 25, 26, 27, 28, 29, 30, 31, 32, 33, 34, 35, 36, 37, 38, 39, 40, 41, 42, 43, 61, 62, 63, 64, 65, 66, 67, 68, 69, 70, 71, 72, 73, 74] (by decide +kernel) (by decide +kernel)
set_option maxRecDepth 20000 in
theorem gX3_restore_X1_record : GoodIn wsX3_restore (wsV RX3 54 RX1 yX1_record wsX1_record) := goodIn_app (goodIn_of _ (by decide +kernel)) ggX3_restore_X1_record
set_option maxRecDepth 20000 in
theorem ggX3_restore_X0_copyFrom : GoodIn wsX3_restore wsX0_copyFrom := goodIn_r _ [27, 28, 29, 30, 31, 32, 33, 34, 35, 36, 37, 38, 39, 40, 41, 42, 43, 63, 64, 65, 66, 67, 68, 69, 70, 71, 72, 73, 74] (by decide +kernel) (by decide +kernel)
set_option maxRecDepth 20000 in
theorem gX3_restore_X0_copyFrom : GoodIn wsX3_restore (wsV RX3 70 RX0 yX0_copyFrom wsX0_copyFrom) := goodIn_app (goodIn_of _ (by decide +kernel)) ggX3_restore_X0_copyFrom
set_option maxRecDepth 20000 in
theorem ggX3_restore_X0_wires : GoodIn wsX3_restore wsX0_wires := goodIn_r _ [48, 49, 50, 51, 26, 52, 33, 53, 21, 54, 63, 64, 65, 66, 67, 68, 69, 70, 71, 72, 73, 74] (by decide +kernel) (by decide +kernel)
set_option maxRecDepth 20000 in
theorem gX3_restore_X0_wires : GoodIn wsX3_restore (wsV RX3 77 RX0 yX0_wires wsX0_wires) := goodIn_app (goodIn_of _ (by decide +kernel)) ggX3_restore_X0_wires
theorem dX3_restore_0 : decode cX3_restore 0 = .ok (.aload_n 0, 1) := by decide +kernel
theorem dX3_restore_1 : decode cX3_restore 1 = .ok (.getfield 22, 3) := by decide +kernel
theorem dX3_restore_4 : decode cX3_restore 4 = .ok (.ifCond .ne 6, 3) := by decide +kernel
theorem dX3_restore_7 : decode cX3_restore 7 = .ok (.bipush (-5), 2) := by decide +kernel
theorem dX3_restore_9 : decode cX3_restore 9 = .ok (.ireturn, 1) := by decide +kernel
theorem dX3_restore_10 : decode cX3_restore 10 = .ok (.aload_n 0, 1) := by decide +kernel
theorem dX3_restore_11 : decode cX3_restore 11 = .ok (.getfield 29, 3) := by decide +kernel
theorem dX3_restore_14 : decode cX3_restore 14 = .ok (.aload_n 0, 1) := by decide +kernel
theorem dX3_restore_15 : decode cX3_restore 15 = .ok (.getfield 10, 3) := by decide +kernel
theorem dX3_restore_18 : decode cX3_restore 18 = .ok (.invokevirtual 54, 3) := by decide +kernel
theorem dX3_restore_21 : decode cX3_restore 21 = .ok (.aload_n 0, 1) := by decide +kernel
theorem dX3_restore_22 : decode cX3_restore 22 = .ok (.getfield 10, 3) := by decide +kernel
theorem dX3_restore_25 : decode cX3_restore 25 = .ok (.aload_n 0, 1) := by decide +kernel
theorem dX3_restore_26 : decode cX3_restore 26 = .ok (.getfield 19, 3) := by decide +kernel
theorem dX3_restore_29 : decode cX3_restore 29 = .ok (.invokevirtual 70, 3) := by decide +kernel
theorem dX3_restore_32 : decode cX3_restore 32 = .ok (.aload_n 0, 1) := by decide +kernel
theorem dX3_restore_33 : decode cX3_restore 33 = .ok (.getfield 10, 3) := by decide +kernel
theorem dX3_restore_36 : decode cX3_restore 36 = .ok (.invokevirtual 77, 3) := by decide +kernel
theorem dX3_restore_39 : decode cX3_restore 39 = .ok (.ireturn, 1) := by decide +kernel
set_option maxRecDepth 20000 in
theorem ggX3_wire_X0_hasWire : GoodIn wsX3_wire wsX0_hasWire := goodIn_r _ [6, 7, 8, 9, 10, 84, 85, 86, 87, 88, 89, 90, 91, 92, 93, 94, 95] (by decide +kernel) (by decide +kernel)
set_option maxRecDepth 20000 in
theorem gX3_wire_X0_hasWire : GoodIn wsX3_wire (wsV RX3 80 RX0 yX0_hasWire wsX0_hasWire) := goodIn_app (goodIn_of _ (by decide +kernel)) ggX3_wire_X0_hasWire
set_option maxRecDepth 20000 in
theorem ggX3_wire_X0_leadAtPad : GoodIn wsX3_wire wsX0_leadAtPad := goodIn_r _ [14, 7, 8, 9, 10, 84, 85, 86, 87, 88, 89, 90, 91, 92, 93, 94, 95] (by decide +kernel) (by decide +kernel)
set_option maxRecDepth 20000 in
theorem gX3_wire_X0_leadAtPad : GoodIn wsX3_wire (wsV RX3 146 RX0 yX0_leadAtPad wsX0_leadAtPad) := goodIn_app (goodIn_of _ (by decide +kernel)) ggX3_wire_X0_leadAtPad
set_option maxRecDepth 20000 in
theorem ggX3_wire_X0_heightOf : GoodIn wsX3_wire wsX0_heightOf := goodIn_r _ [18, 19, 8, 9, 10, 84, 85, 86, 87, 88, 89, 90, 91, 92, 93, 94, 95] (by decide +kernel) (by decide +kernel)
set_option maxRecDepth 20000 in
theorem gX3_wire_X0_heightOf : GoodIn wsX3_wire (wsV RX3 87 RX0 yX0_heightOf wsX0_heightOf) := goodIn_app (goodIn_of _ (by decide +kernel)) ggX3_wire_X0_heightOf
set_option maxRecDepth 20000 in
theorem ggX3_wire_X0_strengthOf : GoodIn wsX3_wire wsX0_strengthOf := goodIn_r _ [23, 24, 8, 9, 10, 84, 85, 86, 87, 88, 89, 90, 91, 92, 93, 94, 95] (by decide +kernel) (by decide +kernel)
set_option maxRecDepth 20000 in
theorem gX3_wire_X0_strengthOf : GoodIn wsX3_wire (wsV RX3 62 RX0 yX0_strengthOf wsX0_strengthOf) := goodIn_app (goodIn_of _ (by decide +kernel)) ggX3_wire_X0_strengthOf
set_option maxRecDepth 20000 in
theorem ggX3_wire_X0_crossingsOf : GoodIn wsX3_wire wsX0_crossingsOf := goodIn_r _ [28, 29, 30, 31, 5, 32, 33, 3, 4, 6, 7, 8, 9, 10, 34, 35, 36, 37, 38, 84, 85, 86, 87, 88, 89, 90, 91, 92, 93, 94, 95] (by decide +kernel) (by decide +kernel)
set_option maxRecDepth 20000 in
theorem gX3_wire_X0_crossingsOf : GoodIn wsX3_wire (wsV RX3 149 RX0 yX0_crossingsOf wsX0_crossingsOf) := goodIn_app (goodIn_of _ (by decide +kernel)) ggX3_wire_X0_crossingsOf
set_option maxRecDepth 20000 in
theorem ggX3_wire_X0_shortOnes : GoodIn wsX3_wire wsX0_shortOnes := goodIn_r _ [42, 43, 44, 45, 5, 46, 47, 29, 30, 31, 32, 33, 3, 4, 6, 7, 8, 9, 10, 34, 35, 36, 37, 38, 48, 49, 50, 51, 52, 53, 54, 55, 56, 57, 58, 59, 60, 61, 62, 63, 64, 65, 16, 17, 18, 19, 84, 85, 86, 87, 88, 89, 90, 91, 92, 93, 94, 95] (by decide +kernel) (by decide +kernel)
set_option maxRecDepth 20000 in
theorem gX3_wire_X0_shortOnes : GoodIn wsX3_wire (wsV RX3 152 RX0 yX0_shortOnes wsX0_shortOnes) := goodIn_app (goodIn_of _ (by decide +kernel)) ggX3_wire_X0_shortOnes
set_option maxRecDepth 20000 in
theorem ggX3_wire_X0_leastGap : GoodIn wsX3_wire wsX0_leastGap := goodIn_r _ [69, 70, 71, 54, 72, 29, 30, 31, 5, 32, 33, 3, 4, 6, 7, 8, 9, 10, 34, 35, 36, 37, 38, 65, 16, 17, 18, 19, 48, 49, 50, 51, 52, 53, 55, 56, 57, 58, 59, 60, 61, 62, 63, 64, 84, 85, 86, 87, 88, 89, 90, 91, 92, 93, 94, 95] (by decide +kernel) (by decide +kernel)
set_option maxRecDepth 20000 in
theorem gX3_wire_X0_leastGap : GoodIn wsX3_wire (wsV RX3 155 RX0 yX0_leastGap wsX0_leastGap) := goodIn_app (goodIn_of _ (by decide +kernel)) ggX3_wire_X0_leastGap
set_option maxRecDepth 20000 in
theorem ggX3_wire_X0_numberOf : GoodIn wsX3_wire wsX0_numberOf := goodIn_r _ [76, 77, 8, 9, 10, 84, 85, 86, 87, 88, 89, 90, 91, 92, 93, 94, 95] (by decide +kernel) (by decide +kernel)
set_option maxRecDepth 20000 in
theorem gX3_wire_X0_numberOf : GoodIn wsX3_wire (wsV RX3 158 RX0 yX0_numberOf wsX0_numberOf) := goodIn_app (goodIn_of _ (by decide +kernel)) ggX3_wire_X0_numberOf
theorem dX3_wire_0 : decode cX3_wire 0 = .ok (.aload_n 0, 1) := by decide +kernel
theorem dX3_wire_1 : decode cX3_wire 1 = .ok (.getfield 10, 3) := by decide +kernel
theorem dX3_wire_4 : decode cX3_wire 4 = .ok (.iload_n 1, 1) := by decide +kernel
theorem dX3_wire_5 : decode cX3_wire 5 = .ok (.invokevirtual 80, 3) := by decide +kernel
theorem dX3_wire_8 : decode cX3_wire 8 = .ok (.ifCond .ne 5, 3) := by decide +kernel
theorem dX3_wire_11 : decode cX3_wire 11 = .ok (.iconst (-1), 1) := by decide +kernel
theorem dX3_wire_12 : decode cX3_wire 12 = .ok (.ireturn, 1) := by decide +kernel
theorem dX3_wire_13 : decode cX3_wire 13 = .ok (.iload_n 2, 1) := by decide +kernel
theorem dX3_wire_14 : decode cX3_wire 14 = .ok (.tableswitch 113 0 6 #[42, 51, 60, 69, 78, 95, 104], 42) := by decide +kernel
theorem dX3_wire_56 : decode cX3_wire 56 = .ok (.aload_n 0, 1) := by decide +kernel
theorem dX3_wire_57 : decode cX3_wire 57 = .ok (.getfield 10, 3) := by decide +kernel
theorem dX3_wire_60 : decode cX3_wire 60 = .ok (.iload_n 1, 1) := by decide +kernel
theorem dX3_wire_61 : decode cX3_wire 61 = .ok (.invokevirtual 146, 3) := by decide +kernel
theorem dX3_wire_64 : decode cX3_wire 64 = .ok (.ireturn, 1) := by decide +kernel
theorem dX3_wire_65 : decode cX3_wire 65 = .ok (.aload_n 0, 1) := by decide +kernel
theorem dX3_wire_66 : decode cX3_wire 66 = .ok (.getfield 10, 3) := by decide +kernel
theorem dX3_wire_69 : decode cX3_wire 69 = .ok (.iload_n 1, 1) := by decide +kernel
theorem dX3_wire_70 : decode cX3_wire 70 = .ok (.invokevirtual 87, 3) := by decide +kernel
theorem dX3_wire_73 : decode cX3_wire 73 = .ok (.ireturn, 1) := by decide +kernel
theorem dX3_wire_74 : decode cX3_wire 74 = .ok (.aload_n 0, 1) := by decide +kernel
theorem dX3_wire_75 : decode cX3_wire 75 = .ok (.getfield 10, 3) := by decide +kernel
theorem dX3_wire_78 : decode cX3_wire 78 = .ok (.iload_n 1, 1) := by decide +kernel
theorem dX3_wire_79 : decode cX3_wire 79 = .ok (.invokevirtual 62, 3) := by decide +kernel
theorem dX3_wire_82 : decode cX3_wire 82 = .ok (.ireturn, 1) := by decide +kernel
theorem dX3_wire_83 : decode cX3_wire 83 = .ok (.aload_n 0, 1) := by decide +kernel
theorem dX3_wire_84 : decode cX3_wire 84 = .ok (.getfield 10, 3) := by decide +kernel
theorem dX3_wire_87 : decode cX3_wire 87 = .ok (.iload_n 1, 1) := by decide +kernel
theorem dX3_wire_88 : decode cX3_wire 88 = .ok (.invokevirtual 149, 3) := by decide +kernel
theorem dX3_wire_91 : decode cX3_wire 91 = .ok (.ireturn, 1) := by decide +kernel
theorem dX3_wire_92 : decode cX3_wire 92 = .ok (.aload_n 0, 1) := by decide +kernel
theorem dX3_wire_93 : decode cX3_wire 93 = .ok (.getfield 10, 3) := by decide +kernel
theorem dX3_wire_96 : decode cX3_wire 96 = .ok (.iload_n 1, 1) := by decide +kernel
theorem dX3_wire_97 : decode cX3_wire 97 = .ok (.aload_n 0, 1) := by decide +kernel
theorem dX3_wire_98 : decode cX3_wire 98 = .ok (.getfield 10, 3) := by decide +kernel
theorem dX3_wire_101 : decode cX3_wire 101 = .ok (.iload_n 1, 1) := by decide +kernel
theorem dX3_wire_102 : decode cX3_wire 102 = .ok (.invokevirtual 87, 3) := by decide +kernel
theorem dX3_wire_105 : decode cX3_wire 105 = .ok (.invokevirtual 152, 3) := by decide +kernel
theorem dX3_wire_108 : decode cX3_wire 108 = .ok (.ireturn, 1) := by decide +kernel
theorem dX3_wire_109 : decode cX3_wire 109 = .ok (.aload_n 0, 1) := by decide +kernel
theorem dX3_wire_110 : decode cX3_wire 110 = .ok (.getfield 10, 3) := by decide +kernel
theorem dX3_wire_113 : decode cX3_wire 113 = .ok (.iload_n 1, 1) := by decide +kernel
theorem dX3_wire_114 : decode cX3_wire 114 = .ok (.invokevirtual 155, 3) := by decide +kernel
theorem dX3_wire_117 : decode cX3_wire 117 = .ok (.ireturn, 1) := by decide +kernel
theorem dX3_wire_118 : decode cX3_wire 118 = .ok (.aload_n 0, 1) := by decide +kernel
theorem dX3_wire_119 : decode cX3_wire 119 = .ok (.getfield 10, 3) := by decide +kernel
theorem dX3_wire_122 : decode cX3_wire 122 = .ok (.iload_n 1, 1) := by decide +kernel
theorem dX3_wire_123 : decode cX3_wire 123 = .ok (.invokevirtual 158, 3) := by decide +kernel
theorem dX3_wire_126 : decode cX3_wire 126 = .ok (.ireturn, 1) := by decide +kernel
theorem dX3_wire_127 : decode cX3_wire 127 = .ok (.bipush (-2), 2) := by decide +kernel
theorem dX3_wire_129 : decode cX3_wire 129 = .ok (.ireturn, 1) := by decide +kernel
set_option maxRecDepth 20000 in
theorem ggX3_heightAt_X0_hasWire : GoodIn wsX3_heightAt wsX0_hasWire := goodIn_r _ [6, 7, 8, 9, 10, 29, 30, 31, 32, 33, 34, 35, 36, 37, 38, 39, 40] (by decide +kernel) (by decide +kernel)
set_option maxRecDepth 20000 in
theorem gX3_heightAt_X0_hasWire : GoodIn wsX3_heightAt (wsV RX3 80 RX0 yX0_hasWire wsX0_hasWire) := goodIn_app (goodIn_of _ (by decide +kernel)) ggX3_heightAt_X0_hasWire
set_option maxRecDepth 20000 in
theorem ggX3_heightAt_X3_isWithin : GoodIn wsX3_heightAt wsX3_isWithin := goodIn_r _ [13] (by decide +kernel) (by decide +kernel)
set_option maxRecDepth 20000 in
theorem gX3_heightAt_X3_isWithin : GoodIn wsX3_heightAt (va_wsS RX3 94 yX3_isWithin wsX3_isWithin) := goodIn_app (goodIn_of _ (by decide +kernel)) ggX3_heightAt_X3_isWithin
set_option maxRecDepth 20000 in
theorem ggX3_heightAt_X0_heightOf : GoodIn wsX3_heightAt wsX0_heightOf := goodIn_r _ [17, 18, 8, 9, 10, 29, 30, 31, 32, 33, 34, 35, 36, 37, 38, 39, 40] (by decide +kernel) (by decide +kernel)
set_option maxRecDepth 20000 in
theorem gX3_heightAt_X0_heightOf : GoodIn wsX3_heightAt (wsV RX3 87 RX0 yX0_heightOf wsX0_heightOf) := goodIn_app (goodIn_of _ (by decide +kernel)) ggX3_heightAt_X0_heightOf
set_option maxRecDepth 20000 in
theorem ggX3_heightAt_X3_loopAt : GoodIn wsX3_heightAt wsX3_loopAt := goodIn_r _ [21, 22] (by decide +kernel) (by decide +kernel)
set_option maxRecDepth 20000 in
theorem gX3_heightAt_X3_loopAt : GoodIn wsX3_heightAt (va_wsS RX3 161 yX3_loopAt wsX3_loopAt) := goodIn_app (goodIn_of _ (by decide +kernel)) ggX3_heightAt_X3_loopAt
theorem dX3_heightAt_0 : decode cX3_heightAt 0 = .ok (.aload_n 0, 1) := by decide +kernel
theorem dX3_heightAt_1 : decode cX3_heightAt 1 = .ok (.getfield 10, 3) := by decide +kernel
theorem dX3_heightAt_4 : decode cX3_heightAt 4 = .ok (.iload_n 1, 1) := by decide +kernel
theorem dX3_heightAt_5 : decode cX3_heightAt 5 = .ok (.invokevirtual 80, 3) := by decide +kernel
theorem dX3_heightAt_8 : decode cX3_heightAt 8 = .ok (.ifCond .ne 5, 3) := by decide +kernel
theorem dX3_heightAt_11 : decode cX3_heightAt 11 = .ok (.iconst (-1), 1) := by decide +kernel
theorem dX3_heightAt_12 : decode cX3_heightAt 12 = .ok (.ireturn, 1) := by decide +kernel
theorem dX3_heightAt_13 : decode cX3_heightAt 13 = .ok (.iload_n 2, 1) := by decide +kernel
theorem dX3_heightAt_14 : decode cX3_heightAt 14 = .ok (.iconst 0, 1) := by decide +kernel
theorem dX3_heightAt_15 : decode cX3_heightAt 15 = .ok (.sipush 200, 3) := by decide +kernel
theorem dX3_heightAt_18 : decode cX3_heightAt 18 = .ok (.invokestatic 94, 3) := by decide +kernel
theorem dX3_heightAt_21 : decode cX3_heightAt 21 = .ok (.ifCond .ne 6, 3) := by decide +kernel
theorem dX3_heightAt_24 : decode cX3_heightAt 24 = .ok (.bipush (-2), 2) := by decide +kernel
theorem dX3_heightAt_26 : decode cX3_heightAt 26 = .ok (.ireturn, 1) := by decide +kernel
theorem dX3_heightAt_27 : decode cX3_heightAt 27 = .ok (.aload_n 0, 1) := by decide +kernel
theorem dX3_heightAt_28 : decode cX3_heightAt 28 = .ok (.getfield 10, 3) := by decide +kernel
theorem dX3_heightAt_31 : decode cX3_heightAt 31 = .ok (.iload_n 1, 1) := by decide +kernel
theorem dX3_heightAt_32 : decode cX3_heightAt 32 = .ok (.invokevirtual 87, 3) := by decide +kernel
theorem dX3_heightAt_35 : decode cX3_heightAt 35 = .ok (.iload_n 2, 1) := by decide +kernel
theorem dX3_heightAt_36 : decode cX3_heightAt 36 = .ok (.invokestatic 161, 3) := by decide +kernel
theorem dX3_heightAt_39 : decode cX3_heightAt 39 = .ok (.ireturn, 1) := by decide +kernel
set_option maxRecDepth 20000 in
theorem ggX3_crossing_X0_hasWire : GoodIn wsX3_crossing wsX0_hasWire := goodIn_r _ [6, 7, 8, 9, 10, 61, 62, 63, 64, 65, 66, 67, 68, 69, 70, 71, 72] (by decide +kernel) (by decide +kernel)
set_option maxRecDepth 20000 in
theorem gX3_crossing_X0_hasWire : GoodIn wsX3_crossing (wsV RX3 80 RX0 yX0_hasWire wsX0_hasWire) := goodIn_app (goodIn_of _ (by decide +kernel)) ggX3_crossing_X0_hasWire
set_option maxRecDepth 20000 in
theorem ggX3_crossing_X3_isWithin : GoodIn wsX3_crossing wsX3_isWithin := goodIn_r _ [13] (by decide +kernel) (by decide +kernel)
set_option maxRecDepth 20000 in
theorem gX3_crossing_X3_isWithin : GoodIn wsX3_crossing (va_wsS RX3 94 yX3_isWithin wsX3_isWithin) := goodIn_app (goodIn_of _ (by decide +kernel)) ggX3_crossing_X3_isWithin
set_option maxRecDepth 20000 in
theorem ggX3_crossing_X0_cross : GoodIn wsX3_crossing wsX0_cross := goodIn_r _ [17, 18, 3, 4, 5, 6, 7, 8, 9, 10, 19, 20, 21, 22, 23, 61, 62, 63, 64, 65, 66, 67, 68, 69, 70, 71, 72] (by decide +kernel) (by decide +kernel)
set_option maxRecDepth 20000 in
theorem gX3_crossing_X0_cross : GoodIn wsX3_crossing (wsV RX3 164 RX0 yX0_cross wsX0_cross) := goodIn_app (goodIn_of _ (by decide +kernel)) ggX3_crossing_X0_cross
set_option maxRecDepth 20000 in
theorem ggX3_crossing_X0_crossingY : GoodIn wsX3_crossing wsX0_crossingY := goodIn_r _ [27, 28, 29, 30, 31, 32, 9, 33, 19, 20, 21, 5, 22, 7, 23, 61, 62, 63, 64, 65, 66, 67, 68, 69, 70, 71, 72] (by decide +kernel) (by decide +kernel)
set_option maxRecDepth 20000 in
theorem gX3_crossing_X0_crossingY : GoodIn wsX3_crossing (wsV RX3 167 RX0 yX0_crossingY wsX0_crossingY) := goodIn_app (goodIn_of _ (by decide +kernel)) ggX3_crossing_X0_crossingY
set_option maxRecDepth 20000 in
theorem ggX3_crossing_X0_heightOf : GoodIn wsX3_crossing wsX0_heightOf := goodIn_r _ [37, 38, 8, 9, 10, 61, 62, 63, 64, 65, 66, 67, 68, 69, 70, 71, 72] (by decide +kernel) (by decide +kernel)
set_option maxRecDepth 20000 in
theorem gX3_crossing_X0_heightOf : GoodIn wsX3_crossing (wsV RX3 87 RX0 yX0_heightOf wsX0_heightOf) := goodIn_app (goodIn_of _ (by decide +kernel)) ggX3_crossing_X0_heightOf
set_option maxRecDepth 20000 in
theorem ggX3_crossing_X0_gap : GoodIn wsX3_crossing wsX0_gap := goodIn_r _ [42, 28, 29, 30, 31, 43, 25, 26, 5, 27, 32, 9, 33, 19, 20, 21, 22, 7, 23, 44, 45, 46, 47, 35, 36, 37, 38, 8, 10, 61, 62, 63, 64, 65, 66, 67, 68, 69, 70, 71, 72] (by decide +kernel) (by decide +kernel)
set_option maxRecDepth 20000 in
theorem gX3_crossing_X0_gap : GoodIn wsX3_crossing (wsV RX3 170 RX0 yX0_gap wsX0_gap) := goodIn_app (goodIn_of _ (by decide +kernel)) ggX3_crossing_X0_gap
set_option maxRecDepth 20000 in
theorem ggX3_crossing_X0_isShort : GoodIn wsX3_crossing wsX0_isShort := goodIn_r _ [51, 52, 53, 15, 16, 5, 17, 18, 3, 4, 6, 7, 8, 9, 10, 19, 20, 21, 22, 23, 54, 40, 41, 42, 28, 29, 30, 31, 43, 25, 26, 27, 32, 33, 44, 45, 46, 47, 35, 36, 37, 38, 61, 62, 63, 64, 65, 66, 67, 68, 69, 70, 71, 72] (by decide +kernel) (by decide +kernel)
set_option maxRecDepth 20000 in
theorem gX3_crossing_X0_isShort : GoodIn wsX3_crossing (wsV RX3 174 RX0 yX0_isShort wsX0_isShort) := goodIn_app (goodIn_of _ (by decide +kernel)) ggX3_crossing_X0_isShort
theorem dX3_crossing_0 : decode cX3_crossing 0 = .ok (.aload_n 0, 1) := by decide +kernel
theorem dX3_crossing_1 : decode cX3_crossing 1 = .ok (.getfield 10, 3) := by decide +kernel
theorem dX3_crossing_4 : decode cX3_crossing 4 = .ok (.iload_n 1, 1) := by decide +kernel
theorem dX3_crossing_5 : decode cX3_crossing 5 = .ok (.invokevirtual 80, 3) := by decide +kernel
theorem dX3_crossing_8 : decode cX3_crossing 8 = .ok (.ifCond .eq 14, 3) := by decide +kernel
theorem dX3_crossing_11 : decode cX3_crossing 11 = .ok (.aload_n 0, 1) := by decide +kernel
theorem dX3_crossing_12 : decode cX3_crossing 12 = .ok (.getfield 10, 3) := by decide +kernel
theorem dX3_crossing_15 : decode cX3_crossing 15 = .ok (.iload_n 2, 1) := by decide +kernel
theorem dX3_crossing_16 : decode cX3_crossing 16 = .ok (.invokevirtual 80, 3) := by decide +kernel
theorem dX3_crossing_19 : decode cX3_crossing 19 = .ok (.ifCond .ne 5, 3) := by decide +kernel
theorem dX3_crossing_22 : decode cX3_crossing 22 = .ok (.iconst (-1), 1) := by decide +kernel
theorem dX3_crossing_23 : decode cX3_crossing 23 = .ok (.ireturn, 1) := by decide +kernel
theorem dX3_crossing_24 : decode cX3_crossing 24 = .ok (.iload_n 3, 1) := by decide +kernel
theorem dX3_crossing_25 : decode cX3_crossing 25 = .ok (.iconst 0, 1) := by decide +kernel
theorem dX3_crossing_26 : decode cX3_crossing 26 = .ok (.iconst 2, 1) := by decide +kernel
theorem dX3_crossing_27 : decode cX3_crossing 27 = .ok (.invokestatic 94, 3) := by decide +kernel
theorem dX3_crossing_30 : decode cX3_crossing 30 = .ok (.ifCond .ne 6, 3) := by decide +kernel
theorem dX3_crossing_33 : decode cX3_crossing 33 = .ok (.bipush (-2), 2) := by decide +kernel
theorem dX3_crossing_35 : decode cX3_crossing 35 = .ok (.ireturn, 1) := by decide +kernel
theorem dX3_crossing_36 : decode cX3_crossing 36 = .ok (.aload_n 0, 1) := by decide +kernel
theorem dX3_crossing_37 : decode cX3_crossing 37 = .ok (.getfield 10, 3) := by decide +kernel
theorem dX3_crossing_40 : decode cX3_crossing 40 = .ok (.iload_n 1, 1) := by decide +kernel
theorem dX3_crossing_41 : decode cX3_crossing 41 = .ok (.iload_n 2, 1) := by decide +kernel
theorem dX3_crossing_42 : decode cX3_crossing 42 = .ok (.invokevirtual 164, 3) := by decide +kernel
theorem dX3_crossing_45 : decode cX3_crossing 45 = .ok (.ifCond .ne 6, 3) := by decide +kernel
theorem dX3_crossing_48 : decode cX3_crossing 48 = .ok (.bipush (-5), 2) := by decide +kernel
theorem dX3_crossing_50 : decode cX3_crossing 50 = .ok (.ireturn, 1) := by decide +kernel
theorem dX3_crossing_51 : decode cX3_crossing 51 = .ok (.iload_n 3, 1) := by decide +kernel
theorem dX3_crossing_52 : decode cX3_crossing 52 = .ok (.lookupswitch 56 #[(0, 28), (1, 38)], 28) := by decide +kernel
theorem dX3_crossing_80 : decode cX3_crossing 80 = .ok (.aload_n 0, 1) := by decide +kernel
theorem dX3_crossing_81 : decode cX3_crossing 81 = .ok (.getfield 10, 3) := by decide +kernel
theorem dX3_crossing_84 : decode cX3_crossing 84 = .ok (.iload_n 1, 1) := by decide +kernel
theorem dX3_crossing_85 : decode cX3_crossing 85 = .ok (.iload_n 2, 1) := by decide +kernel
theorem dX3_crossing_86 : decode cX3_crossing 86 = .ok (.invokevirtual 167, 3) := by decide +kernel
theorem dX3_crossing_89 : decode cX3_crossing 89 = .ok (.ireturn, 1) := by decide +kernel
theorem dX3_crossing_90 : decode cX3_crossing 90 = .ok (.aload_n 0, 1) := by decide +kernel
theorem dX3_crossing_91 : decode cX3_crossing 91 = .ok (.getfield 10, 3) := by decide +kernel
theorem dX3_crossing_94 : decode cX3_crossing 94 = .ok (.iload_n 1, 1) := by decide +kernel
theorem dX3_crossing_95 : decode cX3_crossing 95 = .ok (.aload_n 0, 1) := by decide +kernel
theorem dX3_crossing_96 : decode cX3_crossing 96 = .ok (.getfield 10, 3) := by decide +kernel
theorem dX3_crossing_99 : decode cX3_crossing 99 = .ok (.iload_n 1, 1) := by decide +kernel
theorem dX3_crossing_100 : decode cX3_crossing 100 = .ok (.invokevirtual 87, 3) := by decide +kernel
theorem dX3_crossing_103 : decode cX3_crossing 103 = .ok (.iload_n 2, 1) := by decide +kernel
theorem dX3_crossing_104 : decode cX3_crossing 104 = .ok (.invokevirtual 170, 3) := by decide +kernel
theorem dX3_crossing_107 : decode cX3_crossing 107 = .ok (.ireturn, 1) := by decide +kernel
theorem dX3_crossing_108 : decode cX3_crossing 108 = .ok (.aload_n 0, 1) := by decide +kernel
theorem dX3_crossing_109 : decode cX3_crossing 109 = .ok (.getfield 10, 3) := by decide +kernel
theorem dX3_crossing_112 : decode cX3_crossing 112 = .ok (.iload_n 1, 1) := by decide +kernel
theorem dX3_crossing_113 : decode cX3_crossing 113 = .ok (.aload_n 0, 1) := by decide +kernel
theorem dX3_crossing_114 : decode cX3_crossing 114 = .ok (.getfield 10, 3) := by decide +kernel
theorem dX3_crossing_117 : decode cX3_crossing 117 = .ok (.iload_n 1, 1) := by decide +kernel
theorem dX3_crossing_118 : decode cX3_crossing 118 = .ok (.invokevirtual 87, 3) := by decide +kernel
theorem dX3_crossing_121 : decode cX3_crossing 121 = .ok (.iload_n 2, 1) := by decide +kernel
theorem dX3_crossing_122 : decode cX3_crossing 122 = .ok (.invokevirtual 174, 3) := by decide +kernel
theorem dX3_crossing_125 : decode cX3_crossing 125 = .ok (.ifCond .eq 7, 3) := by decide +kernel
theorem dX3_crossing_128 : decode cX3_crossing 128 = .ok (.iconst 1, 1) := by decide +kernel
theorem dX3_crossing_129 : decode cX3_crossing 129 = .ok (.goto 4, 3) := by decide +kernel
theorem dX3_crossing_132 : decode cX3_crossing 132 = .ok (.iconst 0, 1) := by decide +kernel
theorem dX3_crossing_133 : decode cX3_crossing 133 = .ok (.ireturn, 1) := by decide +kernel
set_option maxRecDepth 20000 in
theorem ggX3_lead_X3_isLead : GoodIn wsX3_lead wsX3_isLead := goodIn_r _ [5] (by decide +kernel) (by decide +kernel)
set_option maxRecDepth 20000 in
theorem gX3_lead_X3_isLead : GoodIn wsX3_lead (va_wsS RX3 44 yX3_isLead wsX3_isLead) := goodIn_app (goodIn_of _ (by decide +kernel)) ggX3_lead_X3_isLead
set_option maxRecDepth 20000 in
theorem ggX3_lead_X0_xOfLead : GoodIn wsX3_lead wsX0_xOfLead := goodIn_r _ [10, 11, 3, 4, 5, 29, 30, 31, 32, 33, 34, 35, 36, 37, 38, 39, 40] (by decide +kernel) (by decide +kernel)
set_option maxRecDepth 20000 in
theorem gX3_lead_X0_xOfLead : GoodIn wsX3_lead (wsV RX3 101 RX0 yX0_xOfLead wsX0_xOfLead) := goodIn_app (goodIn_of _ (by decide +kernel)) ggX3_lead_X0_xOfLead
set_option maxRecDepth 20000 in
theorem ggX3_lead_X0_padAtLead : GoodIn wsX3_lead wsX0_padAtLead := goodIn_r _ [15, 16, 17, 18, 19, 9, 20, 21, 4, 22, 29, 30, 31, 32, 33, 34, 35, 36, 37, 38, 39, 40] (by decide +kernel) (by decide +kernel)
set_option maxRecDepth 20000 in
theorem gX3_lead_X0_padAtLead : GoodIn wsX3_lead (wsV RX3 98 RX0 yX0_padAtLead wsX0_padAtLead) := goodIn_app (goodIn_of _ (by decide +kernel)) ggX3_lead_X0_padAtLead
theorem dX3_lead_0 : decode cX3_lead 0 = .ok (.iload_n 1, 1) := by decide +kernel
theorem dX3_lead_1 : decode cX3_lead 1 = .ok (.invokestatic 44, 3) := by decide +kernel
theorem dX3_lead_4 : decode cX3_lead 4 = .ok (.ifCond .ne 5, 3) := by decide +kernel
theorem dX3_lead_7 : decode cX3_lead 7 = .ok (.iconst (-1), 1) := by decide +kernel
theorem dX3_lead_8 : decode cX3_lead 8 = .ok (.ireturn, 1) := by decide +kernel
theorem dX3_lead_9 : decode cX3_lead 9 = .ok (.iload_n 2, 1) := by decide +kernel
theorem dX3_lead_10 : decode cX3_lead 10 = .ok (.lookupswitch 44 #[(0, 26), (1, 35)], 26) := by decide +kernel
theorem dX3_lead_36 : decode cX3_lead 36 = .ok (.aload_n 0, 1) := by decide +kernel
theorem dX3_lead_37 : decode cX3_lead 37 = .ok (.getfield 10, 3) := by decide +kernel
theorem dX3_lead_40 : decode cX3_lead 40 = .ok (.iload_n 1, 1) := by decide +kernel
theorem dX3_lead_41 : decode cX3_lead 41 = .ok (.invokevirtual 101, 3) := by decide +kernel
theorem dX3_lead_44 : decode cX3_lead 44 = .ok (.ireturn, 1) := by decide +kernel
theorem dX3_lead_45 : decode cX3_lead 45 = .ok (.aload_n 0, 1) := by decide +kernel
theorem dX3_lead_46 : decode cX3_lead 46 = .ok (.getfield 10, 3) := by decide +kernel
theorem dX3_lead_49 : decode cX3_lead 49 = .ok (.iload_n 1, 1) := by decide +kernel
theorem dX3_lead_50 : decode cX3_lead 50 = .ok (.invokevirtual 98, 3) := by decide +kernel
theorem dX3_lead_53 : decode cX3_lead 53 = .ok (.ireturn, 1) := by decide +kernel
theorem dX3_lead_54 : decode cX3_lead 54 = .ok (.bipush (-2), 2) := by decide +kernel
theorem dX3_lead_56 : decode cX3_lead 56 = .ok (.ireturn, 1) := by decide +kernel
set_option maxRecDepth 20000 in
theorem ggX3_bestHeight_X0_hasWire : GoodIn wsX3_bestHeight wsX0_hasWire := goodIn_r _ [6, 7, 8, 9, 10, 66, 67, 68, 69, 70, 71, 72, 73, 74, 75, 76, 77] (by decide +kernel) (by decide +kernel)
set_option maxRecDepth 20000 in
theorem gX3_bestHeight_X0_hasWire : GoodIn wsX3_bestHeight (wsV RX3 80 RX0 yX0_hasWire wsX0_hasWire) := goodIn_app (goodIn_of _ (by decide +kernel)) ggX3_bestHeight_X0_hasWire
set_option maxRecDepth 20000 in
theorem ggX3_bestHeight_X3_isWithin : GoodIn wsX3_bestHeight wsX3_isWithin := goodIn_r _ [13] (by decide +kernel) (by decide +kernel)
set_option maxRecDepth 20000 in
theorem gX3_bestHeight_X3_isWithin : GoodIn wsX3_bestHeight (va_wsS RX3 94 yX3_isWithin wsX3_isWithin) := goodIn_app (goodIn_of _ (by decide +kernel)) ggX3_bestHeight_X3_isWithin
set_option maxRecDepth 20000 in
theorem ggX3_bestHeight_X0_clearestHeight : GoodIn wsX3_bestHeight wsX0_clearestHeight := goodIn_r _ [17, 18, 19, 20, 5, 21, 22, 23, 24, 25, 26, 27, 28, 29, 30, 31, 3, 4, 6, 7, 8, 9, 10, 32, 33, 34, 35, 36, 37, 38, 39, 40, 41, 42, 43, 44, 45, 46, 47, 48, 49, 50, 51, 52, 53, 54, 55, 56, 57, 58, 66, 67, 68, 69, 70, 71, 72, 73, 74, 75, 76, 77] (by decide +kernel) (by decide +kernel)
set_option maxRecDepth 20000 in
theorem gX3_bestHeight_X0_clearestHeight : GoodIn wsX3_bestHeight (wsV RX3 177 RX0 yX0_clearestHeight wsX0_clearestHeight) := goodIn_app (goodIn_of _ (by decide +kernel)) ggX3_bestHeight_X0_clearestHeight
set_option maxRecDepth 20000 in
theorem ggX3_bestHeight_X0_shortOnes : GoodIn wsX3_bestHeight wsX0_shortOnes := goodIn_r _ [21, 22, 23, 24, 5, 25, 26, 27, 28, 29, 30, 31, 3, 4, 6, 7, 8, 9, 10, 32, 33, 34, 35, 36, 37, 38, 39, 40, 41, 42, 43, 44, 45, 46, 47, 48, 49, 50, 51, 52, 53, 54, 55, 56, 57, 58, 66, 67, 68, 69, 70, 71, 72, 73, 74, 75, 76, 77] (by decide +kernel) (by decide +kernel)
set_option maxRecDepth 20000 in
theorem gX3_bestHeight_X0_shortOnes : GoodIn wsX3_bestHeight (wsV RX3 152 RX0 yX0_shortOnes wsX0_shortOnes) := goodIn_app (goodIn_of _ (by decide +kernel)) ggX3_bestHeight_X0_shortOnes
theorem dX3_bestHeight_0 : decode cX3_bestHeight 0 = .ok (.aload_n 0, 1) := by decide +kernel
theorem dX3_bestHeight_1 : decode cX3_bestHeight 1 = .ok (.getfield 10, 3) := by decide +kernel
theorem dX3_bestHeight_4 : decode cX3_bestHeight 4 = .ok (.iload_n 1, 1) := by decide +kernel
theorem dX3_bestHeight_5 : decode cX3_bestHeight 5 = .ok (.invokevirtual 80, 3) := by decide +kernel
theorem dX3_bestHeight_8 : decode cX3_bestHeight 8 = .ok (.ifCond .ne 5, 3) := by decide +kernel
theorem dX3_bestHeight_11 : decode cX3_bestHeight 11 = .ok (.iconst (-1), 1) := by decide +kernel
theorem dX3_bestHeight_12 : decode cX3_bestHeight 12 = .ok (.ireturn, 1) := by decide +kernel
theorem dX3_bestHeight_13 : decode cX3_bestHeight 13 = .ok (.iload_n 2, 1) := by decide +kernel
theorem dX3_bestHeight_14 : decode cX3_bestHeight 14 = .ok (.iconst 0, 1) := by decide +kernel
theorem dX3_bestHeight_15 : decode cX3_bestHeight 15 = .ok (.iconst 1, 1) := by decide +kernel
theorem dX3_bestHeight_16 : decode cX3_bestHeight 16 = .ok (.invokestatic 94, 3) := by decide +kernel
theorem dX3_bestHeight_19 : decode cX3_bestHeight 19 = .ok (.ifCond .ne 6, 3) := by decide +kernel
theorem dX3_bestHeight_22 : decode cX3_bestHeight 22 = .ok (.bipush (-2), 2) := by decide +kernel
theorem dX3_bestHeight_24 : decode cX3_bestHeight 24 = .ok (.ireturn, 1) := by decide +kernel
theorem dX3_bestHeight_25 : decode cX3_bestHeight 25 = .ok (.aload_n 0, 1) := by decide +kernel
theorem dX3_bestHeight_26 : decode cX3_bestHeight 26 = .ok (.getfield 10, 3) := by decide +kernel
theorem dX3_bestHeight_29 : decode cX3_bestHeight 29 = .ok (.iload_n 1, 1) := by decide +kernel
theorem dX3_bestHeight_30 : decode cX3_bestHeight 30 = .ok (.invokevirtual 177, 3) := by decide +kernel
theorem dX3_bestHeight_33 : decode cX3_bestHeight 33 = .ok (.istore_n 3, 1) := by decide +kernel
theorem dX3_bestHeight_34 : decode cX3_bestHeight 34 = .ok (.iload_n 2, 1) := by decide +kernel
theorem dX3_bestHeight_35 : decode cX3_bestHeight 35 = .ok (.ifCond .ne 7, 3) := by decide +kernel
theorem dX3_bestHeight_38 : decode cX3_bestHeight 38 = .ok (.iload_n 3, 1) := by decide +kernel
theorem dX3_bestHeight_39 : decode cX3_bestHeight 39 = .ok (.goto 12, 3) := by decide +kernel
theorem dX3_bestHeight_42 : decode cX3_bestHeight 42 = .ok (.aload_n 0, 1) := by decide +kernel
theorem dX3_bestHeight_43 : decode cX3_bestHeight 43 = .ok (.getfield 10, 3) := by decide +kernel
theorem dX3_bestHeight_46 : decode cX3_bestHeight 46 = .ok (.iload_n 1, 1) := by decide +kernel
theorem dX3_bestHeight_47 : decode cX3_bestHeight 47 = .ok (.iload_n 3, 1) := by decide +kernel
theorem dX3_bestHeight_48 : decode cX3_bestHeight 48 = .ok (.invokevirtual 152, 3) := by decide +kernel
theorem dX3_bestHeight_51 : decode cX3_bestHeight 51 = .ok (.ireturn, 1) := by decide +kernel
set_option maxRecDepth 20000 in
theorem ggX3_laysLeft_X3_isHeight : GoodIn wsX3_laysLeft wsX3_isHeight := goodIn_r _ [5, 6, 7, 4, 8] (by decide +kernel) (by decide +kernel)
set_option maxRecDepth 20000 in
theorem gX3_laysLeft_X3_isHeight : GoodIn wsX3_laysLeft (va_wsS RX3 47 yX3_isHeight wsX3_isHeight) := goodIn_app (goodIn_of _ (by decide +kernel)) ggX3_laysLeft_X3_isHeight
set_option maxRecDepth 20000 in
theorem ggX3_laysLeft_X0_laysUntilStop : GoodIn wsX3_laysLeft wsX0_laysUntilStop := goodIn_r _ [13, 14, 15, 16, 17, 18, 12, 19, 20, 21, 22, 29, 30, 31, 32, 33, 34, 35, 36, 37, 38, 39, 40] (by decide +kernel) (by decide +kernel)
set_option maxRecDepth 20000 in
theorem gX3_laysLeft_X0_laysUntilStop : GoodIn wsX3_laysLeft (wsV RX3 180 RX0 yX0_laysUntilStop wsX0_laysUntilStop) := goodIn_app (goodIn_of _ (by decide +kernel)) ggX3_laysLeft_X0_laysUntilStop
theorem dX3_laysLeft_0 : decode cX3_laysLeft 0 = .ok (.iload_n 1, 1) := by decide +kernel
theorem dX3_laysLeft_1 : decode cX3_laysLeft 1 = .ok (.invokestatic 47, 3) := by decide +kernel
theorem dX3_laysLeft_4 : decode cX3_laysLeft 4 = .ok (.ifCond .ne 6, 3) := by decide +kernel
theorem dX3_laysLeft_7 : decode cX3_laysLeft 7 = .ok (.bipush (-2), 2) := by decide +kernel
theorem dX3_laysLeft_9 : decode cX3_laysLeft 9 = .ok (.ireturn, 1) := by decide +kernel
theorem dX3_laysLeft_10 : decode cX3_laysLeft 10 = .ok (.aload_n 0, 1) := by decide +kernel
theorem dX3_laysLeft_11 : decode cX3_laysLeft 11 = .ok (.getfield 10, 3) := by decide +kernel
theorem dX3_laysLeft_14 : decode cX3_laysLeft 14 = .ok (.iload_n 1, 1) := by decide +kernel
theorem dX3_laysLeft_15 : decode cX3_laysLeft 15 = .ok (.invokevirtual 180, 3) := by decide +kernel
theorem dX3_laysLeft_18 : decode cX3_laysLeft 18 = .ok (.ireturn, 1) := by decide +kernel
set_option maxRecDepth 20000 in
theorem ggX3_count_X0_wires : GoodIn wsX3_count wsX0_wires := goodIn_r _ [8, 9, 10, 11, 7, 12, 13, 14, 15, 16, 92, 93, 94, 95, 96, 97, 98, 99, 100, 101, 102, 103] (by decide +kernel) (by decide +kernel)
set_option maxRecDepth 20000 in
theorem gX3_count_X0_wires : GoodIn wsX3_count (wsV RX3 77 RX0 yX0_wires wsX0_wires) := goodIn_app (goodIn_of _ (by decide +kernel)) ggX3_count_X0_wires
set_option maxRecDepth 20000 in
theorem ggX3_count_X0_allCrossings : GoodIn wsX3_count wsX0_allCrossings := goodIn_r _ [20, 21, 22, 23, 7, 24, 9, 10, 11, 12, 13, 14, 15, 16, 25, 26, 27, 28, 29, 92, 93, 94, 95, 96, 97, 98, 99, 100, 101, 102, 103] (by decide +kernel) (by decide +kernel)
set_option maxRecDepth 20000 in
theorem gX3_count_X0_allCrossings : GoodIn wsX3_count (wsV RX3 186 RX0 yX0_allCrossings wsX0_allCrossings) := goodIn_app (goodIn_of _ (by decide +kernel)) ggX3_count_X0_allCrossings
set_option maxRecDepth 20000 in
theorem ggX3_count_X0_allShortOnes : GoodIn wsX3_count wsX0_allShortOnes := goodIn_r _ [33, 34, 35, 36, 7, 37, 38, 14, 15, 16, 39, 40, 41, 42, 43, 21, 22, 23, 24, 9, 10, 11, 12, 13, 25, 26, 27, 28, 29, 44, 45, 46, 47, 48, 49, 50, 51, 52, 53, 54, 55, 56, 57, 58, 59, 60, 92, 93, 94, 95, 96, 97, 98, 99, 100, 101, 102, 103] (by decide +kernel) (by decide +kernel)
set_option maxRecDepth 20000 in
theorem gX3_count_X0_allShortOnes : GoodIn wsX3_count (wsV RX3 189 RX0 yX0_allShortOnes wsX0_allShortOnes) := goodIn_app (goodIn_of _ (by decide +kernel)) ggX3_count_X0_allShortOnes
set_option maxRecDepth 20000 in
theorem ggX3_count_X0_weakestPad : GoodIn wsX3_count wsX0_weakestPad := goodIn_r _ [64, 65, 9, 10, 11, 7, 12, 13, 14, 15, 16, 66, 67, 68, 69, 92, 93, 94, 95, 96, 97, 98, 99, 100, 101, 102, 103] (by decide +kernel) (by decide +kernel)
set_option maxRecDepth 20000 in
theorem gX3_count_X0_weakestPad : GoodIn wsX3_count (wsV RX3 195 RX0 yX0_weakestPad wsX0_weakestPad) := goodIn_app (goodIn_of _ (by decide +kernel)) ggX3_count_X0_weakestPad
set_option maxRecDepth 20000 in
theorem ggX3_count_X0_allStrengths : GoodIn wsX3_count wsX0_allStrengths := goodIn_r _ [73, 65, 9, 10, 11, 7, 12, 13, 14, 15, 16, 92, 93, 94, 95, 96, 97, 98, 99, 100, 101, 102, 103] (by decide +kernel) (by decide +kernel)
set_option maxRecDepth 20000 in
theorem gX3_count_X0_allStrengths : GoodIn wsX3_count (wsV RX3 198 RX0 yX0_allStrengths wsX0_allStrengths) := goodIn_app (goodIn_of _ (by decide +kernel)) ggX3_count_X0_allStrengths
set_option maxRecDepth 20000 in
theorem ggX3_count_X1_states : GoodIn wsX3_count wsX1_states := goodIn_r _ [78, 79, 104, 105] (by decide +kernel) (by decide +kernel)
set_option maxRecDepth 20000 in
theorem gX3_count_X1_states : GoodIn wsX3_count (wsV RX3 140 RX1 yX1_states wsX1_states) := goodIn_app (goodIn_of _ (by decide +kernel)) ggX3_count_X1_states
set_option maxRecDepth 20000 in
theorem ggX3_count_X2_length : GoodIn wsX3_count wsX2_length := goodIn_r _ [84, 85, 106, 107, 108, 109, 110, 111, 112] (by decide +kernel) (by decide +kernel)
set_option maxRecDepth 20000 in
theorem gX3_count_X2_length : GoodIn wsX3_count (wsV RX3 134 RX2 yX2_length wsX2_length) := goodIn_app (goodIn_of _ (by decide +kernel)) ggX3_count_X2_length
theorem dX3_count_0 : decode cX3_count 0 = .ok (.iload_n 1, 1) := by decide +kernel
theorem dX3_count_1 : decode cX3_count 1 = .ok (.tableswitch 191 0 13 #[71, 79, 87, 95, 103, 111, 127, 135, 143, 151, 159, 167, 175, 183], 71) := by decide +kernel
theorem dX3_count_72 : decode cX3_count 72 = .ok (.aload_n 0, 1) := by decide +kernel
theorem dX3_count_73 : decode cX3_count 73 = .ok (.getfield 10, 3) := by decide +kernel
theorem dX3_count_76 : decode cX3_count 76 = .ok (.invokevirtual 77, 3) := by decide +kernel
theorem dX3_count_79 : decode cX3_count 79 = .ok (.ireturn, 1) := by decide +kernel
theorem dX3_count_80 : decode cX3_count 80 = .ok (.aload_n 0, 1) := by decide +kernel
theorem dX3_count_81 : decode cX3_count 81 = .ok (.getfield 10, 3) := by decide +kernel
theorem dX3_count_84 : decode cX3_count 84 = .ok (.getfield 183, 3) := by decide +kernel
theorem dX3_count_87 : decode cX3_count 87 = .ok (.ireturn, 1) := by decide +kernel
theorem dX3_count_88 : decode cX3_count 88 = .ok (.aload_n 0, 1) := by decide +kernel
theorem dX3_count_89 : decode cX3_count 89 = .ok (.getfield 10, 3) := by decide +kernel
theorem dX3_count_92 : decode cX3_count 92 = .ok (.invokevirtual 186, 3) := by decide +kernel
theorem dX3_count_95 : decode cX3_count 95 = .ok (.ireturn, 1) := by decide +kernel
theorem dX3_count_96 : decode cX3_count 96 = .ok (.aload_n 0, 1) := by decide +kernel
theorem dX3_count_97 : decode cX3_count 97 = .ok (.getfield 10, 3) := by decide +kernel
theorem dX3_count_100 : decode cX3_count 100 = .ok (.invokevirtual 189, 3) := by decide +kernel
theorem dX3_count_103 : decode cX3_count 103 = .ok (.ireturn, 1) := by decide +kernel
theorem dX3_count_104 : decode cX3_count 104 = .ok (.aload_n 0, 1) := by decide +kernel
theorem dX3_count_105 : decode cX3_count 105 = .ok (.getfield 10, 3) := by decide +kernel
theorem dX3_count_108 : decode cX3_count 108 = .ok (.getfield 111, 3) := by decide +kernel
theorem dX3_count_111 : decode cX3_count 111 = .ok (.ireturn, 1) := by decide +kernel
theorem dX3_count_112 : decode cX3_count 112 = .ok (.aload_n 0, 1) := by decide +kernel
theorem dX3_count_113 : decode cX3_count 113 = .ok (.getfield 10, 3) := by decide +kernel
theorem dX3_count_116 : decode cX3_count 116 = .ok (.getfield 117, 3) := by decide +kernel
theorem dX3_count_119 : decode cX3_count 119 = .ok (.ifCond .eq 7, 3) := by decide +kernel
theorem dX3_count_122 : decode cX3_count 122 = .ok (.iconst 1, 1) := by decide +kernel
theorem dX3_count_123 : decode cX3_count 123 = .ok (.goto 4, 3) := by decide +kernel
theorem dX3_count_126 : decode cX3_count 126 = .ok (.iconst 0, 1) := by decide +kernel
theorem dX3_count_127 : decode cX3_count 127 = .ok (.ireturn, 1) := by decide +kernel
theorem dX3_count_128 : decode cX3_count 128 = .ok (.aload_n 0, 1) := by decide +kernel
theorem dX3_count_129 : decode cX3_count 129 = .ok (.getfield 10, 3) := by decide +kernel
theorem dX3_count_132 : decode cX3_count 132 = .ok (.getfield 120, 3) := by decide +kernel
theorem dX3_count_135 : decode cX3_count 135 = .ok (.ireturn, 1) := by decide +kernel
theorem dX3_count_136 : decode cX3_count 136 = .ok (.aload_n 0, 1) := by decide +kernel
theorem dX3_count_137 : decode cX3_count 137 = .ok (.getfield 10, 3) := by decide +kernel
theorem dX3_count_140 : decode cX3_count 140 = .ok (.getfield 107, 3) := by decide +kernel
theorem dX3_count_143 : decode cX3_count 143 = .ok (.ireturn, 1) := by decide +kernel
theorem dX3_count_144 : decode cX3_count 144 = .ok (.aload_n 0, 1) := by decide +kernel
theorem dX3_count_145 : decode cX3_count 145 = .ok (.getfield 10, 3) := by decide +kernel
theorem dX3_count_148 : decode cX3_count 148 = .ok (.getfield 192, 3) := by decide +kernel
theorem dX3_count_151 : decode cX3_count 151 = .ok (.ireturn, 1) := by decide +kernel
theorem dX3_count_152 : decode cX3_count 152 = .ok (.aload_n 0, 1) := by decide +kernel
theorem dX3_count_153 : decode cX3_count 153 = .ok (.getfield 10, 3) := by decide +kernel
theorem dX3_count_156 : decode cX3_count 156 = .ok (.invokevirtual 195, 3) := by decide +kernel
theorem dX3_count_159 : decode cX3_count 159 = .ok (.ireturn, 1) := by decide +kernel
theorem dX3_count_160 : decode cX3_count 160 = .ok (.aload_n 0, 1) := by decide +kernel
theorem dX3_count_161 : decode cX3_count 161 = .ok (.getfield 10, 3) := by decide +kernel
theorem dX3_count_164 : decode cX3_count 164 = .ok (.invokevirtual 198, 3) := by decide +kernel
theorem dX3_count_167 : decode cX3_count 167 = .ok (.ireturn, 1) := by decide +kernel
theorem dX3_count_168 : decode cX3_count 168 = .ok (.aload_n 0, 1) := by decide +kernel
theorem dX3_count_169 : decode cX3_count 169 = .ok (.getfield 10, 3) := by decide +kernel
theorem dX3_count_172 : decode cX3_count 172 = .ok (.getfield 114, 3) := by decide +kernel
theorem dX3_count_175 : decode cX3_count 175 = .ok (.ireturn, 1) := by decide +kernel
theorem dX3_count_176 : decode cX3_count 176 = .ok (.aload_n 0, 1) := by decide +kernel
theorem dX3_count_177 : decode cX3_count 177 = .ok (.getfield 29, 3) := by decide +kernel
theorem dX3_count_180 : decode cX3_count 180 = .ok (.invokevirtual 140, 3) := by decide +kernel
theorem dX3_count_183 : decode cX3_count 183 = .ok (.ireturn, 1) := by decide +kernel
theorem dX3_count_184 : decode cX3_count 184 = .ok (.aload_n 0, 1) := by decide +kernel
theorem dX3_count_185 : decode cX3_count 185 = .ok (.getfield 36, 3) := by decide +kernel
theorem dX3_count_188 : decode cX3_count 188 = .ok (.invokevirtual 134, 3) := by decide +kernel
theorem dX3_count_191 : decode cX3_count 191 = .ok (.ireturn, 1) := by decide +kernel
theorem dX3_count_192 : decode cX3_count 192 = .ok (.bipush (-2), 2) := by decide +kernel
theorem dX3_count_194 : decode cX3_count 194 = .ok (.ireturn, 1) := by decide +kernel
theorem dX3_isWithin_0 : decode cX3_isWithin 0 = .ok (.iload_n 0, 1) := by decide +kernel
theorem dX3_isWithin_1 : decode cX3_isWithin 1 = .ok (.iload_n 1, 1) := by decide +kernel
theorem dX3_isWithin_2 : decode cX3_isWithin 2 = .ok (.if_icmp .lt 12, 3) := by decide +kernel
theorem dX3_isWithin_5 : decode cX3_isWithin 5 = .ok (.iload_n 0, 1) := by decide +kernel
theorem dX3_isWithin_6 : decode cX3_isWithin 6 = .ok (.iload_n 2, 1) := by decide +kernel
theorem dX3_isWithin_7 : decode cX3_isWithin 7 = .ok (.if_icmp .gt 7, 3) := by decide +kernel
theorem dX3_isWithin_10 : decode cX3_isWithin 10 = .ok (.iconst 1, 1) := by decide +kernel
theorem dX3_isWithin_11 : decode cX3_isWithin 11 = .ok (.goto 4, 3) := by decide +kernel
theorem dX3_isWithin_14 : decode cX3_isWithin 14 = .ok (.iconst 0, 1) := by decide +kernel
theorem dX3_isWithin_15 : decode cX3_isWithin 15 = .ok (.ireturn, 1) := by decide +kernel
theorem dX3_isPad_0 : decode cX3_isPad 0 = .ok (.iload_n 0, 1) := by decide +kernel
theorem dX3_isPad_1 : decode cX3_isPad 1 = .ok (.ifCond .lt 13, 3) := by decide +kernel
theorem dX3_isPad_4 : decode cX3_isPad 4 = .ok (.iload_n 0, 1) := by decide +kernel
theorem dX3_isPad_5 : decode cX3_isPad 5 = .ok (.bipush 12, 2) := by decide +kernel
theorem dX3_isPad_7 : decode cX3_isPad 7 = .ok (.if_icmp .ge 7, 3) := by decide +kernel
theorem dX3_isPad_10 : decode cX3_isPad 10 = .ok (.iconst 1, 1) := by decide +kernel
theorem dX3_isPad_11 : decode cX3_isPad 11 = .ok (.goto 4, 3) := by decide +kernel
theorem dX3_isPad_14 : decode cX3_isPad 14 = .ok (.iconst 0, 1) := by decide +kernel
theorem dX3_isPad_15 : decode cX3_isPad 15 = .ok (.ireturn, 1) := by decide +kernel
theorem dX3_isLead_0 : decode cX3_isLead 0 = .ok (.iload_n 0, 1) := by decide +kernel
theorem dX3_isLead_1 : decode cX3_isLead 1 = .ok (.ifCond .lt 13, 3) := by decide +kernel
theorem dX3_isLead_4 : decode cX3_isLead 4 = .ok (.iload_n 0, 1) := by decide +kernel
theorem dX3_isLead_5 : decode cX3_isLead 5 = .ok (.bipush 16, 2) := by decide +kernel
theorem dX3_isLead_7 : decode cX3_isLead 7 = .ok (.if_icmp .ge 7, 3) := by decide +kernel
theorem dX3_isLead_10 : decode cX3_isLead 10 = .ok (.iconst 1, 1) := by decide +kernel
theorem dX3_isLead_11 : decode cX3_isLead 11 = .ok (.goto 4, 3) := by decide +kernel
theorem dX3_isLead_14 : decode cX3_isLead 14 = .ok (.iconst 0, 1) := by decide +kernel
theorem dX3_isLead_15 : decode cX3_isLead 15 = .ok (.ireturn, 1) := by decide +kernel
set_option maxRecDepth 20000 in
theorem ggX3_isHeight_X3_isWithin : GoodIn wsX3_isHeight wsX3_isWithin := goodIn_r _ [4] (by decide +kernel) (by decide +kernel)
set_option maxRecDepth 20000 in
theorem gX3_isHeight_X3_isWithin : GoodIn wsX3_isHeight (va_wsS RX3 94 yX3_isWithin wsX3_isWithin) := goodIn_app (goodIn_of _ (by decide +kernel)) ggX3_isHeight_X3_isWithin
theorem dX3_isHeight_0 : decode cX3_isHeight 0 = .ok (.iload_n 0, 1) := by decide +kernel
theorem dX3_isHeight_1 : decode cX3_isHeight 1 = .ok (.bipush 10, 2) := by decide +kernel
theorem dX3_isHeight_3 : decode cX3_isHeight 3 = .ok (.sipush 200, 3) := by decide +kernel
theorem dX3_isHeight_6 : decode cX3_isHeight 6 = .ok (.invokestatic 94, 3) := by decide +kernel
theorem dX3_isHeight_9 : decode cX3_isHeight 9 = .ok (.ireturn, 1) := by decide +kernel
theorem dX3_padX_0 : decode cX3_padX 0 = .ok (.bipush 100, 2) := by decide +kernel
theorem dX3_padX_2 : decode cX3_padX 2 = .ok (.bipush 20, 2) := by decide +kernel
theorem dX3_padX_4 : decode cX3_padX 4 = .ok (.iload_n 0, 1) := by decide +kernel
theorem dX3_padX_5 : decode cX3_padX 5 = .ok (.imul, 1) := by decide +kernel
theorem dX3_padX_6 : decode cX3_padX 6 = .ok (.iadd, 1) := by decide +kernel
theorem dX3_padX_7 : decode cX3_padX 7 = .ok (.ireturn, 1) := by decide +kernel
theorem dX3_loopAt_0 : decode cX3_loopAt 0 = .ok (.iload_n 0, 1) := by decide +kernel
theorem dX3_loopAt_1 : decode cX3_loopAt 1 = .ok (.iload_n 1, 1) := by decide +kernel
theorem dX3_loopAt_2 : decode cX3_loopAt 2 = .ok (.imul, 1) := by decide +kernel
theorem dX3_loopAt_3 : decode cX3_loopAt 3 = .ok (.sipush 200, 3) := by decide +kernel
theorem dX3_loopAt_6 : decode cX3_loopAt 6 = .ok (.iload_n 1, 1) := by decide +kernel
theorem dX3_loopAt_7 : decode cX3_loopAt 7 = .ok (.isub, 1) := by decide +kernel
theorem dX3_loopAt_8 : decode cX3_loopAt 8 = .ok (.imul, 1) := by decide +kernel
theorem dX3_loopAt_9 : decode cX3_loopAt 9 = .ok (.iconst 4, 1) := by decide +kernel
theorem dX3_loopAt_10 : decode cX3_loopAt 10 = .ok (.imul, 1) := by decide +kernel
theorem dX3_loopAt_11 : decode cX3_loopAt 11 = .ok (.ldc 201, 2) := by decide +kernel
theorem dX3_loopAt_13 : decode cX3_loopAt 13 = .ok (.idiv, 1) := by decide +kernel
theorem dX3_loopAt_14 : decode cX3_loopAt 14 = .ok (.ireturn, 1) := by decide +kernel
theorem dJ9_abs_0f7a4_0 : decode cJ9_abs_0f7a4 0 = .ok (.iload_n 0, 1) := by decide +kernel
theorem dJ9_abs_0f7a4_1 : decode cJ9_abs_0f7a4 1 = .ok (.ifCond .ge 8, 3) := by decide +kernel
theorem dJ9_abs_0f7a4_4 : decode cJ9_abs_0f7a4 4 = .ok (.iload_n 0, 1) := by decide +kernel
theorem dJ9_abs_0f7a4_5 : decode cJ9_abs_0f7a4 5 = .ok (.ineg, 1) := by decide +kernel
theorem dJ9_abs_0f7a4_6 : decode cJ9_abs_0f7a4 6 = .ok (.goto 4, 3) := by decide +kernel
theorem dJ9_abs_0f7a4_9 : decode cJ9_abs_0f7a4 9 = .ok (.iload_n 0, 1) := by decide +kernel
theorem dJ9_abs_0f7a4_10 : decode cJ9_abs_0f7a4 10 = .ok (.ireturn, 1) := by decide +kernel
theorem dJ9_max_7cf53_0 : decode cJ9_max_7cf53 0 = .ok (.iload_n 0, 1) := by decide +kernel
theorem dJ9_max_7cf53_1 : decode cJ9_max_7cf53 1 = .ok (.iload_n 1, 1) := by decide +kernel
theorem dJ9_max_7cf53_2 : decode cJ9_max_7cf53 2 = .ok (.if_icmp .lt 7, 3) := by decide +kernel
theorem dJ9_max_7cf53_5 : decode cJ9_max_7cf53 5 = .ok (.iload_n 0, 1) := by decide +kernel
theorem dJ9_max_7cf53_6 : decode cJ9_max_7cf53 6 = .ok (.goto 4, 3) := by decide +kernel
theorem dJ9_max_7cf53_9 : decode cJ9_max_7cf53 9 = .ok (.iload_n 1, 1) := by decide +kernel
theorem dJ9_max_7cf53_10 : decode cJ9_max_7cf53 10 = .ok (.ireturn, 1) := by decide +kernel
theorem dJ9_min_7cf53_0 : decode cJ9_min_7cf53 0 = .ok (.iload_n 0, 1) := by decide +kernel
theorem dJ9_min_7cf53_1 : decode cJ9_min_7cf53 1 = .ok (.iload_n 1, 1) := by decide +kernel
theorem dJ9_min_7cf53_2 : decode cJ9_min_7cf53 2 = .ok (.if_icmp .gt 7, 3) := by decide +kernel
theorem dJ9_min_7cf53_5 : decode cJ9_min_7cf53 5 = .ok (.iload_n 0, 1) := by decide +kernel
theorem dJ9_min_7cf53_6 : decode cJ9_min_7cf53 6 = .ok (.goto 4, 3) := by decide +kernel
theorem dJ9_min_7cf53_9 : decode cJ9_min_7cf53 9 = .ok (.iload_n 1, 1) := by decide +kernel
theorem dJ9_min_7cf53_10 : decode cJ9_min_7cf53 10 = .ok (.ireturn, 1) := by decide +kernel
theorem dJ7_fill_53178_0 : decode cJ7_fill_53178 0 = .ok (.iconst 0, 1) := by decide +kernel
theorem dJ7_fill_53178_1 : decode cJ7_fill_53178 1 = .ok (.istore_n 2, 1) := by decide +kernel
theorem dJ7_fill_53178_2 : decode cJ7_fill_53178 2 = .ok (.aload_n 0, 1) := by decide +kernel
theorem dJ7_fill_53178_3 : decode cJ7_fill_53178 3 = .ok (.arraylength, 1) := by decide +kernel
theorem dJ7_fill_53178_4 : decode cJ7_fill_53178 4 = .ok (.istore_n 3, 1) := by decide +kernel
theorem dJ7_fill_53178_5 : decode cJ7_fill_53178 5 = .ok (.iload_n 2, 1) := by decide +kernel
theorem dJ7_fill_53178_6 : decode cJ7_fill_53178 6 = .ok (.iload_n 3, 1) := by decide +kernel
theorem dJ7_fill_53178_7 : decode cJ7_fill_53178 7 = .ok (.if_icmp .ge 13, 3) := by decide +kernel
theorem dJ7_fill_53178_10 : decode cJ7_fill_53178 10 = .ok (.aload_n 0, 1) := by decide +kernel
theorem dJ7_fill_53178_11 : decode cJ7_fill_53178 11 = .ok (.iload_n 2, 1) := by decide +kernel
theorem dJ7_fill_53178_12 : decode cJ7_fill_53178 12 = .ok (.iload_n 1, 1) := by decide +kernel
theorem dJ7_fill_53178_13 : decode cJ7_fill_53178 13 = .ok (.iastore, 1) := by decide +kernel
theorem dJ7_fill_53178_14 : decode cJ7_fill_53178 14 = .ok (.iinc 2 1, 3) := by decide +kernel
theorem dJ7_fill_53178_17 : decode cJ7_fill_53178 17 = .ok (.goto (-12), 3) := by decide +kernel
theorem dJ7_fill_53178_20 : decode cJ7_fill_53178 20 = .ok (.return_, 1) := by decide +kernel
theorem dL_part_0 : decode cL_part 0 = .ok (.iload_n 0, 1) := by decide +kernel
theorem dL_part_1 : decode cL_part 1 = .ok (.ldc 7, 2) := by decide +kernel
theorem dL_part_3 : decode cL_part 3 = .ok (.iand, 1) := by decide +kernel
theorem dL_part_4 : decode cL_part 4 = .ok (.iload_n 1, 1) := by decide +kernel
theorem dL_part_5 : decode cL_part 5 = .ok (.irem, 1) := by decide +kernel
theorem dL_part_6 : decode cL_part 6 = .ok (.ireturn, 1) := by decide +kernel
theorem dL_drawn_0 : decode cL_drawn 0 = .ok (.aload_n 0, 1) := by decide +kernel
theorem dL_drawn_1 : decode cL_drawn 1 = .ok (.arraylength, 1) := by decide +kernel
theorem dL_drawn_2 : decode cL_drawn 2 = .ok (.ifCond .ne 13, 3) := by decide +kernel
theorem dL_drawn_5 : decode cL_drawn 5 = .ok (.sipush 7919, 3) := by decide +kernel
theorem dL_drawn_8 : decode cL_drawn 8 = .ok (.iload_n 1, 1) := by decide +kernel
theorem dL_drawn_9 : decode cL_drawn 9 = .ok (.imul, 1) := by decide +kernel
theorem dL_drawn_10 : decode cL_drawn 10 = .ok (.iconst 3, 1) := by decide +kernel
theorem dL_drawn_11 : decode cL_drawn 11 = .ok (.iadd, 1) := by decide +kernel
theorem dL_drawn_12 : decode cL_drawn 12 = .ok (.goto 27, 3) := by decide +kernel
theorem dL_drawn_15 : decode cL_drawn 15 = .ok (.aload_n 0, 1) := by decide +kernel
theorem dL_drawn_16 : decode cL_drawn 16 = .ok (.iload_n 1, 1) := by decide +kernel
theorem dL_drawn_17 : decode cL_drawn 17 = .ok (.aload_n 0, 1) := by decide +kernel
theorem dL_drawn_18 : decode cL_drawn 18 = .ok (.arraylength, 1) := by decide +kernel
theorem dL_drawn_19 : decode cL_drawn 19 = .ok (.irem, 1) := by decide +kernel
theorem dL_drawn_20 : decode cL_drawn 20 = .ok (.iaload, 1) := by decide +kernel
theorem dL_drawn_21 : decode cL_drawn 21 = .ok (.iload_n 1, 1) := by decide +kernel
theorem dL_drawn_22 : decode cL_drawn 22 = .ok (.bipush 7, 2) := by decide +kernel
theorem dL_drawn_24 : decode cL_drawn 24 = .ok (.irem, 1) := by decide +kernel
theorem dL_drawn_25 : decode cL_drawn 25 = .ok (.ishr, 1) := by decide +kernel
theorem dL_drawn_26 : decode cL_drawn 26 = .ok (.iload_n 1, 1) := by decide +kernel
theorem dL_drawn_27 : decode cL_drawn 27 = .ok (.aload_n 0, 1) := by decide +kernel
theorem dL_drawn_28 : decode cL_drawn 28 = .ok (.arraylength, 1) := by decide +kernel
theorem dL_drawn_29 : decode cL_drawn 29 = .ok (.idiv, 1) := by decide +kernel
theorem dL_drawn_30 : decode cL_drawn 30 = .ok (.bipush 31, 2) := by decide +kernel
theorem dL_drawn_32 : decode cL_drawn 32 = .ok (.imul, 1) := by decide +kernel
theorem dL_drawn_33 : decode cL_drawn 33 = .ok (.ixor, 1) := by decide +kernel
theorem dL_drawn_34 : decode cL_drawn 34 = .ok (.iload_n 1, 1) := by decide +kernel
theorem dL_drawn_35 : decode cL_drawn 35 = .ok (.ldc 8, 2) := by decide +kernel
theorem dL_drawn_37 : decode cL_drawn 37 = .ok (.imul, 1) := by decide +kernel
theorem dL_drawn_38 : decode cL_drawn 38 = .ok (.ixor, 1) := by decide +kernel
theorem dL_drawn_39 : decode cL_drawn 39 = .ok (.ireturn, 1) := by decide +kernel
set_option maxRecDepth 20000 in
theorem ggL_seen_X3_count : GoodIn wsL_seen wsX3_count := goodIn_r _ [7, 8, 9, 10, 11, 12, 13, 14, 15, 16, 17, 18, 19, 20, 21, 6, 22, 23, 24, 25, 26, 27, 28, 29, 30, 31, 32, 33, 34, 35, 36, 37, 38, 39, 40, 41, 42, 43, 44, 45, 46, 47, 48, 49, 50, 51, 52, 53, 54, 55, 56, 57, 58, 59, 60, 61, 62, 63, 64, 65, 66, 67, 68, 69, 70, 71, 72, 73, 74, 75, 76, 77, 78, 79, 80, 81, 82, 83, 84, 85, 86, 87, 88, 89, 90, 91, 161, 162, 163, 164, 165, 166, 167, 168, 169, 170, 171, 172, 173, 174, 175, 176, 177, 178, 179, 180, 181, 182, 183, 184, 185, 186, 187] (by decide +kernel) (by decide +kernel)
set_option maxRecDepth 20000 in
theorem gL_seen_X3_count : GoodIn wsL_seen (wsV RL 13 RX3 yX3_count wsX3_count) := goodIn_app (goodIn_of _ (by decide +kernel)) ggL_seen_X3_count
set_option maxRecDepth 20000 in
theorem ggL_seen_X3_wire : GoodIn wsL_seen wsX3_wire := goodIn_r _ [95, 8, 96, 17, 18, 14, 19, 20, 21, 6, 22, 97, 98, 99, 100, 101, 41, 42, 43, 44, 102, 73, 74, 75, 71, 103, 104, 105, 106, 27, 28, 29, 30, 16, 31, 32, 33, 34, 35, 107, 108, 109, 110, 45, 46, 47, 48, 49, 50, 51, 52, 53, 54, 55, 56, 57, 58, 59, 60, 61, 62, 63, 64, 65, 66, 40, 111, 112, 113, 114, 115, 116, 117, 118, 119, 120, 121, 122, 161, 162, 163, 164, 165, 166, 167, 168, 169, 170, 171, 172, 173, 174, 175, 176, 177, 178] (by decide +kernel) (by decide +kernel)
set_option maxRecDepth 20000 in
theorem gL_seen_X3_wire : GoodIn wsL_seen (wsV RL 19 RX3 yX3_wire wsX3_wire) := goodIn_app (goodIn_of _ (by decide +kernel)) ggL_seen_X3_wire
set_option maxRecDepth 20000 in
theorem ggL_seen_X3_lead : GoodIn wsL_seen wsX3_lead := goodIn_r _ [126, 8, 127, 128, 6, 129, 130, 131, 132, 14, 133, 35, 134, 135, 136, 137, 20, 16, 17, 18, 19, 21, 22, 161, 162, 163, 164, 165, 166, 167, 168, 169, 170, 171, 172, 173, 174, 175, 176, 177, 178] (by decide +kernel) (by decide +kernel)
set_option maxRecDepth 20000 in
theorem gL_seen_X3_lead : GoodIn wsL_seen (wsV RL 23 RX3 yX3_lead wsX3_lead) := goodIn_app (goodIn_of _ (by decide +kernel)) ggL_seen_X3_lead
set_option maxRecDepth 20000 in
theorem ggL_seen_X3_laysLeft : GoodIn wsL_seen wsX3_laysLeft := goodIn_r _ [141, 8, 142, 143, 6, 144, 145, 146, 147, 148, 149, 150, 14, 151, 152, 153, 154, 155, 156, 157, 158, 159, 160, 161, 162, 163, 164, 165, 166, 167, 168, 169, 170, 171, 172, 173, 174, 175, 176, 177, 178] (by decide +kernel) (by decide +kernel)
set_option maxRecDepth 20000 in
theorem gL_seen_X3_laysLeft : GoodIn wsL_seen (wsV RL 26 RX3 yX3_laysLeft wsX3_laysLeft) := goodIn_app (goodIn_of _ (by decide +kernel)) ggL_seen_X3_laysLeft
theorem dL_seen_0 : decode cL_seen 0 = .ok (.ldc2_w 9, 3) := by decide +kernel
theorem dL_seen_3 : decode cL_seen 3 = .ok (.lstore_n 1, 1) := by decide +kernel
theorem dL_seen_4 : decode cL_seen 4 = .ok (.iconst 0, 1) := by decide +kernel
theorem dL_seen_5 : decode cL_seen 5 = .ok (.istore_n 3, 1) := by decide +kernel
theorem dL_seen_6 : decode cL_seen 6 = .ok (.iload_n 3, 1) := by decide +kernel
theorem dL_seen_7 : decode cL_seen 7 = .ok (.bipush 12, 2) := by decide +kernel
theorem dL_seen_9 : decode cL_seen 9 = .ok (.if_icmp .ge 22, 3) := by decide +kernel
theorem dL_seen_12 : decode cL_seen 12 = .ok (.ldc2_w 11, 3) := by decide +kernel
theorem dL_seen_15 : decode cL_seen 15 = .ok (.lload_n 1, 1) := by decide +kernel
theorem dL_seen_16 : decode cL_seen 16 = .ok (.lmul, 1) := by decide +kernel
theorem dL_seen_17 : decode cL_seen 17 = .ok (.aload_n 0, 1) := by decide +kernel
theorem dL_seen_18 : decode cL_seen 18 = .ok (.iload_n 3, 1) := by decide +kernel
theorem dL_seen_19 : decode cL_seen 19 = .ok (.invokevirtual 13, 3) := by decide +kernel
theorem dL_seen_22 : decode cL_seen 22 = .ok (.i2l, 1) := by decide +kernel
theorem dL_seen_23 : decode cL_seen 23 = .ok (.ladd, 1) := by decide +kernel
theorem dL_seen_24 : decode cL_seen 24 = .ok (.lstore_n 1, 1) := by decide +kernel
theorem dL_seen_25 : decode cL_seen 25 = .ok (.iinc 3 1, 3) := by decide +kernel
theorem dL_seen_28 : decode cL_seen 28 = .ok (.goto (-22), 3) := by decide +kernel
theorem dL_seen_31 : decode cL_seen 31 = .ok (.iconst 0, 1) := by decide +kernel
theorem dL_seen_32 : decode cL_seen 32 = .ok (.istore_n 3, 1) := by decide +kernel
theorem dL_seen_33 : decode cL_seen 33 = .ok (.iload_n 3, 1) := by decide +kernel
theorem dL_seen_34 : decode cL_seen 34 = .ok (.bipush 84, 2) := by decide +kernel
theorem dL_seen_36 : decode cL_seen 36 = .ok (.if_icmp .ge 29, 3) := by decide +kernel
theorem dL_seen_39 : decode cL_seen 39 = .ok (.ldc2_w 11, 3) := by decide +kernel
theorem dL_seen_42 : decode cL_seen 42 = .ok (.lload_n 1, 1) := by decide +kernel
theorem dL_seen_43 : decode cL_seen 43 = .ok (.lmul, 1) := by decide +kernel
theorem dL_seen_44 : decode cL_seen 44 = .ok (.aload_n 0, 1) := by decide +kernel
theorem dL_seen_45 : decode cL_seen 45 = .ok (.iload_n 3, 1) := by decide +kernel
theorem dL_seen_46 : decode cL_seen 46 = .ok (.bipush 7, 2) := by decide +kernel
theorem dL_seen_48 : decode cL_seen 48 = .ok (.idiv, 1) := by decide +kernel
theorem dL_seen_49 : decode cL_seen 49 = .ok (.iload_n 3, 1) := by decide +kernel
theorem dL_seen_50 : decode cL_seen 50 = .ok (.bipush 7, 2) := by decide +kernel
theorem dL_seen_52 : decode cL_seen 52 = .ok (.irem, 1) := by decide +kernel
theorem dL_seen_53 : decode cL_seen 53 = .ok (.invokevirtual 19, 3) := by decide +kernel
theorem dL_seen_56 : decode cL_seen 56 = .ok (.i2l, 1) := by decide +kernel
theorem dL_seen_57 : decode cL_seen 57 = .ok (.ladd, 1) := by decide +kernel
theorem dL_seen_58 : decode cL_seen 58 = .ok (.lstore_n 1, 1) := by decide +kernel
theorem dL_seen_59 : decode cL_seen 59 = .ok (.iinc 3 1, 3) := by decide +kernel
theorem dL_seen_62 : decode cL_seen 62 = .ok (.goto (-29), 3) := by decide +kernel
theorem dL_seen_65 : decode cL_seen 65 = .ok (.iconst 0, 1) := by decide +kernel
theorem dL_seen_66 : decode cL_seen 66 = .ok (.istore_n 3, 1) := by decide +kernel
theorem dL_seen_67 : decode cL_seen 67 = .ok (.iload_n 3, 1) := by decide +kernel
theorem dL_seen_68 : decode cL_seen 68 = .ok (.bipush 32, 2) := by decide +kernel
theorem dL_seen_70 : decode cL_seen 70 = .ok (.if_icmp .ge 27, 3) := by decide +kernel
theorem dL_seen_73 : decode cL_seen 73 = .ok (.ldc2_w 11, 3) := by decide +kernel
theorem dL_seen_76 : decode cL_seen 76 = .ok (.lload_n 1, 1) := by decide +kernel
theorem dL_seen_77 : decode cL_seen 77 = .ok (.lmul, 1) := by decide +kernel
theorem dL_seen_78 : decode cL_seen 78 = .ok (.aload_n 0, 1) := by decide +kernel
theorem dL_seen_79 : decode cL_seen 79 = .ok (.iload_n 3, 1) := by decide +kernel
theorem dL_seen_80 : decode cL_seen 80 = .ok (.iconst 2, 1) := by decide +kernel
theorem dL_seen_81 : decode cL_seen 81 = .ok (.idiv, 1) := by decide +kernel
theorem dL_seen_82 : decode cL_seen 82 = .ok (.iload_n 3, 1) := by decide +kernel
theorem dL_seen_83 : decode cL_seen 83 = .ok (.iconst 2, 1) := by decide +kernel
theorem dL_seen_84 : decode cL_seen 84 = .ok (.irem, 1) := by decide +kernel
theorem dL_seen_85 : decode cL_seen 85 = .ok (.invokevirtual 23, 3) := by decide +kernel
theorem dL_seen_88 : decode cL_seen 88 = .ok (.i2l, 1) := by decide +kernel
theorem dL_seen_89 : decode cL_seen 89 = .ok (.ladd, 1) := by decide +kernel
theorem dL_seen_90 : decode cL_seen 90 = .ok (.lstore_n 1, 1) := by decide +kernel
theorem dL_seen_91 : decode cL_seen 91 = .ok (.iinc 3 1, 3) := by decide +kernel
theorem dL_seen_94 : decode cL_seen 94 = .ok (.goto (-27), 3) := by decide +kernel
theorem dL_seen_97 : decode cL_seen 97 = .ok (.ldc2_w 11, 3) := by decide +kernel
theorem dL_seen_100 : decode cL_seen 100 = .ok (.lload_n 1, 1) := by decide +kernel
theorem dL_seen_101 : decode cL_seen 101 = .ok (.lmul, 1) := by decide +kernel
theorem dL_seen_102 : decode cL_seen 102 = .ok (.aload_n 0, 1) := by decide +kernel
theorem dL_seen_103 : decode cL_seen 103 = .ok (.bipush 77, 2) := by decide +kernel
theorem dL_seen_105 : decode cL_seen 105 = .ok (.invokevirtual 26, 3) := by decide +kernel
theorem dL_seen_108 : decode cL_seen 108 = .ok (.i2l, 1) := by decide +kernel
theorem dL_seen_109 : decode cL_seen 109 = .ok (.ladd, 1) := by decide +kernel
theorem dL_seen_110 : decode cL_seen 110 = .ok (.lreturn, 1) := by decide +kernel
set_option maxRecDepth 20000 in
theorem ggL_refusesAny_X3_lay : GoodIn wsL_refusesAny wsX3_lay := goodIn_r _ [5, 6, 7, 8, 9, 4, 10, 11, 12, 13, 14, 15, 16, 17, 18, 19, 20, 21, 22, 23, 24, 25, 26, 27, 28, 29, 30, 31, 32, 33, 34, 35, 36, 37, 38, 39, 40, 41, 42, 43, 44, 45, 46, 47, 48, 49, 50, 51, 52, 53, 54, 55, 56, 57, 58, 59, 60, 61, 62, 63, 64, 65, 66, 67, 68, 69, 70, 71, 72, 73, 74, 75, 76, 77, 78, 79, 80, 81, 82, 83, 84, 85, 86, 87, 88, 89, 90, 91, 92, 93, 94, 95, 96, 97, 98, 273, 274, 275, 276, 277, 278, 279, 280, 281, 282, 283, 284, 285, 286, 287, 288, 289, 290, 291, 292] (by decide +kernel) (by decide +kernel)
set_option maxRecDepth 20000 in
theorem gL_refusesAny_X3_lay : GoodIn wsL_refusesAny (wsV RL 29 RX3 yX3_lay wsX3_lay) := goodIn_app (goodIn_of _ (by decide +kernel)) ggL_refusesAny_X3_lay
set_option maxRecDepth 20000 in
theorem ggL_refusesAny_X3_takeOff : GoodIn wsL_refusesAny wsX3_takeOff := goodIn_r _ [102, 6, 7, 103, 28, 29, 23, 30, 31, 9, 4, 10, 36, 37, 38, 39, 40, 41, 42, 43, 44, 45, 46, 47, 48, 49, 50, 18, 19, 51, 52, 53, 54, 55, 56, 57, 58, 59, 60, 61, 62, 63, 64, 26, 65, 25, 66, 67, 95, 96, 97, 98, 104, 105, 106, 107, 273, 274, 275, 276, 277, 278, 279, 280, 281, 282, 283, 284, 285, 286, 287, 288, 289, 290, 291, 292] (by decide +kernel) (by decide +kernel)
set_option maxRecDepth 20000 in
theorem gL_refusesAny_X3_takeOff : GoodIn wsL_refusesAny (wsV RL 35 RX3 yX3_takeOff wsX3_takeOff) := goodIn_app (goodIn_of _ (by decide +kernel)) ggL_refusesAny_X3_takeOff
set_option maxRecDepth 20000 in
theorem ggL_refusesAny_X3_bend : GoodIn wsL_refusesAny wsX3_bend := goodIn_r _ [111, 6, 7, 103, 28, 29, 23, 30, 31, 9, 4, 10, 14, 15, 16, 17, 18, 19, 112, 113, 114, 115, 60, 36, 37, 38, 39, 40, 41, 42, 43, 44, 45, 46, 47, 48, 49, 50, 51, 52, 53, 54, 55, 56, 57, 58, 59, 61, 62, 63, 64, 26, 65, 25, 66, 67, 116, 117, 118, 119, 273, 274, 275, 276, 277, 278, 279, 280, 281, 282, 283, 284, 285, 286, 287, 288, 289, 290, 291, 292] (by decide +kernel) (by decide +kernel)
set_option maxRecDepth 20000 in
theorem gL_refusesAny_X3_bend : GoodIn wsL_refusesAny (wsV RL 38 RX3 yX3_bend wsX3_bend) := goodIn_app (goodIn_of _ (by decide +kernel)) ggL_refusesAny_X3_bend
set_option maxRecDepth 20000 in
theorem ggL_refusesAny_X3_moveLead : GoodIn wsL_refusesAny wsX3_moveLead := goodIn_r _ [123, 6, 7, 11, 12, 4, 13, 17, 18, 19, 124, 33, 34, 23, 35, 31, 27, 28, 29, 30, 9, 10, 125, 86, 87, 88, 55, 36, 37, 38, 39, 40, 41, 42, 43, 44, 45, 46, 47, 48, 49, 50, 51, 52, 53, 54, 56, 57, 58, 59, 60, 61, 62, 63, 64, 26, 65, 25, 66, 67, 126, 127, 128, 129, 273, 274, 275, 276, 277, 278, 279, 280, 281, 282, 283, 284, 285, 286, 287, 288, 289, 290, 291, 292] (by decide +kernel) (by decide +kernel)
set_option maxRecDepth 20000 in
theorem gL_refusesAny_X3_moveLead : GoodIn wsL_refusesAny (wsV RL 41 RX3 yX3_moveLead wsX3_moveLead) := goodIn_app (goodIn_of _ (by decide +kernel)) ggL_refusesAny_X3_moveLead
set_option maxRecDepth 20000 in
theorem ggL_refusesAny_X3_setWidth : GoodIn wsL_refusesAny wsX3_setWidth := goodIn_r _ [133, 6, 7, 17, 18, 4, 19, 36, 37, 38, 39, 40, 41, 42, 43, 44, 45, 46, 47, 48, 49, 50, 51, 52, 53, 23, 54, 55, 56, 57, 58, 59, 31, 60, 61, 62, 63, 64, 26, 65, 25, 66, 67, 273, 274, 275, 276, 277, 278, 279, 280, 281, 282, 283, 284, 285, 286, 287, 288, 289, 290, 291, 292] (by decide +kernel) (by decide +kernel)
set_option maxRecDepth 20000 in
theorem gL_refusesAny_X3_setWidth : GoodIn wsL_refusesAny (wsV RL 44 RX3 yX3_setWidth wsX3_setWidth) := goodIn_app (goodIn_of _ (by decide +kernel)) ggL_refusesAny_X3_setWidth
set_option maxRecDepth 20000 in
theorem ggL_refusesAny_X3_pull : GoodIn wsL_refusesAny wsX3_pull := goodIn_r _ [137, 6, 7, 103, 28, 29, 23, 30, 31, 9, 4, 10, 17, 18, 19, 36, 37, 38, 39, 40, 41, 42, 43, 44, 45, 46, 47, 48, 49, 50, 51, 52, 53, 54, 55, 56, 57, 58, 59, 60, 61, 62, 63, 64, 26, 65, 25, 66, 67, 138, 139, 140, 141, 76, 77, 78, 79, 27, 142, 105, 106, 107, 95, 96, 97, 98, 273, 274, 275, 276, 277, 278, 279, 280, 281, 282, 283, 284, 285, 286, 287, 288, 289, 290, 291, 292] (by decide +kernel) (by decide +kernel)
