set_option maxRecDepth 20000 in
theorem ggX3_keep_X0_copyFrom : GoodIn wsX3_keep wsX0_copyFrom := goodIn_r _ [8, 9, 10, 11, 12, 13, 14, 15, 16, 17, 18, 19, 20, 21, 22, 23, 24, 42, 43, 44, 45, 46, 47, 48, 49, 50, 51, 52, 53] (by decide +kernel) (by decide +kernel)
set_option maxRecDepth 20000 in
theorem gX3_keep_X0_copyFrom : GoodIn wsX3_keep (wsV RX3 70 RX0 yX0_copyFrom wsX0_copyFrom) := goodIn_app (goodIn_of _ (by decide +kernel)) ggX3_keep_X0_copyFrom
set_option maxRecDepth 20000 in
theorem ggX3_keep_X0_wires : GoodIn wsX3_keep wsX0_wires := goodIn_r _ [28, 29, 30, 31, 7, 32, 14, 33, 34, 35, 42, 43, 44, 45, 46, 47, 48, 49, 50, 51, 52, 53] (by decide +kernel) (by decide +kernel)
set_option maxRecDepth 20000 in
theorem gX3_keep_X0_wires : GoodIn wsX3_keep (wsV RX3 77 RX0 yX0_wires wsX0_wires) := goodIn_app (goodIn_of _ (by decide +kernel)) ggX3_keep_X0_wires
theorem dX3_keep_0 : decode cX3_keep 0 = .ok (.aload_n 0, 1) := by decide +kernel
theorem dX3_keep_1 : decode cX3_keep 1 = .ok (.getfield 19, 3) := by decide +kernel
theorem dX3_keep_4 : decode cX3_keep 4 = .ok (.aload_n 0, 1) := by decide +kernel
theorem dX3_keep_5 : decode cX3_keep 5 = .ok (.getfield 10, 3) := by decide +kernel
theorem dX3_keep_8 : decode cX3_keep 8 = .ok (.invokevirtual 70, 3) := by decide +kernel
theorem dX3_keep_11 : decode cX3_keep 11 = .ok (.aload_n 0, 1) := by decide +kernel
theorem dX3_keep_12 : decode cX3_keep 12 = .ok (.iconst 1, 1) := by decide +kernel
theorem dX3_keep_13 : decode cX3_keep 13 = .ok (.putfield 22, 3) := by decide +kernel
theorem dX3_keep_16 : decode cX3_keep 16 = .ok (.aload_n 0, 1) := by decide +kernel
theorem dX3_keep_17 : decode cX3_keep 17 = .ok (.getfield 10, 3) := by decide +kernel
theorem dX3_keep_20 : decode cX3_keep 20 = .ok (.invokevirtual 77, 3) := by decide +kernel
theorem dX3_keep_23 : decode cX3_keep 23 = .ok (.ireturn, 1) := by decide +kernel
set_option maxRecDepth 20000 in
theorem ggX3_restore_X1_record : GoodIn wsX3_restore wsX1_record := goodIn_r _ [9, 10, 11, 12, 13, 8, 14, 15, 16, 17, 18, 19, 20, 21, 22, 23, 24, 25, 26, 27, 28, 29, 30, 31, 32, 33, 34, 35, 36, 37, 38, 39, 40, 41, 42, 43, 61, 62, 63, 64, 65, 66, 67, 68, 69, 70, 71, 72, 73, 74] (by decide +kernel) (by decide +kernel)
set_option maxRecDepth 20000 in
theorem gX3_restore_X1_record : GoodIn wsX3_restore (wsV RX3 54 RX1 yX1_record wsX1_record) := goodIn_app (goodIn_of _ (by decide +kernel)) ggX3_restore_X1_record
set_option maxRecDepth 20000 in
theorem ggX3_restore_X0_copyFrom : GoodIn wsX3_restore wsX0_copyFrom := goodIn_r _ [27, 28, 29, 30, 31, 32, 33, 34, 35, 36, 37, 38, 39, 40, 41, 42, 43, 63, 64, 65, 66, 67, 68, 69, 70, 71, 72, 73, 74] (by decide +kernel) (by decide +kernel)
set_option maxRecDepth 20000 in
theorem gX3_restore_X0_copyFrom : GoodIn wsX3_restore (wsV RX3 70 RX0 yX0_copyFrom wsX0_copyFrom) := goodIn_app (goodIn_of _ (by decide +kernel)) ggX3_restore_X0_copyFrom
set_option maxRecDepth 20000 in
theorem ggX3_restore_X0_wires : GoodIn wsX3_restore wsX0_wires := goodIn_r _ [48, 49, 50, 51, 26, 52, 33, 53, 21, 54, 63, 64, 65, 66, 67, 68, 69, 70, 71, 72, 73, 74] (by decide +kernel) (by decide +kernel)
set_option maxRecDepth 20000 in
theorem gX3_restore_X0_wires : GoodIn wsX3_restore (wsV RX3 77 RX0 yX0_wires wsX0_wires) := goodIn_app (goodIn_of _ (by decide +kernel)) ggX3_restore_X0_wires
theorem dX3_restore_0 : decode cX3_restore 0 = .ok (.aload_n 0, 1) := by decide +kernel
theorem dX3_restore_1 : decode cX3_restore 1 = .ok (.getfield 22, 3) := by decide +kernel
theorem dX3_restore_4 : decode cX3_restore 4 = .ok (.ifCond .ne 6, 3) := by decide +kernel
theorem dX3_restore_7 : decode cX3_restore 7 = .ok (.bipush (-5), 2) := by decide +kernel
theorem dX3_restore_9 : decode cX3_restore 9 = .ok (.ireturn, 1) := by decide +kernel
theorem dX3_restore_10 : decode cX3_restore 10 = .ok (.aload_n 0, 1) := by decide +kernel
theorem dX3_restore_11 : decode cX3_restore 11 = .ok (.getfield 29, 3) := by decide +kernel
theorem dX3_restore_14 : decode cX3_restore 14 = .ok (.aload_n 0, 1) := by decide +kernel
theorem dX3_restore_15 : decode cX3_restore 15 = .ok (.getfield 10, 3) := by decide +kernel
theorem dX3_restore_18 : decode cX3_restore 18 = .ok (.invokevirtual 54, 3) := by decide +kernel
theorem dX3_restore_21 : decode cX3_restore 21 = .ok (.aload_n 0, 1) := by decide +kernel
theorem dX3_restore_22 : decode cX3_restore 22 = .ok (.getfield 10, 3) := by decide +kernel
theorem dX3_restore_25 : decode cX3_restore 25 = .ok (.aload_n 0, 1) := by decide +kernel
theorem dX3_restore_26 : decode cX3_restore 26 = .ok (.getfield 19, 3) := by decide +kernel
theorem dX3_restore_29 : decode cX3_restore 29 = .ok (.invokevirtual 70, 3) := by decide +kernel
theorem dX3_restore_32 : decode cX3_restore 32 = .ok (.aload_n 0, 1) := by decide +kernel
theorem dX3_restore_33 : decode cX3_restore 33 = .ok (.getfield 10, 3) := by decide +kernel
theorem dX3_restore_36 : decode cX3_restore 36 = .ok (.invokevirtual 77, 3) := by decide +kernel
theorem dX3_restore_39 : decode cX3_restore 39 = .ok (.ireturn, 1) := by decide +kernel
set_option maxRecDepth 20000 in
theorem ggX3_wire_X0_hasWire : GoodIn wsX3_wire wsX0_hasWire := goodIn_r _ [6, 7, 8, 9, 10, 84, 85, 86, 87, 88, 89, 90, 91, 92, 93, 94, 95] (by decide +kernel) (by decide +kernel)
set_option maxRecDepth 20000 in
theorem gX3_wire_X0_hasWire : GoodIn wsX3_wire (wsV RX3 80 RX0 yX0_hasWire wsX0_hasWire) := goodIn_app (goodIn_of _ (by decide +kernel)) ggX3_wire_X0_hasWire
set_option maxRecDepth 20000 in
theorem ggX3_wire_X0_leadAtPad : GoodIn wsX3_wire wsX0_leadAtPad := goodIn_r _ [14, 7, 8, 9, 10, 84, 85, 86, 87, 88, 89, 90, 91, 92, 93, 94, 95] (by decide +kernel) (by decide +kernel)
set_option maxRecDepth 20000 in
theorem gX3_wire_X0_leadAtPad : GoodIn wsX3_wire (wsV RX3 146 RX0 yX0_leadAtPad wsX0_leadAtPad) := goodIn_app (goodIn_of _ (by decide +kernel)) ggX3_wire_X0_leadAtPad
set_option maxRecDepth 20000 in
theorem ggX3_wire_X0_heightOf : GoodIn wsX3_wire wsX0_heightOf := goodIn_r _ [18, 19, 8, 9, 10, 84, 85, 86, 87, 88, 89, 90, 91, 92, 93, 94, 95] (by decide +kernel) (by decide +kernel)
set_option maxRecDepth 20000 in
theorem gX3_wire_X0_heightOf : GoodIn wsX3_wire (wsV RX3 87 RX0 yX0_heightOf wsX0_heightOf) := goodIn_app (goodIn_of _ (by decide +kernel)) ggX3_wire_X0_heightOf
set_option maxRecDepth 20000 in
theorem ggX3_wire_X0_strengthOf : GoodIn wsX3_wire wsX0_strengthOf := goodIn_r _ [23, 24, 8, 9, 10, 84, 85, 86, 87, 88, 89, 90, 91, 92, 93, 94, 95] (by decide +kernel) (by decide +kernel)
set_option maxRecDepth 20000 in
theorem gX3_wire_X0_strengthOf : GoodIn wsX3_wire (wsV RX3 62 RX0 yX0_strengthOf wsX0_strengthOf) := goodIn_app (goodIn_of _ (by decide +kernel)) ggX3_wire_X0_strengthOf
set_option maxRecDepth 20000 in
theorem ggX3_wire_X0_crossingsOf : GoodIn wsX3_wire wsX0_crossingsOf := goodIn_r _ [28, 29, 30, 31, 5, 32, 33, 3, 4, 6, 7, 8, 9, 10, 34, 35, 36, 37, 38, 84, 85, 86, 87, 88, 89, 90, 91, 92, 93, 94, 95] (by decide +kernel) (by decide +kernel)
set_option maxRecDepth 20000 in
theorem gX3_wire_X0_crossingsOf : GoodIn wsX3_wire (wsV RX3 149 RX0 yX0_crossingsOf wsX0_crossingsOf) := goodIn_app (goodIn_of _ (by decide +kernel)) ggX3_wire_X0_crossingsOf
set_option maxRecDepth 20000 in
theorem ggX3_wire_X0_shortOnes : GoodIn wsX3_wire wsX0_shortOnes := goodIn_r _ [42, 43, 44, 45, 5, 46, 47, 29, 30, 31, 32, 33, 3, 4, 6, 7, 8, 9, 10, 34, 35, 36, 37, 38, 48, 49, 50, 51, 52, 53, 54, 55, 56, 57, 58, 59, 60, 61, 62, 63, 64, 65, 16, 17, 18, 19, 84, 85, 86, 87, 88, 89, 90, 91, 92, 93, 94, 95] (by decide +kernel) (by decide +kernel)
set_option maxRecDepth 20000 in
theorem gX3_wire_X0_shortOnes : GoodIn wsX3_wire (wsV RX3 152 RX0 yX0_shortOnes wsX0_shortOnes) := goodIn_app (goodIn_of _ (by decide +kernel)) ggX3_wire_X0_shortOnes
set_option maxRecDepth 20000 in
theorem ggX3_wire_X0_leastGap : GoodIn wsX3_wire wsX0_leastGap := goodIn_r _ [69, 70, 71, 54, 72, 29, 30, 31, 5, 32, 33, 3, 4, 6, 7, 8, 9, 10, 34, 35, 36, 37, 38, 65, 16, 17, 18, 19, 48, 49, 50, 51, 52, 53, 55, 56, 57, 58, 59, 60, 61, 62, 63, 64, 84, 85, 86, 87, 88, 89, 90, 91, 92, 93, 94, 95] (by decide +kernel) (by decide +kernel)
set_option maxRecDepth 20000 in
theorem gX3_wire_X0_leastGap : GoodIn wsX3_wire (wsV RX3 155 RX0 yX0_leastGap wsX0_leastGap) := goodIn_app (goodIn_of _ (by decide +kernel)) ggX3_wire_X0_leastGap
set_option maxRecDepth 20000 in
theorem ggX3_wire_X0_numberOf : GoodIn wsX3_wire wsX0_numberOf := goodIn_r _ [76, 77, 8, 9, 10, 84, 85, 86, 87, 88, 89, 90, 91, 92, 93, 94, 95] (by decide +kernel) (by decide +kernel)
set_option maxRecDepth 20000 in
theorem gX3_wire_X0_numberOf : GoodIn wsX3_wire (wsV RX3 158 RX0 yX0_numberOf wsX0_numberOf) := goodIn_app (goodIn_of _ (by decide +kernel)) ggX3_wire_X0_numberOf
theorem dX3_wire_0 : decode cX3_wire 0 = .ok (.aload_n 0, 1) := by decide +kernel
theorem dX3_wire_1 : decode cX3_wire 1 = .ok (.getfield 10, 3) := by decide +kernel
theorem dX3_wire_4 : decode cX3_wire 4 = .ok (.iload_n 1, 1) := by decide +kernel
theorem dX3_wire_5 : decode cX3_wire 5 = .ok (.invokevirtual 80, 3) := by decide +kernel
theorem dX3_wire_8 : decode cX3_wire 8 = .ok (.ifCond .ne 5, 3) := by decide +kernel
theorem dX3_wire_11 : decode cX3_wire 11 = .ok (.iconst (-1), 1) := by decide +kernel
theorem dX3_wire_12 : decode cX3_wire 12 = .ok (.ireturn, 1) := by decide +kernel
theorem dX3_wire_13 : decode cX3_wire 13 = .ok (.iload_n 2, 1) := by decide +kernel
theorem dX3_wire_14 : decode cX3_wire 14 = .ok (.tableswitch 113 0 6 #[42, 51, 60, 69, 78, 95, 104], 42) := by decide +kernel
theorem dX3_wire_56 : decode cX3_wire 56 = .ok (.aload_n 0, 1) := by decide +kernel
theorem dX3_wire_57 : decode cX3_wire 57 = .ok (.getfield 10, 3) := by decide +kernel
theorem dX3_wire_60 : decode cX3_wire 60 = .ok (.iload_n 1, 1) := by decide +kernel
theorem dX3_wire_61 : decode cX3_wire 61 = .ok (.invokevirtual 146, 3) := by decide +kernel
theorem dX3_wire_64 : decode cX3_wire 64 = .ok (.ireturn, 1) := by decide +kernel
theorem dX3_wire_65 : decode cX3_wire 65 = .ok (.aload_n 0, 1) := by decide +kernel
theorem dX3_wire_66 : decode cX3_wire 66 = .ok (.getfield 10, 3) := by decide +kernel
theorem dX3_wire_69 : decode cX3_wire 69 = .ok (.iload_n 1, 1) := by decide +kernel
theorem dX3_wire_70 : decode cX3_wire 70 = .ok (.invokevirtual 87, 3) := by decide +kernel
theorem dX3_wire_73 : decode cX3_wire 73 = .ok (.ireturn, 1) := by decide +kernel
theorem dX3_wire_74 : decode cX3_wire 74 = .ok (.aload_n 0, 1) := by decide +kernel
theorem dX3_wire_75 : decode cX3_wire 75 = .ok (.getfield 10, 3) := by decide +kernel
theorem dX3_wire_78 : decode cX3_wire 78 = .ok (.iload_n 1, 1) := by decide +kernel
theorem dX3_wire_79 : decode cX3_wire 79 = .ok (.invokevirtual 62, 3) := by decide +kernel
theorem dX3_wire_82 : decode cX3_wire 82 = .ok (.ireturn, 1) := by decide +kernel
theorem dX3_wire_83 : decode cX3_wire 83 = .ok (.aload_n 0, 1) := by decide +kernel
theorem dX3_wire_84 : decode cX3_wire 84 = .ok (.getfield 10, 3) := by decide +kernel
theorem dX3_wire_87 : decode cX3_wire 87 = .ok (.iload_n 1, 1) := by decide +kernel
theorem dX3_wire_88 : decode cX3_wire 88 = .ok (.invokevirtual 149, 3) := by decide +kernel
theorem dX3_wire_91 : decode cX3_wire 91 = .ok (.ireturn, 1) := by decide +kernel
theorem dX3_wire_92 : decode cX3_wire 92 = .ok (.aload_n 0, 1) := by decide +kernel
theorem dX3_wire_93 : decode cX3_wire 93 = .ok (.getfield 10, 3) := by decide +kernel
theorem dX3_wire_96 : decode cX3_wire 96 = .ok (.iload_n 1, 1) := by decide +kernel
theorem dX3_wire_97 : decode cX3_wire 97 = .ok (.aload_n 0, 1) := by decide +kernel
theorem dX3_wire_98 : decode cX3_wire 98 = .ok (.getfield 10, 3) := by decide +kernel
theorem dX3_wire_101 : decode cX3_wire 101 = .ok (.iload_n 1, 1) := by decide +kernel
theorem dX3_wire_102 : decode cX3_wire 102 = .ok (.invokevirtual 87, 3) := by decide +kernel
theorem dX3_wire_105 : decode cX3_wire 105 = .ok (.invokevirtual 152, 3) := by decide +kernel
theorem dX3_wire_108 : decode cX3_wire 108 = .ok (.ireturn, 1) := by decide +kernel
theorem dX3_wire_109 : decode cX3_wire 109 = .ok (.aload_n 0, 1) := by decide +kernel
theorem dX3_wire_110 : decode cX3_wire 110 = .ok (.getfield 10, 3) := by decide +kernel
theorem dX3_wire_113 : decode cX3_wire 113 = .ok (.iload_n 1, 1) := by decide +kernel
theorem dX3_wire_114 : decode cX3_wire 114 = .ok (.invokevirtual 155, 3) := by decide +kernel
theorem dX3_wire_117 : decode cX3_wire 117 = .ok (.ireturn, 1) := by decide +kernel
theorem dX3_wire_118 : decode cX3_wire 118 = .ok (.aload_n 0, 1) := by decide +kernel
theorem dX3_wire_119 : decode cX3_wire 119 = .ok (.getfield 10, 3) := by decide +kernel
theorem dX3_wire_122 : decode cX3_wire 122 = .ok (.iload_n 1, 1) := by decide +kernel
theorem dX3_wire_123 : decode cX3_wire 123 = .ok (.invokevirtual 158, 3) := by decide +kernel
theorem dX3_wire_126 : decode cX3_wire 126 = .ok (.ireturn, 1) := by decide +kernel
theorem dX3_wire_127 : decode cX3_wire 127 = .ok (.bipush (-2), 2) := by decide +kernel
theorem dX3_wire_129 : decode cX3_wire 129 = .ok (.ireturn, 1) := by decide +kernel
set_option maxRecDepth 20000 in
theorem ggX3_heightAt_X0_hasWire : GoodIn wsX3_heightAt wsX0_hasWire := goodIn_r _ [6, 7, 8, 9, 10, 29, 30, 31, 32, 33, 34, 35, 36, 37, 38, 39, 40] (by decide +kernel) (by decide +kernel)
set_option maxRecDepth 20000 in
theorem gX3_heightAt_X0_hasWire : GoodIn wsX3_heightAt (wsV RX3 80 RX0 yX0_hasWire wsX0_hasWire) := goodIn_app (goodIn_of _ (by decide +kernel)) ggX3_heightAt_X0_hasWire
set_option maxRecDepth 20000 in
theorem ggX3_heightAt_X3_isWithin : GoodIn wsX3_heightAt wsX3_isWithin := goodIn_r _ [13] (by decide +kernel) (by decide +kernel)
set_option maxRecDepth 20000 in
theorem gX3_heightAt_X3_isWithin : GoodIn wsX3_heightAt (va_wsS RX3 94 yX3_isWithin wsX3_isWithin) := goodIn_app (goodIn_of _ (by decide +kernel)) ggX3_heightAt_X3_isWithin
set_option maxRecDepth 20000 in
theorem ggX3_heightAt_X0_heightOf : GoodIn wsX3_heightAt wsX0_heightOf := goodIn_r _ [17, 18, 8, 9, 10, 29, 30, 31, 32, 33, 34, 35, 36, 37, 38, 39, 40] (by decide +kernel) (by decide +kernel)
set_option maxRecDepth 20000 in
theorem gX3_heightAt_X0_heightOf : GoodIn wsX3_heightAt (wsV RX3 87 RX0 yX0_heightOf wsX0_heightOf) := goodIn_app (goodIn_of _ (by decide +kernel)) ggX3_heightAt_X0_heightOf
set_option maxRecDepth 20000 in
theorem ggX3_heightAt_X3_loopAt : GoodIn wsX3_heightAt wsX3_loopAt := goodIn_r _ [21, 22] (by decide +kernel) (by decide +kernel)
set_option maxRecDepth 20000 in
theorem gX3_heightAt_X3_loopAt : GoodIn wsX3_heightAt (va_wsS RX3 161 yX3_loopAt wsX3_loopAt) := goodIn_app (goodIn_of _ (by decide +kernel)) ggX3_heightAt_X3_loopAt
theorem dX3_heightAt_0 : decode cX3_heightAt 0 = .ok (.aload_n 0, 1) := by decide +kernel
theorem dX3_heightAt_1 : decode cX3_heightAt 1 = .ok (.getfield 10, 3) := by decide +kernel
theorem dX3_heightAt_4 : decode cX3_heightAt 4 = .ok (.iload_n 1, 1) := by decide +kernel
theorem dX3_heightAt_5 : decode cX3_heightAt 5 = .ok (.invokevirtual 80, 3) := by decide +kernel
theorem dX3_heightAt_8 : decode cX3_heightAt 8 = .ok (.ifCond .ne 5, 3) := by decide +kernel
theorem dX3_heightAt_11 : decode cX3_heightAt 11 = .ok (.iconst (-1), 1) := by decide +kernel
theorem dX3_heightAt_12 : decode cX3_heightAt 12 = .ok (.ireturn, 1) := by decide +kernel
theorem dX3_heightAt_13 : decode cX3_heightAt 13 = .ok (.iload_n 2, 1) := by decide +kernel
theorem dX3_heightAt_14 : decode cX3_heightAt 14 = .ok (.iconst 0, 1) := by decide +kernel
theorem dX3_heightAt_15 : decode cX3_heightAt 15 = .ok (.sipush 200, 3) := by decide +kernel
theorem dX3_heightAt_18 : decode cX3_heightAt 18 = .ok (.invokestatic 94, 3) := by decide +kernel
theorem dX3_heightAt_21 : decode cX3_heightAt 21 = .ok (.ifCond .ne 6, 3) := by decide +kernel
theorem dX3_heightAt_24 : decode cX3_heightAt 24 = .ok (.bipush (-2), 2) := by decide +kernel
theorem dX3_heightAt_26 : decode cX3_heightAt 26 = .ok (.ireturn, 1) := by decide +kernel
theorem dX3_heightAt_27 : decode cX3_heightAt 27 = .ok (.aload_n 0, 1) := by decide +kernel
theorem dX3_heightAt_28 : decode cX3_heightAt 28 = .ok (.getfield 10, 3) := by decide +kernel
theorem dX3_heightAt_31 : decode cX3_heightAt 31 = .ok (.iload_n 1, 1) := by decide +kernel
theorem dX3_heightAt_32 : decode cX3_heightAt 32 = .ok (.invokevirtual 87, 3) := by decide +kernel
theorem dX3_heightAt_35 : decode cX3_heightAt 35 = .ok (.iload_n 2, 1) := by decide +kernel
theorem dX3_heightAt_36 : decode cX3_heightAt 36 = .ok (.invokestatic 161, 3) := by decide +kernel
theorem dX3_heightAt_39 : decode cX3_heightAt 39 = .ok (.ireturn, 1) := by decide +kernel
set_option maxRecDepth 20000 in
theorem ggX3_crossing_X0_hasWire : GoodIn wsX3_crossing wsX0_hasWire := goodIn_r _ [6, 7, 8, 9, 10, 61, 62, 63, 64, 65, 66, 67, 68, 69, 70, 71, 72] (by decide +kernel) (by decide +kernel)
set_option maxRecDepth 20000 in
theorem gX3_crossing_X0_hasWire : GoodIn wsX3_crossing (wsV RX3 80 RX0 yX0_hasWire wsX0_hasWire) := goodIn_app (goodIn_of _ (by decide +kernel)) ggX3_crossing_X0_hasWire
set_option maxRecDepth 20000 in
theorem ggX3_crossing_X3_isWithin : GoodIn wsX3_crossing wsX3_isWithin := goodIn_r _ [13] (by decide +kernel) (by decide +kernel)
set_option maxRecDepth 20000 in
theorem gX3_crossing_X3_isWithin : GoodIn wsX3_crossing (va_wsS RX3 94 yX3_isWithin wsX3_isWithin) := goodIn_app (goodIn_of _ (by decide +kernel)) ggX3_crossing_X3_isWithin
set_option maxRecDepth 20000 in
theorem ggX3_crossing_X0_cross : GoodIn wsX3_crossing wsX0_cross := goodIn_r _ [17, 18, 3, 4, 5, 6, 7, 8, 9, 10, 19, 20, 21, 22, 23, 61, 62, 63, 64, 65, 66, 67, 68, 69, 70, 71, 72] (by decide +kernel) (by decide +kernel)
set_option maxRecDepth 20000 in
theorem gX3_crossing_X0_cross : GoodIn wsX3_crossing (wsV RX3 164 RX0 yX0_cross wsX0_cross) := goodIn_app (goodIn_of _ (by decide +kernel)) ggX3_crossing_X0_cross
set_option maxRecDepth 20000 in
theorem ggX3_crossing_X0_crossingY : GoodIn wsX3_crossing wsX0_crossingY := goodIn_r _ [27, 28, 29, 30, 31, 32, 9, 33, 19, 20, 21, 5, 22, 7, 23, 61, 62, 63, 64, 65, 66, 67, 68, 69, 70, 71, 72] (by decide +kernel) (by decide +kernel)
set_option maxRecDepth 20000 in
theorem gX3_crossing_X0_crossingY : GoodIn wsX3_crossing (wsV RX3 167 RX0 yX0_crossingY wsX0_crossingY) := goodIn_app (goodIn_of _ (by decide +kernel)) ggX3_crossing_X0_crossingY
set_option maxRecDepth 20000 in
theorem ggX3_crossing_X0_heightOf : GoodIn wsX3_crossing wsX0_heightOf := goodIn_r _ [37, 38, 8, 9, 10, 61, 62, 63, 64, 65, 66, 67, 68, 69, 70, 71, 72] (by decide +kernel) (by decide +kernel)
set_option maxRecDepth 20000 in
theorem gX3_crossing_X0_heightOf : GoodIn wsX3_crossing (wsV RX3 87 RX0 yX0_heightOf wsX0_heightOf) := goodIn_app (goodIn_of _ (by decide +kernel)) ggX3_crossing_X0_heightOf
set_option maxRecDepth 20000 in
theorem ggX3_crossing_X0_gap : GoodIn wsX3_crossing wsX0_gap := goodIn_r _ [42, 28, 29, 30, 31, 43, 25, 26, 5, 27, 32, 9, 33, 19, 20, 21, 22, 7, 23, 44, 45, 46, 47, 35, 36, 37, 38, 8, 10, 61, 62, 63, 64, 65, 66, 67, 68, 69, 70, 71, 72] (by decide +kernel) (by decide +kernel)
set_option maxRecDepth 20000 in
theorem gX3_crossing_X0_gap : GoodIn wsX3_crossing (wsV RX3 170 RX0 yX0_gap wsX0_gap) := goodIn_app (goodIn_of _ (by decide +kernel)) ggX3_crossing_X0_gap
set_option maxRecDepth 20000 in
theorem ggX3_crossing_X0_isShort : GoodIn wsX3_crossing wsX0_isShort := goodIn_r _ [51, 52, 53, 15, 16, 5, 17, 18, 3, 4, 6, 7, 8, 9, 10, 19, 20, 21, 22, 23, 54, 40, 41, 42, 28, 29, 30, 31, 43, 25, 26, 27, 32, 33, 44, 45, 46, 47, 35, 36, 37, 38, 61, 62, 63, 64, 65, 66, 67, 68, 69, 70, 71, 72] (by decide +kernel) (by decide +kernel)
set_option maxRecDepth 20000 in
theorem gX3_crossing_X0_isShort : GoodIn wsX3_crossing (wsV RX3 174 RX0 yX0_isShort wsX0_isShort) := goodIn_app (goodIn_of _ (by decide +kernel)) ggX3_crossing_X0_isShort
theorem dX3_crossing_0 : decode cX3_crossing 0 = .ok (.aload_n 0, 1) := by decide +kernel
theorem dX3_crossing_1 : decode cX3_crossing 1 = .ok (.getfield 10, 3) := by decide +kernel
theorem dX3_crossing_4 : decode cX3_crossing 4 = .ok (.iload_n 1, 1) := by decide +kernel
theorem dX3_crossing_5 : decode cX3_crossing 5 = .ok (.invokevirtual 80, 3) := by decide +kernel
theorem dX3_crossing_8 : decode cX3_crossing 8 = .ok (.ifCond .eq 14, 3) := by decide +kernel
theorem dX3_crossing_11 : decode cX3_crossing 11 = .ok (.aload_n 0, 1) := by decide +kernel
theorem dX3_crossing_12 : decode cX3_crossing 12 = .ok (.getfield 10, 3) := by decide +kernel
theorem dX3_crossing_15 : decode cX3_crossing 15 = .ok (.iload_n 2, 1) := by decide +kernel
theorem dX3_crossing_16 : decode cX3_crossing 16 = .ok (.invokevirtual 80, 3) := by decide +kernel
theorem dX3_crossing_19 : decode cX3_crossing 19 = .ok (.ifCond .ne 5, 3) := by decide +kernel
theorem dX3_crossing_22 : decode cX3_crossing 22 = .ok (.iconst (-1), 1) := by decide +kernel
theorem dX3_crossing_23 : decode cX3_crossing 23 = .ok (.ireturn, 1) := by decide +kernel
theorem dX3_crossing_24 : decode cX3_crossing 24 = .ok (.iload_n 3, 1) := by decide +kernel
theorem dX3_crossing_25 : decode cX3_crossing 25 = .ok (.iconst 0, 1) := by decide +kernel
theorem dX3_crossing_26 : decode cX3_crossing 26 = .ok (.iconst 2, 1) := by decide +kernel
theorem dX3_crossing_27 : decode cX3_crossing 27 = .ok (.invokestatic 94, 3) := by decide +kernel
theorem dX3_crossing_30 : decode cX3_crossing 30 = .ok (.ifCond .ne 6, 3) := by decide +kernel
theorem dX3_crossing_33 : decode cX3_crossing 33 = .ok (.bipush (-2), 2) := by decide +kernel
theorem dX3_crossing_35 : decode cX3_crossing 35 = .ok (.ireturn, 1) := by decide +kernel
theorem dX3_crossing_36 : decode cX3_crossing 36 = .ok (.aload_n 0, 1) := by decide +kernel
theorem dX3_crossing_37 : decode cX3_crossing 37 = .ok (.getfield 10, 3) := by decide +kernel
theorem dX3_crossing_40 : decode cX3_crossing 40 = .ok (.iload_n 1, 1) := by decide +kernel
theorem dX3_crossing_41 : decode cX3_crossing 41 = .ok (.iload_n 2, 1) := by decide +kernel
theorem dX3_crossing_42 : decode cX3_crossing 42 = .ok (.invokevirtual 164, 3) := by decide +kernel
theorem dX3_crossing_45 : decode cX3_crossing 45 = .ok (.ifCond .ne 6, 3) := by decide +kernel
theorem dX3_crossing_48 : decode cX3_crossing 48 = .ok (.bipush (-5), 2) := by decide +kernel
theorem dX3_crossing_50 : decode cX3_crossing 50 = .ok (.ireturn, 1) := by decide +kernel
theorem dX3_crossing_51 : decode cX3_crossing 51 = .ok (.iload_n 3, 1) := by decide +kernel
theorem dX3_crossing_52 : decode cX3_crossing 52 = .ok (.lookupswitch 56 #[(0, 28), (1, 38)], 28) := by decide +kernel
theorem dX3_crossing_80 : decode cX3_crossing 80 = .ok (.aload_n 0, 1) := by decide +kernel
theorem dX3_crossing_81 : decode cX3_crossing 81 = .ok (.getfield 10, 3) := by decide +kernel
theorem dX3_crossing_84 : decode cX3_crossing 84 = .ok (.iload_n 1, 1) := by decide +kernel
theorem dX3_crossing_85 : decode cX3_crossing 85 = .ok (.iload_n 2, 1) := by decide +kernel
theorem dX3_crossing_86 : decode cX3_crossing 86 = .ok (.invokevirtual 167, 3) := by decide +kernel
theorem dX3_crossing_89 : decode cX3_crossing 89 = .ok (.ireturn, 1) := by decide +kernel
theorem dX3_crossing_90 : decode cX3_crossing 90 = .ok (.aload_n 0, 1) := by decide +kernel
theorem dX3_crossing_91 : decode cX3_crossing 91 = .ok (.getfield 10, 3) := by decide +kernel
theorem dX3_crossing_94 : decode cX3_crossing 94 = .ok (.iload_n 1, 1) := by decide +kernel
theorem dX3_crossing_95 : decode cX3_crossing 95 = .ok (.aload_n 0, 1) := by decide +kernel
theorem dX3_crossing_96 : decode cX3_crossing 96 = .ok (.getfield 10, 3) := by decide +kernel
theorem dX3_crossing_99 : decode cX3_crossing 99 = .ok (.iload_n 1, 1) := by decide +kernel
theorem dX3_crossing_100 : decode cX3_crossing 100 = .ok (.invokevirtual 87, 3) := by decide +kernel
theorem dX3_crossing_103 : decode cX3_crossing 103 = .ok (.iload_n 2, 1) := by decide +kernel
theorem dX3_crossing_104 : decode cX3_crossing 104 = .ok (.invokevirtual 170, 3) := by decide +kernel
theorem dX3_crossing_107 : decode cX3_crossing 107 = .ok (.ireturn, 1) := by decide +kernel
theorem dX3_crossing_108 : decode cX3_crossing 108 = .ok (.aload_n 0, 1) := by decide +kernel
theorem dX3_crossing_109 : decode cX3_crossing 109 = .ok (.getfield 10, 3) := by decide +kernel
theorem dX3_crossing_112 : decode cX3_crossing 112 = .ok (.iload_n 1, 1) := by decide +kernel
theorem dX3_crossing_113 : decode cX3_crossing 113 = .ok (.aload_n 0, 1) := by decide +kernel
theorem dX3_crossing_114 : decode cX3_crossing 114 = .ok (.getfield 10, 3) := by decide +kernel
theorem dX3_crossing_117 : decode cX3_crossing 117 = .ok (.iload_n 1, 1) := by decide +kernel
theorem dX3_crossing_118 : decode cX3_crossing 118 = .ok (.invokevirtual 87, 3) := by decide +kernel
theorem dX3_crossing_121 : decode cX3_crossing 121 = .ok (.iload_n 2, 1) := by decide +kernel
theorem dX3_crossing_122 : decode cX3_crossing 122 = .ok (.invokevirtual 174, 3) := by decide +kernel
theorem dX3_crossing_125 : decode cX3_crossing 125 = .ok (.ifCond .eq 7, 3) := by decide +kernel
theorem dX3_crossing_128 : decode cX3_crossing 128 = .ok (.iconst 1, 1) := by decide +kernel
theorem dX3_crossing_129 : decode cX3_crossing 129 = .ok (.goto 4, 3) := by decide +kernel
theorem dX3_crossing_132 : decode cX3_crossing 132 = .ok (.iconst 0, 1) := by decide +kernel
theorem dX3_crossing_133 : decode cX3_crossing 133 = .ok (.ireturn, 1) := by decide +kernel
set_option maxRecDepth 20000 in
theorem ggX3_lead_X3_isLead : GoodIn wsX3_lead wsX3_isLead := goodIn_r _ [5] (by decide +kernel) (by decide +kernel)
set_option maxRecDepth 20000 in
theorem gX3_lead_X3_isLead : GoodIn wsX3_lead (va_wsS RX3 44 yX3_isLead wsX3_isLead) := goodIn_app (goodIn_of _ (by decide +kernel)) ggX3_lead_X3_isLead
set_option maxRecDepth 20000 in
theorem ggX3_lead_X0_xOfLead : GoodIn wsX3_lead wsX0_xOfLead := goodIn_r _ [10, 11, 3, 4, 5, 29, 30, 31, 32, 33, 34, 35, 36, 37, 38, 39, 40] (by decide +kernel) (by decide +kernel)
set_option maxRecDepth 20000 in
theorem gX3_lead_X0_xOfLead : GoodIn wsX3_lead (wsV RX3 101 RX0 yX0_xOfLead wsX0_xOfLead) := goodIn_app (goodIn_of _ (by decide +kernel)) ggX3_lead_X0_xOfLead
set_option maxRecDepth 20000 in
theorem ggX3_lead_X0_padAtLead : GoodIn wsX3_lead wsX0_padAtLead := goodIn_r _ [15, 16, 17, 18, 19, 9, 20, 21, 4, 22, 29, 30, 31, 32, 33, 34, 35, 36, 37, 38, 39, 40] (by decide +kernel) (by decide +kernel)
set_option maxRecDepth 20000 in
theorem gX3_lead_X0_padAtLead : GoodIn wsX3_lead (wsV RX3 98 RX0 yX0_padAtLead wsX0_padAtLead) := goodIn_app (goodIn_of _ (by decide +kernel)) ggX3_lead_X0_padAtLead
theorem dX3_lead_0 : decode cX3_lead 0 = .ok (.iload_n 1, 1) := by decide +kernel
theorem dX3_lead_1 : decode cX3_lead 1 = .ok (.invokestatic 44, 3) := by decide +kernel
theorem dX3_lead_4 : decode cX3_lead 4 = .ok (.ifCond .ne 5, 3) := by decide +kernel
theorem dX3_lead_7 : decode cX3_lead 7 = .ok (.iconst (-1), 1) := by decide +kernel
theorem dX3_lead_8 : decode cX3_lead 8 = .ok (.ireturn, 1) := by decide +kernel
theorem dX3_lead_9 : decode cX3_lead 9 = .ok (.iload_n 2, 1) := by decide +kernel
theorem dX3_lead_10 : decode cX3_lead 10 = .ok (.lookupswitch 44 #[(0, 26), (1, 35)], 26) := by decide +kernel
theorem dX3_lead_36 : decode cX3_lead 36 = .ok (.aload_n 0, 1) := by decide +kernel
theorem dX3_lead_37 : decode cX3_lead 37 = .ok (.getfield 10, 3) := by decide +kernel
theorem dX3_lead_40 : decode cX3_lead 40 = .ok (.iload_n 1, 1) := by decide +kernel
theorem dX3_lead_41 : decode cX3_lead 41 = .ok (.invokevirtual 101, 3) := by decide +kernel
theorem dX3_lead_44 : decode cX3_lead 44 = .ok (.ireturn, 1) := by decide +kernel
theorem dX3_lead_45 : decode cX3_lead 45 = .ok (.aload_n 0, 1) := by decide +kernel
theorem dX3_lead_46 : decode cX3_lead 46 = .ok (.getfield 10, 3) := by decide +kernel
theorem dX3_lead_49 : decode cX3_lead 49 = .ok (.iload_n 1, 1) := by decide +kernel
theorem dX3_lead_50 : decode cX3_lead 50 = .ok (.invokevirtual 98, 3) := by decide +kernel
theorem dX3_lead_53 : decode cX3_lead 53 = .ok (.ireturn, 1) := by decide +kernel
theorem dX3_lead_54 : decode cX3_lead 54 = .ok (.bipush (-2), 2) := by decide +kernel
theorem dX3_lead_56 : decode cX3_lead 56 = .ok (.ireturn, 1) := by decide +kernel
set_option maxRecDepth 20000 in
theorem ggX3_bestHeight_X0_hasWire : GoodIn wsX3_bestHeight wsX0_hasWire := goodIn_r _ [6, 7, 8, 9, 10, 66, 67, 68, 69, 70, 71, 72, 73, 74, 75, 76, 77] (by decide +kernel) (by decide +kernel)
set_option maxRecDepth 20000 in
theorem gX3_bestHeight_X0_hasWire : GoodIn wsX3_bestHeight (wsV RX3 80 RX0 yX0_hasWire wsX0_hasWire) := goodIn_app (goodIn_of _ (by decide +kernel)) ggX3_bestHeight_X0_hasWire
set_option maxRecDepth 20000 in
theorem ggX3_bestHeight_X3_isWithin : GoodIn wsX3_bestHeight wsX3_isWithin := goodIn_r _ [13] (by decide +kernel) (by decide +kernel)
set_option maxRecDepth 20000 in
theorem gX3_bestHeight_X3_isWithin : GoodIn wsX3_bestHeight (va_wsS RX3 94 yX3_isWithin wsX3_isWithin) := goodIn_app (goodIn_of _ (by decide +kernel)) ggX3_bestHeight_X3_isWithin
set_option maxRecDepth 20000 in
theorem ggX3_bestHeight_X0_clearestHeight : GoodIn wsX3_bestHeight wsX0_clearestHeight := goodIn_r _ [17, 18, 19, 20, 5, 21, 22, 23, 24, 25, 26, 27, 28, 29, 30, 31, 3, 4, 6, 7, 8, 9, 10, 32, 33, 34, 35, 36, 37, 38, 39, 40, 41, 42, 43, 44, 45, 46, 47, 48, 49, 50, 51, 52, 53, 54, 55, 56, 57, 58, 66, 67, 68, 69, 70, 71, 72, 73, 74, 75, 76, 77] (by decide +kernel) (by decide +kernel)
set_option maxRecDepth 20000 in
theorem gX3_bestHeight_X0_clearestHeight : GoodIn wsX3_bestHeight (wsV RX3 177 RX0 yX0_clearestHeight wsX0_clearestHeight) := goodIn_app (goodIn_of _ (by decide +kernel)) ggX3_bestHeight_X0_clearestHeight
set_option maxRecDepth 20000 in
theorem ggX3_bestHeight_X0_shortOnes : GoodIn wsX3_bestHeight wsX0_shortOnes := goodIn_r _ [21, 22, 23, 24, 5, 25, 26, 27, 28, 29, 30, 31, 3, 4, 6, 7, 8, 9, 10, 32, 33, 34, 35, 36, 37, 38, 39, 40, 41, 42, 43, 44, 45, 46, 47, 48, 49, 50, 51, 52, 53, 54, 55, 56, 57, 58, 66, 67, 68, 69, 70, 71, 72, 73, 74, 75, 76, 77] (by decide +kernel) (by decide +kernel)
set_option maxRecDepth 20000 in
theorem gX3_bestHeight_X0_shortOnes : GoodIn wsX3_bestHeight (wsV RX3 152 RX0 yX0_shortOnes wsX0_shortOnes) := goodIn_app (goodIn_of _ (by decide +kernel)) ggX3_bestHeight_X0_shortOnes
theorem dX3_bestHeight_0 : decode cX3_bestHeight 0 = .ok (.aload_n 0, 1) := by decide +kernel
theorem dX3_bestHeight_1 : decode cX3_bestHeight 1 = .ok (.getfield 10, 3) := by decide +kernel
theorem dX3_bestHeight_4 : decode cX3_bestHeight 4 = .ok (.iload_n 1, 1) := by decide +kernel
theorem dX3_bestHeight_5 : decode cX3_bestHeight 5 = .ok (.invokevirtual 80, 3) := by decide +kernel
theorem dX3_bestHeight_8 : decode cX3_bestHeight 8 = .ok (.ifCond .ne 5, 3) := by decide +kernel
theorem dX3_bestHeight_11 : decode cX3_bestHeight 11 = .ok (.iconst (-1), 1) := by decide +kernel
theorem dX3_bestHeight_12 : decode cX3_bestHeight 12 = .ok (.ireturn, 1) := by decide +kernel
theorem dX3_bestHeight_13 : decode cX3_bestHeight 13 = .ok (.iload_n 2, 1) := by decide +kernel
theorem dX3_bestHeight_14 : decode cX3_bestHeight 14 = .ok (.iconst 0, 1) := by decide +kernel
theorem dX3_bestHeight_15 : decode cX3_bestHeight 15 = .ok (.iconst 1, 1) := by decide +kernel
theorem dX3_bestHeight_16 : decode cX3_bestHeight 16 = .ok (.invokestatic 94, 3) := by decide +kernel
theorem dX3_bestHeight_19 : decode cX3_bestHeight 19 = .ok (.ifCond .ne 6, 3) := by decide +kernel
theorem dX3_bestHeight_22 : decode cX3_bestHeight 22 = .ok (.bipush (-2), 2) := by decide +kernel
theorem dX3_bestHeight_24 : decode cX3_bestHeight 24 = .ok (.ireturn, 1) := by decide +kernel
theorem dX3_bestHeight_25 : decode cX3_bestHeight 25 = .ok (.aload_n 0, 1) := by decide +kernel
theorem dX3_bestHeight_26 : decode cX3_bestHeight 26 = .ok (.getfield 10, 3) := by decide +kernel
theorem dX3_bestHeight_29 : decode cX3_bestHeight 29 = .ok (.iload_n 1, 1) := by decide +kernel
theorem dX3_bestHeight_30 : decode cX3_bestHeight 30 = .ok (.invokevirtual 177, 3) := by decide +kernel
theorem dX3_bestHeight_33 : decode cX3_bestHeight 33 = .ok (.istore_n 3, 1) := by decide +kernel
theorem dX3_bestHeight_34 : decode cX3_bestHeight 34 = .ok (.iload_n 2, 1) := by decide +kernel
theorem dX3_bestHeight_35 : decode cX3_bestHeight 35 = .ok (.ifCond .ne 7, 3) := by decide +kernel
theorem dX3_bestHeight_38 : decode cX3_bestHeight 38 = .ok (.iload_n 3, 1) := by decide +kernel
theorem dX3_bestHeight_39 : decode cX3_bestHeight 39 = .ok (.goto 12, 3) := by decide +kernel
theorem dX3_bestHeight_42 : decode cX3_bestHeight 42 = .ok (.aload_n 0, 1) := by decide +kernel
theorem dX3_bestHeight_43 : decode cX3_bestHeight 43 = .ok (.getfield 10, 3) := by decide +kernel
theorem dX3_bestHeight_46 : decode cX3_bestHeight 46 = .ok (.iload_n 1, 1) := by decide +kernel
theorem dX3_bestHeight_47 : decode cX3_bestHeight 47 = .ok (.iload_n 3, 1) := by decide +kernel
theorem dX3_bestHeight_48 : decode cX3_bestHeight 48 = .ok (.invokevirtual 152, 3) := by decide +kernel
theorem dX3_bestHeight_51 : decode cX3_bestHeight 51 = .ok (.ireturn, 1) := by decide +kernel
set_option maxRecDepth 20000 in
theorem ggX3_laysLeft_X3_isHeight : GoodIn wsX3_laysLeft wsX3_isHeight := goodIn_r _ [5, 6, 7, 4, 8] (by decide +kernel) (by decide +kernel)
set_option maxRecDepth 20000 in
theorem gX3_laysLeft_X3_isHeight : GoodIn wsX3_laysLeft (va_wsS RX3 47 yX3_isHeight wsX3_isHeight) := goodIn_app (goodIn_of _ (by decide +kernel)) ggX3_laysLeft_X3_isHeight
set_option maxRecDepth 20000 in
theorem ggX3_laysLeft_X0_laysUntilStop : GoodIn wsX3_laysLeft wsX0_laysUntilStop := goodIn_r _ [13, 14, 15, 16, 17, 18, 12, 19, 20, 21, 22, 29, 30, 31, 32, 33, 34, 35, 36, 37, 38, 39, 40] (by decide +kernel) (by decide +kernel)
set_option maxRecDepth 20000 in
theorem gX3_laysLeft_X0_laysUntilStop : GoodIn wsX3_laysLeft (wsV RX3 180 RX0 yX0_laysUntilStop wsX0_laysUntilStop) := goodIn_app (goodIn_of _ (by decide +kernel)) ggX3_laysLeft_X0_laysUntilStop
theorem dX3_laysLeft_0 : decode cX3_laysLeft 0 = .ok (.iload_n 1, 1) := by decide +kernel
theorem dX3_laysLeft_1 : decode cX3_laysLeft 1 = .ok (.invokestatic 47, 3) := by decide +kernel
theorem dX3_laysLeft_4 : decode cX3_laysLeft 4 = .ok (.ifCond .ne 6, 3) := by decide +kernel
theorem dX3_laysLeft_7 : decode cX3_laysLeft 7 = .ok (.bipush (-2), 2) := by decide +kernel
theorem dX3_laysLeft_9 : decode cX3_laysLeft 9 = .ok (.ireturn, 1) := by decide +kernel
theorem dX3_laysLeft_10 : decode cX3_laysLeft 10 = .ok (.aload_n 0, 1) := by decide +kernel
theorem dX3_laysLeft_11 : decode cX3_laysLeft 11 = .ok (.getfield 10, 3) := by decide +kernel
theorem dX3_laysLeft_14 : decode cX3_laysLeft 14 = .ok (.iload_n 1, 1) := by decide +kernel
theorem dX3_laysLeft_15 : decode cX3_laysLeft 15 = .ok (.invokevirtual 180, 3) := by decide +kernel
theorem dX3_laysLeft_18 : decode cX3_laysLeft 18 = .ok (.ireturn, 1) := by decide +kernel
set_option maxRecDepth 20000 in
theorem ggX3_count_X0_wires : GoodIn wsX3_count wsX0_wires := goodIn_r _ [8, 9, 10, 11, 7, 12, 13, 14, 15, 16, 92, 93, 94, 95, 96, 97, 98, 99, 100, 101, 102, 103] (by decide +kernel) (by decide +kernel)
set_option maxRecDepth 20000 in
theorem gX3_count_X0_wires : GoodIn wsX3_count (wsV RX3 77 RX0 yX0_wires wsX0_wires) := goodIn_app (goodIn_of _ (by decide +kernel)) ggX3_count_X0_wires
set_option maxRecDepth 20000 in
theorem ggX3_count_X0_allCrossings : GoodIn wsX3_count wsX0_allCrossings := goodIn_r _ [20, 21, 22, 23, 7, 24, 9, 10, 11, 12, 13, 14, 15, 16, 25, 26, 27, 28, 29, 92, 93, 94, 95, 96, 97, 98, 99, 100, 101, 102, 103] (by decide +kernel) (by decide +kernel)
set_option maxRecDepth 20000 in
theorem gX3_count_X0_allCrossings : GoodIn wsX3_count (wsV RX3 186 RX0 yX0_allCrossings wsX0_allCrossings) := goodIn_app (goodIn_of _ (by decide +kernel)) ggX3_count_X0_allCrossings
set_option maxRecDepth 20000 in
theorem ggX3_count_X0_allShortOnes : GoodIn wsX3_count wsX0_allShortOnes := goodIn_r _ [33, 34, 35, 36, 7, 37, 38, 14, 15, 16, 39, 40, 41, 42, 43, 21, 22, 23, 24, 9, 10, 11, 12, 13, 25, 26, 27, 28, 29, 44, 45, 46, 47, 48, 49, 50, 51, 52, 53, 54, 55, 56, 57, 58, 59, 60, 92, 93, 94, 95, 96, 97, 98, 99, 100, 101, 102, 103] (by decide +kernel) (by decide +kernel)
set_option maxRecDepth 20000 in
theorem gX3_count_X0_allShortOnes : GoodIn wsX3_count (wsV RX3 189 RX0 yX0_allShortOnes wsX0_allShortOnes) := goodIn_app (goodIn_of _ (by decide +kernel)) ggX3_count_X0_allShortOnes
set_option maxRecDepth 20000 in
theorem ggX3_count_X0_weakestPad : GoodIn wsX3_count wsX0_weakestPad := goodIn_r _ [64, 65, 9, 10, 11, 7, 12, 13, 14, 15, 16, 66, 67, 68, 69, 92, 93, 94, 95, 96, 97, 98, 99, 100, 101, 102, 103] (by decide +kernel) (by decide +kernel)
set_option maxRecDepth 20000 in
theorem gX3_count_X0_weakestPad : GoodIn wsX3_count (wsV RX3 195 RX0 yX0_weakestPad wsX0_weakestPad) := goodIn_app (goodIn_of _ (by decide +kernel)) ggX3_count_X0_weakestPad
set_option maxRecDepth 20000 in
theorem ggX3_count_X0_allStrengths : GoodIn wsX3_count wsX0_allStrengths := goodIn_r _ [73, 65, 9, 10, 11, 7, 12, 13, 14, 15, 16, 92, 93, 94, 95, 96, 97, 98, 99, 100, 101, 102, 103] (by decide +kernel) (by decide +kernel)
set_option maxRecDepth 20000 in
theorem gX3_count_X0_allStrengths : GoodIn wsX3_count (wsV RX3 198 RX0 yX0_allStrengths wsX0_allStrengths) := goodIn_app (goodIn_of _ (by decide +kernel)) ggX3_count_X0_allStrengths
set_option maxRecDepth 20000 in
theorem ggX3_count_X1_states : GoodIn wsX3_count wsX1_states := goodIn_r _ [78, 79, 104, 105] (by decide +kernel) (by decide +kernel)
set_option maxRecDepth 20000 in
theorem gX3_count_X1_states : GoodIn wsX3_count (wsV RX3 140 RX1 yX1_states wsX1_states) := goodIn_app (goodIn_of _ (by decide +kernel)) ggX3_count_X1_states
set_option maxRecDepth 20000 in
theorem ggX3_count_X2_length : GoodIn wsX3_count wsX2_length := goodIn_r _ [84, 85, 106, 107, 108, 109, 110, 111, 112] (by decide +kernel) (by decide +kernel)
set_option maxRecDepth 20000 in
theorem gX3_count_X2_length : GoodIn wsX3_count (wsV RX3 134 RX2 yX2_length wsX2_length) := goodIn_app (goodIn_of _ (by decide +kernel)) ggX3_count_X2_length
theorem dX3_count_0 : decode cX3_count 0 = .ok (.iload_n 1, 1) := by decide +kernel
theorem dX3_count_1 : decode cX3_count 1 = .ok (.tableswitch 191 0 13 #[71, 79, 87, 95, 103, 111, 127, 135, 143, 151, 159, 167, 175, 183], 71) := by decide +kernel
theorem dX3_count_72 : decode cX3_count 72 = .ok (.aload_n 0, 1) := by decide +kernel
theorem dX3_count_73 : decode cX3_count 73 = .ok (.getfield 10, 3) := by decide +kernel
theorem dX3_count_76 : decode cX3_count 76 = .ok (.invokevirtual 77, 3) := by decide +kernel
theorem dX3_count_79 : decode cX3_count 79 = .ok (.ireturn, 1) := by decide +kernel
theorem dX3_count_80 : decode cX3_count 80 = .ok (.aload_n 0, 1) := by decide +kernel
theorem dX3_count_81 : decode cX3_count 81 = .ok (.getfield 10, 3) := by decide +kernel
theorem dX3_count_84 : decode cX3_count 84 = .ok (.getfield 183, 3) := by decide +kernel
theorem dX3_count_87 : decode cX3_count 87 = .ok (.ireturn, 1) := by decide +kernel
theorem dX3_count_88 : decode cX3_count 88 = .ok (.aload_n 0, 1) := by decide +kernel
theorem dX3_count_89 : decode cX3_count 89 = .ok (.getfield 10, 3) := by decide +kernel
theorem dX3_count_92 : decode cX3_count 92 = .ok (.invokevirtual 186, 3) := by decide +kernel
theorem dX3_count_95 : decode cX3_count 95 = .ok (.ireturn, 1) := by decide +kernel
theorem dX3_count_96 : decode cX3_count 96 = .ok (.aload_n 0, 1) := by decide +kernel
theorem dX3_count_97 : decode cX3_count 97 = .ok (.getfield 10, 3) := by decide +kernel
theorem dX3_count_100 : decode cX3_count 100 = .ok (.invokevirtual 189, 3) := by decide +kernel
theorem dX3_count_103 : decode cX3_count 103 = .ok (.ireturn, 1) := by decide +kernel
theorem dX3_count_104 : decode cX3_count 104 = .ok (.aload_n 0, 1) := by decide +kernel
theorem dX3_count_105 : decode cX3_count 105 = .ok (.getfield 10, 3) := by decide +kernel
theorem dX3_count_108 : decode cX3_count 108 = .ok (.getfield 111, 3) := by decide +kernel
theorem dX3_count_111 : decode cX3_count 111 = .ok (.ireturn, 1) := by decide +kernel
theorem dX3_count_112 : decode cX3_count 112 = .ok (.aload_n 0, 1) := by decide +kernel
theorem dX3_count_113 : decode cX3_count 113 = .ok (.getfield 10, 3) := by decide +kernel
theorem dX3_count_116 : decode cX3_count 116 = .ok (.getfield 117, 3) := by decide +kernel
theorem dX3_count_119 : decode cX3_count 119 = .ok (.ifCond .eq 7, 3) := by decide +kernel
theorem dX3_count_122 : decode cX3_count 122 = .ok (.iconst 1, 1) := by decide +kernel
theorem dX3_count_123 : decode cX3_count 123 = .ok (.goto 4, 3) := by decide +kernel
theorem dX3_count_126 : decode cX3_count 126 = .ok (.iconst 0, 1) := by decide +kernel
theorem dX3_count_127 : decode cX3_count 127 = .ok (.ireturn, 1) := by decide +kernel
theorem dX3_count_128 : decode cX3_count 128 = .ok (.aload_n 0, 1) := by decide +kernel
theorem dX3_count_129 : decode cX3_count 129 = .ok (.getfield 10, 3) := by decide +kernel
theorem dX3_count_132 : decode cX3_count 132 = .ok (.getfield 120, 3) := by decide +kernel
theorem dX3_count_135 : decode cX3_count 135 = .ok (.ireturn, 1) := by decide +kernel
theorem dX3_count_136 : decode cX3_count 136 = .ok (.aload_n 0, 1) := by decide +kernel
theorem dX3_count_137 : decode cX3_count 137 = .ok (.getfield 10, 3) := by decide +kernel
theorem dX3_count_140 : decode cX3_count 140 = .ok (.getfield 107, 3) := by decide +kernel
theorem dX3_count_143 : decode cX3_count 143 = .ok (.ireturn, 1) := by decide +kernel
theorem dX3_count_144 : decode cX3_count 144 = .ok (.aload_n 0, 1) := by decide +kernel
theorem dX3_count_145 : decode cX3_count 145 = .ok (.getfield 10, 3) := by decide +kernel
theorem dX3_count_148 : decode cX3_count 148 = .ok (.getfield 192, 3) := by decide +kernel
theorem dX3_count_151 : decode cX3_count 151 = .ok (.ireturn, 1) := by decide +kernel
theorem dX3_count_152 : decode cX3_count 152 = .ok (.aload_n 0, 1) := by decide +kernel
theorem dX3_count_153 : decode cX3_count 153 = .ok (.getfield 10, 3) := by decide +kernel
theorem dX3_count_156 : decode cX3_count 156 = .ok (.invokevirtual 195, 3) := by decide +kernel
theorem dX3_count_159 : decode cX3_count 159 = .ok (.ireturn, 1) := by decide +kernel
theorem dX3_count_160 : decode cX3_count 160 = .ok (.aload_n 0, 1) := by decide +kernel
theorem dX3_count_161 : decode cX3_count 161 = .ok (.getfield 10, 3) := by decide +kernel
theorem dX3_count_164 : decode cX3_count 164 = .ok (.invokevirtual 198, 3) := by decide +kernel
theorem dX3_count_167 : decode cX3_count 167 = .ok (.ireturn, 1) := by decide +kernel
theorem dX3_count_168 : decode cX3_count 168 = .ok (.aload_n 0, 1) := by decide +kernel
theorem dX3_count_169 : decode cX3_count 169 = .ok (.getfield 10, 3) := by decide +kernel
theorem dX3_count_172 : decode cX3_count 172 = .ok (.getfield 114, 3) := by decide +kernel
theorem dX3_count_175 : decode cX3_count 175 = .ok (.ireturn, 1) := by decide +kernel
theorem dX3_count_176 : decode cX3_count 176 = .ok (.aload_n 0, 1) := by decide +kernel
theorem dX3_count_177 : decode cX3_count 177 = .ok (.getfield 29, 3) := by decide +kernel
theorem dX3_count_180 : decode cX3_count 180 = .ok (.invokevirtual 140, 3) := by decide +kernel
theorem dX3_count_183 : decode cX3_count 183 = .ok (.ireturn, 1) := by decide +kernel
theorem dX3_count_184 : decode cX3_count 184 = .ok (.aload_n 0, 1) := by decide +kernel
theorem dX3_count_185 : decode cX3_count 185 = .ok (.getfield 36, 3) := by decide +kernel
theorem dX3_count_188 : decode cX3_count 188 = .ok (.invokevirtual 134, 3) := by decide +kernel
theorem dX3_count_191 : decode cX3_count 191 = .ok (.ireturn, 1) := by decide +kernel
theorem dX3_count_192 : decode cX3_count 192 = .ok (.bipush (-2), 2) := by decide +kernel
theorem dX3_count_194 : decode cX3_count 194 = .ok (.ireturn, 1) := by decide +kernel
theorem dX3_isWithin_0 : decode cX3_isWithin 0 = .ok (.iload_n 0, 1) := by decide +kernel
theorem dX3_isWithin_1 : decode cX3_isWithin 1 = .ok (.iload_n 1, 1) := by decide +kernel
theorem dX3_isWithin_2 : decode cX3_isWithin 2 = .ok (.if_icmp .lt 12, 3) := by decide +kernel
theorem dX3_isWithin_5 : decode cX3_isWithin 5 = .ok (.iload_n 0, 1) := by decide +kernel
theorem dX3_isWithin_6 : decode cX3_isWithin 6 = .ok (.iload_n 2, 1) := by decide +kernel
theorem dX3_isWithin_7 : decode cX3_isWithin 7 = .ok (.if_icmp .gt 7, 3) := by decide +kernel
theorem dX3_isWithin_10 : decode cX3_isWithin 10 = .ok (.iconst 1, 1) := by decide +kernel
theorem dX3_isWithin_11 : decode cX3_isWithin 11 = .ok (.goto 4, 3) := by decide +kernel
theorem dX3_isWithin_14 : decode cX3_isWithin 14 = .ok (.iconst 0, 1) := by decide +kernel
theorem dX3_isWithin_15 : decode cX3_isWithin 15 = .ok (.ireturn, 1) := by decide +kernel
theorem dX3_isPad_0 : decode cX3_isPad 0 = .ok (.iload_n 0, 1) := by decide +kernel
theorem dX3_isPad_1 : decode cX3_isPad 1 = .ok (.ifCond .lt 13, 3) := by decide +kernel
theorem dX3_isPad_4 : decode cX3_isPad 4 = .ok (.iload_n 0, 1) := by decide +kernel
theorem dX3_isPad_5 : decode cX3_isPad 5 = .ok (.bipush 12, 2) := by decide +kernel
theorem dX3_isPad_7 : decode cX3_isPad 7 = .ok (.if_icmp .ge 7, 3) := by decide +kernel
theorem dX3_isPad_10 : decode cX3_isPad 10 = .ok (.iconst 1, 1) := by decide +kernel
theorem dX3_isPad_11 : decode cX3_isPad 11 = .ok (.goto 4, 3) := by decide +kernel
theorem dX3_isPad_14 : decode cX3_isPad 14 = .ok (.iconst 0, 1) := by decide +kernel
theorem dX3_isPad_15 : decode cX3_isPad 15 = .ok (.ireturn, 1) := by decide +kernel
theorem dX3_isLead_0 : decode cX3_isLead 0 = .ok (.iload_n 0, 1) := by decide +kernel
theorem dX3_isLead_1 : decode cX3_isLead 1 = .ok (.ifCond .lt 13, 3) := by decide +kernel
theorem dX3_isLead_4 : decode cX3_isLead 4 = .ok (.iload_n 0, 1) := by decide +kernel
theorem dX3_isLead_5 : decode cX3_isLead 5 = .ok (.bipush 16, 2) := by decide +kernel
theorem dX3_isLead_7 : decode cX3_isLead 7 = .ok (.if_icmp .ge 7, 3) := by decide +kernel
theorem dX3_isLead_10 : decode cX3_isLead 10 = .ok (.iconst 1, 1) := by decide +kernel
theorem dX3_isLead_11 : decode cX3_isLead 11 = .ok (.goto 4, 3) := by decide +kernel
theorem dX3_isLead_14 : decode cX3_isLead 14 = .ok (.iconst 0, 1) := by decide +kernel
theorem dX3_isLead_15 : decode cX3_isLead 15 = .ok (.ireturn, 1) := by decide +kernel
set_option maxRecDepth 20000 in
theorem ggX3_isHeight_X3_isWithin : GoodIn wsX3_isHeight wsX3_isWithin := goodIn_r _ [4] (by decide +kernel) (by decide +kernel)
set_option maxRecDepth 20000 in
theorem gX3_isHeight_X3_isWithin : GoodIn wsX3_isHeight (va_wsS RX3 94 yX3_isWithin wsX3_isWithin) := goodIn_app (goodIn_of _ (by decide +kernel)) ggX3_isHeight_X3_isWithin
theorem dX3_isHeight_0 : decode cX3_isHeight 0 = .ok (.iload_n 0, 1) := by decide +kernel
theorem dX3_isHeight_1 : decode cX3_isHeight 1 = .ok (.bipush 10, 2) := by decide +kernel
theorem dX3_isHeight_3 : decode cX3_isHeight 3 = .ok (.sipush 200, 3) := by decide +kernel
theorem dX3_isHeight_6 : decode cX3_isHeight 6 = .ok (.invokestatic 94, 3) := by decide +kernel
theorem dX3_isHeight_9 : decode cX3_isHeight 9 = .ok (.ireturn, 1) := by decide +kernel
theorem dX3_padX_0 : decode cX3_padX 0 = .ok (.bipush 100, 2) := by decide +kernel
theorem dX3_padX_2 : decode cX3_padX 2 = .ok (.bipush 20, 2) := by decide +kernel
theorem dX3_padX_4 : decode cX3_padX 4 = .ok (.iload_n 0, 1) := by decide +kernel
theorem dX3_padX_5 : decode cX3_padX 5 = .ok (.imul, 1) := by decide +kernel
theorem dX3_padX_6 : decode cX3_padX 6 = .ok (.iadd, 1) := by decide +kernel
theorem dX3_padX_7 : decode cX3_padX 7 = .ok (.ireturn, 1) := by decide +kernel
theorem dX3_loopAt_0 : decode cX3_loopAt 0 = .ok (.iload_n 0, 1) := by decide +kernel
theorem dX3_loopAt_1 : decode cX3_loopAt 1 = .ok (.iload_n 1, 1) := by decide +kernel
theorem dX3_loopAt_2 : decode cX3_loopAt 2 = .ok (.imul, 1) := by decide +kernel
theorem dX3_loopAt_3 : decode cX3_loopAt 3 = .ok (.sipush 200, 3) := by decide +kernel
theorem dX3_loopAt_6 : decode cX3_loopAt 6 = .ok (.iload_n 1, 1) := by decide +kernel
theorem dX3_loopAt_7 : decode cX3_loopAt 7 = .ok (.isub, 1) := by decide +kernel
theorem dX3_loopAt_8 : decode cX3_loopAt 8 = .ok (.imul, 1) := by decide +kernel
theorem dX3_loopAt_9 : decode cX3_loopAt 9 = .ok (.iconst 4, 1) := by decide +kernel
theorem dX3_loopAt_10 : decode cX3_loopAt 10 = .ok (.imul, 1) := by decide +kernel
theorem dX3_loopAt_11 : decode cX3_loopAt 11 = .ok (.ldc 201, 2) := by decide +kernel
theorem dX3_loopAt_13 : decode cX3_loopAt 13 = .ok (.idiv, 1) := by decide +kernel
theorem dX3_loopAt_14 : decode cX3_loopAt 14 = .ok (.ireturn, 1) := by decide +kernel
theorem dX4_init_0 : decode cX4_init 0 = .ok (.aload_n 0, 1) := by decide +kernel
theorem dX4_init_1 : decode cX4_init 1 = .ok (.invokespecial 1, 3) := by decide +kernel
theorem dX4_init_4 : decode cX4_init 4 = .ok (.aload_n 0, 1) := by decide +kernel
theorem dX4_init_5 : decode cX4_init 5 = .ok (.bipush 71, 2) := by decide +kernel
theorem dX4_init_7 : decode cX4_init 7 = .ok (.newarray .int, 2) := by decide +kernel
theorem dX4_init_9 : decode cX4_init 9 = .ok (.putfield 7, 3) := by decide +kernel
theorem dX4_init_12 : decode cX4_init 12 = .ok (.aload_n 0, 1) := by decide +kernel
theorem dX4_init_13 : decode cX4_init 13 = .ok (.bipush 71, 2) := by decide +kernel
theorem dX4_init_15 : decode cX4_init 15 = .ok (.newarray .int, 2) := by decide +kernel
theorem dX4_init_17 : decode cX4_init 17 = .ok (.putfield 13, 3) := by decide +kernel
theorem dX4_init_20 : decode cX4_init 20 = .ok (.aload_n 0, 1) := by decide +kernel
theorem dX4_init_21 : decode cX4_init 21 = .ok (.sipush 284, 3) := by decide +kernel
theorem dX4_init_24 : decode cX4_init 24 = .ok (.newarray .int, 2) := by decide +kernel
theorem dX4_init_26 : decode cX4_init 26 = .ok (.putfield 16, 3) := by decide +kernel
theorem dX4_init_29 : decode cX4_init 29 = .ok (.aload_n 0, 1) := by decide +kernel
theorem dX4_init_30 : decode cX4_init 30 = .ok (.bipush 71, 2) := by decide +kernel
theorem dX4_init_32 : decode cX4_init 32 = .ok (.newarray .int, 2) := by decide +kernel
theorem dX4_init_34 : decode cX4_init 34 = .ok (.putfield 19, 3) := by decide +kernel
theorem dX4_init_37 : decode cX4_init 37 = .ok (.aload_n 0, 1) := by decide +kernel
theorem dX4_init_38 : decode cX4_init 38 = .ok (.bipush 80, 2) := by decide +kernel
theorem dX4_init_40 : decode cX4_init 40 = .ok (.newarray .char, 2) := by decide +kernel
theorem dX4_init_42 : decode cX4_init 42 = .ok (.putfield 22, 3) := by decide +kernel
theorem dX4_init_45 : decode cX4_init 45 = .ok (.aload_n 0, 1) := by decide +kernel
theorem dX4_init_46 : decode cX4_init 46 = .ok (.bipush 63, 2) := by decide +kernel
theorem dX4_init_48 : decode cX4_init 48 = .ok (.newarray .int, 2) := by decide +kernel
theorem dX4_init_50 : decode cX4_init 50 = .ok (.putfield 26, 3) := by decide +kernel
theorem dX4_init_53 : decode cX4_init 53 = .ok (.iconst 0, 1) := by decide +kernel
theorem dX4_init_54 : decode cX4_init 54 = .ok (.istore_n 1, 1) := by decide +kernel
theorem dX4_init_55 : decode cX4_init 55 = .ok (.iload_n 1, 1) := by decide +kernel
theorem dX4_init_56 : decode cX4_init 56 = .ok (.bipush 16, 2) := by decide +kernel
theorem dX4_init_58 : decode cX4_init 58 = .ok (.if_icmp .ge 21, 3) := by decide +kernel
theorem dX4_init_61 : decode cX4_init 61 = .ok (.aload_n 0, 1) := by decide +kernel
theorem dX4_init_62 : decode cX4_init 62 = .ok (.getfield 7, 3) := by decide +kernel
theorem dX4_init_65 : decode cX4_init 65 = .ok (.iconst 0, 1) := by decide +kernel
theorem dX4_init_66 : decode cX4_init 66 = .ok (.iload_n 1, 1) := by decide +kernel
theorem dX4_init_67 : decode cX4_init 67 = .ok (.iadd, 1) := by decide +kernel
theorem dX4_init_68 : decode cX4_init 68 = .ok (.bipush 40, 2) := by decide +kernel
theorem dX4_init_70 : decode cX4_init 70 = .ok (.iload_n 1, 1) := by decide +kernel
theorem dX4_init_71 : decode cX4_init 71 = .ok (.imul, 1) := by decide +kernel
theorem dX4_init_72 : decode cX4_init 72 = .ok (.iastore, 1) := by decide +kernel
theorem dX4_init_73 : decode cX4_init 73 = .ok (.iinc 1 1, 3) := by decide +kernel
theorem dX4_init_76 : decode cX4_init 76 = .ok (.goto (-21), 3) := by decide +kernel
theorem dX4_init_79 : decode cX4_init 79 = .ok (.iconst 0, 1) := by decide +kernel
theorem dX4_init_80 : decode cX4_init 80 = .ok (.istore_n 1, 1) := by decide +kernel
theorem dX4_init_81 : decode cX4_init 81 = .ok (.iload_n 1, 1) := by decide +kernel
theorem dX4_init_82 : decode cX4_init 82 = .ok (.bipush 12, 2) := by decide +kernel
theorem dX4_init_84 : decode cX4_init 84 = .ok (.if_icmp .ge 22, 3) := by decide +kernel
theorem dX4_init_87 : decode cX4_init 87 = .ok (.aload_n 0, 1) := by decide +kernel
theorem dX4_init_88 : decode cX4_init 88 = .ok (.getfield 7, 3) := by decide +kernel
theorem dX4_init_91 : decode cX4_init 91 = .ok (.bipush 16, 2) := by decide +kernel
theorem dX4_init_93 : decode cX4_init 93 = .ok (.iconst 4, 1) := by decide +kernel
theorem dX4_init_94 : decode cX4_init 94 = .ok (.iload_n 1, 1) := by decide +kernel
theorem dX4_init_95 : decode cX4_init 95 = .ok (.imul, 1) := by decide +kernel
theorem dX4_init_96 : decode cX4_init 96 = .ok (.iadd, 1) := by decide +kernel
theorem dX4_init_97 : decode cX4_init 97 = .ok (.bipush (-5), 2) := by decide +kernel
theorem dX4_init_99 : decode cX4_init 99 = .ok (.iastore, 1) := by decide +kernel
theorem dX4_init_100 : decode cX4_init 100 = .ok (.iinc 1 1, 3) := by decide +kernel
theorem dX4_init_103 : decode cX4_init 103 = .ok (.goto (-22), 3) := by decide +kernel
theorem dX4_init_106 : decode cX4_init 106 = .ok (.aload_n 0, 1) := by decide +kernel
theorem dX4_init_107 : decode cX4_init 107 = .ok (.getfield 7, 3) := by decide +kernel
theorem dX4_init_110 : decode cX4_init 110 = .ok (.bipush 64, 2) := by decide +kernel
theorem dX4_init_112 : decode cX4_init 112 = .ok (.bipush 10, 2) := by decide +kernel
theorem dX4_init_114 : decode cX4_init 114 = .ok (.iastore, 1) := by decide +kernel
theorem dX4_init_115 : decode cX4_init 115 = .ok (.return_, 1) := by decide +kernel
theorem dX4_in_0 : decode cX4_in 0 = .ok (.iload_n 0, 1) := by decide +kernel
theorem dX4_in_1 : decode cX4_in 1 = .ok (.iload_n 1, 1) := by decide +kernel
theorem dX4_in_2 : decode cX4_in 2 = .ok (.if_icmp .lt 12, 3) := by decide +kernel
theorem dX4_in_5 : decode cX4_in 5 = .ok (.iload_n 0, 1) := by decide +kernel
theorem dX4_in_6 : decode cX4_in 6 = .ok (.iload_n 2, 1) := by decide +kernel
theorem dX4_in_7 : decode cX4_in 7 = .ok (.if_icmp .gt 7, 3) := by decide +kernel
theorem dX4_in_10 : decode cX4_in 10 = .ok (.iconst 1, 1) := by decide +kernel
theorem dX4_in_11 : decode cX4_in 11 = .ok (.goto 4, 3) := by decide +kernel
theorem dX4_in_14 : decode cX4_in 14 = .ok (.iconst 0, 1) := by decide +kernel
theorem dX4_in_15 : decode cX4_in 15 = .ok (.ireturn, 1) := by decide +kernel
theorem dX4_lays_0 : decode cX4_lays 0 = .ok (.iconst 0, 1) := by decide +kernel
theorem dX4_lays_1 : decode cX4_lays 1 = .ok (.istore 4, 2) := by decide +kernel
theorem dX4_lays_3 : decode cX4_lays 3 = .ok (.iload 4, 2) := by decide +kernel
theorem dX4_lays_5 : decode cX4_lays 5 = .ok (.bipush 71, 2) := by decide +kernel
theorem dX4_lays_7 : decode cX4_lays 7 = .ok (.if_icmp .ge 21, 3) := by decide +kernel
theorem dX4_lays_10 : decode cX4_lays 10 = .ok (.aload_n 2, 1) := by decide +kernel
theorem dX4_lays_11 : decode cX4_lays 11 = .ok (.iload_n 3, 1) := by decide +kernel
theorem dX4_lays_12 : decode cX4_lays 12 = .ok (.iload 4, 2) := by decide +kernel
theorem dX4_lays_14 : decode cX4_lays 14 = .ok (.iadd, 1) := by decide +kernel
theorem dX4_lays_15 : decode cX4_lays 15 = .ok (.aload_n 0, 1) := by decide +kernel
theorem dX4_lays_16 : decode cX4_lays 16 = .ok (.iload_n 1, 1) := by decide +kernel
theorem dX4_lays_17 : decode cX4_lays 17 = .ok (.iload 4, 2) := by decide +kernel
theorem dX4_lays_19 : decode cX4_lays 19 = .ok (.iadd, 1) := by decide +kernel
theorem dX4_lays_20 : decode cX4_lays 20 = .ok (.iaload, 1) := by decide +kernel
theorem dX4_lays_21 : decode cX4_lays 21 = .ok (.iastore, 1) := by decide +kernel
theorem dX4_lays_22 : decode cX4_lays 22 = .ok (.iinc 4 1, 3) := by decide +kernel
theorem dX4_lays_25 : decode cX4_lays 25 = .ok (.goto (-22), 3) := by decide +kernel
theorem dX4_lays_28 : decode cX4_lays 28 = .ok (.return_, 1) := by decide +kernel
set_option maxRecDepth 20000 in
theorem ggX4_records_X4_lays : GoodIn wsX4_records wsX4_lays := goodIn_r _ [7] (by decide +kernel) (by decide +kernel)
set_option maxRecDepth 20000 in
theorem gX4_records_X4_lays : GoodIn wsX4_records (va_wsS RX4 33 yX4_lays wsX4_lays) := goodIn_app (goodIn_of _ (by decide +kernel)) ggX4_records_X4_lays
theorem dX4_records_0 : decode cX4_records 0 = .ok (.aload_n 0, 1) := by decide +kernel
theorem dX4_records_1 : decode cX4_records 1 = .ok (.getfield 29, 3) := by decide +kernel
theorem dX4_records_4 : decode cX4_records 4 = .ok (.iconst 4, 1) := by decide +kernel
theorem dX4_records_5 : decode cX4_records 5 = .ok (.if_icmp .ne 43, 3) := by decide +kernel
theorem dX4_records_8 : decode cX4_records 8 = .ok (.iconst 0, 1) := by decide +kernel
theorem dX4_records_9 : decode cX4_records 9 = .ok (.istore_n 1, 1) := by decide +kernel
theorem dX4_records_10 : decode cX4_records 10 = .ok (.iload_n 1, 1) := by decide +kernel
theorem dX4_records_11 : decode cX4_records 11 = .ok (.sipush 213, 3) := by decide +kernel
theorem dX4_records_14 : decode cX4_records 14 = .ok (.if_icmp .ge 24, 3) := by decide +kernel
theorem dX4_records_17 : decode cX4_records 17 = .ok (.aload_n 0, 1) := by decide +kernel
theorem dX4_records_18 : decode cX4_records 18 = .ok (.getfield 16, 3) := by decide +kernel
theorem dX4_records_21 : decode cX4_records 21 = .ok (.iload_n 1, 1) := by decide +kernel
theorem dX4_records_22 : decode cX4_records 22 = .ok (.aload_n 0, 1) := by decide +kernel
theorem dX4_records_23 : decode cX4_records 23 = .ok (.getfield 16, 3) := by decide +kernel
theorem dX4_records_26 : decode cX4_records 26 = .ok (.iload_n 1, 1) := by decide +kernel
theorem dX4_records_27 : decode cX4_records 27 = .ok (.bipush 71, 2) := by decide +kernel
theorem dX4_records_29 : decode cX4_records 29 = .ok (.iadd, 1) := by decide +kernel
theorem dX4_records_30 : decode cX4_records 30 = .ok (.iaload, 1) := by decide +kernel
theorem dX4_records_31 : decode cX4_records 31 = .ok (.iastore, 1) := by decide +kernel
theorem dX4_records_32 : decode cX4_records 32 = .ok (.iinc 1 1, 3) := by decide +kernel
theorem dX4_records_35 : decode cX4_records 35 = .ok (.goto (-25), 3) := by decide +kernel
theorem dX4_records_38 : decode cX4_records 38 = .ok (.aload_n 0, 1) := by decide +kernel
theorem dX4_records_39 : decode cX4_records 39 = .ok (.dup, 1) := by decide +kernel
theorem dX4_records_40 : decode cX4_records 40 = .ok (.getfield 29, 3) := by decide +kernel
theorem dX4_records_43 : decode cX4_records 43 = .ok (.iconst 1, 1) := by decide +kernel
theorem dX4_records_44 : decode cX4_records 44 = .ok (.isub, 1) := by decide +kernel
theorem dX4_records_45 : decode cX4_records 45 = .ok (.putfield 29, 3) := by decide +kernel
theorem dX4_records_48 : decode cX4_records 48 = .ok (.aload_n 0, 1) := by decide +kernel
theorem dX4_records_49 : decode cX4_records 49 = .ok (.getfield 7, 3) := by decide +kernel
theorem dX4_records_52 : decode cX4_records 52 = .ok (.iconst 0, 1) := by decide +kernel
theorem dX4_records_53 : decode cX4_records 53 = .ok (.aload_n 0, 1) := by decide +kernel
theorem dX4_records_54 : decode cX4_records 54 = .ok (.getfield 16, 3) := by decide +kernel
theorem dX4_records_57 : decode cX4_records 57 = .ok (.bipush 71, 2) := by decide +kernel
theorem dX4_records_59 : decode cX4_records 59 = .ok (.aload_n 0, 1) := by decide +kernel
theorem dX4_records_60 : decode cX4_records 60 = .ok (.getfield 29, 3) := by decide +kernel
theorem dX4_records_63 : decode cX4_records 63 = .ok (.imul, 1) := by decide +kernel
theorem dX4_records_64 : decode cX4_records 64 = .ok (.invokestatic 33, 3) := by decide +kernel
theorem dX4_records_67 : decode cX4_records 67 = .ok (.aload_n 0, 1) := by decide +kernel
theorem dX4_records_68 : decode cX4_records 68 = .ok (.dup, 1) := by decide +kernel
theorem dX4_records_69 : decode cX4_records 69 = .ok (.getfield 29, 3) := by decide +kernel
theorem dX4_records_72 : decode cX4_records 72 = .ok (.iconst 1, 1) := by decide +kernel
theorem dX4_records_73 : decode cX4_records 73 = .ok (.iadd, 1) := by decide +kernel
theorem dX4_records_74 : decode cX4_records 74 = .ok (.putfield 29, 3) := by decide +kernel
theorem dX4_records_77 : decode cX4_records 77 = .ok (.return_, 1) := by decide +kernel
set_option maxRecDepth 20000 in
theorem ggX4_isPad_X4_in : GoodIn wsX4_isPad wsX4_in := goodIn_r _ [4] (by decide +kernel) (by decide +kernel)
set_option maxRecDepth 20000 in
theorem gX4_isPad_X4_in : GoodIn wsX4_isPad (va_wsS RX4 37 yX4_in wsX4_in) := goodIn_app (goodIn_of _ (by decide +kernel)) ggX4_isPad_X4_in
theorem dX4_isPad_0 : decode cX4_isPad 0 = .ok (.iload_n 0, 1) := by decide +kernel
theorem dX4_isPad_1 : decode cX4_isPad 1 = .ok (.iconst 0, 1) := by decide +kernel
theorem dX4_isPad_2 : decode cX4_isPad 2 = .ok (.bipush 11, 2) := by decide +kernel
theorem dX4_isPad_4 : decode cX4_isPad 4 = .ok (.invokestatic 37, 3) := by decide +kernel
theorem dX4_isPad_7 : decode cX4_isPad 7 = .ok (.ireturn, 1) := by decide +kernel
set_option maxRecDepth 20000 in
theorem ggX4_isLead_X4_in : GoodIn wsX4_isLead wsX4_in := goodIn_r _ [4] (by decide +kernel) (by decide +kernel)
set_option maxRecDepth 20000 in
theorem gX4_isLead_X4_in : GoodIn wsX4_isLead (va_wsS RX4 37 yX4_in wsX4_in) := goodIn_app (goodIn_of _ (by decide +kernel)) ggX4_isLead_X4_in
theorem dX4_isLead_0 : decode cX4_isLead 0 = .ok (.iload_n 0, 1) := by decide +kernel
theorem dX4_isLead_1 : decode cX4_isLead 1 = .ok (.iconst 0, 1) := by decide +kernel
theorem dX4_isLead_2 : decode cX4_isLead 2 = .ok (.bipush 15, 2) := by decide +kernel
theorem dX4_isLead_4 : decode cX4_isLead 4 = .ok (.invokestatic 37, 3) := by decide +kernel
theorem dX4_isLead_7 : decode cX4_isLead 7 = .ok (.ireturn, 1) := by decide +kernel
set_option maxRecDepth 20000 in
theorem ggX4_isHeight_X4_in : GoodIn wsX4_isHeight wsX4_in := goodIn_r _ [4] (by decide +kernel) (by decide +kernel)
set_option maxRecDepth 20000 in
theorem gX4_isHeight_X4_in : GoodIn wsX4_isHeight (va_wsS RX4 37 yX4_in wsX4_in) := goodIn_app (goodIn_of _ (by decide +kernel)) ggX4_isHeight_X4_in
theorem dX4_isHeight_0 : decode cX4_isHeight 0 = .ok (.iload_n 0, 1) := by decide +kernel
theorem dX4_isHeight_1 : decode cX4_isHeight 1 = .ok (.bipush 10, 2) := by decide +kernel
theorem dX4_isHeight_3 : decode cX4_isHeight 3 = .ok (.sipush 200, 3) := by decide +kernel
theorem dX4_isHeight_6 : decode cX4_isHeight 6 = .ok (.invokestatic 37, 3) := by decide +kernel
theorem dX4_isHeight_9 : decode cX4_isHeight 9 = .ok (.ireturn, 1) := by decide +kernel
theorem dX4_of_0 : decode cX4_of 0 = .ok (.aload_n 0, 1) := by decide +kernel
theorem dX4_of_1 : decode cX4_of 1 = .ok (.bipush 16, 2) := by decide +kernel
theorem dX4_of_3 : decode cX4_of 3 = .ok (.iconst 4, 1) := by decide +kernel
theorem dX4_of_4 : decode cX4_of 4 = .ok (.iload_n 1, 1) := by decide +kernel
theorem dX4_of_5 : decode cX4_of 5 = .ok (.imul, 1) := by decide +kernel
theorem dX4_of_6 : decode cX4_of 6 = .ok (.iadd, 1) := by decide +kernel
theorem dX4_of_7 : decode cX4_of 7 = .ok (.iload_n 2, 1) := by decide +kernel
theorem dX4_of_8 : decode cX4_of 8 = .ok (.iadd, 1) := by decide +kernel
theorem dX4_of_9 : decode cX4_of 9 = .ok (.iaload, 1) := by decide +kernel
theorem dX4_of_10 : decode cX4_of 10 = .ok (.ireturn, 1) := by decide +kernel
set_option maxRecDepth 20000 in
theorem ggX4_hasWire_X4_isPad : GoodIn wsX4_hasWire wsX4_isPad := goodIn_r _ [5, 6, 7, 4, 8] (by decide +kernel) (by decide +kernel)
set_option maxRecDepth 20000 in
theorem gX4_hasWire_X4_isPad : GoodIn wsX4_hasWire (va_wsS RX4 41 yX4_isPad wsX4_isPad) := goodIn_app (goodIn_of _ (by decide +kernel)) ggX4_hasWire_X4_isPad
set_option maxRecDepth 20000 in
theorem ggX4_hasWire_X4_of : GoodIn wsX4_hasWire wsX4_of := goodIn_r _ [11] (by decide +kernel) (by decide +kernel)
set_option maxRecDepth 20000 in
theorem gX4_hasWire_X4_of : GoodIn wsX4_hasWire (va_wsS RX4 45 yX4_of wsX4_of) := goodIn_app (goodIn_of _ (by decide +kernel)) ggX4_hasWire_X4_of
theorem dX4_hasWire_0 : decode cX4_hasWire 0 = .ok (.iload_n 1, 1) := by decide +kernel
theorem dX4_hasWire_1 : decode cX4_hasWire 1 = .ok (.invokestatic 41, 3) := by decide +kernel
theorem dX4_hasWire_4 : decode cX4_hasWire 4 = .ok (.ifCond .eq 21, 3) := by decide +kernel
theorem dX4_hasWire_7 : decode cX4_hasWire 7 = .ok (.aload_n 0, 1) := by decide +kernel
theorem dX4_hasWire_8 : decode cX4_hasWire 8 = .ok (.getfield 7, 3) := by decide +kernel
theorem dX4_hasWire_11 : decode cX4_hasWire 11 = .ok (.iload_n 1, 1) := by decide +kernel
theorem dX4_hasWire_12 : decode cX4_hasWire 12 = .ok (.iconst 0, 1) := by decide +kernel
theorem dX4_hasWire_13 : decode cX4_hasWire 13 = .ok (.invokestatic 45, 3) := by decide +kernel
theorem dX4_hasWire_16 : decode cX4_hasWire 16 = .ok (.bipush (-5), 2) := by decide +kernel
theorem dX4_hasWire_18 : decode cX4_hasWire 18 = .ok (.if_icmp .eq 7, 3) := by decide +kernel
theorem dX4_hasWire_21 : decode cX4_hasWire 21 = .ok (.iconst 1, 1) := by decide +kernel
theorem dX4_hasWire_22 : decode cX4_hasWire 22 = .ok (.goto 4, 3) := by decide +kernel
theorem dX4_hasWire_25 : decode cX4_hasWire 25 = .ok (.iconst 0, 1) := by decide +kernel
theorem dX4_hasWire_26 : decode cX4_hasWire 26 = .ok (.ireturn, 1) := by decide +kernel
set_option maxRecDepth 20000 in
theorem ggX4_padOf_X4_of : GoodIn wsX4_padOf wsX4_of := goodIn_r _ [4] (by decide +kernel) (by decide +kernel)
set_option maxRecDepth 20000 in
theorem gX4_padOf_X4_of : GoodIn wsX4_padOf (va_wsS RX4 45 yX4_of wsX4_of) := goodIn_app (goodIn_of _ (by decide +kernel)) ggX4_padOf_X4_of
theorem dX4_padOf_0 : decode cX4_padOf 0 = .ok (.bipush (-5), 2) := by decide +kernel
theorem dX4_padOf_2 : decode cX4_padOf 2 = .ok (.istore_n 2, 1) := by decide +kernel
theorem dX4_padOf_3 : decode cX4_padOf 3 = .ok (.iconst 0, 1) := by decide +kernel
theorem dX4_padOf_4 : decode cX4_padOf 4 = .ok (.istore_n 3, 1) := by decide +kernel
theorem dX4_padOf_5 : decode cX4_padOf 5 = .ok (.iload_n 3, 1) := by decide +kernel
theorem dX4_padOf_6 : decode cX4_padOf 6 = .ok (.bipush 12, 2) := by decide +kernel
theorem dX4_padOf_8 : decode cX4_padOf 8 = .ok (.if_icmp .ge 25, 3) := by decide +kernel
theorem dX4_padOf_11 : decode cX4_padOf 11 = .ok (.aload_n 0, 1) := by decide +kernel
theorem dX4_padOf_12 : decode cX4_padOf 12 = .ok (.iload_n 3, 1) := by decide +kernel
theorem dX4_padOf_13 : decode cX4_padOf 13 = .ok (.iconst 0, 1) := by decide +kernel
theorem dX4_padOf_14 : decode cX4_padOf 14 = .ok (.invokestatic 45, 3) := by decide +kernel
theorem dX4_padOf_17 : decode cX4_padOf 17 = .ok (.iload_n 1, 1) := by decide +kernel
theorem dX4_padOf_18 : decode cX4_padOf 18 = .ok (.if_icmp .ne 7, 3) := by decide +kernel
theorem dX4_padOf_21 : decode cX4_padOf 21 = .ok (.iload_n 3, 1) := by decide +kernel
theorem dX4_padOf_22 : decode cX4_padOf 22 = .ok (.goto 4, 3) := by decide +kernel
theorem dX4_padOf_25 : decode cX4_padOf 25 = .ok (.iload_n 2, 1) := by decide +kernel
theorem dX4_padOf_26 : decode cX4_padOf 26 = .ok (.istore_n 2, 1) := by decide +kernel
theorem dX4_padOf_27 : decode cX4_padOf 27 = .ok (.iinc 3 1, 3) := by decide +kernel
theorem dX4_padOf_30 : decode cX4_padOf 30 = .ok (.goto (-25), 3) := by decide +kernel
theorem dX4_padOf_33 : decode cX4_padOf 33 = .ok (.iload_n 2, 1) := by decide +kernel
theorem dX4_padOf_34 : decode cX4_padOf 34 = .ok (.ireturn, 1) := by decide +kernel
set_option maxRecDepth 20000 in
theorem ggX4_wires_X4_hasWire : GoodIn wsX4_wires wsX4_hasWire := goodIn_r _ [5, 6, 7, 8, 4, 9, 10, 11, 12, 13, 14, 15, 16, 17, 18, 19, 20, 21, 22, 23, 24, 25, 26] (by decide +kernel) (by decide +kernel)
set_option maxRecDepth 20000 in
theorem gX4_wires_X4_hasWire : GoodIn wsX4_wires (wsV RX4 49 RX4 yX4_hasWire wsX4_hasWire) := goodIn_app (goodIn_of _ (by decide +kernel)) ggX4_wires_X4_hasWire
theorem dX4_wires_0 : decode cX4_wires 0 = .ok (.iconst 0, 1) := by decide +kernel
theorem dX4_wires_1 : decode cX4_wires 1 = .ok (.istore_n 1, 1) := by decide +kernel
theorem dX4_wires_2 : decode cX4_wires 2 = .ok (.iconst 0, 1) := by decide +kernel
theorem dX4_wires_3 : decode cX4_wires 3 = .ok (.istore_n 2, 1) := by decide +kernel
theorem dX4_wires_4 : decode cX4_wires 4 = .ok (.iload_n 2, 1) := by decide +kernel
theorem dX4_wires_5 : decode cX4_wires 5 = .ok (.bipush 12, 2) := by decide +kernel
theorem dX4_wires_7 : decode cX4_wires 7 = .ok (.if_icmp .ge 25, 3) := by decide +kernel
theorem dX4_wires_10 : decode cX4_wires 10 = .ok (.iload_n 1, 1) := by decide +kernel
theorem dX4_wires_11 : decode cX4_wires 11 = .ok (.aload_n 0, 1) := by decide +kernel
theorem dX4_wires_12 : decode cX4_wires 12 = .ok (.iload_n 2, 1) := by decide +kernel
theorem dX4_wires_13 : decode cX4_wires 13 = .ok (.invokevirtual 49, 3) := by decide +kernel
theorem dX4_wires_16 : decode cX4_wires 16 = .ok (.ifCond .eq 7, 3) := by decide +kernel
theorem dX4_wires_19 : decode cX4_wires 19 = .ok (.iconst 1, 1) := by decide +kernel
theorem dX4_wires_20 : decode cX4_wires 20 = .ok (.goto 4, 3) := by decide +kernel
theorem dX4_wires_23 : decode cX4_wires 23 = .ok (.iconst 0, 1) := by decide +kernel
theorem dX4_wires_24 : decode cX4_wires 24 = .ok (.iadd, 1) := by decide +kernel
theorem dX4_wires_25 : decode cX4_wires 25 = .ok (.istore_n 1, 1) := by decide +kernel
theorem dX4_wires_26 : decode cX4_wires 26 = .ok (.iinc 2 1, 3) := by decide +kernel
theorem dX4_wires_29 : decode cX4_wires 29 = .ok (.goto (-25), 3) := by decide +kernel
theorem dX4_wires_32 : decode cX4_wires 32 = .ok (.iload_n 1, 1) := by decide +kernel
theorem dX4_wires_33 : decode cX4_wires 33 = .ok (.ireturn, 1) := by decide +kernel
theorem dX4_padX_0 : decode cX4_padX 0 = .ok (.bipush 100, 2) := by decide +kernel
theorem dX4_padX_2 : decode cX4_padX 2 = .ok (.bipush 20, 2) := by decide +kernel
theorem dX4_padX_4 : decode cX4_padX 4 = .ok (.iload_n 0, 1) := by decide +kernel
theorem dX4_padX_5 : decode cX4_padX 5 = .ok (.imul, 1) := by decide +kernel
theorem dX4_padX_6 : decode cX4_padX 6 = .ok (.iadd, 1) := by decide +kernel
theorem dX4_padX_7 : decode cX4_padX 7 = .ok (.ireturn, 1) := by decide +kernel
theorem dX4_apart_0 : decode cX4_apart 0 = .ok (.iload_n 0, 1) := by decide +kernel
theorem dX4_apart_1 : decode cX4_apart 1 = .ok (.iload_n 1, 1) := by decide +kernel
theorem dX4_apart_2 : decode cX4_apart 2 = .ok (.if_icmp .ge 9, 3) := by decide +kernel
theorem dX4_apart_5 : decode cX4_apart 5 = .ok (.iload_n 1, 1) := by decide +kernel
theorem dX4_apart_6 : decode cX4_apart 6 = .ok (.iload_n 0, 1) := by decide +kernel
theorem dX4_apart_7 : decode cX4_apart 7 = .ok (.isub, 1) := by decide +kernel
theorem dX4_apart_8 : decode cX4_apart 8 = .ok (.goto 6, 3) := by decide +kernel
theorem dX4_apart_11 : decode cX4_apart 11 = .ok (.iload_n 0, 1) := by decide +kernel
theorem dX4_apart_12 : decode cX4_apart 12 = .ok (.iload_n 1, 1) := by decide +kernel
theorem dX4_apart_13 : decode cX4_apart 13 = .ok (.isub, 1) := by decide +kernel
theorem dX4_apart_14 : decode cX4_apart 14 = .ok (.ireturn, 1) := by decide +kernel
set_option maxRecDepth 20000 in
theorem ggX4_mayLay_X4_of : GoodIn wsX4_mayLay wsX4_of := goodIn_r _ [4] (by decide +kernel) (by decide +kernel)
set_option maxRecDepth 20000 in
theorem gX4_mayLay_X4_of : GoodIn wsX4_mayLay (va_wsS RX4 45 yX4_of wsX4_of) := goodIn_app (goodIn_of _ (by decide +kernel)) ggX4_mayLay_X4_of
set_option maxRecDepth 20000 in
theorem ggX4_mayLay_X4_padOf : GoodIn wsX4_mayLay wsX4_padOf := goodIn_r _ [7, 1, 2, 3, 4] (by decide +kernel) (by decide +kernel)
set_option maxRecDepth 20000 in
theorem gX4_mayLay_X4_padOf : GoodIn wsX4_mayLay (va_wsS RX4 52 yX4_padOf wsX4_padOf) := goodIn_app (goodIn_of _ (by decide +kernel)) ggX4_mayLay_X4_padOf
theorem dX4_mayLay_0 : decode cX4_mayLay 0 = .ok (.aload_n 0, 1) := by decide +kernel
theorem dX4_mayLay_1 : decode cX4_mayLay 1 = .ok (.iload_n 1, 1) := by decide +kernel
theorem dX4_mayLay_2 : decode cX4_mayLay 2 = .ok (.iconst 0, 1) := by decide +kernel
theorem dX4_mayLay_3 : decode cX4_mayLay 3 = .ok (.invokestatic 45, 3) := by decide +kernel
theorem dX4_mayLay_6 : decode cX4_mayLay 6 = .ok (.bipush (-5), 2) := by decide +kernel
theorem dX4_mayLay_8 : decode cX4_mayLay 8 = .ok (.if_icmp .ne 13, 3) := by decide +kernel
theorem dX4_mayLay_11 : decode cX4_mayLay 11 = .ok (.aload_n 0, 1) := by decide +kernel
theorem dX4_mayLay_12 : decode cX4_mayLay 12 = .ok (.iload_n 2, 1) := by decide +kernel
theorem dX4_mayLay_13 : decode cX4_mayLay 13 = .ok (.invokestatic 52, 3) := by decide +kernel
theorem dX4_mayLay_16 : decode cX4_mayLay 16 = .ok (.bipush (-5), 2) := by decide +kernel
theorem dX4_mayLay_18 : decode cX4_mayLay 18 = .ok (.if_icmp .eq 6, 3) := by decide +kernel
theorem dX4_mayLay_21 : decode cX4_mayLay 21 = .ok (.bipush (-4), 2) := by decide +kernel
theorem dX4_mayLay_23 : decode cX4_mayLay 23 = .ok (.ireturn, 1) := by decide +kernel
theorem dX4_mayLay_24 : decode cX4_mayLay 24 = .ok (.aload_n 0, 1) := by decide +kernel
theorem dX4_mayLay_25 : decode cX4_mayLay 25 = .ok (.bipush 66, 2) := by decide +kernel
theorem dX4_mayLay_27 : decode cX4_mayLay 27 = .ok (.iaload, 1) := by decide +kernel
theorem dX4_mayLay_28 : decode cX4_mayLay 28 = .ok (.iconst 1, 1) := by decide +kernel
theorem dX4_mayLay_29 : decode cX4_mayLay 29 = .ok (.if_icmp .ne 8, 3) := by decide +kernel
theorem dX4_mayLay_32 : decode cX4_mayLay 32 = .ok (.bipush (-6), 2) := by decide +kernel
theorem dX4_mayLay_34 : decode cX4_mayLay 34 = .ok (.goto 19, 3) := by decide +kernel
theorem dX4_mayLay_37 : decode cX4_mayLay 37 = .ok (.aload_n 0, 1) := by decide +kernel
theorem dX4_mayLay_38 : decode cX4_mayLay 38 = .ok (.bipush 65, 2) := by decide +kernel
theorem dX4_mayLay_40 : decode cX4_mayLay 40 = .ok (.iaload, 1) := by decide +kernel
theorem dX4_mayLay_41 : decode cX4_mayLay 41 = .ok (.sipush 200, 3) := by decide +kernel
theorem dX4_mayLay_44 : decode cX4_mayLay 44 = .ok (.if_icmp .lt 8, 3) := by decide +kernel
theorem dX4_mayLay_47 : decode cX4_mayLay 47 = .ok (.bipush (-7), 2) := by decide +kernel
theorem dX4_mayLay_49 : decode cX4_mayLay 49 = .ok (.goto 4, 3) := by decide +kernel
theorem dX4_mayLay_52 : decode cX4_mayLay 52 = .ok (.iconst 0, 1) := by decide +kernel
theorem dX4_mayLay_53 : decode cX4_mayLay 53 = .ok (.ireturn, 1) := by decide +kernel
set_option maxRecDepth 20000 in
theorem ggX4_strengthFor_X4_padX : GoodIn wsX4_strengthFor wsX4_padX := goodIn_r _ [4] (by decide +kernel) (by decide +kernel)
set_option maxRecDepth 20000 in
theorem gX4_strengthFor_X4_padX : GoodIn wsX4_strengthFor (va_wsS RX4 56 yX4_padX wsX4_padX) := goodIn_app (goodIn_of _ (by decide +kernel)) ggX4_strengthFor_X4_padX
set_option maxRecDepth 20000 in
theorem ggX4_strengthFor_X4_apart : GoodIn wsX4_strengthFor wsX4_apart := goodIn_r _ [7] (by decide +kernel) (by decide +kernel)
set_option maxRecDepth 20000 in
theorem gX4_strengthFor_X4_apart : GoodIn wsX4_strengthFor (va_wsS RX4 60 yX4_apart wsX4_apart) := goodIn_app (goodIn_of _ (by decide +kernel)) ggX4_strengthFor_X4_apart
theorem dX4_strengthFor_0 : decode cX4_strengthFor 0 = .ok (.bipush 100, 2) := by decide +kernel
theorem dX4_strengthFor_2 : decode cX4_strengthFor 2 = .ok (.aload_n 0, 1) := by decide +kernel
theorem dX4_strengthFor_3 : decode cX4_strengthFor 3 = .ok (.bipush 65, 2) := by decide +kernel
theorem dX4_strengthFor_5 : decode cX4_strengthFor 5 = .ok (.iaload, 1) := by decide +kernel
theorem dX4_strengthFor_6 : decode cX4_strengthFor 6 = .ok (.iconst 4, 1) := by decide +kernel
theorem dX4_strengthFor_7 : decode cX4_strengthFor 7 = .ok (.idiv, 1) := by decide +kernel
theorem dX4_strengthFor_8 : decode cX4_strengthFor 8 = .ok (.isub, 1) := by decide +kernel
theorem dX4_strengthFor_9 : decode cX4_strengthFor 9 = .ok (.istore_n 3, 1) := by decide +kernel
theorem dX4_strengthFor_10 : decode cX4_strengthFor 10 = .ok (.iload_n 3, 1) := by decide +kernel
theorem dX4_strengthFor_11 : decode cX4_strengthFor 11 = .ok (.ifCond .ge 7, 3) := by decide +kernel
theorem dX4_strengthFor_14 : decode cX4_strengthFor 14 = .ok (.iconst 0, 1) := by decide +kernel
theorem dX4_strengthFor_15 : decode cX4_strengthFor 15 = .ok (.goto 4, 3) := by decide +kernel
theorem dX4_strengthFor_18 : decode cX4_strengthFor 18 = .ok (.iload_n 3, 1) := by decide +kernel
theorem dX4_strengthFor_19 : decode cX4_strengthFor 19 = .ok (.iload_n 1, 1) := by decide +kernel
theorem dX4_strengthFor_20 : decode cX4_strengthFor 20 = .ok (.invokestatic 56, 3) := by decide +kernel
theorem dX4_strengthFor_23 : decode cX4_strengthFor 23 = .ok (.aload_n 0, 1) := by decide +kernel
theorem dX4_strengthFor_24 : decode cX4_strengthFor 24 = .ok (.iconst 0, 1) := by decide +kernel
theorem dX4_strengthFor_25 : decode cX4_strengthFor 25 = .ok (.iload_n 2, 1) := by decide +kernel
theorem dX4_strengthFor_26 : decode cX4_strengthFor 26 = .ok (.iadd, 1) := by decide +kernel
theorem dX4_strengthFor_27 : decode cX4_strengthFor 27 = .ok (.iaload, 1) := by decide +kernel
theorem dX4_strengthFor_28 : decode cX4_strengthFor 28 = .ok (.invokestatic 60, 3) := by decide +kernel
theorem dX4_strengthFor_31 : decode cX4_strengthFor 31 = .ok (.bipush 20, 2) := by decide +kernel
theorem dX4_strengthFor_33 : decode cX4_strengthFor 33 = .ok (.idiv, 1) := by decide +kernel
theorem dX4_strengthFor_34 : decode cX4_strengthFor 34 = .ok (.isub, 1) := by decide +kernel
theorem dX4_strengthFor_35 : decode cX4_strengthFor 35 = .ok (.istore 4, 2) := by decide +kernel
theorem dX4_strengthFor_37 : decode cX4_strengthFor 37 = .ok (.iload 4, 2) := by decide +kernel
theorem dX4_strengthFor_39 : decode cX4_strengthFor 39 = .ok (.ifCond .ge 7, 3) := by decide +kernel
theorem dX4_strengthFor_42 : decode cX4_strengthFor 42 = .ok (.iconst 0, 1) := by decide +kernel
theorem dX4_strengthFor_43 : decode cX4_strengthFor 43 = .ok (.goto 5, 3) := by decide +kernel
theorem dX4_strengthFor_46 : decode cX4_strengthFor 46 = .ok (.iload 4, 2) := by decide +kernel
theorem dX4_strengthFor_48 : decode cX4_strengthFor 48 = .ok (.ireturn, 1) := by decide +kernel
set_option maxRecDepth 20000 in
theorem ggX4_laid_X4_strengthFor : GoodIn wsX4_laid wsX4_strengthFor := goodIn_r _ [4, 5, 6, 3, 7, 8, 9, 10] (by decide +kernel) (by decide +kernel)
set_option maxRecDepth 20000 in
theorem gX4_laid_X4_strengthFor : GoodIn wsX4_laid (va_wsS RX4 64 yX4_strengthFor wsX4_strengthFor) := goodIn_app (goodIn_of _ (by decide +kernel)) ggX4_laid_X4_strengthFor
theorem dX4_laid_0 : decode cX4_laid 0 = .ok (.aload_n 0, 1) := by decide +kernel
theorem dX4_laid_1 : decode cX4_laid 1 = .ok (.iload_n 1, 1) := by decide +kernel
theorem dX4_laid_2 : decode cX4_laid 2 = .ok (.iload_n 2, 1) := by decide +kernel
theorem dX4_laid_3 : decode cX4_laid 3 = .ok (.invokestatic 64, 3) := by decide +kernel
theorem dX4_laid_6 : decode cX4_laid 6 = .ok (.istore 4, 2) := by decide +kernel
theorem dX4_laid_8 : decode cX4_laid 8 = .ok (.bipush 16, 2) := by decide +kernel
theorem dX4_laid_10 : decode cX4_laid 10 = .ok (.iconst 4, 1) := by decide +kernel
theorem dX4_laid_11 : decode cX4_laid 11 = .ok (.iload_n 1, 1) := by decide +kernel
theorem dX4_laid_12 : decode cX4_laid 12 = .ok (.imul, 1) := by decide +kernel
theorem dX4_laid_13 : decode cX4_laid 13 = .ok (.iadd, 1) := by decide +kernel
theorem dX4_laid_14 : decode cX4_laid 14 = .ok (.istore 5, 2) := by decide +kernel
theorem dX4_laid_16 : decode cX4_laid 16 = .ok (.aload_n 0, 1) := by decide +kernel
theorem dX4_laid_17 : decode cX4_laid 17 = .ok (.iload 5, 2) := by decide +kernel
theorem dX4_laid_19 : decode cX4_laid 19 = .ok (.iconst 0, 1) := by decide +kernel
theorem dX4_laid_20 : decode cX4_laid 20 = .ok (.iadd, 1) := by decide +kernel
theorem dX4_laid_21 : decode cX4_laid 21 = .ok (.iload_n 2, 1) := by decide +kernel
theorem dX4_laid_22 : decode cX4_laid 22 = .ok (.iastore, 1) := by decide +kernel
theorem dX4_laid_23 : decode cX4_laid 23 = .ok (.aload_n 0, 1) := by decide +kernel
theorem dX4_laid_24 : decode cX4_laid 24 = .ok (.iload 5, 2) := by decide +kernel
theorem dX4_laid_26 : decode cX4_laid 26 = .ok (.iconst 1, 1) := by decide +kernel
theorem dX4_laid_27 : decode cX4_laid 27 = .ok (.iadd, 1) := by decide +kernel
theorem dX4_laid_28 : decode cX4_laid 28 = .ok (.iload_n 3, 1) := by decide +kernel
theorem dX4_laid_29 : decode cX4_laid 29 = .ok (.iastore, 1) := by decide +kernel
theorem dX4_laid_30 : decode cX4_laid 30 = .ok (.aload_n 0, 1) := by decide +kernel
theorem dX4_laid_31 : decode cX4_laid 31 = .ok (.iload 5, 2) := by decide +kernel
theorem dX4_laid_33 : decode cX4_laid 33 = .ok (.iconst 2, 1) := by decide +kernel
theorem dX4_laid_34 : decode cX4_laid 34 = .ok (.iadd, 1) := by decide +kernel
theorem dX4_laid_35 : decode cX4_laid 35 = .ok (.iload 4, 2) := by decide +kernel
theorem dX4_laid_37 : decode cX4_laid 37 = .ok (.iastore, 1) := by decide +kernel
theorem dX4_laid_38 : decode cX4_laid 38 = .ok (.aload_n 0, 1) := by decide +kernel
theorem dX4_laid_39 : decode cX4_laid 39 = .ok (.iload 5, 2) := by decide +kernel
theorem dX4_laid_41 : decode cX4_laid 41 = .ok (.iconst 3, 1) := by decide +kernel
theorem dX4_laid_42 : decode cX4_laid 42 = .ok (.iadd, 1) := by decide +kernel
theorem dX4_laid_43 : decode cX4_laid 43 = .ok (.aload_n 0, 1) := by decide +kernel
theorem dX4_laid_44 : decode cX4_laid 44 = .ok (.bipush 68, 2) := by decide +kernel
theorem dX4_laid_46 : decode cX4_laid 46 = .ok (.iaload, 1) := by decide +kernel
theorem dX4_laid_47 : decode cX4_laid 47 = .ok (.iastore, 1) := by decide +kernel
theorem dX4_laid_48 : decode cX4_laid 48 = .ok (.aload_n 0, 1) := by decide +kernel
theorem dX4_laid_49 : decode cX4_laid 49 = .ok (.bipush 65, 2) := by decide +kernel
theorem dX4_laid_51 : decode cX4_laid 51 = .ok (.iaload, 1) := by decide +kernel
theorem dX4_laid_52 : decode cX4_laid 52 = .ok (.iconst 2, 1) := by decide +kernel
theorem dX4_laid_53 : decode cX4_laid 53 = .ok (.iadd, 1) := by decide +kernel
theorem dX4_laid_54 : decode cX4_laid 54 = .ok (.iload_n 3, 1) := by decide +kernel
theorem dX4_laid_55 : decode cX4_laid 55 = .ok (.bipush 50, 2) := by decide +kernel
theorem dX4_laid_57 : decode cX4_laid 57 = .ok (.idiv, 1) := by decide +kernel
theorem dX4_laid_58 : decode cX4_laid 58 = .ok (.iadd, 1) := by decide +kernel
theorem dX4_laid_59 : decode cX4_laid 59 = .ok (.istore 6, 2) := by decide +kernel
theorem dX4_laid_61 : decode cX4_laid 61 = .ok (.aload_n 0, 1) := by decide +kernel
theorem dX4_laid_62 : decode cX4_laid 62 = .ok (.bipush 65, 2) := by decide +kernel
theorem dX4_laid_64 : decode cX4_laid 64 = .ok (.iload 6, 2) := by decide +kernel
theorem dX4_laid_66 : decode cX4_laid 66 = .ok (.sipush 999, 3) := by decide +kernel
theorem dX4_laid_69 : decode cX4_laid 69 = .ok (.if_icmp .le 9, 3) := by decide +kernel
theorem dX4_laid_72 : decode cX4_laid 72 = .ok (.sipush 999, 3) := by decide +kernel
theorem dX4_laid_75 : decode cX4_laid 75 = .ok (.goto 5, 3) := by decide +kernel
theorem dX4_laid_78 : decode cX4_laid 78 = .ok (.iload 6, 2) := by decide +kernel
theorem dX4_laid_80 : decode cX4_laid 80 = .ok (.iastore, 1) := by decide +kernel
theorem dX4_laid_81 : decode cX4_laid 81 = .ok (.aload_n 0, 1) := by decide +kernel
theorem dX4_laid_82 : decode cX4_laid 82 = .ok (.bipush 68, 2) := by decide +kernel
theorem dX4_laid_84 : decode cX4_laid 84 = .ok (.dup2, 1) := by decide +kernel
theorem dX4_laid_85 : decode cX4_laid 85 = .ok (.iaload, 1) := by decide +kernel
theorem dX4_laid_86 : decode cX4_laid 86 = .ok (.iconst 1, 1) := by decide +kernel
theorem dX4_laid_87 : decode cX4_laid 87 = .ok (.iadd, 1) := by decide +kernel
theorem dX4_laid_88 : decode cX4_laid 88 = .ok (.iastore, 1) := by decide +kernel
theorem dX4_laid_89 : decode cX4_laid 89 = .ok (.aload_n 0, 1) := by decide +kernel
theorem dX4_laid_90 : decode cX4_laid 90 = .ok (.bipush 68, 2) := by decide +kernel
theorem dX4_laid_92 : decode cX4_laid 92 = .ok (.iaload, 1) := by decide +kernel
theorem dX4_laid_93 : decode cX4_laid 93 = .ok (.bipush 7, 2) := by decide +kernel
theorem dX4_laid_95 : decode cX4_laid 95 = .ok (.irem, 1) := by decide +kernel
theorem dX4_laid_96 : decode cX4_laid 96 = .ok (.ifCond .ne 16, 3) := by decide +kernel
theorem dX4_laid_99 : decode cX4_laid 99 = .ok (.aload_n 0, 1) := by decide +kernel
theorem dX4_laid_100 : decode cX4_laid 100 = .ok (.bipush 66, 2) := by decide +kernel
theorem dX4_laid_102 : decode cX4_laid 102 = .ok (.iconst 1, 1) := by decide +kernel
theorem dX4_laid_103 : decode cX4_laid 103 = .ok (.iastore, 1) := by decide +kernel
theorem dX4_laid_104 : decode cX4_laid 104 = .ok (.aload_n 0, 1) := by decide +kernel
theorem dX4_laid_105 : decode cX4_laid 105 = .ok (.bipush 67, 2) := by decide +kernel
theorem dX4_laid_107 : decode cX4_laid 107 = .ok (.dup2, 1) := by decide +kernel
theorem dX4_laid_108 : decode cX4_laid 108 = .ok (.iaload, 1) := by decide +kernel
theorem dX4_laid_109 : decode cX4_laid 109 = .ok (.iconst 1, 1) := by decide +kernel
theorem dX4_laid_110 : decode cX4_laid 110 = .ok (.iadd, 1) := by decide +kernel
theorem dX4_laid_111 : decode cX4_laid 111 = .ok (.iastore, 1) := by decide +kernel
theorem dX4_laid_112 : decode cX4_laid 112 = .ok (.iload 4, 2) := by decide +kernel
theorem dX4_laid_114 : decode cX4_laid 114 = .ok (.ireturn, 1) := by decide +kernel
theorem dX4_goes_0 : decode cX4_goes 0 = .ok (.bipush 16, 2) := by decide +kernel
theorem dX4_goes_2 : decode cX4_goes 2 = .ok (.iconst 4, 1) := by decide +kernel
theorem dX4_goes_3 : decode cX4_goes 3 = .ok (.iload_n 1, 1) := by decide +kernel
theorem dX4_goes_4 : decode cX4_goes 4 = .ok (.imul, 1) := by decide +kernel
theorem dX4_goes_5 : decode cX4_goes 5 = .ok (.iadd, 1) := by decide +kernel
theorem dX4_goes_6 : decode cX4_goes 6 = .ok (.istore_n 2, 1) := by decide +kernel
theorem dX4_goes_7 : decode cX4_goes 7 = .ok (.aload_n 0, 1) := by decide +kernel
theorem dX4_goes_8 : decode cX4_goes 8 = .ok (.getfield 7, 3) := by decide +kernel
theorem dX4_goes_11 : decode cX4_goes 11 = .ok (.iload_n 2, 1) := by decide +kernel
theorem dX4_goes_12 : decode cX4_goes 12 = .ok (.iconst 0, 1) := by decide +kernel
theorem dX4_goes_13 : decode cX4_goes 13 = .ok (.iadd, 1) := by decide +kernel
theorem dX4_goes_14 : decode cX4_goes 14 = .ok (.bipush (-5), 2) := by decide +kernel
theorem dX4_goes_16 : decode cX4_goes 16 = .ok (.iastore, 1) := by decide +kernel
theorem dX4_goes_17 : decode cX4_goes 17 = .ok (.aload_n 0, 1) := by decide +kernel
theorem dX4_goes_18 : decode cX4_goes 18 = .ok (.getfield 7, 3) := by decide +kernel
theorem dX4_goes_21 : decode cX4_goes 21 = .ok (.iload_n 2, 1) := by decide +kernel
theorem dX4_goes_22 : decode cX4_goes 22 = .ok (.iconst 1, 1) := by decide +kernel
theorem dX4_goes_23 : decode cX4_goes 23 = .ok (.iadd, 1) := by decide +kernel
theorem dX4_goes_24 : decode cX4_goes 24 = .ok (.iconst 0, 1) := by decide +kernel
theorem dX4_goes_25 : decode cX4_goes 25 = .ok (.iastore, 1) := by decide +kernel
theorem dX4_goes_26 : decode cX4_goes 26 = .ok (.aload_n 0, 1) := by decide +kernel
theorem dX4_goes_27 : decode cX4_goes 27 = .ok (.getfield 7, 3) := by decide +kernel
theorem dX4_goes_30 : decode cX4_goes 30 = .ok (.iload_n 2, 1) := by decide +kernel
theorem dX4_goes_31 : decode cX4_goes 31 = .ok (.iconst 2, 1) := by decide +kernel
theorem dX4_goes_32 : decode cX4_goes 32 = .ok (.iadd, 1) := by decide +kernel
theorem dX4_goes_33 : decode cX4_goes 33 = .ok (.iconst 0, 1) := by decide +kernel
theorem dX4_goes_34 : decode cX4_goes 34 = .ok (.iastore, 1) := by decide +kernel
theorem dX4_goes_35 : decode cX4_goes 35 = .ok (.aload_n 0, 1) := by decide +kernel
theorem dX4_goes_36 : decode cX4_goes 36 = .ok (.getfield 7, 3) := by decide +kernel
theorem dX4_goes_39 : decode cX4_goes 39 = .ok (.iload_n 2, 1) := by decide +kernel
theorem dX4_goes_40 : decode cX4_goes 40 = .ok (.iconst 3, 1) := by decide +kernel
theorem dX4_goes_41 : decode cX4_goes 41 = .ok (.iadd, 1) := by decide +kernel
theorem dX4_goes_42 : decode cX4_goes 42 = .ok (.iconst 0, 1) := by decide +kernel
theorem dX4_goes_43 : decode cX4_goes 43 = .ok (.iastore, 1) := by decide +kernel
theorem dX4_goes_44 : decode cX4_goes 44 = .ok (.return_, 1) := by decide +kernel
set_option maxRecDepth 20000 in
theorem ggX4_lay_X4_isPad : GoodIn wsX4_lay wsX4_isPad := goodIn_r _ [5, 6, 7, 4, 8] (by decide +kernel) (by decide +kernel)
set_option maxRecDepth 20000 in
theorem gX4_lay_X4_isPad : GoodIn wsX4_lay (va_wsS RX4 41 yX4_isPad wsX4_isPad) := goodIn_app (goodIn_of _ (by decide +kernel)) ggX4_lay_X4_isPad
set_option maxRecDepth 20000 in
theorem ggX4_lay_X4_isLead : GoodIn wsX4_lay wsX4_isLead := goodIn_r _ [11, 6, 7, 4, 8] (by decide +kernel) (by decide +kernel)
set_option maxRecDepth 20000 in
theorem gX4_lay_X4_isLead : GoodIn wsX4_lay (va_wsS RX4 67 yX4_isLead wsX4_isLead) := goodIn_app (goodIn_of _ (by decide +kernel)) ggX4_lay_X4_isLead
set_option maxRecDepth 20000 in
theorem ggX4_lay_X4_isHeight : GoodIn wsX4_lay wsX4_isHeight := goodIn_r _ [14, 6, 7, 4, 8] (by decide +kernel) (by decide +kernel)
set_option maxRecDepth 20000 in
theorem gX4_lay_X4_isHeight : GoodIn wsX4_lay (va_wsS RX4 70 yX4_isHeight wsX4_isHeight) := goodIn_app (goodIn_of _ (by decide +kernel)) ggX4_lay_X4_isHeight
set_option maxRecDepth 20000 in
theorem ggX4_lay_X4_mayLay : GoodIn wsX4_lay wsX4_mayLay := goodIn_r _ [17, 18, 19, 4, 20, 21, 22, 23] (by decide +kernel) (by decide +kernel)
set_option maxRecDepth 20000 in
theorem gX4_lay_X4_mayLay : GoodIn wsX4_lay (va_wsS RX4 73 yX4_mayLay wsX4_mayLay) := goodIn_app (goodIn_of _ (by decide +kernel)) ggX4_lay_X4_mayLay
set_option maxRecDepth 20000 in
theorem ggX4_lay_X4_records : GoodIn wsX4_lay wsX4_records := goodIn_r _ [27, 28, 29, 1, 30, 31, 4, 32, 45, 46, 47, 48, 49, 50, 51, 52, 53, 54, 55] (by decide +kernel) (by decide +kernel)
set_option maxRecDepth 20000 in
theorem gX4_lay_X4_records : GoodIn wsX4_lay (wsV RX4 76 RX4 yX4_records wsX4_records) := goodIn_app (goodIn_of _ (by decide +kernel)) ggX4_lay_X4_records
set_option maxRecDepth 20000 in
theorem ggX4_lay_X4_laid : GoodIn wsX4_lay wsX4_laid := goodIn_r _ [35, 36, 37, 4, 38, 39, 40, 41, 42, 43, 44] (by decide +kernel) (by decide +kernel)
set_option maxRecDepth 20000 in
theorem gX4_lay_X4_laid : GoodIn wsX4_lay (va_wsS RX4 79 yX4_laid wsX4_laid) := goodIn_app (goodIn_of _ (by decide +kernel)) ggX4_lay_X4_laid
theorem dX4_lay_0 : decode cX4_lay 0 = .ok (.iload_n 1, 1) := by decide +kernel
theorem dX4_lay_1 : decode cX4_lay 1 = .ok (.invokestatic 41, 3) := by decide +kernel
theorem dX4_lay_4 : decode cX4_lay 4 = .ok (.ifCond .eq 10, 3) := by decide +kernel
theorem dX4_lay_7 : decode cX4_lay 7 = .ok (.iload_n 2, 1) := by decide +kernel
theorem dX4_lay_8 : decode cX4_lay 8 = .ok (.invokestatic 67, 3) := by decide +kernel
theorem dX4_lay_11 : decode cX4_lay 11 = .ok (.ifCond .ne 5, 3) := by decide +kernel
theorem dX4_lay_14 : decode cX4_lay 14 = .ok (.iconst (-1), 1) := by decide +kernel
theorem dX4_lay_15 : decode cX4_lay 15 = .ok (.ireturn, 1) := by decide +kernel
theorem dX4_lay_16 : decode cX4_lay 16 = .ok (.iload_n 3, 1) := by decide +kernel
theorem dX4_lay_17 : decode cX4_lay 17 = .ok (.invokestatic 70, 3) := by decide +kernel
theorem dX4_lay_20 : decode cX4_lay 20 = .ok (.ifCond .ne 6, 3) := by decide +kernel
theorem dX4_lay_23 : decode cX4_lay 23 = .ok (.bipush (-2), 2) := by decide +kernel
theorem dX4_lay_25 : decode cX4_lay 25 = .ok (.ireturn, 1) := by decide +kernel
theorem dX4_lay_26 : decode cX4_lay 26 = .ok (.aload_n 0, 1) := by decide +kernel
theorem dX4_lay_27 : decode cX4_lay 27 = .ok (.getfield 7, 3) := by decide +kernel
theorem dX4_lay_30 : decode cX4_lay 30 = .ok (.iload_n 1, 1) := by decide +kernel
theorem dX4_lay_31 : decode cX4_lay 31 = .ok (.iload_n 2, 1) := by decide +kernel
theorem dX4_lay_32 : decode cX4_lay 32 = .ok (.invokestatic 73, 3) := by decide +kernel
theorem dX4_lay_35 : decode cX4_lay 35 = .ok (.istore 4, 2) := by decide +kernel
theorem dX4_lay_37 : decode cX4_lay 37 = .ok (.iload 4, 2) := by decide +kernel
theorem dX4_lay_39 : decode cX4_lay 39 = .ok (.ifCond .ge 6, 3) := by decide +kernel
theorem dX4_lay_42 : decode cX4_lay 42 = .ok (.iload 4, 2) := by decide +kernel
theorem dX4_lay_44 : decode cX4_lay 44 = .ok (.ireturn, 1) := by decide +kernel
theorem dX4_lay_45 : decode cX4_lay 45 = .ok (.aload_n 0, 1) := by decide +kernel
theorem dX4_lay_46 : decode cX4_lay 46 = .ok (.invokevirtual 76, 3) := by decide +kernel
theorem dX4_lay_49 : decode cX4_lay 49 = .ok (.aload_n 0, 1) := by decide +kernel
theorem dX4_lay_50 : decode cX4_lay 50 = .ok (.getfield 7, 3) := by decide +kernel
theorem dX4_lay_53 : decode cX4_lay 53 = .ok (.iload_n 1, 1) := by decide +kernel
theorem dX4_lay_54 : decode cX4_lay 54 = .ok (.iload_n 2, 1) := by decide +kernel
theorem dX4_lay_55 : decode cX4_lay 55 = .ok (.iload_n 3, 1) := by decide +kernel
theorem dX4_lay_56 : decode cX4_lay 56 = .ok (.invokestatic 79, 3) := by decide +kernel
theorem dX4_lay_59 : decode cX4_lay 59 = .ok (.ireturn, 1) := by decide +kernel
set_option maxRecDepth 20000 in
theorem ggX4_layAll_X4_fault : GoodIn wsX4_layAll wsX4_fault := goodIn_r _ [9, 10, 3, 11, 12, 13, 14, 8, 15, 4, 16, 17, 18, 19, 20, 21, 22, 23, 24, 25, 26, 27, 28, 29, 30, 31, 73, 74, 75, 76, 77, 78, 79, 80, 81, 82, 83] (by decide +kernel) (by decide +kernel)
set_option maxRecDepth 20000 in
theorem gX4_layAll_X4_fault : GoodIn wsX4_layAll (wsV RX4 83 RX4 yX4_fault wsX4_fault) := goodIn_app (goodIn_of _ (by decide +kernel)) ggX4_layAll_X4_fault
set_option maxRecDepth 20000 in
theorem ggX4_layAll_X4_lays : GoodIn wsX4_layAll wsX4_lays := goodIn_r _ [34] (by decide +kernel) (by decide +kernel)
set_option maxRecDepth 20000 in
theorem gX4_layAll_X4_lays : GoodIn wsX4_layAll (va_wsS RX4 33 yX4_lays wsX4_lays) := goodIn_app (goodIn_of _ (by decide +kernel)) ggX4_layAll_X4_lays
set_option maxRecDepth 20000 in
theorem ggX4_layAll_X4_mayLay : GoodIn wsX4_layAll wsX4_mayLay := goodIn_r _ [37, 38, 39, 8, 40, 41, 42, 43] (by decide +kernel) (by decide +kernel)
set_option maxRecDepth 20000 in
theorem gX4_layAll_X4_mayLay : GoodIn wsX4_layAll (va_wsS RX4 73 yX4_mayLay wsX4_mayLay) := goodIn_app (goodIn_of _ (by decide +kernel)) ggX4_layAll_X4_mayLay
set_option maxRecDepth 20000 in
theorem ggX4_layAll_X4_laid : GoodIn wsX4_layAll wsX4_laid := goodIn_r _ [46, 47, 48, 8, 49, 50, 51, 52, 53, 54, 55] (by decide +kernel) (by decide +kernel)
set_option maxRecDepth 20000 in
theorem gX4_layAll_X4_laid : GoodIn wsX4_layAll (va_wsS RX4 79 yX4_laid wsX4_laid) := goodIn_app (goodIn_of _ (by decide +kernel)) ggX4_layAll_X4_laid
set_option maxRecDepth 20000 in
theorem ggX4_layAll_X4_records : GoodIn wsX4_layAll wsX4_records := goodIn_r _ [59, 60, 61, 1, 32, 33, 8, 34, 73, 74, 75, 76, 77, 78, 79, 80, 81, 82, 83] (by decide +kernel) (by decide +kernel)
set_option maxRecDepth 20000 in
theorem gX4_layAll_X4_records : GoodIn wsX4_layAll (wsV RX4 76 RX4 yX4_records wsX4_records) := goodIn_app (goodIn_of _ (by decide +kernel)) ggX4_layAll_X4_records
set_option maxRecDepth 20000 in
theorem ggX4_layAll_X4_wires : GoodIn wsX4_layAll wsX4_wires := goodIn_r _ [65, 66, 67, 68, 8, 69, 1, 70, 71, 72, 25, 26, 27, 38, 39, 40, 73, 74, 75, 76, 77, 78, 79, 80, 81, 82, 83] (by decide +kernel) (by decide +kernel)
set_option maxRecDepth 20000 in
theorem gX4_layAll_X4_wires : GoodIn wsX4_layAll (wsV RX4 90 RX4 yX4_wires wsX4_wires) := goodIn_app (goodIn_of _ (by decide +kernel)) ggX4_layAll_X4_wires
theorem dX4_layAll_0 : decode cX4_layAll 0 = .ok (.aload_n 0, 1) := by decide +kernel
theorem dX4_layAll_1 : decode cX4_layAll 1 = .ok (.invokevirtual 83, 3) := by decide +kernel
theorem dX4_layAll_4 : decode cX4_layAll 4 = .ok (.istore_n 1, 1) := by decide +kernel
theorem dX4_layAll_5 : decode cX4_layAll 5 = .ok (.iload_n 1, 1) := by decide +kernel
theorem dX4_layAll_6 : decode cX4_layAll 6 = .ok (.bipush (-5), 2) := by decide +kernel
theorem dX4_layAll_8 : decode cX4_layAll 8 = .ok (.if_icmp .eq 8, 3) := by decide +kernel
theorem dX4_layAll_11 : decode cX4_layAll 11 = .ok (.bipush (-100), 2) := by decide +kernel
theorem dX4_layAll_13 : decode cX4_layAll 13 = .ok (.iload_n 1, 1) := by decide +kernel
theorem dX4_layAll_14 : decode cX4_layAll 14 = .ok (.isub, 1) := by decide +kernel
theorem dX4_layAll_15 : decode cX4_layAll 15 = .ok (.ireturn, 1) := by decide +kernel
theorem dX4_layAll_16 : decode cX4_layAll 16 = .ok (.aload_n 0, 1) := by decide +kernel
theorem dX4_layAll_17 : decode cX4_layAll 17 = .ok (.getfield 7, 3) := by decide +kernel
theorem dX4_layAll_20 : decode cX4_layAll 20 = .ok (.iconst 0, 1) := by decide +kernel
theorem dX4_layAll_21 : decode cX4_layAll 21 = .ok (.aload_n 0, 1) := by decide +kernel
theorem dX4_layAll_22 : decode cX4_layAll 22 = .ok (.getfield 13, 3) := by decide +kernel
theorem dX4_layAll_25 : decode cX4_layAll 25 = .ok (.iconst 0, 1) := by decide +kernel
theorem dX4_layAll_26 : decode cX4_layAll 26 = .ok (.invokestatic 33, 3) := by decide +kernel
theorem dX4_layAll_29 : decode cX4_layAll 29 = .ok (.iconst 0, 1) := by decide +kernel
theorem dX4_layAll_30 : decode cX4_layAll 30 = .ok (.istore_n 2, 1) := by decide +kernel
theorem dX4_layAll_31 : decode cX4_layAll 31 = .ok (.iload_n 2, 1) := by decide +kernel
theorem dX4_layAll_32 : decode cX4_layAll 32 = .ok (.aload_n 0, 1) := by decide +kernel
theorem dX4_layAll_33 : decode cX4_layAll 33 = .ok (.getfield 87, 3) := by decide +kernel
theorem dX4_layAll_36 : decode cX4_layAll 36 = .ok (.if_icmp .ge 79, 3) := by decide +kernel
theorem dX4_layAll_39 : decode cX4_layAll 39 = .ok (.aload_n 0, 1) := by decide +kernel
theorem dX4_layAll_40 : decode cX4_layAll 40 = .ok (.getfield 13, 3) := by decide +kernel
theorem dX4_layAll_43 : decode cX4_layAll 43 = .ok (.aload_n 0, 1) := by decide +kernel
theorem dX4_layAll_44 : decode cX4_layAll 44 = .ok (.getfield 26, 3) := by decide +kernel
theorem dX4_layAll_47 : decode cX4_layAll 47 = .ok (.iconst 3, 1) := by decide +kernel
theorem dX4_layAll_48 : decode cX4_layAll 48 = .ok (.iload_n 2, 1) := by decide +kernel
theorem dX4_layAll_49 : decode cX4_layAll 49 = .ok (.imul, 1) := by decide +kernel
theorem dX4_layAll_50 : decode cX4_layAll 50 = .ok (.iaload, 1) := by decide +kernel
theorem dX4_layAll_51 : decode cX4_layAll 51 = .ok (.aload_n 0, 1) := by decide +kernel
theorem dX4_layAll_52 : decode cX4_layAll 52 = .ok (.getfield 26, 3) := by decide +kernel
theorem dX4_layAll_55 : decode cX4_layAll 55 = .ok (.iconst 3, 1) := by decide +kernel
theorem dX4_layAll_56 : decode cX4_layAll 56 = .ok (.iload_n 2, 1) := by decide +kernel
theorem dX4_layAll_57 : decode cX4_layAll 57 = .ok (.imul, 1) := by decide +kernel
theorem dX4_layAll_58 : decode cX4_layAll 58 = .ok (.iconst 1, 1) := by decide +kernel
theorem dX4_layAll_59 : decode cX4_layAll 59 = .ok (.iadd, 1) := by decide +kernel
theorem dX4_layAll_60 : decode cX4_layAll 60 = .ok (.iaload, 1) := by decide +kernel
theorem dX4_layAll_61 : decode cX4_layAll 61 = .ok (.invokestatic 73, 3) := by decide +kernel
theorem dX4_layAll_64 : decode cX4_layAll 64 = .ok (.istore_n 3, 1) := by decide +kernel
theorem dX4_layAll_65 : decode cX4_layAll 65 = .ok (.iload_n 3, 1) := by decide +kernel
theorem dX4_layAll_66 : decode cX4_layAll 66 = .ok (.ifCond .lt 41, 3) := by decide +kernel
theorem dX4_layAll_69 : decode cX4_layAll 69 = .ok (.aload_n 0, 1) := by decide +kernel
theorem dX4_layAll_70 : decode cX4_layAll 70 = .ok (.getfield 13, 3) := by decide +kernel
