theorem dX0_allCrossings_21 : decode cX0_allCrossings 21 = .ok (.iload_n 2, 1) := by decide +kernel
theorem dX0_allCrossings_22 : decode cX0_allCrossings 22 = .ok (.iload_n 3, 1) := by decide +kernel
theorem dX0_allCrossings_23 : decode cX0_allCrossings 23 = .ok (.invokevirtual 142, 3) := by decide +kernel
theorem dX0_allCrossings_26 : decode cX0_allCrossings 26 = .ok (.ifCond .eq 6, 3) := by decide +kernel
theorem dX0_allCrossings_29 : decode cX0_allCrossings 29 = .ok (.iinc 1 1, 3) := by decide +kernel
theorem dX0_allCrossings_32 : decode cX0_allCrossings 32 = .ok (.iinc 3 1, 3) := by decide +kernel
theorem dX0_allCrossings_35 : decode cX0_allCrossings 35 = .ok (.goto (-21), 3) := by decide +kernel
theorem dX0_allCrossings_38 : decode cX0_allCrossings 38 = .ok (.iinc 2 1, 3) := by decide +kernel
theorem dX0_allCrossings_41 : decode cX0_allCrossings 41 = .ok (.goto (-37), 3) := by decide +kernel
theorem dX0_allCrossings_44 : decode cX0_allCrossings 44 = .ok (.iload_n 1, 1) := by decide +kernel
theorem dX0_allCrossings_45 : decode cX0_allCrossings 45 = .ok (.ireturn, 1) := by decide +kernel
set_option maxRecDepth 20000 in
theorem ggX0_allShortOnes_X0_heightOf : GoodIn wsX0_allShortOnes wsX0_heightOf := goodIn_r _ [5, 6, 7, 8, 9, 46, 47, 48, 49, 50, 51, 52, 53, 54, 55, 56, 57] (by decide +kernel) (by decide +kernel)
set_option maxRecDepth 20000 in
theorem gX0_allShortOnes_X0_heightOf : GoodIn wsX0_allShortOnes (wsV RX0 139 RX0 yX0_heightOf wsX0_heightOf) := goodIn_app (goodIn_of _ (by decide +kernel)) ggX0_allShortOnes_X0_heightOf
set_option maxRecDepth 20000 in
theorem ggX0_allShortOnes_X0_isShort : GoodIn wsX0_allShortOnes wsX0_isShort := goodIn_r _ [13, 14, 15, 16, 17, 4, 18, 19, 20, 21, 22, 23, 7, 8, 9, 24, 25, 26, 27, 28, 29, 30, 31, 32, 33, 34, 35, 36, 37, 38, 39, 40, 41, 42, 43, 44, 45, 1, 2, 3, 5, 6, 46, 47, 48, 49, 50, 51, 52, 53, 54, 55, 56, 57] (by decide +kernel) (by decide +kernel)
set_option maxRecDepth 20000 in
theorem gX0_allShortOnes_X0_isShort : GoodIn wsX0_allShortOnes (wsV RX0 149 RX0 yX0_isShort wsX0_isShort) := goodIn_app (goodIn_of _ (by decide +kernel)) ggX0_allShortOnes_X0_isShort
theorem dX0_allShortOnes_0 : decode cX0_allShortOnes 0 = .ok (.iconst 0, 1) := by decide +kernel
theorem dX0_allShortOnes_1 : decode cX0_allShortOnes 1 = .ok (.istore_n 1, 1) := by decide +kernel
theorem dX0_allShortOnes_2 : decode cX0_allShortOnes 2 = .ok (.iconst 0, 1) := by decide +kernel
theorem dX0_allShortOnes_3 : decode cX0_allShortOnes 3 = .ok (.istore_n 2, 1) := by decide +kernel
theorem dX0_allShortOnes_4 : decode cX0_allShortOnes 4 = .ok (.iload_n 2, 1) := by decide +kernel
theorem dX0_allShortOnes_5 : decode cX0_allShortOnes 5 = .ok (.bipush 12, 2) := by decide +kernel
theorem dX0_allShortOnes_7 : decode cX0_allShortOnes 7 = .ok (.if_icmp .ge 42, 3) := by decide +kernel
theorem dX0_allShortOnes_10 : decode cX0_allShortOnes 10 = .ok (.iload_n 2, 1) := by decide +kernel
theorem dX0_allShortOnes_11 : decode cX0_allShortOnes 11 = .ok (.iconst 1, 1) := by decide +kernel
theorem dX0_allShortOnes_12 : decode cX0_allShortOnes 12 = .ok (.iadd, 1) := by decide +kernel
theorem dX0_allShortOnes_13 : decode cX0_allShortOnes 13 = .ok (.istore_n 3, 1) := by decide +kernel
theorem dX0_allShortOnes_14 : decode cX0_allShortOnes 14 = .ok (.iload_n 3, 1) := by decide +kernel
theorem dX0_allShortOnes_15 : decode cX0_allShortOnes 15 = .ok (.bipush 12, 2) := by decide +kernel
theorem dX0_allShortOnes_17 : decode cX0_allShortOnes 17 = .ok (.if_icmp .ge 26, 3) := by decide +kernel
theorem dX0_allShortOnes_20 : decode cX0_allShortOnes 20 = .ok (.aload_n 0, 1) := by decide +kernel
theorem dX0_allShortOnes_21 : decode cX0_allShortOnes 21 = .ok (.iload_n 2, 1) := by decide +kernel
theorem dX0_allShortOnes_22 : decode cX0_allShortOnes 22 = .ok (.aload_n 0, 1) := by decide +kernel
theorem dX0_allShortOnes_23 : decode cX0_allShortOnes 23 = .ok (.iload_n 2, 1) := by decide +kernel
theorem dX0_allShortOnes_24 : decode cX0_allShortOnes 24 = .ok (.invokevirtual 139, 3) := by decide +kernel
theorem dX0_allShortOnes_27 : decode cX0_allShortOnes 27 = .ok (.iload_n 3, 1) := by decide +kernel
theorem dX0_allShortOnes_28 : decode cX0_allShortOnes 28 = .ok (.invokevirtual 149, 3) := by decide +kernel
theorem dX0_allShortOnes_31 : decode cX0_allShortOnes 31 = .ok (.ifCond .eq 6, 3) := by decide +kernel
theorem dX0_allShortOnes_34 : decode cX0_allShortOnes 34 = .ok (.iinc 1 1, 3) := by decide +kernel
theorem dX0_allShortOnes_37 : decode cX0_allShortOnes 37 = .ok (.iinc 3 1, 3) := by decide +kernel
theorem dX0_allShortOnes_40 : decode cX0_allShortOnes 40 = .ok (.goto (-26), 3) := by decide +kernel
theorem dX0_allShortOnes_43 : decode cX0_allShortOnes 43 = .ok (.iinc 2 1, 3) := by decide +kernel
theorem dX0_allShortOnes_46 : decode cX0_allShortOnes 46 = .ok (.goto (-42), 3) := by decide +kernel
theorem dX0_allShortOnes_49 : decode cX0_allShortOnes 49 = .ok (.iload_n 1, 1) := by decide +kernel
theorem dX0_allShortOnes_50 : decode cX0_allShortOnes 50 = .ok (.ireturn, 1) := by decide +kernel
set_option maxRecDepth 20000 in
theorem ggX0_allStrengths_X0_hasWire : GoodIn wsX0_allStrengths wsX0_hasWire := goodIn_r _ [6, 7, 8, 9, 10, 11, 12, 13, 14, 15, 16, 17, 18, 19, 20, 21, 22] (by decide +kernel) (by decide +kernel)
set_option maxRecDepth 20000 in
theorem gX0_allStrengths_X0_hasWire : GoodIn wsX0_allStrengths (wsV RX0 69 RX0 yX0_hasWire wsX0_hasWire) := goodIn_app (goodIn_of _ (by decide +kernel)) ggX0_allStrengths_X0_hasWire
theorem dX0_allStrengths_0 : decode cX0_allStrengths 0 = .ok (.iconst 0, 1) := by decide +kernel
theorem dX0_allStrengths_1 : decode cX0_allStrengths 1 = .ok (.istore_n 1, 1) := by decide +kernel
theorem dX0_allStrengths_2 : decode cX0_allStrengths 2 = .ok (.iconst 0, 1) := by decide +kernel
theorem dX0_allStrengths_3 : decode cX0_allStrengths 3 = .ok (.istore_n 2, 1) := by decide +kernel
theorem dX0_allStrengths_4 : decode cX0_allStrengths 4 = .ok (.iload_n 2, 1) := by decide +kernel
theorem dX0_allStrengths_5 : decode cX0_allStrengths 5 = .ok (.bipush 12, 2) := by decide +kernel
theorem dX0_allStrengths_7 : decode cX0_allStrengths 7 = .ok (.if_icmp .ge 26, 3) := by decide +kernel
theorem dX0_allStrengths_10 : decode cX0_allStrengths 10 = .ok (.aload_n 0, 1) := by decide +kernel
theorem dX0_allStrengths_11 : decode cX0_allStrengths 11 = .ok (.iload_n 2, 1) := by decide +kernel
theorem dX0_allStrengths_12 : decode cX0_allStrengths 12 = .ok (.invokevirtual 69, 3) := by decide +kernel
theorem dX0_allStrengths_15 : decode cX0_allStrengths 15 = .ok (.ifCond .eq 12, 3) := by decide +kernel
theorem dX0_allStrengths_18 : decode cX0_allStrengths 18 = .ok (.iload_n 1, 1) := by decide +kernel
theorem dX0_allStrengths_19 : decode cX0_allStrengths 19 = .ok (.aload_n 0, 1) := by decide +kernel
theorem dX0_allStrengths_20 : decode cX0_allStrengths 20 = .ok (.getfield 21, 3) := by decide +kernel
theorem dX0_allStrengths_23 : decode cX0_allStrengths 23 = .ok (.iload_n 2, 1) := by decide +kernel
theorem dX0_allStrengths_24 : decode cX0_allStrengths 24 = .ok (.iaload, 1) := by decide +kernel
theorem dX0_allStrengths_25 : decode cX0_allStrengths 25 = .ok (.iadd, 1) := by decide +kernel
theorem dX0_allStrengths_26 : decode cX0_allStrengths 26 = .ok (.istore_n 1, 1) := by decide +kernel
theorem dX0_allStrengths_27 : decode cX0_allStrengths 27 = .ok (.iinc 2 1, 3) := by decide +kernel
theorem dX0_allStrengths_30 : decode cX0_allStrengths 30 = .ok (.goto (-26), 3) := by decide +kernel
theorem dX0_allStrengths_33 : decode cX0_allStrengths 33 = .ok (.iload_n 1, 1) := by decide +kernel
theorem dX0_allStrengths_34 : decode cX0_allStrengths 34 = .ok (.ireturn, 1) := by decide +kernel
set_option maxRecDepth 20000 in
theorem ggX0_weakestPad_X0_hasWire : GoodIn wsX0_weakestPad wsX0_hasWire := goodIn_r _ [6, 7, 8, 9, 10, 15, 16, 17, 18, 19, 20, 21, 22, 23, 24, 25, 26] (by decide +kernel) (by decide +kernel)
set_option maxRecDepth 20000 in
theorem gX0_weakestPad_X0_hasWire : GoodIn wsX0_weakestPad (wsV RX0 69 RX0 yX0_hasWire wsX0_hasWire) := goodIn_app (goodIn_of _ (by decide +kernel)) ggX0_weakestPad_X0_hasWire
set_option maxRecDepth 20000 in
theorem ggX0_weakestPad_X0_strengthOf : GoodIn wsX0_weakestPad wsX0_strengthOf := goodIn_r _ [14, 1, 8, 9, 10, 15, 16, 17, 18, 19, 20, 21, 22, 23, 24, 25, 26] (by decide +kernel) (by decide +kernel)
set_option maxRecDepth 20000 in
theorem gX0_weakestPad_X0_strengthOf : GoodIn wsX0_weakestPad (wsV RX0 159 RX0 yX0_strengthOf wsX0_strengthOf) := goodIn_app (goodIn_of _ (by decide +kernel)) ggX0_weakestPad_X0_strengthOf
theorem dX0_weakestPad_0 : decode cX0_weakestPad 0 = .ok (.bipush (-5), 2) := by decide +kernel
theorem dX0_weakestPad_2 : decode cX0_weakestPad 2 = .ok (.istore_n 1, 1) := by decide +kernel
theorem dX0_weakestPad_3 : decode cX0_weakestPad 3 = .ok (.iconst 0, 1) := by decide +kernel
theorem dX0_weakestPad_4 : decode cX0_weakestPad 4 = .ok (.istore_n 2, 1) := by decide +kernel
theorem dX0_weakestPad_5 : decode cX0_weakestPad 5 = .ok (.iload_n 2, 1) := by decide +kernel
theorem dX0_weakestPad_6 : decode cX0_weakestPad 6 = .ok (.bipush 12, 2) := by decide +kernel
theorem dX0_weakestPad_8 : decode cX0_weakestPad 8 = .ok (.if_icmp .ge 39, 3) := by decide +kernel
theorem dX0_weakestPad_11 : decode cX0_weakestPad 11 = .ok (.aload_n 0, 1) := by decide +kernel
theorem dX0_weakestPad_12 : decode cX0_weakestPad 12 = .ok (.iload_n 2, 1) := by decide +kernel
theorem dX0_weakestPad_13 : decode cX0_weakestPad 13 = .ok (.invokevirtual 69, 3) := by decide +kernel
theorem dX0_weakestPad_16 : decode cX0_weakestPad 16 = .ok (.ifCond .eq 25, 3) := by decide +kernel
theorem dX0_weakestPad_19 : decode cX0_weakestPad 19 = .ok (.iload_n 1, 1) := by decide +kernel
theorem dX0_weakestPad_20 : decode cX0_weakestPad 20 = .ok (.bipush (-5), 2) := by decide +kernel
theorem dX0_weakestPad_22 : decode cX0_weakestPad 22 = .ok (.if_icmp .eq 17, 3) := by decide +kernel
theorem dX0_weakestPad_25 : decode cX0_weakestPad 25 = .ok (.aload_n 0, 1) := by decide +kernel
theorem dX0_weakestPad_26 : decode cX0_weakestPad 26 = .ok (.getfield 21, 3) := by decide +kernel
theorem dX0_weakestPad_29 : decode cX0_weakestPad 29 = .ok (.iload_n 2, 1) := by decide +kernel
theorem dX0_weakestPad_30 : decode cX0_weakestPad 30 = .ok (.iaload, 1) := by decide +kernel
theorem dX0_weakestPad_31 : decode cX0_weakestPad 31 = .ok (.aload_n 0, 1) := by decide +kernel
theorem dX0_weakestPad_32 : decode cX0_weakestPad 32 = .ok (.iload_n 1, 1) := by decide +kernel
theorem dX0_weakestPad_33 : decode cX0_weakestPad 33 = .ok (.invokevirtual 159, 3) := by decide +kernel
theorem dX0_weakestPad_36 : decode cX0_weakestPad 36 = .ok (.if_icmp .ge 5, 3) := by decide +kernel
theorem dX0_weakestPad_39 : decode cX0_weakestPad 39 = .ok (.iload_n 2, 1) := by decide +kernel
theorem dX0_weakestPad_40 : decode cX0_weakestPad 40 = .ok (.istore_n 1, 1) := by decide +kernel
theorem dX0_weakestPad_41 : decode cX0_weakestPad 41 = .ok (.iinc 2 1, 3) := by decide +kernel
theorem dX0_weakestPad_44 : decode cX0_weakestPad 44 = .ok (.goto (-39), 3) := by decide +kernel
theorem dX0_weakestPad_47 : decode cX0_weakestPad 47 = .ok (.iload_n 1, 1) := by decide +kernel
theorem dX0_weakestPad_48 : decode cX0_weakestPad 48 = .ok (.ireturn, 1) := by decide +kernel
set_option maxRecDepth 20000 in
theorem ggX1_init_X0_init : GoodIn wsX1_init wsX0_init := goodIn_r _ [11, 12, 2, 3, 13, 14, 15, 16, 17, 18, 19, 20, 21, 22, 23, 26, 27, 28, 29, 30, 31, 32, 33, 34, 35, 36, 37] (by decide +kernel) (by decide +kernel)
set_option maxRecDepth 20000 in
theorem gX1_init_X0_init : GoodIn wsX1_init (wsX0_init) := ggX1_init_X0_init
theorem dX1_init_0 : decode cX1_init 0 = .ok (.aload_n 0, 1) := by decide +kernel
theorem dX1_init_1 : decode cX1_init 1 = .ok (.invokespecial 3, 3) := by decide +kernel
theorem dX1_init_4 : decode cX1_init 4 = .ok (.aload_n 0, 1) := by decide +kernel
theorem dX1_init_5 : decode cX1_init 5 = .ok (.iconst 4, 1) := by decide +kernel
theorem dX1_init_6 : decode cX1_init 6 = .ok (.anewarray 9, 3) := by decide +kernel
theorem dX1_init_9 : decode cX1_init 9 = .ok (.putfield 11, 3) := by decide +kernel
theorem dX1_init_12 : decode cX1_init 12 = .ok (.iconst 0, 1) := by decide +kernel
theorem dX1_init_13 : decode cX1_init 13 = .ok (.istore_n 1, 1) := by decide +kernel
theorem dX1_init_14 : decode cX1_init 14 = .ok (.iload_n 1, 1) := by decide +kernel
theorem dX1_init_15 : decode cX1_init 15 = .ok (.iconst 4, 1) := by decide +kernel
theorem dX1_init_16 : decode cX1_init 16 = .ok (.if_icmp .ge 22, 3) := by decide +kernel
theorem dX1_init_19 : decode cX1_init 19 = .ok (.aload_n 0, 1) := by decide +kernel
theorem dX1_init_20 : decode cX1_init 20 = .ok (.getfield 11, 3) := by decide +kernel
theorem dX1_init_23 : decode cX1_init 23 = .ok (.iload_n 1, 1) := by decide +kernel
theorem dX1_init_24 : decode cX1_init 24 = .ok (.new 9, 3) := by decide +kernel
theorem dX1_init_27 : decode cX1_init 27 = .ok (.dup, 1) := by decide +kernel
theorem dX1_init_28 : decode cX1_init 28 = .ok (.invokespecial 17, 3) := by decide +kernel
theorem dX1_init_31 : decode cX1_init 31 = .ok (.aastore, 1) := by decide +kernel
theorem dX1_init_32 : decode cX1_init 32 = .ok (.iinc 1 1, 3) := by decide +kernel
theorem dX1_init_35 : decode cX1_init 35 = .ok (.goto (-21), 3) := by decide +kernel
theorem dX1_init_38 : decode cX1_init 38 = .ok (.aload_n 0, 1) := by decide +kernel
theorem dX1_init_39 : decode cX1_init 39 = .ok (.iconst 0, 1) := by decide +kernel
theorem dX1_init_40 : decode cX1_init 40 = .ok (.putfield 18, 3) := by decide +kernel
theorem dX1_init_43 : decode cX1_init 43 = .ok (.return_, 1) := by decide +kernel
theorem dX1_states_0 : decode cX1_states 0 = .ok (.aload_n 0, 1) := by decide +kernel
theorem dX1_states_1 : decode cX1_states 1 = .ok (.getfield 18, 3) := by decide +kernel
theorem dX1_states_4 : decode cX1_states 4 = .ok (.ireturn, 1) := by decide +kernel
set_option maxRecDepth 20000 in
theorem ggX1_record_X1_dropOldest : GoodIn wsX1_record wsX1_dropOldest := goodIn_r _ [6, 7, 1, 36, 37] (by decide +kernel) (by decide +kernel)
set_option maxRecDepth 20000 in
theorem gX1_record_X1_dropOldest : GoodIn wsX1_record (wsV RX1 22 RX1 yX1_dropOldest wsX1_dropOldest) := goodIn_app (goodIn_of _ (by decide +kernel)) ggX1_record_X1_dropOldest
set_option maxRecDepth 20000 in
theorem ggX1_record_X1_placeAt : GoodIn wsX1_record wsX1_placeAt := goodIn_r _ [11, 7, 12, 13, 14, 36, 37] (by decide +kernel) (by decide +kernel)
set_option maxRecDepth 20000 in
theorem gX1_record_X1_placeAt : GoodIn wsX1_record (wsV RX1 25 RX1 yX1_placeAt wsX1_placeAt) := goodIn_app (goodIn_of _ (by decide +kernel)) ggX1_record_X1_placeAt
set_option maxRecDepth 20000 in
theorem ggX1_record_X0_copyFrom : GoodIn wsX1_record wsX0_copyFrom := goodIn_r _ [19, 20, 21, 22, 23, 24, 25, 26, 27, 28, 29, 30, 31, 32, 33, 34, 35, 38, 39, 40, 41, 42, 43, 44, 45, 46, 47, 48, 49] (by decide +kernel) (by decide +kernel)
set_option maxRecDepth 20000 in
theorem gX1_record_X0_copyFrom : GoodIn wsX1_record (wsV RX1 29 RX0 yX0_copyFrom wsX0_copyFrom) := goodIn_app (goodIn_of _ (by decide +kernel)) ggX1_record_X0_copyFrom
theorem dX1_record_0 : decode cX1_record 0 = .ok (.aload_n 0, 1) := by decide +kernel
theorem dX1_record_1 : decode cX1_record 1 = .ok (.getfield 18, 3) := by decide +kernel
theorem dX1_record_4 : decode cX1_record 4 = .ok (.iconst 4, 1) := by decide +kernel
theorem dX1_record_5 : decode cX1_record 5 = .ok (.if_icmp .lt 7, 3) := by decide +kernel
theorem dX1_record_8 : decode cX1_record 8 = .ok (.aload_n 0, 1) := by decide +kernel
theorem dX1_record_9 : decode cX1_record 9 = .ok (.invokevirtual 22, 3) := by decide +kernel
theorem dX1_record_12 : decode cX1_record 12 = .ok (.aload_n 0, 1) := by decide +kernel
theorem dX1_record_13 : decode cX1_record 13 = .ok (.aload_n 0, 1) := by decide +kernel
theorem dX1_record_14 : decode cX1_record 14 = .ok (.getfield 18, 3) := by decide +kernel
theorem dX1_record_17 : decode cX1_record 17 = .ok (.invokevirtual 25, 3) := by decide +kernel
theorem dX1_record_20 : decode cX1_record 20 = .ok (.astore_n 2, 1) := by decide +kernel
theorem dX1_record_21 : decode cX1_record 21 = .ok (.aload_n 2, 1) := by decide +kernel
theorem dX1_record_22 : decode cX1_record 22 = .ok (.ifnull 18, 3) := by decide +kernel
theorem dX1_record_25 : decode cX1_record 25 = .ok (.aload_n 2, 1) := by decide +kernel
theorem dX1_record_26 : decode cX1_record 26 = .ok (.aload_n 1, 1) := by decide +kernel
theorem dX1_record_27 : decode cX1_record 27 = .ok (.invokevirtual 29, 3) := by decide +kernel
theorem dX1_record_30 : decode cX1_record 30 = .ok (.aload_n 0, 1) := by decide +kernel
theorem dX1_record_31 : decode cX1_record 31 = .ok (.dup, 1) := by decide +kernel
theorem dX1_record_32 : decode cX1_record 32 = .ok (.getfield 18, 3) := by decide +kernel
theorem dX1_record_35 : decode cX1_record 35 = .ok (.iconst 1, 1) := by decide +kernel
theorem dX1_record_36 : decode cX1_record 36 = .ok (.iadd, 1) := by decide +kernel
theorem dX1_record_37 : decode cX1_record 37 = .ok (.putfield 18, 3) := by decide +kernel
theorem dX1_record_40 : decode cX1_record 40 = .ok (.return_, 1) := by decide +kernel
set_option maxRecDepth 20000 in
theorem ggX1_takeLatest_X1_placeAt : GoodIn wsX1_takeLatest wsX1_placeAt := goodIn_r _ [6, 7, 8, 9, 10, 32, 33] (by decide +kernel) (by decide +kernel)
set_option maxRecDepth 20000 in
theorem gX1_takeLatest_X1_placeAt : GoodIn wsX1_takeLatest (wsV RX1 25 RX1 yX1_placeAt wsX1_placeAt) := goodIn_app (goodIn_of _ (by decide +kernel)) ggX1_takeLatest_X1_placeAt
set_option maxRecDepth 20000 in
theorem ggX1_takeLatest_X0_copyFrom : GoodIn wsX1_takeLatest wsX0_copyFrom := goodIn_r _ [15, 16, 17, 18, 19, 20, 21, 22, 23, 24, 25, 26, 27, 28, 29, 30, 31, 34, 35, 36, 37, 38, 39, 40, 41, 42, 43, 44, 45] (by decide +kernel) (by decide +kernel)
set_option maxRecDepth 20000 in
theorem gX1_takeLatest_X0_copyFrom : GoodIn wsX1_takeLatest (wsV RX1 29 RX0 yX0_copyFrom wsX0_copyFrom) := goodIn_app (goodIn_of _ (by decide +kernel)) ggX1_takeLatest_X0_copyFrom
theorem dX1_takeLatest_0 : decode cX1_takeLatest 0 = .ok (.aload_n 0, 1) := by decide +kernel
theorem dX1_takeLatest_1 : decode cX1_takeLatest 1 = .ok (.aload_n 0, 1) := by decide +kernel
theorem dX1_takeLatest_2 : decode cX1_takeLatest 2 = .ok (.getfield 18, 3) := by decide +kernel
theorem dX1_takeLatest_5 : decode cX1_takeLatest 5 = .ok (.iconst 1, 1) := by decide +kernel
theorem dX1_takeLatest_6 : decode cX1_takeLatest 6 = .ok (.isub, 1) := by decide +kernel
theorem dX1_takeLatest_7 : decode cX1_takeLatest 7 = .ok (.invokevirtual 25, 3) := by decide +kernel
theorem dX1_takeLatest_10 : decode cX1_takeLatest 10 = .ok (.astore_n 2, 1) := by decide +kernel
theorem dX1_takeLatest_11 : decode cX1_takeLatest 11 = .ok (.aload_n 2, 1) := by decide +kernel
theorem dX1_takeLatest_12 : decode cX1_takeLatest 12 = .ok (.ifnull 18, 3) := by decide +kernel
theorem dX1_takeLatest_15 : decode cX1_takeLatest 15 = .ok (.aload_n 1, 1) := by decide +kernel
theorem dX1_takeLatest_16 : decode cX1_takeLatest 16 = .ok (.aload_n 2, 1) := by decide +kernel
theorem dX1_takeLatest_17 : decode cX1_takeLatest 17 = .ok (.invokevirtual 29, 3) := by decide +kernel
theorem dX1_takeLatest_20 : decode cX1_takeLatest 20 = .ok (.aload_n 0, 1) := by decide +kernel
theorem dX1_takeLatest_21 : decode cX1_takeLatest 21 = .ok (.dup, 1) := by decide +kernel
theorem dX1_takeLatest_22 : decode cX1_takeLatest 22 = .ok (.getfield 18, 3) := by decide +kernel
theorem dX1_takeLatest_25 : decode cX1_takeLatest 25 = .ok (.iconst 1, 1) := by decide +kernel
theorem dX1_takeLatest_26 : decode cX1_takeLatest 26 = .ok (.isub, 1) := by decide +kernel
theorem dX1_takeLatest_27 : decode cX1_takeLatest 27 = .ok (.putfield 18, 3) := by decide +kernel
theorem dX1_takeLatest_30 : decode cX1_takeLatest 30 = .ok (.return_, 1) := by decide +kernel
set_option maxRecDepth 20000 in
theorem ggX1_placeAt_X3_isWithin : GoodIn wsX1_placeAt wsX3_isWithin := goodIn_r _ [4] (by decide +kernel) (by decide +kernel)
set_option maxRecDepth 20000 in
theorem gX1_placeAt_X3_isWithin_n33 : GoodIn wsX1_placeAt (wsX3_isWithin) := ggX1_placeAt_X3_isWithin
theorem dX1_placeAt_0 : decode cX1_placeAt 0 = .ok (.iload_n 1, 1) := by decide +kernel
theorem dX1_placeAt_1 : decode cX1_placeAt 1 = .ok (.iconst 0, 1) := by decide +kernel
theorem dX1_placeAt_2 : decode cX1_placeAt 2 = .ok (.iconst 3, 1) := by decide +kernel
theorem dX1_placeAt_3 : decode cX1_placeAt 3 = .ok (.invokestatic 33, 3) := by decide +kernel
theorem dX1_placeAt_6 : decode cX1_placeAt 6 = .ok (.ifCond .eq 12, 3) := by decide +kernel
theorem dX1_placeAt_9 : decode cX1_placeAt 9 = .ok (.aload_n 0, 1) := by decide +kernel
theorem dX1_placeAt_10 : decode cX1_placeAt 10 = .ok (.getfield 11, 3) := by decide +kernel
theorem dX1_placeAt_13 : decode cX1_placeAt 13 = .ok (.iload_n 1, 1) := by decide +kernel
theorem dX1_placeAt_14 : decode cX1_placeAt 14 = .ok (.aaload, 1) := by decide +kernel
theorem dX1_placeAt_15 : decode cX1_placeAt 15 = .ok (.goto 4, 3) := by decide +kernel
theorem dX1_placeAt_18 : decode cX1_placeAt 18 = .ok (.aconst_null, 1) := by decide +kernel
theorem dX1_placeAt_19 : decode cX1_placeAt 19 = .ok (.areturn, 1) := by decide +kernel
theorem dX1_dropOldest_0 : decode cX1_dropOldest 0 = .ok (.aload_n 0, 1) := by decide +kernel
theorem dX1_dropOldest_1 : decode cX1_dropOldest 1 = .ok (.getfield 11, 3) := by decide +kernel
theorem dX1_dropOldest_4 : decode cX1_dropOldest 4 = .ok (.iconst 0, 1) := by decide +kernel
theorem dX1_dropOldest_5 : decode cX1_dropOldest 5 = .ok (.aaload, 1) := by decide +kernel
theorem dX1_dropOldest_6 : decode cX1_dropOldest 6 = .ok (.astore_n 1, 1) := by decide +kernel
theorem dX1_dropOldest_7 : decode cX1_dropOldest 7 = .ok (.iconst 1, 1) := by decide +kernel
theorem dX1_dropOldest_8 : decode cX1_dropOldest 8 = .ok (.istore_n 2, 1) := by decide +kernel
theorem dX1_dropOldest_9 : decode cX1_dropOldest 9 = .ok (.iload_n 2, 1) := by decide +kernel
theorem dX1_dropOldest_10 : decode cX1_dropOldest 10 = .ok (.iconst 4, 1) := by decide +kernel
theorem dX1_dropOldest_11 : decode cX1_dropOldest 11 = .ok (.if_icmp .ge 23, 3) := by decide +kernel
theorem dX1_dropOldest_14 : decode cX1_dropOldest 14 = .ok (.aload_n 0, 1) := by decide +kernel
theorem dX1_dropOldest_15 : decode cX1_dropOldest 15 = .ok (.getfield 11, 3) := by decide +kernel
theorem dX1_dropOldest_18 : decode cX1_dropOldest 18 = .ok (.iload_n 2, 1) := by decide +kernel
theorem dX1_dropOldest_19 : decode cX1_dropOldest 19 = .ok (.iconst 1, 1) := by decide +kernel
theorem dX1_dropOldest_20 : decode cX1_dropOldest 20 = .ok (.isub, 1) := by decide +kernel
theorem dX1_dropOldest_21 : decode cX1_dropOldest 21 = .ok (.aload_n 0, 1) := by decide +kernel
theorem dX1_dropOldest_22 : decode cX1_dropOldest 22 = .ok (.getfield 11, 3) := by decide +kernel
theorem dX1_dropOldest_25 : decode cX1_dropOldest 25 = .ok (.iload_n 2, 1) := by decide +kernel
theorem dX1_dropOldest_26 : decode cX1_dropOldest 26 = .ok (.aaload, 1) := by decide +kernel
theorem dX1_dropOldest_27 : decode cX1_dropOldest 27 = .ok (.aastore, 1) := by decide +kernel
theorem dX1_dropOldest_28 : decode cX1_dropOldest 28 = .ok (.iinc 2 1, 3) := by decide +kernel
theorem dX1_dropOldest_31 : decode cX1_dropOldest 31 = .ok (.goto (-22), 3) := by decide +kernel
theorem dX1_dropOldest_34 : decode cX1_dropOldest 34 = .ok (.aload_n 0, 1) := by decide +kernel
theorem dX1_dropOldest_35 : decode cX1_dropOldest 35 = .ok (.getfield 11, 3) := by decide +kernel
theorem dX1_dropOldest_38 : decode cX1_dropOldest 38 = .ok (.iconst 3, 1) := by decide +kernel
theorem dX1_dropOldest_39 : decode cX1_dropOldest 39 = .ok (.aload_n 1, 1) := by decide +kernel
theorem dX1_dropOldest_40 : decode cX1_dropOldest 40 = .ok (.aastore, 1) := by decide +kernel
theorem dX1_dropOldest_41 : decode cX1_dropOldest 41 = .ok (.aload_n 0, 1) := by decide +kernel
theorem dX1_dropOldest_42 : decode cX1_dropOldest 42 = .ok (.iconst 3, 1) := by decide +kernel
theorem dX1_dropOldest_43 : decode cX1_dropOldest 43 = .ok (.putfield 18, 3) := by decide +kernel
theorem dX1_dropOldest_46 : decode cX1_dropOldest 46 = .ok (.return_, 1) := by decide +kernel
theorem dX2_init_0 : decode cX2_init 0 = .ok (.aload_n 0, 1) := by decide +kernel
theorem dX2_init_1 : decode cX2_init 1 = .ok (.invokespecial 3, 3) := by decide +kernel
theorem dX2_init_4 : decode cX2_init 4 = .ok (.aload_n 0, 1) := by decide +kernel
theorem dX2_init_5 : decode cX2_init 5 = .ok (.bipush 80, 2) := by decide +kernel
theorem dX2_init_7 : decode cX2_init 7 = .ok (.newarray .char, 2) := by decide +kernel
theorem dX2_init_9 : decode cX2_init 9 = .ok (.putfield 9, 3) := by decide +kernel
theorem dX2_init_12 : decode cX2_init 12 = .ok (.aload_n 0, 1) := by decide +kernel
theorem dX2_init_13 : decode cX2_init 13 = .ok (.bipush 20, 2) := by decide +kernel
theorem dX2_init_15 : decode cX2_init 15 = .ok (.newarray .int, 2) := by decide +kernel
theorem dX2_init_17 : decode cX2_init 17 = .ok (.putfield 15, 3) := by decide +kernel
theorem dX2_init_20 : decode cX2_init 20 = .ok (.aload_n 0, 1) := by decide +kernel
theorem dX2_init_21 : decode cX2_init 21 = .ok (.bipush 20, 2) := by decide +kernel
theorem dX2_init_23 : decode cX2_init 23 = .ok (.newarray .int, 2) := by decide +kernel
theorem dX2_init_25 : decode cX2_init 25 = .ok (.putfield 19, 3) := by decide +kernel
theorem dX2_init_28 : decode cX2_init 28 = .ok (.aload_n 0, 1) := by decide +kernel
theorem dX2_init_29 : decode cX2_init 29 = .ok (.bipush 20, 2) := by decide +kernel
theorem dX2_init_31 : decode cX2_init 31 = .ok (.newarray .int, 2) := by decide +kernel
theorem dX2_init_33 : decode cX2_init 33 = .ok (.putfield 22, 3) := by decide +kernel
theorem dX2_init_36 : decode cX2_init 36 = .ok (.return_, 1) := by decide +kernel
theorem dX2_length_0 : decode cX2_length 0 = .ok (.aload_n 0, 1) := by decide +kernel
theorem dX2_length_1 : decode cX2_length 1 = .ok (.getfield 25, 3) := by decide +kernel
theorem dX2_length_4 : decode cX2_length 4 = .ok (.ireturn, 1) := by decide +kernel
theorem dX2_append_0 : decode cX2_append 0 = .ok (.aload_n 0, 1) := by decide +kernel
theorem dX2_append_1 : decode cX2_append 1 = .ok (.getfield 25, 3) := by decide +kernel
theorem dX2_append_4 : decode cX2_append 4 = .ok (.bipush 80, 2) := by decide +kernel
theorem dX2_append_6 : decode cX2_append 6 = .ok (.if_icmp .lt 5, 3) := by decide +kernel
theorem dX2_append_9 : decode cX2_append 9 = .ok (.iconst 0, 1) := by decide +kernel
theorem dX2_append_10 : decode cX2_append 10 = .ok (.ireturn, 1) := by decide +kernel
theorem dX2_append_11 : decode cX2_append 11 = .ok (.aload_n 0, 1) := by decide +kernel
theorem dX2_append_12 : decode cX2_append 12 = .ok (.getfield 9, 3) := by decide +kernel
theorem dX2_append_15 : decode cX2_append 15 = .ok (.aload_n 0, 1) := by decide +kernel
theorem dX2_append_16 : decode cX2_append 16 = .ok (.getfield 25, 3) := by decide +kernel
theorem dX2_append_19 : decode cX2_append 19 = .ok (.iload_n 1, 1) := by decide +kernel
theorem dX2_append_20 : decode cX2_append 20 = .ok (.castore, 1) := by decide +kernel
theorem dX2_append_21 : decode cX2_append 21 = .ok (.aload_n 0, 1) := by decide +kernel
theorem dX2_append_22 : decode cX2_append 22 = .ok (.dup, 1) := by decide +kernel
theorem dX2_append_23 : decode cX2_append 23 = .ok (.getfield 25, 3) := by decide +kernel
theorem dX2_append_26 : decode cX2_append 26 = .ok (.iconst 1, 1) := by decide +kernel
theorem dX2_append_27 : decode cX2_append 27 = .ok (.iadd, 1) := by decide +kernel
theorem dX2_append_28 : decode cX2_append 28 = .ok (.putfield 25, 3) := by decide +kernel
theorem dX2_append_31 : decode cX2_append 31 = .ok (.iconst 1, 1) := by decide +kernel
theorem dX2_append_32 : decode cX2_append 32 = .ok (.ireturn, 1) := by decide +kernel
theorem dX2_empty_0 : decode cX2_empty 0 = .ok (.aload_n 0, 1) := by decide +kernel
theorem dX2_empty_1 : decode cX2_empty 1 = .ok (.iconst 0, 1) := by decide +kernel
theorem dX2_empty_2 : decode cX2_empty 2 = .ok (.putfield 25, 3) := by decide +kernel
theorem dX2_empty_5 : decode cX2_empty 5 = .ok (.return_, 1) := by decide +kernel
theorem dX2_listed_0 : decode cX2_listed 0 = .ok (.aload_n 0, 1) := by decide +kernel
theorem dX2_listed_1 : decode cX2_listed 1 = .ok (.getfield 29, 3) := by decide +kernel
theorem dX2_listed_4 : decode cX2_listed 4 = .ok (.ireturn, 1) := by decide +kernel
set_option maxRecDepth 20000 in
theorem ggX2_listedPad_X2_isListed : GoodIn wsX2_listedPad wsX2_isListed := goodIn_r _ [6, 7, 8, 9, 10, 11, 12, 13, 14, 15, 16, 17] (by decide +kernel) (by decide +kernel)
set_option maxRecDepth 20000 in
theorem gX2_listedPad_X2_isListed : GoodIn wsX2_listedPad (wsV RX2 32 RX2 yX2_isListed wsX2_isListed) := goodIn_app (goodIn_of _ (by decide +kernel)) ggX2_listedPad_X2_isListed
theorem dX2_listedPad_0 : decode cX2_listedPad 0 = .ok (.aload_n 0, 1) := by decide +kernel
theorem dX2_listedPad_1 : decode cX2_listedPad 1 = .ok (.iload_n 1, 1) := by decide +kernel
theorem dX2_listedPad_2 : decode cX2_listedPad 2 = .ok (.invokevirtual 32, 3) := by decide +kernel
theorem dX2_listedPad_5 : decode cX2_listedPad 5 = .ok (.ifCond .eq 12, 3) := by decide +kernel
theorem dX2_listedPad_8 : decode cX2_listedPad 8 = .ok (.aload_n 0, 1) := by decide +kernel
theorem dX2_listedPad_9 : decode cX2_listedPad 9 = .ok (.getfield 15, 3) := by decide +kernel
theorem dX2_listedPad_12 : decode cX2_listedPad 12 = .ok (.iload_n 1, 1) := by decide +kernel
theorem dX2_listedPad_13 : decode cX2_listedPad 13 = .ok (.iaload, 1) := by decide +kernel
theorem dX2_listedPad_14 : decode cX2_listedPad 14 = .ok (.goto 4, 3) := by decide +kernel
theorem dX2_listedPad_17 : decode cX2_listedPad 17 = .ok (.iconst 0, 1) := by decide +kernel
theorem dX2_listedPad_18 : decode cX2_listedPad 18 = .ok (.ireturn, 1) := by decide +kernel
set_option maxRecDepth 20000 in
theorem ggX2_listedLead_X2_isListed : GoodIn wsX2_listedLead wsX2_isListed := goodIn_r _ [6, 7, 8, 9, 10, 11, 12, 13, 14, 15, 16, 17] (by decide +kernel) (by decide +kernel)
set_option maxRecDepth 20000 in
theorem gX2_listedLead_X2_isListed : GoodIn wsX2_listedLead (wsV RX2 32 RX2 yX2_isListed wsX2_isListed) := goodIn_app (goodIn_of _ (by decide +kernel)) ggX2_listedLead_X2_isListed
theorem dX2_listedLead_0 : decode cX2_listedLead 0 = .ok (.aload_n 0, 1) := by decide +kernel
theorem dX2_listedLead_1 : decode cX2_listedLead 1 = .ok (.iload_n 1, 1) := by decide +kernel
theorem dX2_listedLead_2 : decode cX2_listedLead 2 = .ok (.invokevirtual 32, 3) := by decide +kernel
theorem dX2_listedLead_5 : decode cX2_listedLead 5 = .ok (.ifCond .eq 12, 3) := by decide +kernel
theorem dX2_listedLead_8 : decode cX2_listedLead 8 = .ok (.aload_n 0, 1) := by decide +kernel
theorem dX2_listedLead_9 : decode cX2_listedLead 9 = .ok (.getfield 19, 3) := by decide +kernel
theorem dX2_listedLead_12 : decode cX2_listedLead 12 = .ok (.iload_n 1, 1) := by decide +kernel
theorem dX2_listedLead_13 : decode cX2_listedLead 13 = .ok (.iaload, 1) := by decide +kernel
theorem dX2_listedLead_14 : decode cX2_listedLead 14 = .ok (.goto 4, 3) := by decide +kernel
theorem dX2_listedLead_17 : decode cX2_listedLead 17 = .ok (.iconst 0, 1) := by decide +kernel
theorem dX2_listedLead_18 : decode cX2_listedLead 18 = .ok (.ireturn, 1) := by decide +kernel
set_option maxRecDepth 20000 in
theorem ggX2_listedHeight_X2_isListed : GoodIn wsX2_listedHeight wsX2_isListed := goodIn_r _ [6, 7, 8, 9, 10, 11, 12, 13, 14, 15, 16, 17] (by decide +kernel) (by decide +kernel)
set_option maxRecDepth 20000 in
theorem gX2_listedHeight_X2_isListed : GoodIn wsX2_listedHeight (wsV RX2 32 RX2 yX2_isListed wsX2_isListed) := goodIn_app (goodIn_of _ (by decide +kernel)) ggX2_listedHeight_X2_isListed
theorem dX2_listedHeight_0 : decode cX2_listedHeight 0 = .ok (.aload_n 0, 1) := by decide +kernel
theorem dX2_listedHeight_1 : decode cX2_listedHeight 1 = .ok (.iload_n 1, 1) := by decide +kernel
theorem dX2_listedHeight_2 : decode cX2_listedHeight 2 = .ok (.invokevirtual 32, 3) := by decide +kernel
theorem dX2_listedHeight_5 : decode cX2_listedHeight 5 = .ok (.ifCond .eq 12, 3) := by decide +kernel
theorem dX2_listedHeight_8 : decode cX2_listedHeight 8 = .ok (.aload_n 0, 1) := by decide +kernel
theorem dX2_listedHeight_9 : decode cX2_listedHeight 9 = .ok (.getfield 22, 3) := by decide +kernel
theorem dX2_listedHeight_12 : decode cX2_listedHeight 12 = .ok (.iload_n 1, 1) := by decide +kernel
theorem dX2_listedHeight_13 : decode cX2_listedHeight 13 = .ok (.iaload, 1) := by decide +kernel
theorem dX2_listedHeight_14 : decode cX2_listedHeight 14 = .ok (.goto 5, 3) := by decide +kernel
theorem dX2_listedHeight_17 : decode cX2_listedHeight 17 = .ok (.bipush 60, 2) := by decide +kernel
theorem dX2_listedHeight_19 : decode cX2_listedHeight 19 = .ok (.ireturn, 1) := by decide +kernel
set_option maxRecDepth 20000 in
theorem ggX2_isListed_X3_isWithin : GoodIn wsX2_isListed wsX3_isWithin := goodIn_r _ [4] (by decide +kernel) (by decide +kernel)
set_option maxRecDepth 20000 in
theorem gX2_isListed_X3_isWithin_n36 : GoodIn wsX2_isListed (wsX3_isWithin) := ggX2_isListed_X3_isWithin
theorem dX2_isListed_0 : decode cX2_isListed 0 = .ok (.iload_n 1, 1) := by decide +kernel
theorem dX2_isListed_1 : decode cX2_isListed 1 = .ok (.iconst 0, 1) := by decide +kernel
theorem dX2_isListed_2 : decode cX2_isListed 2 = .ok (.bipush 19, 2) := by decide +kernel
theorem dX2_isListed_4 : decode cX2_isListed 4 = .ok (.invokestatic 36, 3) := by decide +kernel
theorem dX2_isListed_7 : decode cX2_isListed 7 = .ok (.ifCond .eq 15, 3) := by decide +kernel
theorem dX2_isListed_10 : decode cX2_isListed 10 = .ok (.iload_n 1, 1) := by decide +kernel
theorem dX2_isListed_11 : decode cX2_isListed 11 = .ok (.aload_n 0, 1) := by decide +kernel
theorem dX2_isListed_12 : decode cX2_isListed 12 = .ok (.getfield 29, 3) := by decide +kernel
theorem dX2_isListed_15 : decode cX2_isListed 15 = .ok (.if_icmp .ge 7, 3) := by decide +kernel
theorem dX2_isListed_18 : decode cX2_isListed 18 = .ok (.iconst 1, 1) := by decide +kernel
theorem dX2_isListed_19 : decode cX2_isListed 19 = .ok (.goto 4, 3) := by decide +kernel
theorem dX2_isListed_22 : decode cX2_isListed 22 = .ok (.iconst 0, 1) := by decide +kernel
theorem dX2_isListed_23 : decode cX2_isListed 23 = .ok (.ireturn, 1) := by decide +kernel
set_option maxRecDepth 20000 in
theorem ggX2_read_X2_readWire : GoodIn wsX2_read wsX2_readWire := goodIn_r _ [8, 2, 9, 10, 11, 12, 13, 14, 7, 15, 1, 16, 17, 18, 19, 20, 21, 22, 23, 24, 3, 25, 26, 27, 28, 29, 30, 31, 32, 33, 34, 35, 36, 37, 38, 39, 40, 41, 42, 43, 44, 45, 46] (by decide +kernel) (by decide +kernel)
set_option maxRecDepth 20000 in
theorem gX2_read_X2_readWire : GoodIn wsX2_read (wsV RX2 43 RX2 yX2_readWire wsX2_readWire) := goodIn_app (goodIn_of _ (by decide +kernel)) ggX2_read_X2_readWire
set_option maxRecDepth 20000 in
theorem ggX2_read_X2_passBy : GoodIn wsX2_read wsX2_passBy := goodIn_r _ [35, 20, 1, 21, 22, 23, 7, 24, 3, 40, 41, 42, 43, 44, 45, 46] (by decide +kernel) (by decide +kernel)
set_option maxRecDepth 20000 in
theorem gX2_read_X2_passBy : GoodIn wsX2_read (wsV RX2 47 RX2 yX2_passBy wsX2_passBy) := goodIn_app (goodIn_of _ (by decide +kernel)) ggX2_read_X2_passBy
theorem dX2_read_0 : decode cX2_read 0 = .ok (.aload_n 0, 1) := by decide +kernel
theorem dX2_read_1 : decode cX2_read 1 = .ok (.iconst 0, 1) := by decide +kernel
theorem dX2_read_2 : decode cX2_read 2 = .ok (.putfield 40, 3) := by decide +kernel
theorem dX2_read_5 : decode cX2_read 5 = .ok (.aload_n 0, 1) := by decide +kernel
theorem dX2_read_6 : decode cX2_read 6 = .ok (.iconst 0, 1) := by decide +kernel
theorem dX2_read_7 : decode cX2_read 7 = .ok (.putfield 29, 3) := by decide +kernel
theorem dX2_read_10 : decode cX2_read 10 = .ok (.iconst 0, 1) := by decide +kernel
theorem dX2_read_11 : decode cX2_read 11 = .ok (.istore_n 1, 1) := by decide +kernel
theorem dX2_read_12 : decode cX2_read 12 = .ok (.iload_n 1, 1) := by decide +kernel
theorem dX2_read_13 : decode cX2_read 13 = .ok (.bipush 20, 2) := by decide +kernel
theorem dX2_read_15 : decode cX2_read 15 = .ok (.if_icmp .ge 48, 3) := by decide +kernel
theorem dX2_read_18 : decode cX2_read 18 = .ok (.aload_n 0, 1) := by decide +kernel
theorem dX2_read_19 : decode cX2_read 19 = .ok (.invokevirtual 43, 3) := by decide +kernel
theorem dX2_read_22 : decode cX2_read 22 = .ok (.ifCond .ne 8, 3) := by decide +kernel
theorem dX2_read_25 : decode cX2_read 25 = .ok (.aload_n 0, 1) := by decide +kernel
theorem dX2_read_26 : decode cX2_read 26 = .ok (.getfield 40, 3) := by decide +kernel
theorem dX2_read_29 : decode cX2_read 29 = .ok (.ireturn, 1) := by decide +kernel
theorem dX2_read_30 : decode cX2_read 30 = .ok (.aload_n 0, 1) := by decide +kernel
theorem dX2_read_31 : decode cX2_read 31 = .ok (.getfield 40, 3) := by decide +kernel
theorem dX2_read_34 : decode cX2_read 34 = .ok (.aload_n 0, 1) := by decide +kernel
theorem dX2_read_35 : decode cX2_read 35 = .ok (.getfield 25, 3) := by decide +kernel
theorem dX2_read_38 : decode cX2_read 38 = .ok (.if_icmp .lt 5, 3) := by decide +kernel
theorem dX2_read_41 : decode cX2_read 41 = .ok (.iconst (-1), 1) := by decide +kernel
theorem dX2_read_42 : decode cX2_read 42 = .ok (.ireturn, 1) := by decide +kernel
theorem dX2_read_43 : decode cX2_read 43 = .ok (.aload_n 0, 1) := by decide +kernel
theorem dX2_read_44 : decode cX2_read 44 = .ok (.bipush 44, 2) := by decide +kernel
theorem dX2_read_46 : decode cX2_read 46 = .ok (.invokevirtual 47, 3) := by decide +kernel
theorem dX2_read_49 : decode cX2_read 49 = .ok (.ifCond .ne 8, 3) := by decide +kernel
theorem dX2_read_52 : decode cX2_read 52 = .ok (.aload_n 0, 1) := by decide +kernel
theorem dX2_read_53 : decode cX2_read 53 = .ok (.getfield 40, 3) := by decide +kernel
theorem dX2_read_56 : decode cX2_read 56 = .ok (.ireturn, 1) := by decide +kernel
theorem dX2_read_57 : decode cX2_read 57 = .ok (.iinc 1 1, 3) := by decide +kernel
theorem dX2_read_60 : decode cX2_read 60 = .ok (.goto (-48), 3) := by decide +kernel
theorem dX2_read_63 : decode cX2_read 63 = .ok (.aload_n 0, 1) := by decide +kernel
theorem dX2_read_64 : decode cX2_read 64 = .ok (.getfield 40, 3) := by decide +kernel
theorem dX2_read_67 : decode cX2_read 67 = .ok (.ireturn, 1) := by decide +kernel
set_option maxRecDepth 20000 in
theorem ggX2_readWire_X2_readNumber : GoodIn wsX2_readWire wsX2_readNumber := goodIn_r _ [9, 10, 11, 12, 13, 8, 14, 15, 16, 17, 18, 19, 20, 21, 22, 23, 24, 25, 26, 27, 36, 37, 38, 39, 40, 41, 42] (by decide +kernel) (by decide +kernel)
set_option maxRecDepth 20000 in
theorem gX2_readWire_X2_readNumber : GoodIn wsX2_readWire (wsV RX2 51 RX2 yX2_readNumber wsX2_readNumber) := goodIn_app (goodIn_of _ (by decide +kernel)) ggX2_readWire_X2_readNumber
set_option maxRecDepth 20000 in
theorem ggX2_readWire_X2_passBy : GoodIn wsX2_readWire wsX2_passBy := goodIn_r _ [31, 15, 10, 16, 17, 18, 8, 19, 20, 36, 37, 38, 39, 40, 41, 42] (by decide +kernel) (by decide +kernel)
set_option maxRecDepth 20000 in
theorem gX2_readWire_X2_passBy : GoodIn wsX2_readWire (wsV RX2 47 RX2 yX2_passBy wsX2_passBy) := goodIn_app (goodIn_of _ (by decide +kernel)) ggX2_readWire_X2_passBy
set_option maxRecDepth 20000 in
theorem ggX2_readWire_X2_readHeight : GoodIn wsX2_readWire wsX2_readHeight := goodIn_r _ [35, 10, 11, 12, 13, 8, 14, 15, 16, 17, 18, 19, 20, 21, 22, 23, 24, 25, 26, 27, 36, 37, 38, 39, 40, 41, 42] (by decide +kernel) (by decide +kernel)
set_option maxRecDepth 20000 in
theorem gX2_readWire_X2_readHeight : GoodIn wsX2_readWire (wsV RX2 55 RX2 yX2_readHeight wsX2_readHeight) := goodIn_app (goodIn_of _ (by decide +kernel)) ggX2_readWire_X2_readHeight
theorem dX2_readWire_0 : decode cX2_readWire 0 = .ok (.aload_n 0, 1) := by decide +kernel
theorem dX2_readWire_1 : decode cX2_readWire 1 = .ok (.bipush 11, 2) := by decide +kernel
theorem dX2_readWire_3 : decode cX2_readWire 3 = .ok (.invokevirtual 51, 3) := by decide +kernel
theorem dX2_readWire_6 : decode cX2_readWire 6 = .ok (.istore_n 1, 1) := by decide +kernel
theorem dX2_readWire_7 : decode cX2_readWire 7 = .ok (.iload_n 1, 1) := by decide +kernel
theorem dX2_readWire_8 : decode cX2_readWire 8 = .ok (.iconst (-1), 1) := by decide +kernel
theorem dX2_readWire_9 : decode cX2_readWire 9 = .ok (.if_icmp .eq 12, 3) := by decide +kernel
theorem dX2_readWire_12 : decode cX2_readWire 12 = .ok (.aload_n 0, 1) := by decide +kernel
theorem dX2_readWire_13 : decode cX2_readWire 13 = .ok (.bipush 45, 2) := by decide +kernel
theorem dX2_readWire_15 : decode cX2_readWire 15 = .ok (.invokevirtual 47, 3) := by decide +kernel
theorem dX2_readWire_18 : decode cX2_readWire 18 = .ok (.ifCond .ne 5, 3) := by decide +kernel
theorem dX2_readWire_21 : decode cX2_readWire 21 = .ok (.iconst 0, 1) := by decide +kernel
theorem dX2_readWire_22 : decode cX2_readWire 22 = .ok (.ireturn, 1) := by decide +kernel
theorem dX2_readWire_23 : decode cX2_readWire 23 = .ok (.aload_n 0, 1) := by decide +kernel
theorem dX2_readWire_24 : decode cX2_readWire 24 = .ok (.bipush 15, 2) := by decide +kernel
theorem dX2_readWire_26 : decode cX2_readWire 26 = .ok (.invokevirtual 51, 3) := by decide +kernel
theorem dX2_readWire_29 : decode cX2_readWire 29 = .ok (.istore_n 2, 1) := by decide +kernel
theorem dX2_readWire_30 : decode cX2_readWire 30 = .ok (.iload_n 2, 1) := by decide +kernel
theorem dX2_readWire_31 : decode cX2_readWire 31 = .ok (.iconst (-1), 1) := by decide +kernel
theorem dX2_readWire_32 : decode cX2_readWire 32 = .ok (.if_icmp .ne 5, 3) := by decide +kernel
theorem dX2_readWire_35 : decode cX2_readWire 35 = .ok (.iconst 0, 1) := by decide +kernel
theorem dX2_readWire_36 : decode cX2_readWire 36 = .ok (.ireturn, 1) := by decide +kernel
theorem dX2_readWire_37 : decode cX2_readWire 37 = .ok (.aload_n 0, 1) := by decide +kernel
theorem dX2_readWire_38 : decode cX2_readWire 38 = .ok (.bipush 58, 2) := by decide +kernel
theorem dX2_readWire_40 : decode cX2_readWire 40 = .ok (.invokevirtual 47, 3) := by decide +kernel
theorem dX2_readWire_43 : decode cX2_readWire 43 = .ok (.ifCond .eq 10, 3) := by decide +kernel
theorem dX2_readWire_46 : decode cX2_readWire 46 = .ok (.aload_n 0, 1) := by decide +kernel
theorem dX2_readWire_47 : decode cX2_readWire 47 = .ok (.invokevirtual 55, 3) := by decide +kernel
theorem dX2_readWire_50 : decode cX2_readWire 50 = .ok (.goto 5, 3) := by decide +kernel
theorem dX2_readWire_53 : decode cX2_readWire 53 = .ok (.bipush 60, 2) := by decide +kernel
theorem dX2_readWire_55 : decode cX2_readWire 55 = .ok (.istore_n 3, 1) := by decide +kernel
theorem dX2_readWire_56 : decode cX2_readWire 56 = .ok (.iload_n 3, 1) := by decide +kernel
theorem dX2_readWire_57 : decode cX2_readWire 57 = .ok (.iconst (-1), 1) := by decide +kernel
theorem dX2_readWire_58 : decode cX2_readWire 58 = .ok (.if_icmp .eq 12, 3) := by decide +kernel
theorem dX2_readWire_61 : decode cX2_readWire 61 = .ok (.aload_n 0, 1) := by decide +kernel
theorem dX2_readWire_62 : decode cX2_readWire 62 = .ok (.getfield 29, 3) := by decide +kernel
theorem dX2_readWire_65 : decode cX2_readWire 65 = .ok (.bipush 20, 2) := by decide +kernel
theorem dX2_readWire_67 : decode cX2_readWire 67 = .ok (.if_icmp .lt 5, 3) := by decide +kernel
theorem dX2_readWire_70 : decode cX2_readWire 70 = .ok (.iconst 0, 1) := by decide +kernel
theorem dX2_readWire_71 : decode cX2_readWire 71 = .ok (.ireturn, 1) := by decide +kernel
theorem dX2_readWire_72 : decode cX2_readWire 72 = .ok (.aload_n 0, 1) := by decide +kernel
theorem dX2_readWire_73 : decode cX2_readWire 73 = .ok (.getfield 15, 3) := by decide +kernel
theorem dX2_readWire_76 : decode cX2_readWire 76 = .ok (.aload_n 0, 1) := by decide +kernel
theorem dX2_readWire_77 : decode cX2_readWire 77 = .ok (.getfield 29, 3) := by decide +kernel
theorem dX2_readWire_80 : decode cX2_readWire 80 = .ok (.iload_n 1, 1) := by decide +kernel
theorem dX2_readWire_81 : decode cX2_readWire 81 = .ok (.iastore, 1) := by decide +kernel
theorem dX2_readWire_82 : decode cX2_readWire 82 = .ok (.aload_n 0, 1) := by decide +kernel
theorem dX2_readWire_83 : decode cX2_readWire 83 = .ok (.getfield 19, 3) := by decide +kernel
theorem dX2_readWire_86 : decode cX2_readWire 86 = .ok (.aload_n 0, 1) := by decide +kernel
theorem dX2_readWire_87 : decode cX2_readWire 87 = .ok (.getfield 29, 3) := by decide +kernel
theorem dX2_readWire_90 : decode cX2_readWire 90 = .ok (.iload_n 2, 1) := by decide +kernel
theorem dX2_readWire_91 : decode cX2_readWire 91 = .ok (.iastore, 1) := by decide +kernel
theorem dX2_readWire_92 : decode cX2_readWire 92 = .ok (.aload_n 0, 1) := by decide +kernel
theorem dX2_readWire_93 : decode cX2_readWire 93 = .ok (.getfield 22, 3) := by decide +kernel
theorem dX2_readWire_96 : decode cX2_readWire 96 = .ok (.aload_n 0, 1) := by decide +kernel
theorem dX2_readWire_97 : decode cX2_readWire 97 = .ok (.getfield 29, 3) := by decide +kernel
theorem dX2_readWire_100 : decode cX2_readWire 100 = .ok (.iload_n 3, 1) := by decide +kernel
theorem dX2_readWire_101 : decode cX2_readWire 101 = .ok (.iastore, 1) := by decide +kernel
theorem dX2_readWire_102 : decode cX2_readWire 102 = .ok (.aload_n 0, 1) := by decide +kernel
theorem dX2_readWire_103 : decode cX2_readWire 103 = .ok (.dup, 1) := by decide +kernel
theorem dX2_readWire_104 : decode cX2_readWire 104 = .ok (.getfield 29, 3) := by decide +kernel
theorem dX2_readWire_107 : decode cX2_readWire 107 = .ok (.iconst 1, 1) := by decide +kernel
theorem dX2_readWire_108 : decode cX2_readWire 108 = .ok (.iadd, 1) := by decide +kernel
theorem dX2_readWire_109 : decode cX2_readWire 109 = .ok (.putfield 29, 3) := by decide +kernel
theorem dX2_readWire_112 : decode cX2_readWire 112 = .ok (.iconst 1, 1) := by decide +kernel
theorem dX2_readWire_113 : decode cX2_readWire 113 = .ok (.ireturn, 1) := by decide +kernel
set_option maxRecDepth 20000 in
theorem ggX2_readNumber_X2_digitHere : GoodIn wsX2_readNumber wsX2_digitHere := goodIn_r _ [6, 7, 1, 8, 9, 10, 5, 11, 12, 13, 14, 15, 20, 21, 22, 23, 24, 25, 26] (by decide +kernel) (by decide +kernel)
set_option maxRecDepth 20000 in
theorem gX2_readNumber_X2_digitHere : GoodIn wsX2_readNumber (wsV RX2 59 RX2 yX2_digitHere wsX2_digitHere) := goodIn_app (goodIn_of _ (by decide +kernel)) ggX2_readNumber_X2_digitHere
set_option maxRecDepth 20000 in
theorem ggX2_readNumber_X2_withDigit : GoodIn wsX2_readNumber wsX2_withDigit := goodIn_r _ [19, 1, 2, 3, 4, 5, 6, 7, 8, 9, 10, 11, 12, 13, 14, 15, 20, 21, 22, 23, 24, 25, 26] (by decide +kernel) (by decide +kernel)
set_option maxRecDepth 20000 in
theorem gX2_readNumber_X2_withDigit : GoodIn wsX2_readNumber (wsV RX2 62 RX2 yX2_withDigit wsX2_withDigit) := goodIn_app (goodIn_of _ (by decide +kernel)) ggX2_readNumber_X2_withDigit
theorem dX2_readNumber_0 : decode cX2_readNumber 0 = .ok (.aload_n 0, 1) := by decide +kernel
theorem dX2_readNumber_1 : decode cX2_readNumber 1 = .ok (.invokevirtual 59, 3) := by decide +kernel
theorem dX2_readNumber_4 : decode cX2_readNumber 4 = .ok (.istore_n 2, 1) := by decide +kernel
theorem dX2_readNumber_5 : decode cX2_readNumber 5 = .ok (.iload_n 2, 1) := by decide +kernel
theorem dX2_readNumber_6 : decode cX2_readNumber 6 = .ok (.iconst (-1), 1) := by decide +kernel
theorem dX2_readNumber_7 : decode cX2_readNumber 7 = .ok (.if_icmp .ne 5, 3) := by decide +kernel
theorem dX2_readNumber_10 : decode cX2_readNumber 10 = .ok (.iconst (-1), 1) := by decide +kernel
theorem dX2_readNumber_11 : decode cX2_readNumber 11 = .ok (.ireturn, 1) := by decide +kernel
theorem dX2_readNumber_12 : decode cX2_readNumber 12 = .ok (.aload_n 0, 1) := by decide +kernel
theorem dX2_readNumber_13 : decode cX2_readNumber 13 = .ok (.dup, 1) := by decide +kernel
theorem dX2_readNumber_14 : decode cX2_readNumber 14 = .ok (.getfield 40, 3) := by decide +kernel
theorem dX2_readNumber_17 : decode cX2_readNumber 17 = .ok (.iconst 1, 1) := by decide +kernel
theorem dX2_readNumber_18 : decode cX2_readNumber 18 = .ok (.iadd, 1) := by decide +kernel
theorem dX2_readNumber_19 : decode cX2_readNumber 19 = .ok (.putfield 40, 3) := by decide +kernel
theorem dX2_readNumber_22 : decode cX2_readNumber 22 = .ok (.iload_n 2, 1) := by decide +kernel
theorem dX2_readNumber_23 : decode cX2_readNumber 23 = .ok (.ifCond .ne 7, 3) := by decide +kernel
theorem dX2_readNumber_26 : decode cX2_readNumber 26 = .ok (.iconst 0, 1) := by decide +kernel
theorem dX2_readNumber_27 : decode cX2_readNumber 27 = .ok (.goto 9, 3) := by decide +kernel
theorem dX2_readNumber_30 : decode cX2_readNumber 30 = .ok (.aload_n 0, 1) := by decide +kernel
theorem dX2_readNumber_31 : decode cX2_readNumber 31 = .ok (.iload_n 2, 1) := by decide +kernel
theorem dX2_readNumber_32 : decode cX2_readNumber 32 = .ok (.iload_n 1, 1) := by decide +kernel
theorem dX2_readNumber_33 : decode cX2_readNumber 33 = .ok (.invokevirtual 62, 3) := by decide +kernel
theorem dX2_readNumber_36 : decode cX2_readNumber 36 = .ok (.ireturn, 1) := by decide +kernel
set_option maxRecDepth 20000 in
theorem ggX2_readHeight_X2_digitHere : GoodIn wsX2_readHeight wsX2_digitHere := goodIn_r _ [6, 7, 1, 8, 9, 10, 5, 11, 12, 13, 14, 15, 20, 21, 22, 23, 24, 25, 26] (by decide +kernel) (by decide +kernel)
set_option maxRecDepth 20000 in
theorem gX2_readHeight_X2_digitHere : GoodIn wsX2_readHeight (wsV RX2 59 RX2 yX2_digitHere wsX2_digitHere) := goodIn_app (goodIn_of _ (by decide +kernel)) ggX2_readHeight_X2_digitHere
set_option maxRecDepth 20000 in
theorem ggX2_readHeight_X2_withDigit : GoodIn wsX2_readHeight wsX2_withDigit := goodIn_r _ [19, 1, 2, 3, 4, 5, 6, 7, 8, 9, 10, 11, 12, 13, 14, 15, 20, 21, 22, 23, 24, 25, 26] (by decide +kernel) (by decide +kernel)
set_option maxRecDepth 20000 in
theorem gX2_readHeight_X2_withDigit : GoodIn wsX2_readHeight (wsV RX2 62 RX2 yX2_withDigit wsX2_withDigit) := goodIn_app (goodIn_of _ (by decide +kernel)) ggX2_readHeight_X2_withDigit
theorem dX2_readHeight_0 : decode cX2_readHeight 0 = .ok (.aload_n 0, 1) := by decide +kernel
theorem dX2_readHeight_1 : decode cX2_readHeight 1 = .ok (.invokevirtual 59, 3) := by decide +kernel
theorem dX2_readHeight_4 : decode cX2_readHeight 4 = .ok (.istore_n 1, 1) := by decide +kernel
theorem dX2_readHeight_5 : decode cX2_readHeight 5 = .ok (.iload_n 1, 1) := by decide +kernel
theorem dX2_readHeight_6 : decode cX2_readHeight 6 = .ok (.iconst (-1), 1) := by decide +kernel
theorem dX2_readHeight_7 : decode cX2_readHeight 7 = .ok (.if_icmp .eq 7, 3) := by decide +kernel
theorem dX2_readHeight_10 : decode cX2_readHeight 10 = .ok (.iload_n 1, 1) := by decide +kernel
theorem dX2_readHeight_11 : decode cX2_readHeight 11 = .ok (.ifCond .ne 5, 3) := by decide +kernel
theorem dX2_readHeight_14 : decode cX2_readHeight 14 = .ok (.iconst (-1), 1) := by decide +kernel
theorem dX2_readHeight_15 : decode cX2_readHeight 15 = .ok (.ireturn, 1) := by decide +kernel
theorem dX2_readHeight_16 : decode cX2_readHeight 16 = .ok (.aload_n 0, 1) := by decide +kernel
theorem dX2_readHeight_17 : decode cX2_readHeight 17 = .ok (.dup, 1) := by decide +kernel
theorem dX2_readHeight_18 : decode cX2_readHeight 18 = .ok (.getfield 40, 3) := by decide +kernel
theorem dX2_readHeight_21 : decode cX2_readHeight 21 = .ok (.iconst 1, 1) := by decide +kernel
theorem dX2_readHeight_22 : decode cX2_readHeight 22 = .ok (.iadd, 1) := by decide +kernel
theorem dX2_readHeight_23 : decode cX2_readHeight 23 = .ok (.putfield 40, 3) := by decide +kernel
theorem dX2_readHeight_26 : decode cX2_readHeight 26 = .ok (.aload_n 0, 1) := by decide +kernel
theorem dX2_readHeight_27 : decode cX2_readHeight 27 = .ok (.invokevirtual 59, 3) := by decide +kernel
theorem dX2_readHeight_30 : decode cX2_readHeight 30 = .ok (.istore_n 2, 1) := by decide +kernel
theorem dX2_readHeight_31 : decode cX2_readHeight 31 = .ok (.iload_n 2, 1) := by decide +kernel
theorem dX2_readHeight_32 : decode cX2_readHeight 32 = .ok (.iconst (-1), 1) := by decide +kernel
theorem dX2_readHeight_33 : decode cX2_readHeight 33 = .ok (.if_icmp .ne 5, 3) := by decide +kernel
theorem dX2_readHeight_36 : decode cX2_readHeight 36 = .ok (.iconst (-1), 1) := by decide +kernel
theorem dX2_readHeight_37 : decode cX2_readHeight 37 = .ok (.ireturn, 1) := by decide +kernel
theorem dX2_readHeight_38 : decode cX2_readHeight 38 = .ok (.aload_n 0, 1) := by decide +kernel
theorem dX2_readHeight_39 : decode cX2_readHeight 39 = .ok (.dup, 1) := by decide +kernel
theorem dX2_readHeight_40 : decode cX2_readHeight 40 = .ok (.getfield 40, 3) := by decide +kernel
theorem dX2_readHeight_43 : decode cX2_readHeight 43 = .ok (.iconst 1, 1) := by decide +kernel
theorem dX2_readHeight_44 : decode cX2_readHeight 44 = .ok (.iadd, 1) := by decide +kernel
theorem dX2_readHeight_45 : decode cX2_readHeight 45 = .ok (.putfield 40, 3) := by decide +kernel
theorem dX2_readHeight_48 : decode cX2_readHeight 48 = .ok (.aload_n 0, 1) := by decide +kernel
theorem dX2_readHeight_49 : decode cX2_readHeight 49 = .ok (.bipush 10, 2) := by decide +kernel
theorem dX2_readHeight_51 : decode cX2_readHeight 51 = .ok (.iload_n 1, 1) := by decide +kernel
theorem dX2_readHeight_52 : decode cX2_readHeight 52 = .ok (.imul, 1) := by decide +kernel
theorem dX2_readHeight_53 : decode cX2_readHeight 53 = .ok (.iload_n 2, 1) := by decide +kernel
theorem dX2_readHeight_54 : decode cX2_readHeight 54 = .ok (.iadd, 1) := by decide +kernel
theorem dX2_readHeight_55 : decode cX2_readHeight 55 = .ok (.sipush 200, 3) := by decide +kernel
theorem dX2_readHeight_58 : decode cX2_readHeight 58 = .ok (.invokevirtual 62, 3) := by decide +kernel
theorem dX2_readHeight_61 : decode cX2_readHeight 61 = .ok (.ireturn, 1) := by decide +kernel
set_option maxRecDepth 20000 in
theorem ggX2_withDigit_X2_digitHere : GoodIn wsX2_withDigit wsX2_digitHere := goodIn_r _ [6, 7, 1, 8, 9, 10, 5, 11, 12, 13, 14, 15, 16, 17, 18, 19, 20, 21, 22] (by decide +kernel) (by decide +kernel)
set_option maxRecDepth 20000 in
theorem gX2_withDigit_X2_digitHere : GoodIn wsX2_withDigit (wsV RX2 59 RX2 yX2_digitHere wsX2_digitHere) := goodIn_app (goodIn_of _ (by decide +kernel)) ggX2_withDigit_X2_digitHere
theorem dX2_withDigit_0 : decode cX2_withDigit 0 = .ok (.aload_n 0, 1) := by decide +kernel
theorem dX2_withDigit_1 : decode cX2_withDigit 1 = .ok (.invokevirtual 59, 3) := by decide +kernel
theorem dX2_withDigit_4 : decode cX2_withDigit 4 = .ok (.istore_n 3, 1) := by decide +kernel
theorem dX2_withDigit_5 : decode cX2_withDigit 5 = .ok (.iload_n 3, 1) := by decide +kernel
theorem dX2_withDigit_6 : decode cX2_withDigit 6 = .ok (.iconst (-1), 1) := by decide +kernel
theorem dX2_withDigit_7 : decode cX2_withDigit 7 = .ok (.if_icmp .eq 13, 3) := by decide +kernel
theorem dX2_withDigit_10 : decode cX2_withDigit 10 = .ok (.bipush 10, 2) := by decide +kernel
theorem dX2_withDigit_12 : decode cX2_withDigit 12 = .ok (.iload_n 1, 1) := by decide +kernel
theorem dX2_withDigit_13 : decode cX2_withDigit 13 = .ok (.imul, 1) := by decide +kernel
theorem dX2_withDigit_14 : decode cX2_withDigit 14 = .ok (.iload_n 3, 1) := by decide +kernel
theorem dX2_withDigit_15 : decode cX2_withDigit 15 = .ok (.iadd, 1) := by decide +kernel
theorem dX2_withDigit_16 : decode cX2_withDigit 16 = .ok (.iload_n 2, 1) := by decide +kernel
theorem dX2_withDigit_17 : decode cX2_withDigit 17 = .ok (.if_icmp .le 5, 3) := by decide +kernel
theorem dX2_withDigit_20 : decode cX2_withDigit 20 = .ok (.iload_n 1, 1) := by decide +kernel
theorem dX2_withDigit_21 : decode cX2_withDigit 21 = .ok (.ireturn, 1) := by decide +kernel
theorem dX2_withDigit_22 : decode cX2_withDigit 22 = .ok (.aload_n 0, 1) := by decide +kernel
theorem dX2_withDigit_23 : decode cX2_withDigit 23 = .ok (.dup, 1) := by decide +kernel
theorem dX2_withDigit_24 : decode cX2_withDigit 24 = .ok (.getfield 40, 3) := by decide +kernel
theorem dX2_withDigit_27 : decode cX2_withDigit 27 = .ok (.iconst 1, 1) := by decide +kernel
theorem dX2_withDigit_28 : decode cX2_withDigit 28 = .ok (.iadd, 1) := by decide +kernel
theorem dX2_withDigit_29 : decode cX2_withDigit 29 = .ok (.putfield 40, 3) := by decide +kernel
theorem dX2_withDigit_32 : decode cX2_withDigit 32 = .ok (.bipush 10, 2) := by decide +kernel
theorem dX2_withDigit_34 : decode cX2_withDigit 34 = .ok (.iload_n 1, 1) := by decide +kernel
theorem dX2_withDigit_35 : decode cX2_withDigit 35 = .ok (.imul, 1) := by decide +kernel
theorem dX2_withDigit_36 : decode cX2_withDigit 36 = .ok (.iload_n 3, 1) := by decide +kernel
theorem dX2_withDigit_37 : decode cX2_withDigit 37 = .ok (.iadd, 1) := by decide +kernel
theorem dX2_withDigit_38 : decode cX2_withDigit 38 = .ok (.ireturn, 1) := by decide +kernel
set_option maxRecDepth 20000 in
theorem ggX2_digitHere_X2_isAtCharacter : GoodIn wsX2_digitHere wsX2_isAtCharacter := goodIn_r _ [7, 2, 8, 12, 13, 14, 15, 16, 17, 18] (by decide +kernel) (by decide +kernel)
set_option maxRecDepth 20000 in
theorem gX2_digitHere_X2_isAtCharacter : GoodIn wsX2_digitHere (wsV RX2 66 RX2 yX2_isAtCharacter wsX2_isAtCharacter) := goodIn_app (goodIn_of _ (by decide +kernel)) ggX2_digitHere_X2_isAtCharacter
set_option maxRecDepth 20000 in
theorem ggX2_digitHere_X3_isWithin : GoodIn wsX2_digitHere wsX3_isWithin := goodIn_r _ [11] (by decide +kernel) (by decide +kernel)
set_option maxRecDepth 20000 in
theorem gX2_digitHere_X3_isWithin_n36 : GoodIn wsX2_digitHere (wsX3_isWithin) := ggX2_digitHere_X3_isWithin
theorem dX2_digitHere_0 : decode cX2_digitHere 0 = .ok (.aload_n 0, 1) := by decide +kernel
theorem dX2_digitHere_1 : decode cX2_digitHere 1 = .ok (.invokevirtual 66, 3) := by decide +kernel
theorem dX2_digitHere_4 : decode cX2_digitHere 4 = .ok (.ifCond .ne 5, 3) := by decide +kernel
theorem dX2_digitHere_7 : decode cX2_digitHere 7 = .ok (.iconst (-1), 1) := by decide +kernel
theorem dX2_digitHere_8 : decode cX2_digitHere 8 = .ok (.ireturn, 1) := by decide +kernel
theorem dX2_digitHere_9 : decode cX2_digitHere 9 = .ok (.aload_n 0, 1) := by decide +kernel
theorem dX2_digitHere_10 : decode cX2_digitHere 10 = .ok (.getfield 9, 3) := by decide +kernel
theorem dX2_digitHere_13 : decode cX2_digitHere 13 = .ok (.aload_n 0, 1) := by decide +kernel
theorem dX2_digitHere_14 : decode cX2_digitHere 14 = .ok (.getfield 40, 3) := by decide +kernel
theorem dX2_digitHere_17 : decode cX2_digitHere 17 = .ok (.caload, 1) := by decide +kernel
theorem dX2_digitHere_18 : decode cX2_digitHere 18 = .ok (.bipush 48, 2) := by decide +kernel
theorem dX2_digitHere_20 : decode cX2_digitHere 20 = .ok (.isub, 1) := by decide +kernel
theorem dX2_digitHere_21 : decode cX2_digitHere 21 = .ok (.istore_n 1, 1) := by decide +kernel
theorem dX2_digitHere_22 : decode cX2_digitHere 22 = .ok (.iload_n 1, 1) := by decide +kernel
theorem dX2_digitHere_23 : decode cX2_digitHere 23 = .ok (.iconst 0, 1) := by decide +kernel
theorem dX2_digitHere_24 : decode cX2_digitHere 24 = .ok (.bipush 9, 2) := by decide +kernel
theorem dX2_digitHere_26 : decode cX2_digitHere 26 = .ok (.invokestatic 36, 3) := by decide +kernel
theorem dX2_digitHere_29 : decode cX2_digitHere 29 = .ok (.ifCond .eq 7, 3) := by decide +kernel
theorem dX2_digitHere_32 : decode cX2_digitHere 32 = .ok (.iload_n 1, 1) := by decide +kernel
theorem dX2_digitHere_33 : decode cX2_digitHere 33 = .ok (.goto 4, 3) := by decide +kernel
theorem dX2_digitHere_36 : decode cX2_digitHere 36 = .ok (.iconst (-1), 1) := by decide +kernel
theorem dX2_digitHere_37 : decode cX2_digitHere 37 = .ok (.ireturn, 1) := by decide +kernel
set_option maxRecDepth 20000 in
theorem ggX2_passBy_X2_isAtCharacter : GoodIn wsX2_passBy wsX2_isAtCharacter := goodIn_r _ [7, 2, 8, 9, 10, 11, 12, 13, 14, 15] (by decide +kernel) (by decide +kernel)
set_option maxRecDepth 20000 in
theorem gX2_passBy_X2_isAtCharacter : GoodIn wsX2_passBy (wsV RX2 66 RX2 yX2_isAtCharacter wsX2_isAtCharacter) := goodIn_app (goodIn_of _ (by decide +kernel)) ggX2_passBy_X2_isAtCharacter
theorem dX2_passBy_0 : decode cX2_passBy 0 = .ok (.aload_n 0, 1) := by decide +kernel
theorem dX2_passBy_1 : decode cX2_passBy 1 = .ok (.invokevirtual 66, 3) := by decide +kernel
theorem dX2_passBy_4 : decode cX2_passBy 4 = .ok (.ifCond .eq 16, 3) := by decide +kernel
theorem dX2_passBy_7 : decode cX2_passBy 7 = .ok (.aload_n 0, 1) := by decide +kernel
theorem dX2_passBy_8 : decode cX2_passBy 8 = .ok (.getfield 9, 3) := by decide +kernel
theorem dX2_passBy_11 : decode cX2_passBy 11 = .ok (.aload_n 0, 1) := by decide +kernel
theorem dX2_passBy_12 : decode cX2_passBy 12 = .ok (.getfield 40, 3) := by decide +kernel
theorem dX2_passBy_15 : decode cX2_passBy 15 = .ok (.caload, 1) := by decide +kernel
theorem dX2_passBy_16 : decode cX2_passBy 16 = .ok (.iload_n 1, 1) := by decide +kernel
theorem dX2_passBy_17 : decode cX2_passBy 17 = .ok (.if_icmp .eq 5, 3) := by decide +kernel
theorem dX2_passBy_20 : decode cX2_passBy 20 = .ok (.iconst 0, 1) := by decide +kernel
theorem dX2_passBy_21 : decode cX2_passBy 21 = .ok (.ireturn, 1) := by decide +kernel
theorem dX2_passBy_22 : decode cX2_passBy 22 = .ok (.aload_n 0, 1) := by decide +kernel
theorem dX2_passBy_23 : decode cX2_passBy 23 = .ok (.dup, 1) := by decide +kernel
theorem dX2_passBy_24 : decode cX2_passBy 24 = .ok (.getfield 40, 3) := by decide +kernel
theorem dX2_passBy_27 : decode cX2_passBy 27 = .ok (.iconst 1, 1) := by decide +kernel
theorem dX2_passBy_28 : decode cX2_passBy 28 = .ok (.iadd, 1) := by decide +kernel
theorem dX2_passBy_29 : decode cX2_passBy 29 = .ok (.putfield 40, 3) := by decide +kernel
theorem dX2_passBy_32 : decode cX2_passBy 32 = .ok (.iconst 1, 1) := by decide +kernel
theorem dX2_passBy_33 : decode cX2_passBy 33 = .ok (.ireturn, 1) := by decide +kernel
theorem dX2_isAtCharacter_0 : decode cX2_isAtCharacter 0 = .ok (.aload_n 0, 1) := by decide +kernel
theorem dX2_isAtCharacter_1 : decode cX2_isAtCharacter 1 = .ok (.getfield 40, 3) := by decide +kernel
theorem dX2_isAtCharacter_4 : decode cX2_isAtCharacter 4 = .ok (.ifCond .lt 27, 3) := by decide +kernel
theorem dX2_isAtCharacter_7 : decode cX2_isAtCharacter 7 = .ok (.aload_n 0, 1) := by decide +kernel
theorem dX2_isAtCharacter_8 : decode cX2_isAtCharacter 8 = .ok (.getfield 40, 3) := by decide +kernel
theorem dX2_isAtCharacter_11 : decode cX2_isAtCharacter 11 = .ok (.aload_n 0, 1) := by decide +kernel
theorem dX2_isAtCharacter_12 : decode cX2_isAtCharacter 12 = .ok (.getfield 25, 3) := by decide +kernel
theorem dX2_isAtCharacter_15 : decode cX2_isAtCharacter 15 = .ok (.if_icmp .ge 16, 3) := by decide +kernel
theorem dX2_isAtCharacter_18 : decode cX2_isAtCharacter 18 = .ok (.aload_n 0, 1) := by decide +kernel
theorem dX2_isAtCharacter_19 : decode cX2_isAtCharacter 19 = .ok (.getfield 40, 3) := by decide +kernel
theorem dX2_isAtCharacter_22 : decode cX2_isAtCharacter 22 = .ok (.bipush 80, 2) := by decide +kernel
theorem dX2_isAtCharacter_24 : decode cX2_isAtCharacter 24 = .ok (.if_icmp .ge 7, 3) := by decide +kernel
theorem dX2_isAtCharacter_27 : decode cX2_isAtCharacter 27 = .ok (.iconst 1, 1) := by decide +kernel
theorem dX2_isAtCharacter_28 : decode cX2_isAtCharacter 28 = .ok (.goto 4, 3) := by decide +kernel
theorem dX2_isAtCharacter_31 : decode cX2_isAtCharacter 31 = .ok (.iconst 0, 1) := by decide +kernel
theorem dX2_isAtCharacter_32 : decode cX2_isAtCharacter 32 = .ok (.ireturn, 1) := by decide +kernel
set_option maxRecDepth 20000 in
theorem ggX3_init_X0_init : GoodIn wsX3_init wsX0_init := goodIn_r _ [21, 22, 2, 3, 23, 24, 25, 26, 27, 28, 29, 30, 31, 32, 33, 50, 51, 52, 53, 54, 55, 56, 57, 58, 59, 60, 61] (by decide +kernel) (by decide +kernel)
set_option maxRecDepth 20000 in
theorem gX3_init_X0_init : GoodIn wsX3_init (wsX0_init) := ggX3_init_X0_init
set_option maxRecDepth 20000 in
theorem ggX3_init_X1_init : GoodIn wsX3_init wsX1_init := goodIn_r _ [36, 37, 2, 3, 38, 39, 5, 6, 40, 41, 20, 21, 22, 23, 24, 25, 26, 27, 28, 29, 30, 31, 32, 33, 68, 69, 50, 51, 52, 53, 54, 55, 56, 57, 58, 59, 60, 61] (by decide +kernel) (by decide +kernel)
set_option maxRecDepth 20000 in
theorem gX3_init_X1_init : GoodIn wsX3_init (wsX1_init) := ggX3_init_X1_init
set_option maxRecDepth 20000 in
theorem ggX3_init_X2_init : GoodIn wsX3_init wsX2_init := goodIn_r _ [43, 44, 2, 3, 45, 46, 23, 47, 48, 49, 70, 71, 72, 73, 74, 75, 76] (by decide +kernel) (by decide +kernel)
set_option maxRecDepth 20000 in
theorem gX3_init_X2_init_n35 : GoodIn wsX3_init (wsX2_init) := ggX3_init_X2_init
theorem dX3_init_0 : decode cX3_init 0 = .ok (.aload_n 0, 1) := by decide +kernel
theorem dX3_init_1 : decode cX3_init 1 = .ok (.invokespecial 1, 3) := by decide +kernel
theorem dX3_init_4 : decode cX3_init 4 = .ok (.aload_n 0, 1) := by decide +kernel
theorem dX3_init_5 : decode cX3_init 5 = .ok (.new 7, 3) := by decide +kernel
theorem dX3_init_8 : decode cX3_init 8 = .ok (.dup, 1) := by decide +kernel
theorem dX3_init_9 : decode cX3_init 9 = .ok (.invokespecial 9, 3) := by decide +kernel
theorem dX3_init_12 : decode cX3_init 12 = .ok (.putfield 10, 3) := by decide +kernel
theorem dX3_init_15 : decode cX3_init 15 = .ok (.aload_n 0, 1) := by decide +kernel
theorem dX3_init_16 : decode cX3_init 16 = .ok (.new 7, 3) := by decide +kernel
theorem dX3_init_19 : decode cX3_init 19 = .ok (.dup, 1) := by decide +kernel
theorem dX3_init_20 : decode cX3_init 20 = .ok (.invokespecial 9, 3) := by decide +kernel
theorem dX3_init_23 : decode cX3_init 23 = .ok (.putfield 16, 3) := by decide +kernel
theorem dX3_init_26 : decode cX3_init 26 = .ok (.aload_n 0, 1) := by decide +kernel
theorem dX3_init_27 : decode cX3_init 27 = .ok (.new 7, 3) := by decide +kernel
theorem dX3_init_30 : decode cX3_init 30 = .ok (.dup, 1) := by decide +kernel
theorem dX3_init_31 : decode cX3_init 31 = .ok (.invokespecial 9, 3) := by decide +kernel
theorem dX3_init_34 : decode cX3_init 34 = .ok (.putfield 19, 3) := by decide +kernel
theorem dX3_init_37 : decode cX3_init 37 = .ok (.aload_n 0, 1) := by decide +kernel
theorem dX3_init_38 : decode cX3_init 38 = .ok (.iconst 0, 1) := by decide +kernel
theorem dX3_init_39 : decode cX3_init 39 = .ok (.putfield 22, 3) := by decide +kernel
theorem dX3_init_42 : decode cX3_init 42 = .ok (.aload_n 0, 1) := by decide +kernel
theorem dX3_init_43 : decode cX3_init 43 = .ok (.new 26, 3) := by decide +kernel
theorem dX3_init_46 : decode cX3_init 46 = .ok (.dup, 1) := by decide +kernel
theorem dX3_init_47 : decode cX3_init 47 = .ok (.invokespecial 28, 3) := by decide +kernel
theorem dX3_init_50 : decode cX3_init 50 = .ok (.putfield 29, 3) := by decide +kernel
theorem dX3_init_53 : decode cX3_init 53 = .ok (.aload_n 0, 1) := by decide +kernel
theorem dX3_init_54 : decode cX3_init 54 = .ok (.new 33, 3) := by decide +kernel
theorem dX3_init_57 : decode cX3_init 57 = .ok (.dup, 1) := by decide +kernel
theorem dX3_init_58 : decode cX3_init 58 = .ok (.invokespecial 35, 3) := by decide +kernel
theorem dX3_init_61 : decode cX3_init 61 = .ok (.putfield 36, 3) := by decide +kernel
theorem dX3_init_64 : decode cX3_init 64 = .ok (.return_, 1) := by decide +kernel
set_option maxRecDepth 20000 in
theorem ggX3_lay_X3_isPad : GoodIn wsX3_lay wsX3_isPad := goodIn_r _ [6] (by decide +kernel) (by decide +kernel)
set_option maxRecDepth 20000 in
theorem gX3_lay_X3_isPad : GoodIn wsX3_lay (va_wsS RX3 40 yX3_isPad wsX3_isPad) := goodIn_app (goodIn_of _ (by decide +kernel)) ggX3_lay_X3_isPad
set_option maxRecDepth 20000 in
theorem ggX3_lay_X3_isLead : GoodIn wsX3_lay wsX3_isLead := goodIn_r _ [9] (by decide +kernel) (by decide +kernel)
set_option maxRecDepth 20000 in
theorem gX3_lay_X3_isLead : GoodIn wsX3_lay (va_wsS RX3 44 yX3_isLead wsX3_isLead) := goodIn_app (goodIn_of _ (by decide +kernel)) ggX3_lay_X3_isLead
set_option maxRecDepth 20000 in
theorem ggX3_lay_X3_isHeight : GoodIn wsX3_lay wsX3_isHeight := goodIn_r _ [12, 13, 14, 5, 15] (by decide +kernel) (by decide +kernel)
set_option maxRecDepth 20000 in
theorem gX3_lay_X3_isHeight : GoodIn wsX3_lay (va_wsS RX3 47 yX3_isHeight wsX3_isHeight) := goodIn_app (goodIn_of _ (by decide +kernel)) ggX3_lay_X3_isHeight
set_option maxRecDepth 20000 in
theorem ggX3_lay_X0_errorOfLaying : GoodIn wsX3_lay wsX0_errorOfLaying := goodIn_r _ [20, 21, 22, 23, 24, 25, 19, 26, 27, 4, 5, 6, 28, 29, 30, 31, 101, 102, 103, 104, 105, 106, 107, 108, 109, 110, 111, 112] (by decide +kernel) (by decide +kernel)
set_option maxRecDepth 20000 in
theorem gX3_lay_X0_errorOfLaying : GoodIn wsX3_lay (wsV RX3 50 RX0 yX0_errorOfLaying wsX0_errorOfLaying) := goodIn_app (goodIn_of _ (by decide +kernel)) ggX3_lay_X0_errorOfLaying
set_option maxRecDepth 20000 in
theorem ggX3_lay_X1_record : GoodIn wsX3_lay wsX1_record := goodIn_r _ [36, 37, 38, 39, 40, 35, 41, 42, 43, 44, 45, 46, 14, 5, 15, 47, 48, 49, 19, 50, 51, 52, 53, 54, 55, 27, 56, 57, 58, 59, 60, 22, 61, 21, 62, 63, 113, 114, 101, 102, 103, 104, 105, 106, 107, 108, 109, 110, 111, 112] (by decide +kernel) (by decide +kernel)
set_option maxRecDepth 20000 in
theorem gX3_lay_X1_record : GoodIn wsX3_lay (wsV RX3 54 RX1 yX1_record wsX1_record) := goodIn_app (goodIn_of _ (by decide +kernel)) ggX3_lay_X1_record
set_option maxRecDepth 20000 in
theorem ggX3_lay_X0_addWire : GoodIn wsX3_lay wsX0_addWire := goodIn_r _ [67, 27, 56, 57, 58, 59, 22, 21, 62, 4, 5, 6, 8, 9, 68, 69, 70, 19, 71, 72, 73, 74, 75, 76, 77, 78, 79, 80, 81, 82, 83, 84, 51, 85, 86, 87, 88, 89, 90, 101, 102, 103, 104, 105, 106, 107, 108, 109, 110, 111, 112] (by decide +kernel) (by decide +kernel)
set_option maxRecDepth 20000 in
theorem gX3_lay_X0_addWire : GoodIn wsX3_lay (wsV RX3 58 RX0 yX0_addWire wsX0_addWire) := goodIn_app (goodIn_of _ (by decide +kernel)) ggX3_lay_X0_addWire
set_option maxRecDepth 20000 in
theorem ggX3_lay_X0_strengthOf : GoodIn wsX3_lay wsX0_strengthOf := goodIn_r _ [94, 57, 4, 5, 6, 101, 102, 103, 104, 105, 106, 107, 108, 109, 110, 111, 112] (by decide +kernel) (by decide +kernel)
set_option maxRecDepth 20000 in
theorem gX3_lay_X0_strengthOf : GoodIn wsX3_lay (wsV RX3 62 RX0 yX0_strengthOf wsX0_strengthOf) := goodIn_app (goodIn_of _ (by decide +kernel)) ggX3_lay_X0_strengthOf
theorem dX3_lay_0 : decode cX3_lay 0 = .ok (.iload_n 1, 1) := by decide +kernel
theorem dX3_lay_1 : decode cX3_lay 1 = .ok (.invokestatic 40, 3) := by decide +kernel
theorem dX3_lay_4 : decode cX3_lay 4 = .ok (.ifCond .eq 10, 3) := by decide +kernel
theorem dX3_lay_7 : decode cX3_lay 7 = .ok (.iload_n 2, 1) := by decide +kernel
theorem dX3_lay_8 : decode cX3_lay 8 = .ok (.invokestatic 44, 3) := by decide +kernel
theorem dX3_lay_11 : decode cX3_lay 11 = .ok (.ifCond .ne 5, 3) := by decide +kernel
theorem dX3_lay_14 : decode cX3_lay 14 = .ok (.iconst (-1), 1) := by decide +kernel
theorem dX3_lay_15 : decode cX3_lay 15 = .ok (.ireturn, 1) := by decide +kernel
theorem dX3_lay_16 : decode cX3_lay 16 = .ok (.iload_n 3, 1) := by decide +kernel
theorem dX3_lay_17 : decode cX3_lay 17 = .ok (.invokestatic 47, 3) := by decide +kernel
theorem dX3_lay_20 : decode cX3_lay 20 = .ok (.ifCond .ne 6, 3) := by decide +kernel
theorem dX3_lay_23 : decode cX3_lay 23 = .ok (.bipush (-2), 2) := by decide +kernel
theorem dX3_lay_25 : decode cX3_lay 25 = .ok (.ireturn, 1) := by decide +kernel
theorem dX3_lay_26 : decode cX3_lay 26 = .ok (.aload_n 0, 1) := by decide +kernel
theorem dX3_lay_27 : decode cX3_lay 27 = .ok (.getfield 10, 3) := by decide +kernel
theorem dX3_lay_30 : decode cX3_lay 30 = .ok (.iload_n 1, 1) := by decide +kernel
theorem dX3_lay_31 : decode cX3_lay 31 = .ok (.iload_n 2, 1) := by decide +kernel
theorem dX3_lay_32 : decode cX3_lay 32 = .ok (.invokevirtual 50, 3) := by decide +kernel
theorem dX3_lay_35 : decode cX3_lay 35 = .ok (.istore 4, 2) := by decide +kernel
theorem dX3_lay_37 : decode cX3_lay 37 = .ok (.iload 4, 2) := by decide +kernel
theorem dX3_lay_39 : decode cX3_lay 39 = .ok (.ifCond .eq 6, 3) := by decide +kernel
theorem dX3_lay_42 : decode cX3_lay 42 = .ok (.iload 4, 2) := by decide +kernel
theorem dX3_lay_44 : decode cX3_lay 44 = .ok (.ireturn, 1) := by decide +kernel
theorem dX3_lay_45 : decode cX3_lay 45 = .ok (.aload_n 0, 1) := by decide +kernel
theorem dX3_lay_46 : decode cX3_lay 46 = .ok (.getfield 29, 3) := by decide +kernel
theorem dX3_lay_49 : decode cX3_lay 49 = .ok (.aload_n 0, 1) := by decide +kernel
theorem dX3_lay_50 : decode cX3_lay 50 = .ok (.getfield 10, 3) := by decide +kernel
theorem dX3_lay_53 : decode cX3_lay 53 = .ok (.invokevirtual 54, 3) := by decide +kernel
theorem dX3_lay_56 : decode cX3_lay 56 = .ok (.aload_n 0, 1) := by decide +kernel
theorem dX3_lay_57 : decode cX3_lay 57 = .ok (.getfield 10, 3) := by decide +kernel
theorem dX3_lay_60 : decode cX3_lay 60 = .ok (.iload_n 1, 1) := by decide +kernel
theorem dX3_lay_61 : decode cX3_lay 61 = .ok (.iload_n 2, 1) := by decide +kernel
theorem dX3_lay_62 : decode cX3_lay 62 = .ok (.iload_n 3, 1) := by decide +kernel
theorem dX3_lay_63 : decode cX3_lay 63 = .ok (.invokevirtual 58, 3) := by decide +kernel
theorem dX3_lay_66 : decode cX3_lay 66 = .ok (.aload_n 0, 1) := by decide +kernel
theorem dX3_lay_67 : decode cX3_lay 67 = .ok (.getfield 10, 3) := by decide +kernel
theorem dX3_lay_70 : decode cX3_lay 70 = .ok (.iload_n 1, 1) := by decide +kernel
theorem dX3_lay_71 : decode cX3_lay 71 = .ok (.invokevirtual 62, 3) := by decide +kernel
theorem dX3_lay_74 : decode cX3_lay 74 = .ok (.ireturn, 1) := by decide +kernel
set_option maxRecDepth 20000 in
theorem ggX3_layAll_X2_read : GoodIn wsX3_layAll wsX2_read := goodIn_r _ [9, 10, 11, 12, 13, 14, 15, 8, 16, 17, 18, 19, 20, 21, 22, 23, 24, 25, 26, 27, 28, 29, 30, 31, 32, 33, 34, 35, 36, 37, 38, 39, 40, 41, 42, 43, 44, 45, 46, 47, 162, 163, 164, 165, 166, 167, 168] (by decide +kernel) (by decide +kernel)
set_option maxRecDepth 20000 in
theorem gX3_layAll_X2_read : GoodIn wsX3_layAll (wsV RX3 66 RX2 yX2_read wsX2_read) := goodIn_app (goodIn_of _ (by decide +kernel)) ggX3_layAll_X2_read
set_option maxRecDepth 20000 in
theorem ggX3_layAll_X0_copyFrom : GoodIn wsX3_layAll wsX0_copyFrom := goodIn_r _ [52, 53, 54, 55, 56, 57, 58, 59, 60, 61, 62, 63, 64, 65, 66, 67, 68, 169, 170, 171, 172, 173, 174, 175, 176, 177, 178, 179, 180] (by decide +kernel) (by decide +kernel)
set_option maxRecDepth 20000 in
theorem gX3_layAll_X0_copyFrom : GoodIn wsX3_layAll (wsV RX3 70 RX0 yX0_copyFrom wsX0_copyFrom) := goodIn_app (goodIn_of _ (by decide +kernel)) ggX3_layAll_X0_copyFrom
set_option maxRecDepth 20000 in
theorem ggX3_layAll_X0_addListed : GoodIn wsX3_layAll wsX0_addListed := goodIn_r _ [72, 73, 74, 75, 8, 76, 11, 77, 78, 79, 80, 17, 81, 82, 83, 84, 33, 34, 35, 85, 86, 87, 88, 18, 89, 90, 91, 51, 92, 66, 64, 93, 94, 95, 96, 58, 97, 98, 99, 100, 101, 102, 103, 104, 105, 106, 19, 107, 108, 109, 110, 59, 60, 61, 62, 67, 111, 112, 113, 114, 115, 116, 117, 118, 119, 120, 121, 122, 123, 124, 125, 126, 127, 128, 129, 53, 130, 131, 132, 133, 134, 135, 162, 163, 164, 165, 166, 167, 168, 169, 170, 171, 172, 173, 174, 175, 176, 177, 178, 179, 180] (by decide +kernel) (by decide +kernel)
set_option maxRecDepth 20000 in
theorem gX3_layAll_X0_addListed : GoodIn wsX3_layAll (wsV RX3 73 RX0 yX0_addListed wsX0_addListed) := goodIn_app (goodIn_of _ (by decide +kernel)) ggX3_layAll_X0_addListed
set_option maxRecDepth 20000 in
theorem ggX3_layAll_X1_record : GoodIn wsX3_layAll wsX1_record := goodIn_r _ [140, 141, 142, 143, 144, 139, 145, 146, 147, 148, 149, 150, 33, 34, 35, 151, 49, 50, 51, 52, 53, 54, 55, 56, 57, 58, 59, 60, 61, 62, 63, 64, 65, 66, 67, 68, 181, 182, 169, 170, 171, 172, 173, 174, 175, 176, 177, 178, 179, 180] (by decide +kernel) (by decide +kernel)
set_option maxRecDepth 20000 in
theorem gX3_layAll_X1_record : GoodIn wsX3_layAll (wsV RX3 54 RX1 yX1_record wsX1_record) := goodIn_app (goodIn_of _ (by decide +kernel)) ggX3_layAll_X1_record
set_option maxRecDepth 20000 in
theorem ggX3_layAll_X0_wires : GoodIn wsX3_layAll wsX0_wires := goodIn_r _ [155, 93, 94, 95, 51, 96, 58, 97, 34, 98, 169, 170, 171, 172, 173, 174, 175, 176, 177, 178, 179, 180] (by decide +kernel) (by decide +kernel)
set_option maxRecDepth 20000 in
theorem gX3_layAll_X0_wires : GoodIn wsX3_layAll (wsV RX3 77 RX0 yX0_wires wsX0_wires) := goodIn_app (goodIn_of _ (by decide +kernel)) ggX3_layAll_X0_wires
theorem dX3_layAll_0 : decode cX3_layAll 0 = .ok (.aload_n 0, 1) := by decide +kernel
theorem dX3_layAll_1 : decode cX3_layAll 1 = .ok (.getfield 36, 3) := by decide +kernel
theorem dX3_layAll_4 : decode cX3_layAll 4 = .ok (.invokevirtual 66, 3) := by decide +kernel
theorem dX3_layAll_7 : decode cX3_layAll 7 = .ok (.istore_n 1, 1) := by decide +kernel
theorem dX3_layAll_8 : decode cX3_layAll 8 = .ok (.iload_n 1, 1) := by decide +kernel
theorem dX3_layAll_9 : decode cX3_layAll 9 = .ok (.iconst (-1), 1) := by decide +kernel
theorem dX3_layAll_10 : decode cX3_layAll 10 = .ok (.if_icmp .eq 8, 3) := by decide +kernel
theorem dX3_layAll_13 : decode cX3_layAll 13 = .ok (.bipush (-100), 2) := by decide +kernel
theorem dX3_layAll_15 : decode cX3_layAll 15 = .ok (.iload_n 1, 1) := by decide +kernel
theorem dX3_layAll_16 : decode cX3_layAll 16 = .ok (.isub, 1) := by decide +kernel
theorem dX3_layAll_17 : decode cX3_layAll 17 = .ok (.ireturn, 1) := by decide +kernel
theorem dX3_layAll_18 : decode cX3_layAll 18 = .ok (.aload_n 0, 1) := by decide +kernel
theorem dX3_layAll_19 : decode cX3_layAll 19 = .ok (.getfield 16, 3) := by decide +kernel
theorem dX3_layAll_22 : decode cX3_layAll 22 = .ok (.aload_n 0, 1) := by decide +kernel
theorem dX3_layAll_23 : decode cX3_layAll 23 = .ok (.getfield 10, 3) := by decide +kernel
theorem dX3_layAll_26 : decode cX3_layAll 26 = .ok (.invokevirtual 70, 3) := by decide +kernel
theorem dX3_layAll_29 : decode cX3_layAll 29 = .ok (.aload_n 0, 1) := by decide +kernel
theorem dX3_layAll_30 : decode cX3_layAll 30 = .ok (.getfield 10, 3) := by decide +kernel
theorem dX3_layAll_33 : decode cX3_layAll 33 = .ok (.aload_n 0, 1) := by decide +kernel
theorem dX3_layAll_34 : decode cX3_layAll 34 = .ok (.getfield 36, 3) := by decide +kernel
theorem dX3_layAll_37 : decode cX3_layAll 37 = .ok (.invokevirtual 73, 3) := by decide +kernel
theorem dX3_layAll_40 : decode cX3_layAll 40 = .ok (.istore_n 2, 1) := by decide +kernel
theorem dX3_layAll_41 : decode cX3_layAll 41 = .ok (.iload_n 2, 1) := by decide +kernel
theorem dX3_layAll_42 : decode cX3_layAll 42 = .ok (.ifCond .eq 16, 3) := by decide +kernel
theorem dX3_layAll_45 : decode cX3_layAll 45 = .ok (.aload_n 0, 1) := by decide +kernel
theorem dX3_layAll_46 : decode cX3_layAll 46 = .ok (.getfield 10, 3) := by decide +kernel
theorem dX3_layAll_49 : decode cX3_layAll 49 = .ok (.aload_n 0, 1) := by decide +kernel
theorem dX3_layAll_50 : decode cX3_layAll 50 = .ok (.getfield 16, 3) := by decide +kernel
theorem dX3_layAll_53 : decode cX3_layAll 53 = .ok (.invokevirtual 70, 3) := by decide +kernel
theorem dX3_layAll_56 : decode cX3_layAll 56 = .ok (.iload_n 2, 1) := by decide +kernel
theorem dX3_layAll_57 : decode cX3_layAll 57 = .ok (.ireturn, 1) := by decide +kernel
theorem dX3_layAll_58 : decode cX3_layAll 58 = .ok (.aload_n 0, 1) := by decide +kernel
theorem dX3_layAll_59 : decode cX3_layAll 59 = .ok (.getfield 29, 3) := by decide +kernel
theorem dX3_layAll_62 : decode cX3_layAll 62 = .ok (.aload_n 0, 1) := by decide +kernel
theorem dX3_layAll_63 : decode cX3_layAll 63 = .ok (.getfield 16, 3) := by decide +kernel
theorem dX3_layAll_66 : decode cX3_layAll 66 = .ok (.invokevirtual 54, 3) := by decide +kernel
theorem dX3_layAll_69 : decode cX3_layAll 69 = .ok (.aload_n 0, 1) := by decide +kernel
theorem dX3_layAll_70 : decode cX3_layAll 70 = .ok (.getfield 10, 3) := by decide +kernel
theorem dX3_layAll_73 : decode cX3_layAll 73 = .ok (.invokevirtual 77, 3) := by decide +kernel
theorem dX3_layAll_76 : decode cX3_layAll 76 = .ok (.ireturn, 1) := by decide +kernel
set_option maxRecDepth 20000 in
theorem ggX3_takeOff_X0_hasWire : GoodIn wsX3_takeOff wsX0_hasWire := goodIn_r _ [7, 8, 9, 10, 11, 62, 63, 64, 65, 66, 67, 68, 69, 70, 71, 72, 73] (by decide +kernel) (by decide +kernel)
set_option maxRecDepth 20000 in
theorem gX3_takeOff_X0_hasWire : GoodIn wsX3_takeOff (wsV RX3 80 RX0 yX0_hasWire wsX0_hasWire) := goodIn_app (goodIn_of _ (by decide +kernel)) ggX3_takeOff_X0_hasWire
set_option maxRecDepth 20000 in
theorem ggX3_takeOff_X1_record : GoodIn wsX3_takeOff wsX1_record := goodIn_r _ [16, 17, 18, 19, 20, 15, 21, 22, 23, 24, 25, 26, 27, 10, 28, 29, 30, 31, 6, 32, 33, 34, 35, 36, 37, 8, 38, 39, 40, 41, 42, 43, 44, 45, 46, 47, 74, 75, 62, 63, 64, 65, 66, 67, 68, 69, 70, 71, 72, 73] (by decide +kernel) (by decide +kernel)
set_option maxRecDepth 20000 in
theorem gX3_takeOff_X1_record : GoodIn wsX3_takeOff (wsV RX3 54 RX1 yX1_record wsX1_record) := goodIn_app (goodIn_of _ (by decide +kernel)) ggX3_takeOff_X1_record
set_option maxRecDepth 20000 in
theorem ggX3_takeOff_X0_strengthOf : GoodIn wsX3_takeOff wsX0_strengthOf := goodIn_r _ [51, 39, 9, 10, 11, 62, 63, 64, 65, 66, 67, 68, 69, 70, 71, 72, 73] (by decide +kernel) (by decide +kernel)
set_option maxRecDepth 20000 in
theorem gX3_takeOff_X0_strengthOf : GoodIn wsX3_takeOff (wsV RX3 62 RX0 yX0_strengthOf wsX0_strengthOf) := goodIn_app (goodIn_of _ (by decide +kernel)) ggX3_takeOff_X0_strengthOf
set_option maxRecDepth 20000 in
theorem ggX3_takeOff_X0_removeWire : GoodIn wsX3_takeOff wsX0_removeWire := goodIn_r _ [55, 8, 9, 10, 11, 62, 63, 64, 65, 66, 67, 68, 69, 70, 71, 72, 73] (by decide +kernel) (by decide +kernel)
set_option maxRecDepth 20000 in
theorem gX3_takeOff_X0_removeWire : GoodIn wsX3_takeOff (wsV RX3 83 RX0 yX0_removeWire wsX0_removeWire) := goodIn_app (goodIn_of _ (by decide +kernel)) ggX3_takeOff_X0_removeWire
theorem dX3_takeOff_0 : decode cX3_takeOff 0 = .ok (.aload_n 0, 1) := by decide +kernel
theorem dX3_takeOff_1 : decode cX3_takeOff 1 = .ok (.getfield 10, 3) := by decide +kernel
theorem dX3_takeOff_4 : decode cX3_takeOff 4 = .ok (.iload_n 1, 1) := by decide +kernel
theorem dX3_takeOff_5 : decode cX3_takeOff 5 = .ok (.invokevirtual 80, 3) := by decide +kernel
theorem dX3_takeOff_8 : decode cX3_takeOff 8 = .ok (.ifCond .ne 5, 3) := by decide +kernel
theorem dX3_takeOff_11 : decode cX3_takeOff 11 = .ok (.iconst (-1), 1) := by decide +kernel
theorem dX3_takeOff_12 : decode cX3_takeOff 12 = .ok (.ireturn, 1) := by decide +kernel
theorem dX3_takeOff_13 : decode cX3_takeOff 13 = .ok (.aload_n 0, 1) := by decide +kernel
theorem dX3_takeOff_14 : decode cX3_takeOff 14 = .ok (.getfield 29, 3) := by decide +kernel
theorem dX3_takeOff_17 : decode cX3_takeOff 17 = .ok (.aload_n 0, 1) := by decide +kernel
theorem dX3_takeOff_18 : decode cX3_takeOff 18 = .ok (.getfield 10, 3) := by decide +kernel
theorem dX3_takeOff_21 : decode cX3_takeOff 21 = .ok (.invokevirtual 54, 3) := by decide +kernel
theorem dX3_takeOff_24 : decode cX3_takeOff 24 = .ok (.aload_n 0, 1) := by decide +kernel
theorem dX3_takeOff_25 : decode cX3_takeOff 25 = .ok (.getfield 10, 3) := by decide +kernel
theorem dX3_takeOff_28 : decode cX3_takeOff 28 = .ok (.iload_n 1, 1) := by decide +kernel
theorem dX3_takeOff_29 : decode cX3_takeOff 29 = .ok (.invokevirtual 62, 3) := by decide +kernel
theorem dX3_takeOff_32 : decode cX3_takeOff 32 = .ok (.istore_n 2, 1) := by decide +kernel
theorem dX3_takeOff_33 : decode cX3_takeOff 33 = .ok (.aload_n 0, 1) := by decide +kernel
theorem dX3_takeOff_34 : decode cX3_takeOff 34 = .ok (.getfield 10, 3) := by decide +kernel
theorem dX3_takeOff_37 : decode cX3_takeOff 37 = .ok (.iload_n 1, 1) := by decide +kernel
theorem dX3_takeOff_38 : decode cX3_takeOff 38 = .ok (.invokevirtual 83, 3) := by decide +kernel
theorem dX3_takeOff_41 : decode cX3_takeOff 41 = .ok (.iload_n 2, 1) := by decide +kernel
theorem dX3_takeOff_42 : decode cX3_takeOff 42 = .ok (.ireturn, 1) := by decide +kernel
set_option maxRecDepth 20000 in
theorem ggX3_bend_X0_hasWire : GoodIn wsX3_bend wsX0_hasWire := goodIn_r _ [7, 8, 9, 10, 11, 66, 67, 68, 69, 70, 71, 72, 73, 74, 75, 76, 77] (by decide +kernel) (by decide +kernel)
set_option maxRecDepth 20000 in
theorem gX3_bend_X0_hasWire : GoodIn wsX3_bend (wsV RX3 80 RX0 yX0_hasWire wsX0_hasWire) := goodIn_app (goodIn_of _ (by decide +kernel)) ggX3_bend_X0_hasWire
set_option maxRecDepth 20000 in
theorem ggX3_bend_X3_isHeight : GoodIn wsX3_bend wsX3_isHeight := goodIn_r _ [14, 15, 16, 10, 17] (by decide +kernel) (by decide +kernel)
set_option maxRecDepth 20000 in
theorem gX3_bend_X3_isHeight : GoodIn wsX3_bend (va_wsS RX3 47 yX3_isHeight wsX3_isHeight) := goodIn_app (goodIn_of _ (by decide +kernel)) ggX3_bend_X3_isHeight
set_option maxRecDepth 20000 in
theorem ggX3_bend_X0_heightOf : GoodIn wsX3_bend wsX0_heightOf := goodIn_r _ [21, 22, 9, 10, 11, 66, 67, 68, 69, 70, 71, 72, 73, 74, 75, 76, 77] (by decide +kernel) (by decide +kernel)
set_option maxRecDepth 20000 in
theorem gX3_bend_X0_heightOf : GoodIn wsX3_bend (wsV RX3 87 RX0 yX0_heightOf wsX0_heightOf) := goodIn_app (goodIn_of _ (by decide +kernel)) ggX3_bend_X0_heightOf
set_option maxRecDepth 20000 in
theorem ggX3_bend_X1_record : GoodIn wsX3_bend wsX1_record := goodIn_r _ [27, 28, 29, 30, 31, 26, 32, 33, 34, 35, 36, 37, 16, 10, 17, 38, 39, 40, 6, 41, 42, 43, 44, 45, 46, 8, 22, 47, 48, 49, 50, 51, 52, 53, 54, 55, 78, 79, 66, 67, 68, 69, 70, 71, 72, 73, 74, 75, 76, 77] (by decide +kernel) (by decide +kernel)
set_option maxRecDepth 20000 in
theorem gX3_bend_X1_record : GoodIn wsX3_bend (wsV RX3 54 RX1 yX1_record wsX1_record) := goodIn_app (goodIn_of _ (by decide +kernel)) ggX3_bend_X1_record
set_option maxRecDepth 20000 in
theorem ggX3_bend_X0_changeHeight : GoodIn wsX3_bend wsX0_changeHeight := goodIn_r _ [59, 22, 9, 10, 11, 66, 67, 68, 69, 70, 71, 72, 73, 74, 75, 76, 77] (by decide +kernel) (by decide +kernel)
set_option maxRecDepth 20000 in
theorem gX3_bend_X0_changeHeight : GoodIn wsX3_bend (wsV RX3 90 RX0 yX0_changeHeight wsX0_changeHeight) := goodIn_app (goodIn_of _ (by decide +kernel)) ggX3_bend_X0_changeHeight
theorem dX3_bend_0 : decode cX3_bend 0 = .ok (.aload_n 0, 1) := by decide +kernel
theorem dX3_bend_1 : decode cX3_bend 1 = .ok (.getfield 10, 3) := by decide +kernel
theorem dX3_bend_4 : decode cX3_bend 4 = .ok (.iload_n 1, 1) := by decide +kernel
theorem dX3_bend_5 : decode cX3_bend 5 = .ok (.invokevirtual 80, 3) := by decide +kernel
theorem dX3_bend_8 : decode cX3_bend 8 = .ok (.ifCond .ne 5, 3) := by decide +kernel
theorem dX3_bend_11 : decode cX3_bend 11 = .ok (.iconst (-1), 1) := by decide +kernel
theorem dX3_bend_12 : decode cX3_bend 12 = .ok (.ireturn, 1) := by decide +kernel
theorem dX3_bend_13 : decode cX3_bend 13 = .ok (.iload_n 2, 1) := by decide +kernel
theorem dX3_bend_14 : decode cX3_bend 14 = .ok (.invokestatic 47, 3) := by decide +kernel
theorem dX3_bend_17 : decode cX3_bend 17 = .ok (.ifCond .ne 6, 3) := by decide +kernel
theorem dX3_bend_20 : decode cX3_bend 20 = .ok (.bipush (-2), 2) := by decide +kernel
theorem dX3_bend_22 : decode cX3_bend 22 = .ok (.ireturn, 1) := by decide +kernel
theorem dX3_bend_23 : decode cX3_bend 23 = .ok (.aload_n 0, 1) := by decide +kernel
theorem dX3_bend_24 : decode cX3_bend 24 = .ok (.getfield 10, 3) := by decide +kernel
theorem dX3_bend_27 : decode cX3_bend 27 = .ok (.iload_n 1, 1) := by decide +kernel
theorem dX3_bend_28 : decode cX3_bend 28 = .ok (.invokevirtual 87, 3) := by decide +kernel
theorem dX3_bend_31 : decode cX3_bend 31 = .ok (.istore_n 3, 1) := by decide +kernel
theorem dX3_bend_32 : decode cX3_bend 32 = .ok (.iload_n 3, 1) := by decide +kernel
theorem dX3_bend_33 : decode cX3_bend 33 = .ok (.iload_n 2, 1) := by decide +kernel
theorem dX3_bend_34 : decode cX3_bend 34 = .ok (.if_icmp .ne 6, 3) := by decide +kernel
theorem dX3_bend_37 : decode cX3_bend 37 = .ok (.bipush (-5), 2) := by decide +kernel
theorem dX3_bend_39 : decode cX3_bend 39 = .ok (.ireturn, 1) := by decide +kernel
theorem dX3_bend_40 : decode cX3_bend 40 = .ok (.aload_n 0, 1) := by decide +kernel
theorem dX3_bend_41 : decode cX3_bend 41 = .ok (.getfield 29, 3) := by decide +kernel
theorem dX3_bend_44 : decode cX3_bend 44 = .ok (.aload_n 0, 1) := by decide +kernel
theorem dX3_bend_45 : decode cX3_bend 45 = .ok (.getfield 10, 3) := by decide +kernel
theorem dX3_bend_48 : decode cX3_bend 48 = .ok (.invokevirtual 54, 3) := by decide +kernel
theorem dX3_bend_51 : decode cX3_bend 51 = .ok (.aload_n 0, 1) := by decide +kernel
theorem dX3_bend_52 : decode cX3_bend 52 = .ok (.getfield 10, 3) := by decide +kernel
theorem dX3_bend_55 : decode cX3_bend 55 = .ok (.iload_n 1, 1) := by decide +kernel
theorem dX3_bend_56 : decode cX3_bend 56 = .ok (.iload_n 2, 1) := by decide +kernel
theorem dX3_bend_57 : decode cX3_bend 57 = .ok (.invokevirtual 90, 3) := by decide +kernel
theorem dX3_bend_60 : decode cX3_bend 60 = .ok (.iload_n 3, 1) := by decide +kernel
theorem dX3_bend_61 : decode cX3_bend 61 = .ok (.ireturn, 1) := by decide +kernel
set_option maxRecDepth 20000 in
theorem ggX3_moveLead_X3_isLead : GoodIn wsX3_moveLead wsX3_isLead := goodIn_r _ [6] (by decide +kernel) (by decide +kernel)
set_option maxRecDepth 20000 in
theorem gX3_moveLead_X3_isLead : GoodIn wsX3_moveLead (va_wsS RX3 44 yX3_isLead wsX3_isLead) := goodIn_app (goodIn_of _ (by decide +kernel)) ggX3_moveLead_X3_isLead
set_option maxRecDepth 20000 in
theorem ggX3_moveLead_X3_isWithin : GoodIn wsX3_moveLead wsX3_isWithin := goodIn_r _ [9] (by decide +kernel) (by decide +kernel)
set_option maxRecDepth 20000 in
theorem gX3_moveLead_X3_isWithin : GoodIn wsX3_moveLead (va_wsS RX3 94 yX3_isWithin wsX3_isWithin) := goodIn_app (goodIn_of _ (by decide +kernel)) ggX3_moveLead_X3_isWithin
set_option maxRecDepth 20000 in
theorem ggX3_moveLead_X0_padAtLead : GoodIn wsX3_moveLead wsX0_padAtLead := goodIn_r _ [14, 15, 16, 17, 18, 13, 19, 20, 5, 21, 70, 71, 72, 73, 74, 75, 76, 77, 78, 79, 80, 81] (by decide +kernel) (by decide +kernel)
set_option maxRecDepth 20000 in
theorem gX3_moveLead_X0_padAtLead : GoodIn wsX3_moveLead (wsV RX3 98 RX0 yX0_padAtLead wsX0_padAtLead) := goodIn_app (goodIn_of _ (by decide +kernel)) ggX3_moveLead_X0_padAtLead
set_option maxRecDepth 20000 in
theorem ggX3_moveLead_X0_xOfLead : GoodIn wsX3_moveLead wsX0_xOfLead := goodIn_r _ [25, 26, 4, 5, 6, 70, 71, 72, 73, 74, 75, 76, 77, 78, 79, 80, 81] (by decide +kernel) (by decide +kernel)
set_option maxRecDepth 20000 in
theorem gX3_moveLead_X0_xOfLead : GoodIn wsX3_moveLead (wsV RX3 101 RX0 yX0_xOfLead wsX0_xOfLead) := goodIn_app (goodIn_of _ (by decide +kernel)) ggX3_moveLead_X0_xOfLead
set_option maxRecDepth 20000 in
theorem ggX3_moveLead_X1_record : GoodIn wsX3_moveLead wsX1_record := goodIn_r _ [31, 32, 33, 34, 35, 30, 36, 37, 38, 39, 40, 41, 8, 5, 9, 42, 43, 44, 13, 45, 26, 46, 47, 48, 49, 15, 50, 51, 52, 53, 54, 55, 56, 57, 58, 59, 82, 83, 70, 71, 72, 73, 74, 75, 76, 77, 78, 79, 80, 81] (by decide +kernel) (by decide +kernel)
