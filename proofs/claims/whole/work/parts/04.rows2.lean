theorem dX1_init_43 : decode cX1_init 43 = .ok (.return_, 1) := by decide +kernel
theorem dX1_states_0 : decode cX1_states 0 = .ok (.aload_n 0, 1) := by decide +kernel
theorem dX1_states_1 : decode cX1_states 1 = .ok (.getfield 18, 3) := by decide +kernel
theorem dX1_states_4 : decode cX1_states 4 = .ok (.ireturn, 1) := by decide +kernel
set_option maxRecDepth 20000 in
theorem ggX1_record_X1_dropOldest : GoodIn wsX1_record wsX1_dropOldest := goodIn_r _ [6, 7, 1, 36, 37] (by decide +kernel) (by decide +kernel)
set_option maxRecDepth 20000 in
theorem gX1_record_X1_dropOldest : GoodIn wsX1_record (wsV RX1 22 RX1 yX1_dropOldest wsX1_dropOldest) := goodIn_app (goodIn_of _ (by decide +kernel)) ggX1_record_X1_dropOldest
set_option maxRecDepth 20000 in
theorem ggX1_record_X1_placeAt : GoodIn wsX1_record wsX1_placeAt := goodIn_r _ [11, 7, 12, 13, 14, 36, 37] (by decide +kernel) (by decide +kernel)
set_option maxRecDepth 20000 in
theorem gX1_record_X1_placeAt : GoodIn wsX1_record (wsV RX1 25 RX1 yX1_placeAt wsX1_placeAt) := goodIn_app (goodIn_of _ (by decide +kernel)) ggX1_record_X1_placeAt
set_option maxRecDepth 20000 in
theorem ggX1_record_X0_copyFrom : GoodIn wsX1_record wsX0_copyFrom := goodIn_r _ [19, 20, 21, 22, 23, 24, 25, 26, 27, 28, 29, 30, 31, 32, 33, 34, 35, 38, 39, 40, 41, 42, 43, 44, 45, 46, 47, 48, 49] (by decide +kernel) (by decide +kernel)
set_option maxRecDepth 20000 in
theorem gX1_record_X0_copyFrom : GoodIn wsX1_record (wsV RX1 29 RX0 yX0_copyFrom wsX0_copyFrom) := goodIn_app (goodIn_of _ (by decide +kernel)) ggX1_record_X0_copyFrom
theorem dX1_record_0 : decode cX1_record 0 = .ok (.aload_n 0, 1) := by decide +kernel
theorem dX1_record_1 : decode cX1_record 1 = .ok (.getfield 18, 3) := by decide +kernel
theorem dX1_record_4 : decode cX1_record 4 = .ok (.iconst 4, 1) := by decide +kernel
theorem dX1_record_5 : decode cX1_record 5 = .ok (.if_icmp .lt 7, 3) := by decide +kernel
theorem dX1_record_8 : decode cX1_record 8 = .ok (.aload_n 0, 1) := by decide +kernel
theorem dX1_record_9 : decode cX1_record 9 = .ok (.invokevirtual 22, 3) := by decide +kernel
theorem dX1_record_12 : decode cX1_record 12 = .ok (.aload_n 0, 1) := by decide +kernel
theorem dX1_record_13 : decode cX1_record 13 = .ok (.aload_n 0, 1) := by decide +kernel
theorem dX1_record_14 : decode cX1_record 14 = .ok (.getfield 18, 3) := by decide +kernel
theorem dX1_record_17 : decode cX1_record 17 = .ok (.invokevirtual 25, 3) := by decide +kernel
theorem dX1_record_20 : decode cX1_record 20 = .ok (.astore_n 2, 1) := by decide +kernel
theorem dX1_record_21 : decode cX1_record 21 = .ok (.aload_n 2, 1) := by decide +kernel
theorem dX1_record_22 : decode cX1_record 22 = .ok (.ifnull 18, 3) := by decide +kernel
theorem dX1_record_25 : decode cX1_record 25 = .ok (.aload_n 2, 1) := by decide +kernel
theorem dX1_record_26 : decode cX1_record 26 = .ok (.aload_n 1, 1) := by decide +kernel
theorem dX1_record_27 : decode cX1_record 27 = .ok (.invokevirtual 29, 3) := by decide +kernel
theorem dX1_record_30 : decode cX1_record 30 = .ok (.aload_n 0, 1) := by decide +kernel
theorem dX1_record_31 : decode cX1_record 31 = .ok (.dup, 1) := by decide +kernel
theorem dX1_record_32 : decode cX1_record 32 = .ok (.getfield 18, 3) := by decide +kernel
theorem dX1_record_35 : decode cX1_record 35 = .ok (.iconst 1, 1) := by decide +kernel
theorem dX1_record_36 : decode cX1_record 36 = .ok (.iadd, 1) := by decide +kernel
theorem dX1_record_37 : decode cX1_record 37 = .ok (.putfield 18, 3) := by decide +kernel
theorem dX1_record_40 : decode cX1_record 40 = .ok (.return_, 1) := by decide +kernel
set_option maxRecDepth 20000 in
theorem ggX1_takeLatest_X1_placeAt : GoodIn wsX1_takeLatest wsX1_placeAt := goodIn_r _ [6, 7, 8, 9, 10, 32, 33] (by decide +kernel) (by decide +kernel)
set_option maxRecDepth 20000 in
theorem gX1_takeLatest_X1_placeAt : GoodIn wsX1_takeLatest (wsV RX1 25 RX1 yX1_placeAt wsX1_placeAt) := goodIn_app (goodIn_of _ (by decide +kernel)) ggX1_takeLatest_X1_placeAt
set_option maxRecDepth 20000 in
theorem ggX1_takeLatest_X0_copyFrom : GoodIn wsX1_takeLatest wsX0_copyFrom := goodIn_r _ [15, 16, 17, 18, 19, 20, 21, 22, 23, 24, 25, 26, 27, 28, 29, 30, 31, 34, 35, 36, 37, 38, 39, 40, 41, 42, 43, 44, 45] (by decide +kernel) (by decide +kernel)
set_option maxRecDepth 20000 in
theorem gX1_takeLatest_X0_copyFrom : GoodIn wsX1_takeLatest (wsV RX1 29 RX0 yX0_copyFrom wsX0_copyFrom) := goodIn_app (goodIn_of _ (by decide +kernel)) ggX1_takeLatest_X0_copyFrom
theorem dX1_takeLatest_0 : decode cX1_takeLatest 0 = .ok (.aload_n 0, 1) := by decide +kernel
theorem dX1_takeLatest_1 : decode cX1_takeLatest 1 = .ok (.aload_n 0, 1) := by decide +kernel
theorem dX1_takeLatest_2 : decode cX1_takeLatest 2 = .ok (.getfield 18, 3) := by decide +kernel
theorem dX1_takeLatest_5 : decode cX1_takeLatest 5 = .ok (.iconst 1, 1) := by decide +kernel
theorem dX1_takeLatest_6 : decode cX1_takeLatest 6 = .ok (.isub, 1) := by decide +kernel
theorem dX1_takeLatest_7 : decode cX1_takeLatest 7 = .ok (.invokevirtual 25, 3) := by decide +kernel
theorem dX1_takeLatest_10 : decode cX1_takeLatest 10 = .ok (.astore_n 2, 1) := by decide +kernel
theorem dX1_takeLatest_11 : decode cX1_takeLatest 11 = .ok (.aload_n 2, 1) := by decide +kernel
theorem dX1_takeLatest_12 : decode cX1_takeLatest 12 = .ok (.ifnull 18, 3) := by decide +kernel
theorem dX1_takeLatest_15 : decode cX1_takeLatest 15 = .ok (.aload_n 1, 1) := by decide +kernel
theorem dX1_takeLatest_16 : decode cX1_takeLatest 16 = .ok (.aload_n 2, 1) := by decide +kernel
theorem dX1_takeLatest_17 : decode cX1_takeLatest 17 = .ok (.invokevirtual 29, 3) := by decide +kernel
theorem dX1_takeLatest_20 : decode cX1_takeLatest 20 = .ok (.aload_n 0, 1) := by decide +kernel
theorem dX1_takeLatest_21 : decode cX1_takeLatest 21 = .ok (.dup, 1) := by decide +kernel
theorem dX1_takeLatest_22 : decode cX1_takeLatest 22 = .ok (.getfield 18, 3) := by decide +kernel
theorem dX1_takeLatest_25 : decode cX1_takeLatest 25 = .ok (.iconst 1, 1) := by decide +kernel
theorem dX1_takeLatest_26 : decode cX1_takeLatest 26 = .ok (.isub, 1) := by decide +kernel
theorem dX1_takeLatest_27 : decode cX1_takeLatest 27 = .ok (.putfield 18, 3) := by decide +kernel
theorem dX1_takeLatest_30 : decode cX1_takeLatest 30 = .ok (.return_, 1) := by decide +kernel
set_option maxRecDepth 20000 in
theorem ggX1_placeAt_X3_isWithin : GoodIn wsX1_placeAt wsX3_isWithin := goodIn_r _ [4] (by decide +kernel) (by decide +kernel)
set_option maxRecDepth 20000 in
theorem gX1_placeAt_X3_isWithin_n33 : GoodIn wsX1_placeAt (wsX3_isWithin) := ggX1_placeAt_X3_isWithin
theorem dX1_placeAt_0 : decode cX1_placeAt 0 = .ok (.iload_n 1, 1) := by decide +kernel
theorem dX1_placeAt_1 : decode cX1_placeAt 1 = .ok (.iconst 0, 1) := by decide +kernel
theorem dX1_placeAt_2 : decode cX1_placeAt 2 = .ok (.iconst 3, 1) := by decide +kernel
theorem dX1_placeAt_3 : decode cX1_placeAt 3 = .ok (.invokestatic 33, 3) := by decide +kernel
theorem dX1_placeAt_6 : decode cX1_placeAt 6 = .ok (.ifCond .eq 12, 3) := by decide +kernel
theorem dX1_placeAt_9 : decode cX1_placeAt 9 = .ok (.aload_n 0, 1) := by decide +kernel
theorem dX1_placeAt_10 : decode cX1_placeAt 10 = .ok (.getfield 11, 3) := by decide +kernel
theorem dX1_placeAt_13 : decode cX1_placeAt 13 = .ok (.iload_n 1, 1) := by decide +kernel
theorem dX1_placeAt_14 : decode cX1_placeAt 14 = .ok (.aaload, 1) := by decide +kernel
theorem dX1_placeAt_15 : decode cX1_placeAt 15 = .ok (.goto 4, 3) := by decide +kernel
theorem dX1_placeAt_18 : decode cX1_placeAt 18 = .ok (.aconst_null, 1) := by decide +kernel
theorem dX1_placeAt_19 : decode cX1_placeAt 19 = .ok (.areturn, 1) := by decide +kernel
theorem dX1_dropOldest_0 : decode cX1_dropOldest 0 = .ok (.aload_n 0, 1) := by decide +kernel
theorem dX1_dropOldest_1 : decode cX1_dropOldest 1 = .ok (.getfield 11, 3) := by decide +kernel
theorem dX1_dropOldest_4 : decode cX1_dropOldest 4 = .ok (.iconst 0, 1) := by decide +kernel
theorem dX1_dropOldest_5 : decode cX1_dropOldest 5 = .ok (.aaload, 1) := by decide +kernel
theorem dX1_dropOldest_6 : decode cX1_dropOldest 6 = .ok (.astore_n 1, 1) := by decide +kernel
theorem dX1_dropOldest_7 : decode cX1_dropOldest 7 = .ok (.iconst 1, 1) := by decide +kernel
theorem dX1_dropOldest_8 : decode cX1_dropOldest 8 = .ok (.istore_n 2, 1) := by decide +kernel
theorem dX1_dropOldest_9 : decode cX1_dropOldest 9 = .ok (.iload_n 2, 1) := by decide +kernel
theorem dX1_dropOldest_10 : decode cX1_dropOldest 10 = .ok (.iconst 4, 1) := by decide +kernel
theorem dX1_dropOldest_11 : decode cX1_dropOldest 11 = .ok (.if_icmp .ge 23, 3) := by decide +kernel
theorem dX1_dropOldest_14 : decode cX1_dropOldest 14 = .ok (.aload_n 0, 1) := by decide +kernel
theorem dX1_dropOldest_15 : decode cX1_dropOldest 15 = .ok (.getfield 11, 3) := by decide +kernel
theorem dX1_dropOldest_18 : decode cX1_dropOldest 18 = .ok (.iload_n 2, 1) := by decide +kernel
theorem dX1_dropOldest_19 : decode cX1_dropOldest 19 = .ok (.iconst 1, 1) := by decide +kernel
theorem dX1_dropOldest_20 : decode cX1_dropOldest 20 = .ok (.isub, 1) := by decide +kernel
theorem dX1_dropOldest_21 : decode cX1_dropOldest 21 = .ok (.aload_n 0, 1) := by decide +kernel
theorem dX1_dropOldest_22 : decode cX1_dropOldest 22 = .ok (.getfield 11, 3) := by decide +kernel
theorem dX1_dropOldest_25 : decode cX1_dropOldest 25 = .ok (.iload_n 2, 1) := by decide +kernel
theorem dX1_dropOldest_26 : decode cX1_dropOldest 26 = .ok (.aaload, 1) := by decide +kernel
theorem dX1_dropOldest_27 : decode cX1_dropOldest 27 = .ok (.aastore, 1) := by decide +kernel
theorem dX1_dropOldest_28 : decode cX1_dropOldest 28 = .ok (.iinc 2 1, 3) := by decide +kernel
theorem dX1_dropOldest_31 : decode cX1_dropOldest 31 = .ok (.goto (-22), 3) := by decide +kernel
theorem dX1_dropOldest_34 : decode cX1_dropOldest 34 = .ok (.aload_n 0, 1) := by decide +kernel
theorem dX1_dropOldest_35 : decode cX1_dropOldest 35 = .ok (.getfield 11, 3) := by decide +kernel
theorem dX1_dropOldest_38 : decode cX1_dropOldest 38 = .ok (.iconst 3, 1) := by decide +kernel
theorem dX1_dropOldest_39 : decode cX1_dropOldest 39 = .ok (.aload_n 1, 1) := by decide +kernel
theorem dX1_dropOldest_40 : decode cX1_dropOldest 40 = .ok (.aastore, 1) := by decide +kernel
theorem dX1_dropOldest_41 : decode cX1_dropOldest 41 = .ok (.aload_n 0, 1) := by decide +kernel
theorem dX1_dropOldest_42 : decode cX1_dropOldest 42 = .ok (.iconst 3, 1) := by decide +kernel
theorem dX1_dropOldest_43 : decode cX1_dropOldest 43 = .ok (.putfield 18, 3) := by decide +kernel
theorem dX1_dropOldest_46 : decode cX1_dropOldest 46 = .ok (.return_, 1) := by decide +kernel
theorem dX2_init_0 : decode cX2_init 0 = .ok (.aload_n 0, 1) := by decide +kernel
theorem dX2_init_1 : decode cX2_init 1 = .ok (.invokespecial 3, 3) := by decide +kernel
theorem dX2_init_4 : decode cX2_init 4 = .ok (.aload_n 0, 1) := by decide +kernel
theorem dX2_init_5 : decode cX2_init 5 = .ok (.bipush 80, 2) := by decide +kernel
theorem dX2_init_7 : decode cX2_init 7 = .ok (.newarray .char, 2) := by decide +kernel
theorem dX2_init_9 : decode cX2_init 9 = .ok (.putfield 9, 3) := by decide +kernel
theorem dX2_init_12 : decode cX2_init 12 = .ok (.aload_n 0, 1) := by decide +kernel
theorem dX2_init_13 : decode cX2_init 13 = .ok (.bipush 20, 2) := by decide +kernel
theorem dX2_init_15 : decode cX2_init 15 = .ok (.newarray .int, 2) := by decide +kernel
theorem dX2_init_17 : decode cX2_init 17 = .ok (.putfield 15, 3) := by decide +kernel
theorem dX2_init_20 : decode cX2_init 20 = .ok (.aload_n 0, 1) := by decide +kernel
theorem dX2_init_21 : decode cX2_init 21 = .ok (.bipush 20, 2) := by decide +kernel
theorem dX2_init_23 : decode cX2_init 23 = .ok (.newarray .int, 2) := by decide +kernel
theorem dX2_init_25 : decode cX2_init 25 = .ok (.putfield 19, 3) := by decide +kernel
theorem dX2_init_28 : decode cX2_init 28 = .ok (.aload_n 0, 1) := by decide +kernel
theorem dX2_init_29 : decode cX2_init 29 = .ok (.bipush 20, 2) := by decide +kernel
theorem dX2_init_31 : decode cX2_init 31 = .ok (.newarray .int, 2) := by decide +kernel
theorem dX2_init_33 : decode cX2_init 33 = .ok (.putfield 22, 3) := by decide +kernel
theorem dX2_init_36 : decode cX2_init 36 = .ok (.return_, 1) := by decide +kernel
theorem dX2_length_0 : decode cX2_length 0 = .ok (.aload_n 0, 1) := by decide +kernel
theorem dX2_length_1 : decode cX2_length 1 = .ok (.getfield 25, 3) := by decide +kernel
theorem dX2_length_4 : decode cX2_length 4 = .ok (.ireturn, 1) := by decide +kernel
theorem dX2_append_0 : decode cX2_append 0 = .ok (.aload_n 0, 1) := by decide +kernel
theorem dX2_append_1 : decode cX2_append 1 = .ok (.getfield 25, 3) := by decide +kernel
theorem dX2_append_4 : decode cX2_append 4 = .ok (.bipush 80, 2) := by decide +kernel
theorem dX2_append_6 : decode cX2_append 6 = .ok (.if_icmp .lt 5, 3) := by decide +kernel
theorem dX2_append_9 : decode cX2_append 9 = .ok (.iconst 0, 1) := by decide +kernel
theorem dX2_append_10 : decode cX2_append 10 = .ok (.ireturn, 1) := by decide +kernel
theorem dX2_append_11 : decode cX2_append 11 = .ok (.aload_n 0, 1) := by decide +kernel
theorem dX2_append_12 : decode cX2_append 12 = .ok (.getfield 9, 3) := by decide +kernel
theorem dX2_append_15 : decode cX2_append 15 = .ok (.aload_n 0, 1) := by decide +kernel
theorem dX2_append_16 : decode cX2_append 16 = .ok (.getfield 25, 3) := by decide +kernel
theorem dX2_append_19 : decode cX2_append 19 = .ok (.iload_n 1, 1) := by decide +kernel
theorem dX2_append_20 : decode cX2_append 20 = .ok (.castore, 1) := by decide +kernel
theorem dX2_append_21 : decode cX2_append 21 = .ok (.aload_n 0, 1) := by decide +kernel
theorem dX2_append_22 : decode cX2_append 22 = .ok (.dup, 1) := by decide +kernel
theorem dX2_append_23 : decode cX2_append 23 = .ok (.getfield 25, 3) := by decide +kernel
theorem dX2_append_26 : decode cX2_append 26 = .ok (.iconst 1, 1) := by decide +kernel
theorem dX2_append_27 : decode cX2_append 27 = .ok (.iadd, 1) := by decide +kernel
theorem dX2_append_28 : decode cX2_append 28 = .ok (.putfield 25, 3) := by decide +kernel
theorem dX2_append_31 : decode cX2_append 31 = .ok (.iconst 1, 1) := by decide +kernel
theorem dX2_append_32 : decode cX2_append 32 = .ok (.ireturn, 1) := by decide +kernel
theorem dX2_empty_0 : decode cX2_empty 0 = .ok (.aload_n 0, 1) := by decide +kernel
theorem dX2_empty_1 : decode cX2_empty 1 = .ok (.iconst 0, 1) := by decide +kernel
theorem dX2_empty_2 : decode cX2_empty 2 = .ok (.putfield 25, 3) := by decide +kernel
theorem dX2_empty_5 : decode cX2_empty 5 = .ok (.return_, 1) := by decide +kernel
theorem dX2_listed_0 : decode cX2_listed 0 = .ok (.aload_n 0, 1) := by decide +kernel
theorem dX2_listed_1 : decode cX2_listed 1 = .ok (.getfield 29, 3) := by decide +kernel
theorem dX2_listed_4 : decode cX2_listed 4 = .ok (.ireturn, 1) := by decide +kernel
set_option maxRecDepth 20000 in
theorem ggX2_listedPad_X2_isListed : GoodIn wsX2_listedPad wsX2_isListed := goodIn_r _ [6, 7, 8, 9, 10, 11, 12, 13, 14, 15, 16, 17] (by decide +kernel) (by decide +kernel)
set_option maxRecDepth 20000 in
theorem gX2_listedPad_X2_isListed : GoodIn wsX2_listedPad (wsV RX2 32 RX2 yX2_isListed wsX2_isListed) := goodIn_app (goodIn_of _ (by decide +kernel)) ggX2_listedPad_X2_isListed
theorem dX2_listedPad_0 : decode cX2_listedPad 0 = .ok (.aload_n 0, 1) := by decide +kernel
theorem dX2_listedPad_1 : decode cX2_listedPad 1 = .ok (.iload_n 1, 1) := by decide +kernel
theorem dX2_listedPad_2 : decode cX2_listedPad 2 = .ok (.invokevirtual 32, 3) := by decide +kernel
theorem dX2_listedPad_5 : decode cX2_listedPad 5 = .ok (.ifCond .eq 12, 3) := by decide +kernel
theorem dX2_listedPad_8 : decode cX2_listedPad 8 = .ok (.aload_n 0, 1) := by decide +kernel
theorem dX2_listedPad_9 : decode cX2_listedPad 9 = .ok (.getfield 15, 3) := by decide +kernel
theorem dX2_listedPad_12 : decode cX2_listedPad 12 = .ok (.iload_n 1, 1) := by decide +kernel
theorem dX2_listedPad_13 : decode cX2_listedPad 13 = .ok (.iaload, 1) := by decide +kernel
theorem dX2_listedPad_14 : decode cX2_listedPad 14 = .ok (.goto 4, 3) := by decide +kernel
theorem dX2_listedPad_17 : decode cX2_listedPad 17 = .ok (.iconst 0, 1) := by decide +kernel
theorem dX2_listedPad_18 : decode cX2_listedPad 18 = .ok (.ireturn, 1) := by decide +kernel
set_option maxRecDepth 20000 in
theorem ggX2_listedLead_X2_isListed : GoodIn wsX2_listedLead wsX2_isListed := goodIn_r _ [6, 7, 8, 9, 10, 11, 12, 13, 14, 15, 16, 17] (by decide +kernel) (by decide +kernel)
set_option maxRecDepth 20000 in
theorem gX2_listedLead_X2_isListed : GoodIn wsX2_listedLead (wsV RX2 32 RX2 yX2_isListed wsX2_isListed) := goodIn_app (goodIn_of _ (by decide +kernel)) ggX2_listedLead_X2_isListed
theorem dX2_listedLead_0 : decode cX2_listedLead 0 = .ok (.aload_n 0, 1) := by decide +kernel
theorem dX2_listedLead_1 : decode cX2_listedLead 1 = .ok (.iload_n 1, 1) := by decide +kernel
theorem dX2_listedLead_2 : decode cX2_listedLead 2 = .ok (.invokevirtual 32, 3) := by decide +kernel
theorem dX2_listedLead_5 : decode cX2_listedLead 5 = .ok (.ifCond .eq 12, 3) := by decide +kernel
theorem dX2_listedLead_8 : decode cX2_listedLead 8 = .ok (.aload_n 0, 1) := by decide +kernel
theorem dX2_listedLead_9 : decode cX2_listedLead 9 = .ok (.getfield 19, 3) := by decide +kernel
theorem dX2_listedLead_12 : decode cX2_listedLead 12 = .ok (.iload_n 1, 1) := by decide +kernel
theorem dX2_listedLead_13 : decode cX2_listedLead 13 = .ok (.iaload, 1) := by decide +kernel
theorem dX2_listedLead_14 : decode cX2_listedLead 14 = .ok (.goto 4, 3) := by decide +kernel
theorem dX2_listedLead_17 : decode cX2_listedLead 17 = .ok (.iconst 0, 1) := by decide +kernel
theorem dX2_listedLead_18 : decode cX2_listedLead 18 = .ok (.ireturn, 1) := by decide +kernel
set_option maxRecDepth 20000 in
theorem ggX2_listedHeight_X2_isListed : GoodIn wsX2_listedHeight wsX2_isListed := goodIn_r _ [6, 7, 8, 9, 10, 11, 12, 13, 14, 15, 16, 17] (by decide +kernel) (by decide +kernel)
set_option maxRecDepth 20000 in
theorem gX2_listedHeight_X2_isListed : GoodIn wsX2_listedHeight (wsV RX2 32 RX2 yX2_isListed wsX2_isListed) := goodIn_app (goodIn_of _ (by decide +kernel)) ggX2_listedHeight_X2_isListed
theorem dX2_listedHeight_0 : decode cX2_listedHeight 0 = .ok (.aload_n 0, 1) := by decide +kernel
theorem dX2_listedHeight_1 : decode cX2_listedHeight 1 = .ok (.iload_n 1, 1) := by decide +kernel
theorem dX2_listedHeight_2 : decode cX2_listedHeight 2 = .ok (.invokevirtual 32, 3) := by decide +kernel
theorem dX2_listedHeight_5 : decode cX2_listedHeight 5 = .ok (.ifCond .eq 12, 3) := by decide +kernel
theorem dX2_listedHeight_8 : decode cX2_listedHeight 8 = .ok (.aload_n 0, 1) := by decide +kernel
theorem dX2_listedHeight_9 : decode cX2_listedHeight 9 = .ok (.getfield 22, 3) := by decide +kernel
theorem dX2_listedHeight_12 : decode cX2_listedHeight 12 = .ok (.iload_n 1, 1) := by decide +kernel
theorem dX2_listedHeight_13 : decode cX2_listedHeight 13 = .ok (.iaload, 1) := by decide +kernel
theorem dX2_listedHeight_14 : decode cX2_listedHeight 14 = .ok (.goto 5, 3) := by decide +kernel
theorem dX2_listedHeight_17 : decode cX2_listedHeight 17 = .ok (.bipush 60, 2) := by decide +kernel
theorem dX2_listedHeight_19 : decode cX2_listedHeight 19 = .ok (.ireturn, 1) := by decide +kernel
set_option maxRecDepth 20000 in
theorem ggX2_isListed_X3_isWithin : GoodIn wsX2_isListed wsX3_isWithin := goodIn_r _ [4] (by decide +kernel) (by decide +kernel)
set_option maxRecDepth 20000 in
theorem gX2_isListed_X3_isWithin_n36 : GoodIn wsX2_isListed (wsX3_isWithin) := ggX2_isListed_X3_isWithin
theorem dX2_isListed_0 : decode cX2_isListed 0 = .ok (.iload_n 1, 1) := by decide +kernel
theorem dX2_isListed_1 : decode cX2_isListed 1 = .ok (.iconst 0, 1) := by decide +kernel
theorem dX2_isListed_2 : decode cX2_isListed 2 = .ok (.bipush 19, 2) := by decide +kernel
theorem dX2_isListed_4 : decode cX2_isListed 4 = .ok (.invokestatic 36, 3) := by decide +kernel
theorem dX2_isListed_7 : decode cX2_isListed 7 = .ok (.ifCond .eq 15, 3) := by decide +kernel
theorem dX2_isListed_10 : decode cX2_isListed 10 = .ok (.iload_n 1, 1) := by decide +kernel
theorem dX2_isListed_11 : decode cX2_isListed 11 = .ok (.aload_n 0, 1) := by decide +kernel
theorem dX2_isListed_12 : decode cX2_isListed 12 = .ok (.getfield 29, 3) := by decide +kernel
theorem dX2_isListed_15 : decode cX2_isListed 15 = .ok (.if_icmp .ge 7, 3) := by decide +kernel
theorem dX2_isListed_18 : decode cX2_isListed 18 = .ok (.iconst 1, 1) := by decide +kernel
theorem dX2_isListed_19 : decode cX2_isListed 19 = .ok (.goto 4, 3) := by decide +kernel
theorem dX2_isListed_22 : decode cX2_isListed 22 = .ok (.iconst 0, 1) := by decide +kernel
theorem dX2_isListed_23 : decode cX2_isListed 23 = .ok (.ireturn, 1) := by decide +kernel
set_option maxRecDepth 20000 in
theorem ggX2_read_X2_readWire : GoodIn wsX2_read wsX2_readWire := goodIn_r _ [8, 2, 9, 10, 11, 12, 13, 14, 7, 15, 1, 16, 17, 18, 19, 20, 21, 22, 23, 24, 3, 25, 26, 27, 28, 29, 30, 31, 32, 33, 34, 35, 36, 37, 38, 39, 40, 41, 42, 43, 44, 45, 46] (by decide +kernel) (by decide +kernel)
set_option maxRecDepth 20000 in
theorem gX2_read_X2_readWire : GoodIn wsX2_read (wsV RX2 43 RX2 yX2_readWire wsX2_readWire) := goodIn_app (goodIn_of _ (by decide +kernel)) ggX2_read_X2_readWire
set_option maxRecDepth 20000 in
theorem ggX2_read_X2_passBy : GoodIn wsX2_read wsX2_passBy := goodIn_r _ [35, 20, 1, 21, 22, 23, 7, 24, 3, 40, 41, 42, 43, 44, 45, 46] (by decide +kernel) (by decide +kernel)
set_option maxRecDepth 20000 in
theorem gX2_read_X2_passBy : GoodIn wsX2_read (wsV RX2 47 RX2 yX2_passBy wsX2_passBy) := goodIn_app (goodIn_of _ (by decide +kernel)) ggX2_read_X2_passBy
theorem dX2_read_0 : decode cX2_read 0 = .ok (.aload_n 0, 1) := by decide +kernel
theorem dX2_read_1 : decode cX2_read 1 = .ok (.iconst 0, 1) := by decide +kernel
theorem dX2_read_2 : decode cX2_read 2 = .ok (.putfield 40, 3) := by decide +kernel
theorem dX2_read_5 : decode cX2_read 5 = .ok (.aload_n 0, 1) := by decide +kernel
theorem dX2_read_6 : decode cX2_read 6 = .ok (.iconst 0, 1) := by decide +kernel
theorem dX2_read_7 : decode cX2_read 7 = .ok (.putfield 29, 3) := by decide +kernel
theorem dX2_read_10 : decode cX2_read 10 = .ok (.iconst 0, 1) := by decide +kernel
theorem dX2_read_11 : decode cX2_read 11 = .ok (.istore_n 1, 1) := by decide +kernel
theorem dX2_read_12 : decode cX2_read 12 = .ok (.iload_n 1, 1) := by decide +kernel
theorem dX2_read_13 : decode cX2_read 13 = .ok (.bipush 20, 2) := by decide +kernel
theorem dX2_read_15 : decode cX2_read 15 = .ok (.if_icmp .ge 48, 3) := by decide +kernel
theorem dX2_read_18 : decode cX2_read 18 = .ok (.aload_n 0, 1) := by decide +kernel
theorem dX2_read_19 : decode cX2_read 19 = .ok (.invokevirtual 43, 3) := by decide +kernel
theorem dX2_read_22 : decode cX2_read 22 = .ok (.ifCond .ne 8, 3) := by decide +kernel
theorem dX2_read_25 : decode cX2_read 25 = .ok (.aload_n 0, 1) := by decide +kernel
theorem dX2_read_26 : decode cX2_read 26 = .ok (.getfield 40, 3) := by decide +kernel
theorem dX2_read_29 : decode cX2_read 29 = .ok (.ireturn, 1) := by decide +kernel
theorem dX2_read_30 : decode cX2_read 30 = .ok (.aload_n 0, 1) := by decide +kernel
theorem dX2_read_31 : decode cX2_read 31 = .ok (.getfield 40, 3) := by decide +kernel
theorem dX2_read_34 : decode cX2_read 34 = .ok (.aload_n 0, 1) := by decide +kernel
theorem dX2_read_35 : decode cX2_read 35 = .ok (.getfield 25, 3) := by decide +kernel
theorem dX2_read_38 : decode cX2_read 38 = .ok (.if_icmp .lt 5, 3) := by decide +kernel
theorem dX2_read_41 : decode cX2_read 41 = .ok (.iconst (-1), 1) := by decide +kernel
theorem dX2_read_42 : decode cX2_read 42 = .ok (.ireturn, 1) := by decide +kernel
theorem dX2_read_43 : decode cX2_read 43 = .ok (.aload_n 0, 1) := by decide +kernel
theorem dX2_read_44 : decode cX2_read 44 = .ok (.bipush 44, 2) := by decide +kernel
theorem dX2_read_46 : decode cX2_read 46 = .ok (.invokevirtual 47, 3) := by decide +kernel
theorem dX2_read_49 : decode cX2_read 49 = .ok (.ifCond .ne 8, 3) := by decide +kernel
theorem dX2_read_52 : decode cX2_read 52 = .ok (.aload_n 0, 1) := by decide +kernel
theorem dX2_read_53 : decode cX2_read 53 = .ok (.getfield 40, 3) := by decide +kernel
theorem dX2_read_56 : decode cX2_read 56 = .ok (.ireturn, 1) := by decide +kernel
theorem dX2_read_57 : decode cX2_read 57 = .ok (.iinc 1 1, 3) := by decide +kernel
theorem dX2_read_60 : decode cX2_read 60 = .ok (.goto (-48), 3) := by decide +kernel
theorem dX2_read_63 : decode cX2_read 63 = .ok (.aload_n 0, 1) := by decide +kernel
theorem dX2_read_64 : decode cX2_read 64 = .ok (.getfield 40, 3) := by decide +kernel
theorem dX2_read_67 : decode cX2_read 67 = .ok (.ireturn, 1) := by decide +kernel
set_option maxRecDepth 20000 in
theorem ggX2_readWire_X2_readNumber : GoodIn wsX2_readWire wsX2_readNumber := goodIn_r _ [9, 10, 11, 12, 13, 8, 14, 15, 16, 17, 18, 19, 20, 21, 22, 23, 24, 25, 26, 27, 36, 37, 38, 39, 40, 41, 42] (by decide +kernel) (by decide +kernel)
set_option maxRecDepth 20000 in
theorem gX2_readWire_X2_readNumber : GoodIn wsX2_readWire (wsV RX2 51 RX2 yX2_readNumber wsX2_readNumber) := goodIn_app (goodIn_of _ (by decide +kernel)) ggX2_readWire_X2_readNumber
set_option maxRecDepth 20000 in
theorem ggX2_readWire_X2_passBy : GoodIn wsX2_readWire wsX2_passBy := goodIn_r _ [31, 15, 10, 16, 17, 18, 8, 19, 20, 36, 37, 38, 39, 40, 41, 42] (by decide +kernel) (by decide +kernel)
set_option maxRecDepth 20000 in
theorem gX2_readWire_X2_passBy : GoodIn wsX2_readWire (wsV RX2 47 RX2 yX2_passBy wsX2_passBy) := goodIn_app (goodIn_of _ (by decide +kernel)) ggX2_readWire_X2_passBy
set_option maxRecDepth 20000 in
theorem ggX2_readWire_X2_readHeight : GoodIn wsX2_readWire wsX2_readHeight := goodIn_r _ [35, 10, 11, 12, 13, 8, 14, 15, 16, 17, 18, 19, 20, 21, 22, 23, 24, 25, 26, 27, 36, 37, 38, 39, 40, 41, 42] (by decide +kernel) (by decide +kernel)
set_option maxRecDepth 20000 in
theorem gX2_readWire_X2_readHeight : GoodIn wsX2_readWire (wsV RX2 55 RX2 yX2_readHeight wsX2_readHeight) := goodIn_app (goodIn_of _ (by decide +kernel)) ggX2_readWire_X2_readHeight
theorem dX2_readWire_0 : decode cX2_readWire 0 = .ok (.aload_n 0, 1) := by decide +kernel
theorem dX2_readWire_1 : decode cX2_readWire 1 = .ok (.bipush 11, 2) := by decide +kernel
theorem dX2_readWire_3 : decode cX2_readWire 3 = .ok (.invokevirtual 51, 3) := by decide +kernel
theorem dX2_readWire_6 : decode cX2_readWire 6 = .ok (.istore_n 1, 1) := by decide +kernel
theorem dX2_readWire_7 : decode cX2_readWire 7 = .ok (.iload_n 1, 1) := by decide +kernel
theorem dX2_readWire_8 : decode cX2_readWire 8 = .ok (.iconst (-1), 1) := by decide +kernel
theorem dX2_readWire_9 : decode cX2_readWire 9 = .ok (.if_icmp .eq 12, 3) := by decide +kernel
theorem dX2_readWire_12 : decode cX2_readWire 12 = .ok (.aload_n 0, 1) := by decide +kernel
theorem dX2_readWire_13 : decode cX2_readWire 13 = .ok (.bipush 45, 2) := by decide +kernel
theorem dX2_readWire_15 : decode cX2_readWire 15 = .ok (.invokevirtual 47, 3) := by decide +kernel
theorem dX2_readWire_18 : decode cX2_readWire 18 = .ok (.ifCond .ne 5, 3) := by decide +kernel
theorem dX2_readWire_21 : decode cX2_readWire 21 = .ok (.iconst 0, 1) := by decide +kernel
theorem dX2_readWire_22 : decode cX2_readWire 22 = .ok (.ireturn, 1) := by decide +kernel
theorem dX2_readWire_23 : decode cX2_readWire 23 = .ok (.aload_n 0, 1) := by decide +kernel
theorem dX2_readWire_24 : decode cX2_readWire 24 = .ok (.bipush 15, 2) := by decide +kernel
theorem dX2_readWire_26 : decode cX2_readWire 26 = .ok (.invokevirtual 51, 3) := by decide +kernel
theorem dX2_readWire_29 : decode cX2_readWire 29 = .ok (.istore_n 2, 1) := by decide +kernel
theorem dX2_readWire_30 : decode cX2_readWire 30 = .ok (.iload_n 2, 1) := by decide +kernel
theorem dX2_readWire_31 : decode cX2_readWire 31 = .ok (.iconst (-1), 1) := by decide +kernel
theorem dX2_readWire_32 : decode cX2_readWire 32 = .ok (.if_icmp .ne 5, 3) := by decide +kernel
theorem dX2_readWire_35 : decode cX2_readWire 35 = .ok (.iconst 0, 1) := by decide +kernel
theorem dX2_readWire_36 : decode cX2_readWire 36 = .ok (.ireturn, 1) := by decide +kernel
theorem dX2_readWire_37 : decode cX2_readWire 37 = .ok (.aload_n 0, 1) := by decide +kernel
theorem dX2_readWire_38 : decode cX2_readWire 38 = .ok (.bipush 58, 2) := by decide +kernel
theorem dX2_readWire_40 : decode cX2_readWire 40 = .ok (.invokevirtual 47, 3) := by decide +kernel
theorem dX2_readWire_43 : decode cX2_readWire 43 = .ok (.ifCond .eq 10, 3) := by decide +kernel
theorem dX2_readWire_46 : decode cX2_readWire 46 = .ok (.aload_n 0, 1) := by decide +kernel
theorem dX2_readWire_47 : decode cX2_readWire 47 = .ok (.invokevirtual 55, 3) := by decide +kernel
theorem dX2_readWire_50 : decode cX2_readWire 50 = .ok (.goto 5, 3) := by decide +kernel
theorem dX2_readWire_53 : decode cX2_readWire 53 = .ok (.bipush 60, 2) := by decide +kernel
theorem dX2_readWire_55 : decode cX2_readWire 55 = .ok (.istore_n 3, 1) := by decide +kernel
theorem dX2_readWire_56 : decode cX2_readWire 56 = .ok (.iload_n 3, 1) := by decide +kernel
theorem dX2_readWire_57 : decode cX2_readWire 57 = .ok (.iconst (-1), 1) := by decide +kernel
theorem dX2_readWire_58 : decode cX2_readWire 58 = .ok (.if_icmp .eq 12, 3) := by decide +kernel
theorem dX2_readWire_61 : decode cX2_readWire 61 = .ok (.aload_n 0, 1) := by decide +kernel
theorem dX2_readWire_62 : decode cX2_readWire 62 = .ok (.getfield 29, 3) := by decide +kernel
theorem dX2_readWire_65 : decode cX2_readWire 65 = .ok (.bipush 20, 2) := by decide +kernel
theorem dX2_readWire_67 : decode cX2_readWire 67 = .ok (.if_icmp .lt 5, 3) := by decide +kernel
theorem dX2_readWire_70 : decode cX2_readWire 70 = .ok (.iconst 0, 1) := by decide +kernel
theorem dX2_readWire_71 : decode cX2_readWire 71 = .ok (.ireturn, 1) := by decide +kernel
theorem dX2_readWire_72 : decode cX2_readWire 72 = .ok (.aload_n 0, 1) := by decide +kernel
theorem dX2_readWire_73 : decode cX2_readWire 73 = .ok (.getfield 15, 3) := by decide +kernel
theorem dX2_readWire_76 : decode cX2_readWire 76 = .ok (.aload_n 0, 1) := by decide +kernel
theorem dX2_readWire_77 : decode cX2_readWire 77 = .ok (.getfield 29, 3) := by decide +kernel
theorem dX2_readWire_80 : decode cX2_readWire 80 = .ok (.iload_n 1, 1) := by decide +kernel
theorem dX2_readWire_81 : decode cX2_readWire 81 = .ok (.iastore, 1) := by decide +kernel
theorem dX2_readWire_82 : decode cX2_readWire 82 = .ok (.aload_n 0, 1) := by decide +kernel
theorem dX2_readWire_83 : decode cX2_readWire 83 = .ok (.getfield 19, 3) := by decide +kernel
theorem dX2_readWire_86 : decode cX2_readWire 86 = .ok (.aload_n 0, 1) := by decide +kernel
theorem dX2_readWire_87 : decode cX2_readWire 87 = .ok (.getfield 29, 3) := by decide +kernel
theorem dX2_readWire_90 : decode cX2_readWire 90 = .ok (.iload_n 2, 1) := by decide +kernel
theorem dX2_readWire_91 : decode cX2_readWire 91 = .ok (.iastore, 1) := by decide +kernel
theorem dX2_readWire_92 : decode cX2_readWire 92 = .ok (.aload_n 0, 1) := by decide +kernel
theorem dX2_readWire_93 : decode cX2_readWire 93 = .ok (.getfield 22, 3) := by decide +kernel
theorem dX2_readWire_96 : decode cX2_readWire 96 = .ok (.aload_n 0, 1) := by decide +kernel
theorem dX2_readWire_97 : decode cX2_readWire 97 = .ok (.getfield 29, 3) := by decide +kernel
theorem dX2_readWire_100 : decode cX2_readWire 100 = .ok (.iload_n 3, 1) := by decide +kernel
theorem dX2_readWire_101 : decode cX2_readWire 101 = .ok (.iastore, 1) := by decide +kernel
theorem dX2_readWire_102 : decode cX2_readWire 102 = .ok (.aload_n 0, 1) := by decide +kernel
theorem dX2_readWire_103 : decode cX2_readWire 103 = .ok (.dup, 1) := by decide +kernel
theorem dX2_readWire_104 : decode cX2_readWire 104 = .ok (.getfield 29, 3) := by decide +kernel
theorem dX2_readWire_107 : decode cX2_readWire 107 = .ok (.iconst 1, 1) := by decide +kernel
theorem dX2_readWire_108 : decode cX2_readWire 108 = .ok (.iadd, 1) := by decide +kernel
theorem dX2_readWire_109 : decode cX2_readWire 109 = .ok (.putfield 29, 3) := by decide +kernel
theorem dX2_readWire_112 : decode cX2_readWire 112 = .ok (.iconst 1, 1) := by decide +kernel
theorem dX2_readWire_113 : decode cX2_readWire 113 = .ok (.ireturn, 1) := by decide +kernel
set_option maxRecDepth 20000 in
theorem ggX2_readNumber_X2_digitHere : GoodIn wsX2_readNumber wsX2_digitHere := goodIn_r _ [6, 7, 1, 8, 9, 10, 5, 11, 12, 13, 14, 15, 20, 21, 22, 23, 24, 25, 26] (by decide +kernel) (by decide +kernel)
set_option maxRecDepth 20000 in
theorem gX2_readNumber_X2_digitHere : GoodIn wsX2_readNumber (wsV RX2 59 RX2 yX2_digitHere wsX2_digitHere) := goodIn_app (goodIn_of _ (by decide +kernel)) ggX2_readNumber_X2_digitHere
set_option maxRecDepth 20000 in
theorem ggX2_readNumber_X2_withDigit : GoodIn wsX2_readNumber wsX2_withDigit := goodIn_r _ [19, 1, 2, 3, 4, 5, 6, 7, 8, 9, 10, 11, 12, 13, 14, 15, 20, 21, 22, 23, 24, 25, 26] (by decide +kernel) (by decide +kernel)
set_option maxRecDepth 20000 in
theorem gX2_readNumber_X2_withDigit : GoodIn wsX2_readNumber (wsV RX2 62 RX2 yX2_withDigit wsX2_withDigit) := goodIn_app (goodIn_of _ (by decide +kernel)) ggX2_readNumber_X2_withDigit
theorem dX2_readNumber_0 : decode cX2_readNumber 0 = .ok (.aload_n 0, 1) := by decide +kernel
theorem dX2_readNumber_1 : decode cX2_readNumber 1 = .ok (.invokevirtual 59, 3) := by decide +kernel
theorem dX2_readNumber_4 : decode cX2_readNumber 4 = .ok (.istore_n 2, 1) := by decide +kernel
theorem dX2_readNumber_5 : decode cX2_readNumber 5 = .ok (.iload_n 2, 1) := by decide +kernel
theorem dX2_readNumber_6 : decode cX2_readNumber 6 = .ok (.iconst (-1), 1) := by decide +kernel
theorem dX2_readNumber_7 : decode cX2_readNumber 7 = .ok (.if_icmp .ne 5, 3) := by decide +kernel
theorem dX2_readNumber_10 : decode cX2_readNumber 10 = .ok (.iconst (-1), 1) := by decide +kernel
theorem dX2_readNumber_11 : decode cX2_readNumber 11 = .ok (.ireturn, 1) := by decide +kernel
theorem dX2_readNumber_12 : decode cX2_readNumber 12 = .ok (.aload_n 0, 1) := by decide +kernel
theorem dX2_readNumber_13 : decode cX2_readNumber 13 = .ok (.dup, 1) := by decide +kernel
theorem dX2_readNumber_14 : decode cX2_readNumber 14 = .ok (.getfield 40, 3) := by decide +kernel
theorem dX2_readNumber_17 : decode cX2_readNumber 17 = .ok (.iconst 1, 1) := by decide +kernel
theorem dX2_readNumber_18 : decode cX2_readNumber 18 = .ok (.iadd, 1) := by decide +kernel
theorem dX2_readNumber_19 : decode cX2_readNumber 19 = .ok (.putfield 40, 3) := by decide +kernel
theorem dX2_readNumber_22 : decode cX2_readNumber 22 = .ok (.iload_n 2, 1) := by decide +kernel
theorem dX2_readNumber_23 : decode cX2_readNumber 23 = .ok (.ifCond .ne 7, 3) := by decide +kernel
theorem dX2_readNumber_26 : decode cX2_readNumber 26 = .ok (.iconst 0, 1) := by decide +kernel
theorem dX2_readNumber_27 : decode cX2_readNumber 27 = .ok (.goto 9, 3) := by decide +kernel
theorem dX2_readNumber_30 : decode cX2_readNumber 30 = .ok (.aload_n 0, 1) := by decide +kernel
theorem dX2_readNumber_31 : decode cX2_readNumber 31 = .ok (.iload_n 2, 1) := by decide +kernel
theorem dX2_readNumber_32 : decode cX2_readNumber 32 = .ok (.iload_n 1, 1) := by decide +kernel
theorem dX2_readNumber_33 : decode cX2_readNumber 33 = .ok (.invokevirtual 62, 3) := by decide +kernel
theorem dX2_readNumber_36 : decode cX2_readNumber 36 = .ok (.ireturn, 1) := by decide +kernel
set_option maxRecDepth 20000 in
theorem ggX2_readHeight_X2_digitHere : GoodIn wsX2_readHeight wsX2_digitHere := goodIn_r _ [6, 7, 1, 8, 9, 10, 5, 11, 12, 13, 14, 15, 20, 21, 22, 23, 24, 25, 26] (by decide +kernel) (by decide +kernel)
set_option maxRecDepth 20000 in
theorem gX2_readHeight_X2_digitHere : GoodIn wsX2_readHeight (wsV RX2 59 RX2 yX2_digitHere wsX2_digitHere) := goodIn_app (goodIn_of _ (by decide +kernel)) ggX2_readHeight_X2_digitHere
set_option maxRecDepth 20000 in
theorem ggX2_readHeight_X2_withDigit : GoodIn wsX2_readHeight wsX2_withDigit := goodIn_r _ [19, 1, 2, 3, 4, 5, 6, 7, 8, 9, 10, 11, 12, 13, 14, 15, 20, 21, 22, 23, 24, 25, 26] (by decide +kernel) (by decide +kernel)
set_option maxRecDepth 20000 in
theorem gX2_readHeight_X2_withDigit : GoodIn wsX2_readHeight (wsV RX2 62 RX2 yX2_withDigit wsX2_withDigit) := goodIn_app (goodIn_of _ (by decide +kernel)) ggX2_readHeight_X2_withDigit
theorem dX2_readHeight_0 : decode cX2_readHeight 0 = .ok (.aload_n 0, 1) := by decide +kernel
theorem dX2_readHeight_1 : decode cX2_readHeight 1 = .ok (.invokevirtual 59, 3) := by decide +kernel
theorem dX2_readHeight_4 : decode cX2_readHeight 4 = .ok (.istore_n 1, 1) := by decide +kernel
theorem dX2_readHeight_5 : decode cX2_readHeight 5 = .ok (.iload_n 1, 1) := by decide +kernel
theorem dX2_readHeight_6 : decode cX2_readHeight 6 = .ok (.iconst (-1), 1) := by decide +kernel
theorem dX2_readHeight_7 : decode cX2_readHeight 7 = .ok (.if_icmp .eq 7, 3) := by decide +kernel
theorem dX2_readHeight_10 : decode cX2_readHeight 10 = .ok (.iload_n 1, 1) := by decide +kernel
theorem dX2_readHeight_11 : decode cX2_readHeight 11 = .ok (.ifCond .ne 5, 3) := by decide +kernel
theorem dX2_readHeight_14 : decode cX2_readHeight 14 = .ok (.iconst (-1), 1) := by decide +kernel
theorem dX2_readHeight_15 : decode cX2_readHeight 15 = .ok (.ireturn, 1) := by decide +kernel
theorem dX2_readHeight_16 : decode cX2_readHeight 16 = .ok (.aload_n 0, 1) := by decide +kernel
theorem dX2_readHeight_17 : decode cX2_readHeight 17 = .ok (.dup, 1) := by decide +kernel
theorem dX2_readHeight_18 : decode cX2_readHeight 18 = .ok (.getfield 40, 3) := by decide +kernel
theorem dX2_readHeight_21 : decode cX2_readHeight 21 = .ok (.iconst 1, 1) := by decide +kernel
theorem dX2_readHeight_22 : decode cX2_readHeight 22 = .ok (.iadd, 1) := by decide +kernel
theorem dX2_readHeight_23 : decode cX2_readHeight 23 = .ok (.putfield 40, 3) := by decide +kernel
theorem dX2_readHeight_26 : decode cX2_readHeight 26 = .ok (.aload_n 0, 1) := by decide +kernel
theorem dX2_readHeight_27 : decode cX2_readHeight 27 = .ok (.invokevirtual 59, 3) := by decide +kernel
theorem dX2_readHeight_30 : decode cX2_readHeight 30 = .ok (.istore_n 2, 1) := by decide +kernel
theorem dX2_readHeight_31 : decode cX2_readHeight 31 = .ok (.iload_n 2, 1) := by decide +kernel
theorem dX2_readHeight_32 : decode cX2_readHeight 32 = .ok (.iconst (-1), 1) := by decide +kernel
theorem dX2_readHeight_33 : decode cX2_readHeight 33 = .ok (.if_icmp .ne 5, 3) := by decide +kernel
theorem dX2_readHeight_36 : decode cX2_readHeight 36 = .ok (.iconst (-1), 1) := by decide +kernel
theorem dX2_readHeight_37 : decode cX2_readHeight 37 = .ok (.ireturn, 1) := by decide +kernel
theorem dX2_readHeight_38 : decode cX2_readHeight 38 = .ok (.aload_n 0, 1) := by decide +kernel
theorem dX2_readHeight_39 : decode cX2_readHeight 39 = .ok (.dup, 1) := by decide +kernel
theorem dX2_readHeight_40 : decode cX2_readHeight 40 = .ok (.getfield 40, 3) := by decide +kernel
theorem dX2_readHeight_43 : decode cX2_readHeight 43 = .ok (.iconst 1, 1) := by decide +kernel
theorem dX2_readHeight_44 : decode cX2_readHeight 44 = .ok (.iadd, 1) := by decide +kernel
theorem dX2_readHeight_45 : decode cX2_readHeight 45 = .ok (.putfield 40, 3) := by decide +kernel
theorem dX2_readHeight_48 : decode cX2_readHeight 48 = .ok (.aload_n 0, 1) := by decide +kernel
theorem dX2_readHeight_49 : decode cX2_readHeight 49 = .ok (.bipush 10, 2) := by decide +kernel
theorem dX2_readHeight_51 : decode cX2_readHeight 51 = .ok (.iload_n 1, 1) := by decide +kernel
theorem dX2_readHeight_52 : decode cX2_readHeight 52 = .ok (.imul, 1) := by decide +kernel
theorem dX2_readHeight_53 : decode cX2_readHeight 53 = .ok (.iload_n 2, 1) := by decide +kernel
theorem dX2_readHeight_54 : decode cX2_readHeight 54 = .ok (.iadd, 1) := by decide +kernel
theorem dX2_readHeight_55 : decode cX2_readHeight 55 = .ok (.sipush 200, 3) := by decide +kernel
theorem dX2_readHeight_58 : decode cX2_readHeight 58 = .ok (.invokevirtual 62, 3) := by decide +kernel
theorem dX2_readHeight_61 : decode cX2_readHeight 61 = .ok (.ireturn, 1) := by decide +kernel
set_option maxRecDepth 20000 in
theorem ggX2_withDigit_X2_digitHere : GoodIn wsX2_withDigit wsX2_digitHere := goodIn_r _ [6, 7, 1, 8, 9, 10, 5, 11, 12, 13, 14, 15, 16, 17, 18, 19, 20, 21, 22] (by decide +kernel) (by decide +kernel)
set_option maxRecDepth 20000 in
theorem gX2_withDigit_X2_digitHere : GoodIn wsX2_withDigit (wsV RX2 59 RX2 yX2_digitHere wsX2_digitHere) := goodIn_app (goodIn_of _ (by decide +kernel)) ggX2_withDigit_X2_digitHere
theorem dX2_withDigit_0 : decode cX2_withDigit 0 = .ok (.aload_n 0, 1) := by decide +kernel
theorem dX2_withDigit_1 : decode cX2_withDigit 1 = .ok (.invokevirtual 59, 3) := by decide +kernel
theorem dX2_withDigit_4 : decode cX2_withDigit 4 = .ok (.istore_n 3, 1) := by decide +kernel
theorem dX2_withDigit_5 : decode cX2_withDigit 5 = .ok (.iload_n 3, 1) := by decide +kernel
theorem dX2_withDigit_6 : decode cX2_withDigit 6 = .ok (.iconst (-1), 1) := by decide +kernel
theorem dX2_withDigit_7 : decode cX2_withDigit 7 = .ok (.if_icmp .eq 13, 3) := by decide +kernel
theorem dX2_withDigit_10 : decode cX2_withDigit 10 = .ok (.bipush 10, 2) := by decide +kernel
theorem dX2_withDigit_12 : decode cX2_withDigit 12 = .ok (.iload_n 1, 1) := by decide +kernel
theorem dX2_withDigit_13 : decode cX2_withDigit 13 = .ok (.imul, 1) := by decide +kernel
theorem dX2_withDigit_14 : decode cX2_withDigit 14 = .ok (.iload_n 3, 1) := by decide +kernel
theorem dX2_withDigit_15 : decode cX2_withDigit 15 = .ok (.iadd, 1) := by decide +kernel
theorem dX2_withDigit_16 : decode cX2_withDigit 16 = .ok (.iload_n 2, 1) := by decide +kernel
theorem dX2_withDigit_17 : decode cX2_withDigit 17 = .ok (.if_icmp .le 5, 3) := by decide +kernel
theorem dX2_withDigit_20 : decode cX2_withDigit 20 = .ok (.iload_n 1, 1) := by decide +kernel
theorem dX2_withDigit_21 : decode cX2_withDigit 21 = .ok (.ireturn, 1) := by decide +kernel
theorem dX2_withDigit_22 : decode cX2_withDigit 22 = .ok (.aload_n 0, 1) := by decide +kernel
theorem dX2_withDigit_23 : decode cX2_withDigit 23 = .ok (.dup, 1) := by decide +kernel
theorem dX2_withDigit_24 : decode cX2_withDigit 24 = .ok (.getfield 40, 3) := by decide +kernel
theorem dX2_withDigit_27 : decode cX2_withDigit 27 = .ok (.iconst 1, 1) := by decide +kernel
theorem dX2_withDigit_28 : decode cX2_withDigit 28 = .ok (.iadd, 1) := by decide +kernel
theorem dX2_withDigit_29 : decode cX2_withDigit 29 = .ok (.putfield 40, 3) := by decide +kernel
theorem dX2_withDigit_32 : decode cX2_withDigit 32 = .ok (.bipush 10, 2) := by decide +kernel
theorem dX2_withDigit_34 : decode cX2_withDigit 34 = .ok (.iload_n 1, 1) := by decide +kernel
theorem dX2_withDigit_35 : decode cX2_withDigit 35 = .ok (.imul, 1) := by decide +kernel
theorem dX2_withDigit_36 : decode cX2_withDigit 36 = .ok (.iload_n 3, 1) := by decide +kernel
theorem dX2_withDigit_37 : decode cX2_withDigit 37 = .ok (.iadd, 1) := by decide +kernel
theorem dX2_withDigit_38 : decode cX2_withDigit 38 = .ok (.ireturn, 1) := by decide +kernel
set_option maxRecDepth 20000 in
theorem ggX2_digitHere_X2_isAtCharacter : GoodIn wsX2_digitHere wsX2_isAtCharacter := goodIn_r _ [7, 2, 8, 12, 13, 14, 15, 16, 17, 18] (by decide +kernel) (by decide +kernel)
set_option maxRecDepth 20000 in
theorem gX2_digitHere_X2_isAtCharacter : GoodIn wsX2_digitHere (wsV RX2 66 RX2 yX2_isAtCharacter wsX2_isAtCharacter) := goodIn_app (goodIn_of _ (by decide +kernel)) ggX2_digitHere_X2_isAtCharacter
set_option maxRecDepth 20000 in
theorem ggX2_digitHere_X3_isWithin : GoodIn wsX2_digitHere wsX3_isWithin := goodIn_r _ [11] (by decide +kernel) (by decide +kernel)
set_option maxRecDepth 20000 in
theorem gX2_digitHere_X3_isWithin_n36 : GoodIn wsX2_digitHere (wsX3_isWithin) := ggX2_digitHere_X3_isWithin
theorem dX2_digitHere_0 : decode cX2_digitHere 0 = .ok (.aload_n 0, 1) := by decide +kernel
theorem dX2_digitHere_1 : decode cX2_digitHere 1 = .ok (.invokevirtual 66, 3) := by decide +kernel
theorem dX2_digitHere_4 : decode cX2_digitHere 4 = .ok (.ifCond .ne 5, 3) := by decide +kernel
theorem dX2_digitHere_7 : decode cX2_digitHere 7 = .ok (.iconst (-1), 1) := by decide +kernel
theorem dX2_digitHere_8 : decode cX2_digitHere 8 = .ok (.ireturn, 1) := by decide +kernel
theorem dX2_digitHere_9 : decode cX2_digitHere 9 = .ok (.aload_n 0, 1) := by decide +kernel
theorem dX2_digitHere_10 : decode cX2_digitHere 10 = .ok (.getfield 9, 3) := by decide +kernel
theorem dX2_digitHere_13 : decode cX2_digitHere 13 = .ok (.aload_n 0, 1) := by decide +kernel
theorem dX2_digitHere_14 : decode cX2_digitHere 14 = .ok (.getfield 40, 3) := by decide +kernel
theorem dX2_digitHere_17 : decode cX2_digitHere 17 = .ok (.caload, 1) := by decide +kernel
theorem dX2_digitHere_18 : decode cX2_digitHere 18 = .ok (.bipush 48, 2) := by decide +kernel
theorem dX2_digitHere_20 : decode cX2_digitHere 20 = .ok (.isub, 1) := by decide +kernel
theorem dX2_digitHere_21 : decode cX2_digitHere 21 = .ok (.istore_n 1, 1) := by decide +kernel
theorem dX2_digitHere_22 : decode cX2_digitHere 22 = .ok (.iload_n 1, 1) := by decide +kernel
theorem dX2_digitHere_23 : decode cX2_digitHere 23 = .ok (.iconst 0, 1) := by decide +kernel
theorem dX2_digitHere_24 : decode cX2_digitHere 24 = .ok (.bipush 9, 2) := by decide +kernel
theorem dX2_digitHere_26 : decode cX2_digitHere 26 = .ok (.invokestatic 36, 3) := by decide +kernel
theorem dX2_digitHere_29 : decode cX2_digitHere 29 = .ok (.ifCond .eq 7, 3) := by decide +kernel
theorem dX2_digitHere_32 : decode cX2_digitHere 32 = .ok (.iload_n 1, 1) := by decide +kernel
theorem dX2_digitHere_33 : decode cX2_digitHere 33 = .ok (.goto 4, 3) := by decide +kernel
theorem dX2_digitHere_36 : decode cX2_digitHere 36 = .ok (.iconst (-1), 1) := by decide +kernel
theorem dX2_digitHere_37 : decode cX2_digitHere 37 = .ok (.ireturn, 1) := by decide +kernel
set_option maxRecDepth 20000 in
theorem ggX2_passBy_X2_isAtCharacter : GoodIn wsX2_passBy wsX2_isAtCharacter := goodIn_r _ [7, 2, 8, 9, 10, 11, 12, 13, 14, 15] (by decide +kernel) (by decide +kernel)
set_option maxRecDepth 20000 in
theorem gX2_passBy_X2_isAtCharacter : GoodIn wsX2_passBy (wsV RX2 66 RX2 yX2_isAtCharacter wsX2_isAtCharacter) := goodIn_app (goodIn_of _ (by decide +kernel)) ggX2_passBy_X2_isAtCharacter
theorem dX2_passBy_0 : decode cX2_passBy 0 = .ok (.aload_n 0, 1) := by decide +kernel
theorem dX2_passBy_1 : decode cX2_passBy 1 = .ok (.invokevirtual 66, 3) := by decide +kernel
theorem dX2_passBy_4 : decode cX2_passBy 4 = .ok (.ifCond .eq 16, 3) := by decide +kernel
theorem dX2_passBy_7 : decode cX2_passBy 7 = .ok (.aload_n 0, 1) := by decide +kernel
theorem dX2_passBy_8 : decode cX2_passBy 8 = .ok (.getfield 9, 3) := by decide +kernel
theorem dX2_passBy_11 : decode cX2_passBy 11 = .ok (.aload_n 0, 1) := by decide +kernel
theorem dX2_passBy_12 : decode cX2_passBy 12 = .ok (.getfield 40, 3) := by decide +kernel
theorem dX2_passBy_15 : decode cX2_passBy 15 = .ok (.caload, 1) := by decide +kernel
theorem dX2_passBy_16 : decode cX2_passBy 16 = .ok (.iload_n 1, 1) := by decide +kernel
theorem dX2_passBy_17 : decode cX2_passBy 17 = .ok (.if_icmp .eq 5, 3) := by decide +kernel
theorem dX2_passBy_20 : decode cX2_passBy 20 = .ok (.iconst 0, 1) := by decide +kernel
theorem dX2_passBy_21 : decode cX2_passBy 21 = .ok (.ireturn, 1) := by decide +kernel
theorem dX2_passBy_22 : decode cX2_passBy 22 = .ok (.aload_n 0, 1) := by decide +kernel
theorem dX2_passBy_23 : decode cX2_passBy 23 = .ok (.dup, 1) := by decide +kernel
theorem dX2_passBy_24 : decode cX2_passBy 24 = .ok (.getfield 40, 3) := by decide +kernel
theorem dX2_passBy_27 : decode cX2_passBy 27 = .ok (.iconst 1, 1) := by decide +kernel
theorem dX2_passBy_28 : decode cX2_passBy 28 = .ok (.iadd, 1) := by decide +kernel
theorem dX2_passBy_29 : decode cX2_passBy 29 = .ok (.putfield 40, 3) := by decide +kernel
theorem dX2_passBy_32 : decode cX2_passBy 32 = .ok (.iconst 1, 1) := by decide +kernel
theorem dX2_passBy_33 : decode cX2_passBy 33 = .ok (.ireturn, 1) := by decide +kernel
theorem dX2_isAtCharacter_0 : decode cX2_isAtCharacter 0 = .ok (.aload_n 0, 1) := by decide +kernel
theorem dX2_isAtCharacter_1 : decode cX2_isAtCharacter 1 = .ok (.getfield 40, 3) := by decide +kernel
theorem dX2_isAtCharacter_4 : decode cX2_isAtCharacter 4 = .ok (.ifCond .lt 27, 3) := by decide +kernel
theorem dX2_isAtCharacter_7 : decode cX2_isAtCharacter 7 = .ok (.aload_n 0, 1) := by decide +kernel
theorem dX2_isAtCharacter_8 : decode cX2_isAtCharacter 8 = .ok (.getfield 40, 3) := by decide +kernel
theorem dX2_isAtCharacter_11 : decode cX2_isAtCharacter 11 = .ok (.aload_n 0, 1) := by decide +kernel
theorem dX2_isAtCharacter_12 : decode cX2_isAtCharacter 12 = .ok (.getfield 25, 3) := by decide +kernel
theorem dX2_isAtCharacter_15 : decode cX2_isAtCharacter 15 = .ok (.if_icmp .ge 16, 3) := by decide +kernel
theorem dX2_isAtCharacter_18 : decode cX2_isAtCharacter 18 = .ok (.aload_n 0, 1) := by decide +kernel
theorem dX2_isAtCharacter_19 : decode cX2_isAtCharacter 19 = .ok (.getfield 40, 3) := by decide +kernel
theorem dX2_isAtCharacter_22 : decode cX2_isAtCharacter 22 = .ok (.bipush 80, 2) := by decide +kernel
theorem dX2_isAtCharacter_24 : decode cX2_isAtCharacter 24 = .ok (.if_icmp .ge 7, 3) := by decide +kernel
theorem dX2_isAtCharacter_27 : decode cX2_isAtCharacter 27 = .ok (.iconst 1, 1) := by decide +kernel
theorem dX2_isAtCharacter_28 : decode cX2_isAtCharacter 28 = .ok (.goto 4, 3) := by decide +kernel
theorem dX2_isAtCharacter_31 : decode cX2_isAtCharacter 31 = .ok (.iconst 0, 1) := by decide +kernel
theorem dX2_isAtCharacter_32 : decode cX2_isAtCharacter 32 = .ok (.ireturn, 1) := by decide +kernel
set_option maxRecDepth 20000 in
theorem ggX3_init_X0_init : GoodIn wsX3_init wsX0_init := goodIn_r _ [21, 22, 2, 3, 23, 24, 25, 26, 27, 28, 29, 30, 31, 32, 33, 50, 51, 52, 53, 54, 55, 56, 57, 58, 59, 60, 61] (by decide +kernel) (by decide +kernel)
set_option maxRecDepth 20000 in
theorem gX3_init_X0_init : GoodIn wsX3_init (wsX0_init) := ggX3_init_X0_init
set_option maxRecDepth 20000 in
theorem ggX3_init_X1_init : GoodIn wsX3_init wsX1_init := goodIn_r _ [36, 37, 2, 3, 38, 39, 5, 6, 40, 41, 20, 21, 22, 23, 24, 25, 26, 27, 28, 29, 30, 31, 32, 33, 68, 69, 50, 51, 52, 53, 54, 55, 56, 57, 58, 59, 60, 61] (by decide +kernel) (by decide +kernel)
set_option maxRecDepth 20000 in
theorem gX3_init_X1_init : GoodIn wsX3_init (wsX1_init) := ggX3_init_X1_init
set_option maxRecDepth 20000 in
theorem ggX3_init_X2_init : GoodIn wsX3_init wsX2_init := goodIn_r _ [43, 44, 2, 3, 45, 46, 23, 47, 48, 49, 70, 71, 72, 73, 74, 75, 76] (by decide +kernel) (by decide +kernel)
set_option maxRecDepth 20000 in
theorem gX3_init_X2_init_n35 : GoodIn wsX3_init (wsX2_init) := ggX3_init_X2_init
theorem dX3_init_0 : decode cX3_init 0 = .ok (.aload_n 0, 1) := by decide +kernel
theorem dX3_init_1 : decode cX3_init 1 = .ok (.invokespecial 1, 3) := by decide +kernel
theorem dX3_init_4 : decode cX3_init 4 = .ok (.aload_n 0, 1) := by decide +kernel
theorem dX3_init_5 : decode cX3_init 5 = .ok (.new 7, 3) := by decide +kernel
theorem dX3_init_8 : decode cX3_init 8 = .ok (.dup, 1) := by decide +kernel
theorem dX3_init_9 : decode cX3_init 9 = .ok (.invokespecial 9, 3) := by decide +kernel
theorem dX3_init_12 : decode cX3_init 12 = .ok (.putfield 10, 3) := by decide +kernel
theorem dX3_init_15 : decode cX3_init 15 = .ok (.aload_n 0, 1) := by decide +kernel
theorem dX3_init_16 : decode cX3_init 16 = .ok (.new 7, 3) := by decide +kernel
theorem dX3_init_19 : decode cX3_init 19 = .ok (.dup, 1) := by decide +kernel
theorem dX3_init_20 : decode cX3_init 20 = .ok (.invokespecial 9, 3) := by decide +kernel
theorem dX3_init_23 : decode cX3_init 23 = .ok (.putfield 16, 3) := by decide +kernel
theorem dX3_init_26 : decode cX3_init 26 = .ok (.aload_n 0, 1) := by decide +kernel
theorem dX3_init_27 : decode cX3_init 27 = .ok (.new 7, 3) := by decide +kernel
theorem dX3_init_30 : decode cX3_init 30 = .ok (.dup, 1) := by decide +kernel
theorem dX3_init_31 : decode cX3_init 31 = .ok (.invokespecial 9, 3) := by decide +kernel
theorem dX3_init_34 : decode cX3_init 34 = .ok (.putfield 19, 3) := by decide +kernel
theorem dX3_init_37 : decode cX3_init 37 = .ok (.aload_n 0, 1) := by decide +kernel
theorem dX3_init_38 : decode cX3_init 38 = .ok (.iconst 0, 1) := by decide +kernel
theorem dX3_init_39 : decode cX3_init 39 = .ok (.putfield 22, 3) := by decide +kernel
theorem dX3_init_42 : decode cX3_init 42 = .ok (.aload_n 0, 1) := by decide +kernel
theorem dX3_init_43 : decode cX3_init 43 = .ok (.new 26, 3) := by decide +kernel
theorem dX3_init_46 : decode cX3_init 46 = .ok (.dup, 1) := by decide +kernel
theorem dX3_init_47 : decode cX3_init 47 = .ok (.invokespecial 28, 3) := by decide +kernel
theorem dX3_init_50 : decode cX3_init 50 = .ok (.putfield 29, 3) := by decide +kernel
theorem dX3_init_53 : decode cX3_init 53 = .ok (.aload_n 0, 1) := by decide +kernel
theorem dX3_init_54 : decode cX3_init 54 = .ok (.new 33, 3) := by decide +kernel
theorem dX3_init_57 : decode cX3_init 57 = .ok (.dup, 1) := by decide +kernel
theorem dX3_init_58 : decode cX3_init 58 = .ok (.invokespecial 35, 3) := by decide +kernel
theorem dX3_init_61 : decode cX3_init 61 = .ok (.putfield 36, 3) := by decide +kernel
theorem dX3_init_64 : decode cX3_init 64 = .ok (.return_, 1) := by decide +kernel
set_option maxRecDepth 20000 in
theorem ggX3_lay_X3_isPad : GoodIn wsX3_lay wsX3_isPad := goodIn_r _ [6] (by decide +kernel) (by decide +kernel)
set_option maxRecDepth 20000 in
theorem gX3_lay_X3_isPad : GoodIn wsX3_lay (va_wsS RX3 40 yX3_isPad wsX3_isPad) := goodIn_app (goodIn_of _ (by decide +kernel)) ggX3_lay_X3_isPad
set_option maxRecDepth 20000 in
theorem ggX3_lay_X3_isLead : GoodIn wsX3_lay wsX3_isLead := goodIn_r _ [9] (by decide +kernel) (by decide +kernel)
set_option maxRecDepth 20000 in
theorem gX3_lay_X3_isLead : GoodIn wsX3_lay (va_wsS RX3 44 yX3_isLead wsX3_isLead) := goodIn_app (goodIn_of _ (by decide +kernel)) ggX3_lay_X3_isLead
set_option maxRecDepth 20000 in
theorem ggX3_lay_X3_isHeight : GoodIn wsX3_lay wsX3_isHeight := goodIn_r _ [12, 13, 14, 5, 15] (by decide +kernel) (by decide +kernel)
set_option maxRecDepth 20000 in
theorem gX3_lay_X3_isHeight : GoodIn wsX3_lay (va_wsS RX3 47 yX3_isHeight wsX3_isHeight) := goodIn_app (goodIn_of _ (by decide +kernel)) ggX3_lay_X3_isHeight
set_option maxRecDepth 20000 in
theorem ggX3_lay_X0_errorOfLaying : GoodIn wsX3_lay wsX0_errorOfLaying := goodIn_r _ [20, 21, 22, 23, 24, 25, 19, 26, 27, 4, 5, 6, 28, 29, 30, 31, 101, 102, 103, 104, 105, 106, 107, 108, 109, 110, 111, 112] (by decide +kernel) (by decide +kernel)
set_option maxRecDepth 20000 in
theorem gX3_lay_X0_errorOfLaying : GoodIn wsX3_lay (wsV RX3 50 RX0 yX0_errorOfLaying wsX0_errorOfLaying) := goodIn_app (goodIn_of _ (by decide +kernel)) ggX3_lay_X0_errorOfLaying
set_option maxRecDepth 20000 in
theorem ggX3_lay_X1_record : GoodIn wsX3_lay wsX1_record := goodIn_r _ [36, 37, 38, 39, 40, 35, 41, 42, 43, 44, 45, 46, 14, 5, 15, 47, 48, 49, 19, 50, 51, 52, 53, 54, 55, 27, 56, 57, 58, 59, 60, 22, 61, 21, 62, 63, 113, 114, 101, 102, 103, 104, 105, 106, 107, 108, 109, 110, 111, 112] (by decide +kernel) (by decide +kernel)
set_option maxRecDepth 20000 in
theorem gX3_lay_X1_record : GoodIn wsX3_lay (wsV RX3 54 RX1 yX1_record wsX1_record) := goodIn_app (goodIn_of _ (by decide +kernel)) ggX3_lay_X1_record
set_option maxRecDepth 20000 in
theorem ggX3_lay_X0_addWire : GoodIn wsX3_lay wsX0_addWire := goodIn_r _ [67, 27, 56, 57, 58, 59, 22, 21, 62, 4, 5, 6, 8, 9, 68, 69, 70, 19, 71, 72, 73, 74, 75, 76, 77, 78, 79, 80, 81, 82, 83, 84, 51, 85, 86, 87, 88, 89, 90, 101, 102, 103, 104, 105, 106, 107, 108, 109, 110, 111, 112] (by decide +kernel) (by decide +kernel)
set_option maxRecDepth 20000 in
theorem gX3_lay_X0_addWire : GoodIn wsX3_lay (wsV RX3 58 RX0 yX0_addWire wsX0_addWire) := goodIn_app (goodIn_of _ (by decide +kernel)) ggX3_lay_X0_addWire
set_option maxRecDepth 20000 in
theorem ggX3_lay_X0_strengthOf : GoodIn wsX3_lay wsX0_strengthOf := goodIn_r _ [94, 57, 4, 5, 6, 101, 102, 103, 104, 105, 106, 107, 108, 109, 110, 111, 112] (by decide +kernel) (by decide +kernel)
set_option maxRecDepth 20000 in
theorem gX3_lay_X0_strengthOf : GoodIn wsX3_lay (wsV RX3 62 RX0 yX0_strengthOf wsX0_strengthOf) := goodIn_app (goodIn_of _ (by decide +kernel)) ggX3_lay_X0_strengthOf
theorem dX3_lay_0 : decode cX3_lay 0 = .ok (.iload_n 1, 1) := by decide +kernel
theorem dX3_lay_1 : decode cX3_lay 1 = .ok (.invokestatic 40, 3) := by decide +kernel
theorem dX3_lay_4 : decode cX3_lay 4 = .ok (.ifCond .eq 10, 3) := by decide +kernel
theorem dX3_lay_7 : decode cX3_lay 7 = .ok (.iload_n 2, 1) := by decide +kernel
theorem dX3_lay_8 : decode cX3_lay 8 = .ok (.invokestatic 44, 3) := by decide +kernel
theorem dX3_lay_11 : decode cX3_lay 11 = .ok (.ifCond .ne 5, 3) := by decide +kernel
theorem dX3_lay_14 : decode cX3_lay 14 = .ok (.iconst (-1), 1) := by decide +kernel
theorem dX3_lay_15 : decode cX3_lay 15 = .ok (.ireturn, 1) := by decide +kernel
theorem dX3_lay_16 : decode cX3_lay 16 = .ok (.iload_n 3, 1) := by decide +kernel
theorem dX3_lay_17 : decode cX3_lay 17 = .ok (.invokestatic 47, 3) := by decide +kernel
theorem dX3_lay_20 : decode cX3_lay 20 = .ok (.ifCond .ne 6, 3) := by decide +kernel
theorem dX3_lay_23 : decode cX3_lay 23 = .ok (.bipush (-2), 2) := by decide +kernel
theorem dX3_lay_25 : decode cX3_lay 25 = .ok (.ireturn, 1) := by decide +kernel
theorem dX3_lay_26 : decode cX3_lay 26 = .ok (.aload_n 0, 1) := by decide +kernel
theorem dX3_lay_27 : decode cX3_lay 27 = .ok (.getfield 10, 3) := by decide +kernel
theorem dX3_lay_30 : decode cX3_lay 30 = .ok (.iload_n 1, 1) := by decide +kernel
theorem dX3_lay_31 : decode cX3_lay 31 = .ok (.iload_n 2, 1) := by decide +kernel
theorem dX3_lay_32 : decode cX3_lay 32 = .ok (.invokevirtual 50, 3) := by decide +kernel
theorem dX3_lay_35 : decode cX3_lay 35 = .ok (.istore 4, 2) := by decide +kernel
theorem dX3_lay_37 : decode cX3_lay 37 = .ok (.iload 4, 2) := by decide +kernel
theorem dX3_lay_39 : decode cX3_lay 39 = .ok (.ifCond .eq 6, 3) := by decide +kernel
theorem dX3_lay_42 : decode cX3_lay 42 = .ok (.iload 4, 2) := by decide +kernel
theorem dX3_lay_44 : decode cX3_lay 44 = .ok (.ireturn, 1) := by decide +kernel
theorem dX3_lay_45 : decode cX3_lay 45 = .ok (.aload_n 0, 1) := by decide +kernel
theorem dX3_lay_46 : decode cX3_lay 46 = .ok (.getfield 29, 3) := by decide +kernel
theorem dX3_lay_49 : decode cX3_lay 49 = .ok (.aload_n 0, 1) := by decide +kernel
theorem dX3_lay_50 : decode cX3_lay 50 = .ok (.getfield 10, 3) := by decide +kernel
theorem dX3_lay_53 : decode cX3_lay 53 = .ok (.invokevirtual 54, 3) := by decide +kernel
theorem dX3_lay_56 : decode cX3_lay 56 = .ok (.aload_n 0, 1) := by decide +kernel
theorem dX3_lay_57 : decode cX3_lay 57 = .ok (.getfield 10, 3) := by decide +kernel
theorem dX3_lay_60 : decode cX3_lay 60 = .ok (.iload_n 1, 1) := by decide +kernel
theorem dX3_lay_61 : decode cX3_lay 61 = .ok (.iload_n 2, 1) := by decide +kernel
theorem dX3_lay_62 : decode cX3_lay 62 = .ok (.iload_n 3, 1) := by decide +kernel
theorem dX3_lay_63 : decode cX3_lay 63 = .ok (.invokevirtual 58, 3) := by decide +kernel
theorem dX3_lay_66 : decode cX3_lay 66 = .ok (.aload_n 0, 1) := by decide +kernel
theorem dX3_lay_67 : decode cX3_lay 67 = .ok (.getfield 10, 3) := by decide +kernel
theorem dX3_lay_70 : decode cX3_lay 70 = .ok (.iload_n 1, 1) := by decide +kernel
theorem dX3_lay_71 : decode cX3_lay 71 = .ok (.invokevirtual 62, 3) := by decide +kernel
theorem dX3_lay_74 : decode cX3_lay 74 = .ok (.ireturn, 1) := by decide +kernel
set_option maxRecDepth 20000 in
theorem ggX3_layAll_X2_read : GoodIn wsX3_layAll wsX2_read := goodIn_r _ [9, 10, 11, 12, 13, 14, 15, 8, 16, 17, 18, 19, 20, 21, 22, 23, 24, 25, 26, 27, 28, 29, 30, 31, 32, 33, 34, 35, 36, 37, 38, 39, 40, 41, 42, 43, 44, 45, 46, 47, 162, 163, 164, 165, 166, 167, 168] (by decide +kernel) (by decide +kernel)
set_option maxRecDepth 20000 in
theorem gX3_layAll_X2_read : GoodIn wsX3_layAll (wsV RX3 66 RX2 yX2_read wsX2_read) := goodIn_app (goodIn_of _ (by decide +kernel)) ggX3_layAll_X2_read
set_option maxRecDepth 20000 in
theorem ggX3_layAll_X0_copyFrom : GoodIn wsX3_layAll wsX0_copyFrom := goodIn_r _ [52, 53, 54, 55, 56, 57, 58, 59, 60, 61, 62, 63, 64, 65, 66, 67, 68, 169, 170, 171, 172, 173, 174, 175, 176, 177, 178, 179, 180] (by decide +kernel) (by decide +kernel)
set_option maxRecDepth 20000 in
theorem gX3_layAll_X0_copyFrom : GoodIn wsX3_layAll (wsV RX3 70 RX0 yX0_copyFrom wsX0_copyFrom) := goodIn_app (goodIn_of _ (by decide +kernel)) ggX3_layAll_X0_copyFrom
set_option maxRecDepth 20000 in
theorem ggX3_layAll_X0_addListed : GoodIn wsX3_layAll wsX0_addListed := goodIn_r _ [72, 73, 74, 75, 8, 76, 11, 77, 78, 79, 80, 17, 81, 82, 83, 84, 33, 34, 35, 85, 86, 87, 88, 18, 89, 90, 91, 51, 92, 66, 64, 93, 94, 95, 96, 58, 97, 98, 99, 100, 101, 102, 103, 104, 105, 106, 19, 107, 108, 109, 110, 59, 60, 61, 62, 67, 111, 112, 113, 114, 115, 116, 117, 118, 119, 120, 121, 122, 123, 124, 125, 126, 127, 128, 129, 53, 130, 131, 132, 133, 134, 135, 162, 163, 164, 165, 166, 167, 168, 169, 170, 171, 172, 173, 174, 175, 176, 177, 178, 179, 180] (by decide +kernel) (by decide +kernel)
set_option maxRecDepth 20000 in
theorem gX3_layAll_X0_addListed : GoodIn wsX3_layAll (wsV RX3 73 RX0 yX0_addListed wsX0_addListed) := goodIn_app (goodIn_of _ (by decide +kernel)) ggX3_layAll_X0_addListed
set_option maxRecDepth 20000 in
theorem ggX3_layAll_X1_record : GoodIn wsX3_layAll wsX1_record := goodIn_r _ [140, 141, 142, 143, 144, 139, 145, 146, 147, 148, 149, 150, 33, 34, 35, 151, 49, 50, 51, 52, 53, 54, 55, 56, 57, 58, 59, 60, 61, 62, 63, 64, 65, 66, 67, 68, 181, 182, 169, 170, 171, 172, 173, 174, 175, 176, 177, 178, 179, 180] (by decide +kernel) (by decide +kernel)
set_option maxRecDepth 20000 in
theorem gX3_layAll_X1_record : GoodIn wsX3_layAll (wsV RX3 54 RX1 yX1_record wsX1_record) := goodIn_app (goodIn_of _ (by decide +kernel)) ggX3_layAll_X1_record
set_option maxRecDepth 20000 in
theorem ggX3_layAll_X0_wires : GoodIn wsX3_layAll wsX0_wires := goodIn_r _ [155, 93, 94, 95, 51, 96, 58, 97, 34, 98, 169, 170, 171, 172, 173, 174, 175, 176, 177, 178, 179, 180] (by decide +kernel) (by decide +kernel)
set_option maxRecDepth 20000 in
theorem gX3_layAll_X0_wires : GoodIn wsX3_layAll (wsV RX3 77 RX0 yX0_wires wsX0_wires) := goodIn_app (goodIn_of _ (by decide +kernel)) ggX3_layAll_X0_wires
theorem dX3_layAll_0 : decode cX3_layAll 0 = .ok (.aload_n 0, 1) := by decide +kernel
theorem dX3_layAll_1 : decode cX3_layAll 1 = .ok (.getfield 36, 3) := by decide +kernel
theorem dX3_layAll_4 : decode cX3_layAll 4 = .ok (.invokevirtual 66, 3) := by decide +kernel
theorem dX3_layAll_7 : decode cX3_layAll 7 = .ok (.istore_n 1, 1) := by decide +kernel
theorem dX3_layAll_8 : decode cX3_layAll 8 = .ok (.iload_n 1, 1) := by decide +kernel
theorem dX3_layAll_9 : decode cX3_layAll 9 = .ok (.iconst (-1), 1) := by decide +kernel
theorem dX3_layAll_10 : decode cX3_layAll 10 = .ok (.if_icmp .eq 8, 3) := by decide +kernel
theorem dX3_layAll_13 : decode cX3_layAll 13 = .ok (.bipush (-100), 2) := by decide +kernel
theorem dX3_layAll_15 : decode cX3_layAll 15 = .ok (.iload_n 1, 1) := by decide +kernel
theorem dX3_layAll_16 : decode cX3_layAll 16 = .ok (.isub, 1) := by decide +kernel
theorem dX3_layAll_17 : decode cX3_layAll 17 = .ok (.ireturn, 1) := by decide +kernel
theorem dX3_layAll_18 : decode cX3_layAll 18 = .ok (.aload_n 0, 1) := by decide +kernel
theorem dX3_layAll_19 : decode cX3_layAll 19 = .ok (.getfield 16, 3) := by decide +kernel
theorem dX3_layAll_22 : decode cX3_layAll 22 = .ok (.aload_n 0, 1) := by decide +kernel
theorem dX3_layAll_23 : decode cX3_layAll 23 = .ok (.getfield 10, 3) := by decide +kernel
theorem dX3_layAll_26 : decode cX3_layAll 26 = .ok (.invokevirtual 70, 3) := by decide +kernel
theorem dX3_layAll_29 : decode cX3_layAll 29 = .ok (.aload_n 0, 1) := by decide +kernel
theorem dX3_layAll_30 : decode cX3_layAll 30 = .ok (.getfield 10, 3) := by decide +kernel
theorem dX3_layAll_33 : decode cX3_layAll 33 = .ok (.aload_n 0, 1) := by decide +kernel
theorem dX3_layAll_34 : decode cX3_layAll 34 = .ok (.getfield 36, 3) := by decide +kernel
theorem dX3_layAll_37 : decode cX3_layAll 37 = .ok (.invokevirtual 73, 3) := by decide +kernel
theorem dX3_layAll_40 : decode cX3_layAll 40 = .ok (.istore_n 2, 1) := by decide +kernel
theorem dX3_layAll_41 : decode cX3_layAll 41 = .ok (.iload_n 2, 1) := by decide +kernel
theorem dX3_layAll_42 : decode cX3_layAll 42 = .ok (.ifCond .eq 16, 3) := by decide +kernel
theorem dX3_layAll_45 : decode cX3_layAll 45 = .ok (.aload_n 0, 1) := by decide +kernel
theorem dX3_layAll_46 : decode cX3_layAll 46 = .ok (.getfield 10, 3) := by decide +kernel
theorem dX3_layAll_49 : decode cX3_layAll 49 = .ok (.aload_n 0, 1) := by decide +kernel
theorem dX3_layAll_50 : decode cX3_layAll 50 = .ok (.getfield 16, 3) := by decide +kernel
theorem dX3_layAll_53 : decode cX3_layAll 53 = .ok (.invokevirtual 70, 3) := by decide +kernel
theorem dX3_layAll_56 : decode cX3_layAll 56 = .ok (.iload_n 2, 1) := by decide +kernel
theorem dX3_layAll_57 : decode cX3_layAll 57 = .ok (.ireturn, 1) := by decide +kernel
theorem dX3_layAll_58 : decode cX3_layAll 58 = .ok (.aload_n 0, 1) := by decide +kernel
theorem dX3_layAll_59 : decode cX3_layAll 59 = .ok (.getfield 29, 3) := by decide +kernel
theorem dX3_layAll_62 : decode cX3_layAll 62 = .ok (.aload_n 0, 1) := by decide +kernel
theorem dX3_layAll_63 : decode cX3_layAll 63 = .ok (.getfield 16, 3) := by decide +kernel
theorem dX3_layAll_66 : decode cX3_layAll 66 = .ok (.invokevirtual 54, 3) := by decide +kernel
theorem dX3_layAll_69 : decode cX3_layAll 69 = .ok (.aload_n 0, 1) := by decide +kernel
theorem dX3_layAll_70 : decode cX3_layAll 70 = .ok (.getfield 10, 3) := by decide +kernel
theorem dX3_layAll_73 : decode cX3_layAll 73 = .ok (.invokevirtual 77, 3) := by decide +kernel
theorem dX3_layAll_76 : decode cX3_layAll 76 = .ok (.ireturn, 1) := by decide +kernel
set_option maxRecDepth 20000 in
theorem ggX3_takeOff_X0_hasWire : GoodIn wsX3_takeOff wsX0_hasWire := goodIn_r _ [7, 8, 9, 10, 11, 62, 63, 64, 65, 66, 67, 68, 69, 70, 71, 72, 73] (by decide +kernel) (by decide +kernel)
set_option maxRecDepth 20000 in
theorem gX3_takeOff_X0_hasWire : GoodIn wsX3_takeOff (wsV RX3 80 RX0 yX0_hasWire wsX0_hasWire) := goodIn_app (goodIn_of _ (by decide +kernel)) ggX3_takeOff_X0_hasWire
set_option maxRecDepth 20000 in
theorem ggX3_takeOff_X1_record : GoodIn wsX3_takeOff wsX1_record := goodIn_r _ [16, 17, 18, 19, 20, 15, 21, 22, 23, 24, 25, 26, 27, 10, 28, 29, 30, 31, 6, 32, 33, 34, 35, 36, 37, 8, 38, 39, 40, 41, 42, 43, 44, 45, 46, 47, 74, 75, 62, 63, 64, 65, 66, 67, 68, 69, 70, 71, 72, 73] (by decide +kernel) (by decide +kernel)
set_option maxRecDepth 20000 in
theorem gX3_takeOff_X1_record : GoodIn wsX3_takeOff (wsV RX3 54 RX1 yX1_record wsX1_record) := goodIn_app (goodIn_of _ (by decide +kernel)) ggX3_takeOff_X1_record
set_option maxRecDepth 20000 in
theorem ggX3_takeOff_X0_strengthOf : GoodIn wsX3_takeOff wsX0_strengthOf := goodIn_r _ [51, 39, 9, 10, 11, 62, 63, 64, 65, 66, 67, 68, 69, 70, 71, 72, 73] (by decide +kernel) (by decide +kernel)
set_option maxRecDepth 20000 in
theorem gX3_takeOff_X0_strengthOf : GoodIn wsX3_takeOff (wsV RX3 62 RX0 yX0_strengthOf wsX0_strengthOf) := goodIn_app (goodIn_of _ (by decide +kernel)) ggX3_takeOff_X0_strengthOf
set_option maxRecDepth 20000 in
theorem ggX3_takeOff_X0_removeWire : GoodIn wsX3_takeOff wsX0_removeWire := goodIn_r _ [55, 8, 9, 10, 11, 62, 63, 64, 65, 66, 67, 68, 69, 70, 71, 72, 73] (by decide +kernel) (by decide +kernel)
set_option maxRecDepth 20000 in
theorem gX3_takeOff_X0_removeWire : GoodIn wsX3_takeOff (wsV RX3 83 RX0 yX0_removeWire wsX0_removeWire) := goodIn_app (goodIn_of _ (by decide +kernel)) ggX3_takeOff_X0_removeWire
theorem dX3_takeOff_0 : decode cX3_takeOff 0 = .ok (.aload_n 0, 1) := by decide +kernel
theorem dX3_takeOff_1 : decode cX3_takeOff 1 = .ok (.getfield 10, 3) := by decide +kernel
theorem dX3_takeOff_4 : decode cX3_takeOff 4 = .ok (.iload_n 1, 1) := by decide +kernel
theorem dX3_takeOff_5 : decode cX3_takeOff 5 = .ok (.invokevirtual 80, 3) := by decide +kernel
theorem dX3_takeOff_8 : decode cX3_takeOff 8 = .ok (.ifCond .ne 5, 3) := by decide +kernel
theorem dX3_takeOff_11 : decode cX3_takeOff 11 = .ok (.iconst (-1), 1) := by decide +kernel
theorem dX3_takeOff_12 : decode cX3_takeOff 12 = .ok (.ireturn, 1) := by decide +kernel
theorem dX3_takeOff_13 : decode cX3_takeOff 13 = .ok (.aload_n 0, 1) := by decide +kernel
theorem dX3_takeOff_14 : decode cX3_takeOff 14 = .ok (.getfield 29, 3) := by decide +kernel
theorem dX3_takeOff_17 : decode cX3_takeOff 17 = .ok (.aload_n 0, 1) := by decide +kernel
theorem dX3_takeOff_18 : decode cX3_takeOff 18 = .ok (.getfield 10, 3) := by decide +kernel
theorem dX3_takeOff_21 : decode cX3_takeOff 21 = .ok (.invokevirtual 54, 3) := by decide +kernel
theorem dX3_takeOff_24 : decode cX3_takeOff 24 = .ok (.aload_n 0, 1) := by decide +kernel
theorem dX3_takeOff_25 : decode cX3_takeOff 25 = .ok (.getfield 10, 3) := by decide +kernel
theorem dX3_takeOff_28 : decode cX3_takeOff 28 = .ok (.iload_n 1, 1) := by decide +kernel
theorem dX3_takeOff_29 : decode cX3_takeOff 29 = .ok (.invokevirtual 62, 3) := by decide +kernel
theorem dX3_takeOff_32 : decode cX3_takeOff 32 = .ok (.istore_n 2, 1) := by decide +kernel
theorem dX3_takeOff_33 : decode cX3_takeOff 33 = .ok (.aload_n 0, 1) := by decide +kernel
theorem dX3_takeOff_34 : decode cX3_takeOff 34 = .ok (.getfield 10, 3) := by decide +kernel
theorem dX3_takeOff_37 : decode cX3_takeOff 37 = .ok (.iload_n 1, 1) := by decide +kernel
theorem dX3_takeOff_38 : decode cX3_takeOff 38 = .ok (.invokevirtual 83, 3) := by decide +kernel
theorem dX3_takeOff_41 : decode cX3_takeOff 41 = .ok (.iload_n 2, 1) := by decide +kernel
theorem dX3_takeOff_42 : decode cX3_takeOff 42 = .ok (.ireturn, 1) := by decide +kernel
set_option maxRecDepth 20000 in
theorem ggX3_bend_X0_hasWire : GoodIn wsX3_bend wsX0_hasWire := goodIn_r _ [7, 8, 9, 10, 11, 66, 67, 68, 69, 70, 71, 72, 73, 74, 75, 76, 77] (by decide +kernel) (by decide +kernel)
set_option maxRecDepth 20000 in
theorem gX3_bend_X0_hasWire : GoodIn wsX3_bend (wsV RX3 80 RX0 yX0_hasWire wsX0_hasWire) := goodIn_app (goodIn_of _ (by decide +kernel)) ggX3_bend_X0_hasWire
set_option maxRecDepth 20000 in
theorem ggX3_bend_X3_isHeight : GoodIn wsX3_bend wsX3_isHeight := goodIn_r _ [14, 15, 16, 10, 17] (by decide +kernel) (by decide +kernel)
set_option maxRecDepth 20000 in
theorem gX3_bend_X3_isHeight : GoodIn wsX3_bend (va_wsS RX3 47 yX3_isHeight wsX3_isHeight) := goodIn_app (goodIn_of _ (by decide +kernel)) ggX3_bend_X3_isHeight
set_option maxRecDepth 20000 in
theorem ggX3_bend_X0_heightOf : GoodIn wsX3_bend wsX0_heightOf := goodIn_r _ [21, 22, 9, 10, 11, 66, 67, 68, 69, 70, 71, 72, 73, 74, 75, 76, 77] (by decide +kernel) (by decide +kernel)
set_option maxRecDepth 20000 in
theorem gX3_bend_X0_heightOf : GoodIn wsX3_bend (wsV RX3 87 RX0 yX0_heightOf wsX0_heightOf) := goodIn_app (goodIn_of _ (by decide +kernel)) ggX3_bend_X0_heightOf
set_option maxRecDepth 20000 in
theorem ggX3_bend_X1_record : GoodIn wsX3_bend wsX1_record := goodIn_r _ [27, 28, 29, 30, 31, 26, 32, 33, 34, 35, 36, 37, 16, 10, 17, 38, 39, 40, 6, 41, 42, 43, 44, 45, 46, 8, 22, 47, 48, 49, 50, 51, 52, 53, 54, 55, 78, 79, 66, 67, 68, 69, 70, 71, 72, 73, 74, 75, 76, 77] (by decide +kernel) (by decide +kernel)
set_option maxRecDepth 20000 in
theorem gX3_bend_X1_record : GoodIn wsX3_bend (wsV RX3 54 RX1 yX1_record wsX1_record) := goodIn_app (goodIn_of _ (by decide +kernel)) ggX3_bend_X1_record
set_option maxRecDepth 20000 in
theorem ggX3_bend_X0_changeHeight : GoodIn wsX3_bend wsX0_changeHeight := goodIn_r _ [59, 22, 9, 10, 11, 66, 67, 68, 69, 70, 71, 72, 73, 74, 75, 76, 77] (by decide +kernel) (by decide +kernel)
set_option maxRecDepth 20000 in
theorem gX3_bend_X0_changeHeight : GoodIn wsX3_bend (wsV RX3 90 RX0 yX0_changeHeight wsX0_changeHeight) := goodIn_app (goodIn_of _ (by decide +kernel)) ggX3_bend_X0_changeHeight
theorem dX3_bend_0 : decode cX3_bend 0 = .ok (.aload_n 0, 1) := by decide +kernel
theorem dX3_bend_1 : decode cX3_bend 1 = .ok (.getfield 10, 3) := by decide +kernel
theorem dX3_bend_4 : decode cX3_bend 4 = .ok (.iload_n 1, 1) := by decide +kernel
theorem dX3_bend_5 : decode cX3_bend 5 = .ok (.invokevirtual 80, 3) := by decide +kernel
theorem dX3_bend_8 : decode cX3_bend 8 = .ok (.ifCond .ne 5, 3) := by decide +kernel
theorem dX3_bend_11 : decode cX3_bend 11 = .ok (.iconst (-1), 1) := by decide +kernel
theorem dX3_bend_12 : decode cX3_bend 12 = .ok (.ireturn, 1) := by decide +kernel
theorem dX3_bend_13 : decode cX3_bend 13 = .ok (.iload_n 2, 1) := by decide +kernel
theorem dX3_bend_14 : decode cX3_bend 14 = .ok (.invokestatic 47, 3) := by decide +kernel
theorem dX3_bend_17 : decode cX3_bend 17 = .ok (.ifCond .ne 6, 3) := by decide +kernel
theorem dX3_bend_20 : decode cX3_bend 20 = .ok (.bipush (-2), 2) := by decide +kernel
theorem dX3_bend_22 : decode cX3_bend 22 = .ok (.ireturn, 1) := by decide +kernel
theorem dX3_bend_23 : decode cX3_bend 23 = .ok (.aload_n 0, 1) := by decide +kernel
theorem dX3_bend_24 : decode cX3_bend 24 = .ok (.getfield 10, 3) := by decide +kernel
theorem dX3_bend_27 : decode cX3_bend 27 = .ok (.iload_n 1, 1) := by decide +kernel
theorem dX3_bend_28 : decode cX3_bend 28 = .ok (.invokevirtual 87, 3) := by decide +kernel
theorem dX3_bend_31 : decode cX3_bend 31 = .ok (.istore_n 3, 1) := by decide +kernel
theorem dX3_bend_32 : decode cX3_bend 32 = .ok (.iload_n 3, 1) := by decide +kernel
theorem dX3_bend_33 : decode cX3_bend 33 = .ok (.iload_n 2, 1) := by decide +kernel
theorem dX3_bend_34 : decode cX3_bend 34 = .ok (.if_icmp .ne 6, 3) := by decide +kernel
theorem dX3_bend_37 : decode cX3_bend 37 = .ok (.bipush (-5), 2) := by decide +kernel
theorem dX3_bend_39 : decode cX3_bend 39 = .ok (.ireturn, 1) := by decide +kernel
theorem dX3_bend_40 : decode cX3_bend 40 = .ok (.aload_n 0, 1) := by decide +kernel
theorem dX3_bend_41 : decode cX3_bend 41 = .ok (.getfield 29, 3) := by decide +kernel
theorem dX3_bend_44 : decode cX3_bend 44 = .ok (.aload_n 0, 1) := by decide +kernel
theorem dX3_bend_45 : decode cX3_bend 45 = .ok (.getfield 10, 3) := by decide +kernel
theorem dX3_bend_48 : decode cX3_bend 48 = .ok (.invokevirtual 54, 3) := by decide +kernel
theorem dX3_bend_51 : decode cX3_bend 51 = .ok (.aload_n 0, 1) := by decide +kernel
theorem dX3_bend_52 : decode cX3_bend 52 = .ok (.getfield 10, 3) := by decide +kernel
theorem dX3_bend_55 : decode cX3_bend 55 = .ok (.iload_n 1, 1) := by decide +kernel
theorem dX3_bend_56 : decode cX3_bend 56 = .ok (.iload_n 2, 1) := by decide +kernel
theorem dX3_bend_57 : decode cX3_bend 57 = .ok (.invokevirtual 90, 3) := by decide +kernel
theorem dX3_bend_60 : decode cX3_bend 60 = .ok (.iload_n 3, 1) := by decide +kernel
theorem dX3_bend_61 : decode cX3_bend 61 = .ok (.ireturn, 1) := by decide +kernel
set_option maxRecDepth 20000 in
theorem ggX3_moveLead_X3_isLead : GoodIn wsX3_moveLead wsX3_isLead := goodIn_r _ [6] (by decide +kernel) (by decide +kernel)
set_option maxRecDepth 20000 in
theorem gX3_moveLead_X3_isLead : GoodIn wsX3_moveLead (va_wsS RX3 44 yX3_isLead wsX3_isLead) := goodIn_app (goodIn_of _ (by decide +kernel)) ggX3_moveLead_X3_isLead
set_option maxRecDepth 20000 in
theorem ggX3_moveLead_X3_isWithin : GoodIn wsX3_moveLead wsX3_isWithin := goodIn_r _ [9] (by decide +kernel) (by decide +kernel)
set_option maxRecDepth 20000 in
theorem gX3_moveLead_X3_isWithin : GoodIn wsX3_moveLead (va_wsS RX3 94 yX3_isWithin wsX3_isWithin) := goodIn_app (goodIn_of _ (by decide +kernel)) ggX3_moveLead_X3_isWithin
set_option maxRecDepth 20000 in
theorem ggX3_moveLead_X0_padAtLead : GoodIn wsX3_moveLead wsX0_padAtLead := goodIn_r _ [14, 15, 16, 17, 18, 13, 19, 20, 5, 21, 70, 71, 72, 73, 74, 75, 76, 77, 78, 79, 80, 81] (by decide +kernel) (by decide +kernel)
set_option maxRecDepth 20000 in
theorem gX3_moveLead_X0_padAtLead : GoodIn wsX3_moveLead (wsV RX3 98 RX0 yX0_padAtLead wsX0_padAtLead) := goodIn_app (goodIn_of _ (by decide +kernel)) ggX3_moveLead_X0_padAtLead
set_option maxRecDepth 20000 in
theorem ggX3_moveLead_X0_xOfLead : GoodIn wsX3_moveLead wsX0_xOfLead := goodIn_r _ [25, 26, 4, 5, 6, 70, 71, 72, 73, 74, 75, 76, 77, 78, 79, 80, 81] (by decide +kernel) (by decide +kernel)
set_option maxRecDepth 20000 in
theorem gX3_moveLead_X0_xOfLead : GoodIn wsX3_moveLead (wsV RX3 101 RX0 yX0_xOfLead wsX0_xOfLead) := goodIn_app (goodIn_of _ (by decide +kernel)) ggX3_moveLead_X0_xOfLead
set_option maxRecDepth 20000 in
theorem ggX3_moveLead_X1_record : GoodIn wsX3_moveLead wsX1_record := goodIn_r _ [31, 32, 33, 34, 35, 30, 36, 37, 38, 39, 40, 41, 8, 5, 9, 42, 43, 44, 13, 45, 26, 46, 47, 48, 49, 15, 50, 51, 52, 53, 54, 55, 56, 57, 58, 59, 82, 83, 70, 71, 72, 73, 74, 75, 76, 77, 78, 79, 80, 81] (by decide +kernel) (by decide +kernel)
set_option maxRecDepth 20000 in
theorem gX3_moveLead_X1_record : GoodIn wsX3_moveLead (wsV RX3 54 RX1 yX1_record wsX1_record) := goodIn_app (goodIn_of _ (by decide +kernel)) ggX3_moveLead_X1_record
set_option maxRecDepth 20000 in
theorem ggX3_moveLead_X0_placeLead : GoodIn wsX3_moveLead wsX0_placeLead := goodIn_r _ [63, 26, 4, 5, 6, 70, 71, 72, 73, 74, 75, 76, 77, 78, 79, 80, 81] (by decide +kernel) (by decide +kernel)
set_option maxRecDepth 20000 in
theorem gX3_moveLead_X0_placeLead : GoodIn wsX3_moveLead (wsV RX3 104 RX0 yX0_placeLead wsX0_placeLead) := goodIn_app (goodIn_of _ (by decide +kernel)) ggX3_moveLead_X0_placeLead
theorem dX3_moveLead_0 : decode cX3_moveLead 0 = .ok (.iload_n 1, 1) := by decide +kernel
theorem dX3_moveLead_1 : decode cX3_moveLead 1 = .ok (.invokestatic 44, 3) := by decide +kernel
theorem dX3_moveLead_4 : decode cX3_moveLead 4 = .ok (.ifCond .ne 5, 3) := by decide +kernel
theorem dX3_moveLead_7 : decode cX3_moveLead 7 = .ok (.iconst (-1), 1) := by decide +kernel
theorem dX3_moveLead_8 : decode cX3_moveLead 8 = .ok (.ireturn, 1) := by decide +kernel
theorem dX3_moveLead_9 : decode cX3_moveLead 9 = .ok (.iload_n 2, 1) := by decide +kernel
theorem dX3_moveLead_10 : decode cX3_moveLead 10 = .ok (.iconst 0, 1) := by decide +kernel
theorem dX3_moveLead_11 : decode cX3_moveLead 11 = .ok (.sipush 600, 3) := by decide +kernel
theorem dX3_moveLead_14 : decode cX3_moveLead 14 = .ok (.invokestatic 94, 3) := by decide +kernel
theorem dX3_moveLead_17 : decode cX3_moveLead 17 = .ok (.ifCond .ne 6, 3) := by decide +kernel
theorem dX3_moveLead_20 : decode cX3_moveLead 20 = .ok (.bipush (-2), 2) := by decide +kernel
theorem dX3_moveLead_22 : decode cX3_moveLead 22 = .ok (.ireturn, 1) := by decide +kernel
theorem dX3_moveLead_23 : decode cX3_moveLead 23 = .ok (.aload_n 0, 1) := by decide +kernel
theorem dX3_moveLead_24 : decode cX3_moveLead 24 = .ok (.getfield 10, 3) := by decide +kernel
theorem dX3_moveLead_27 : decode cX3_moveLead 27 = .ok (.iload_n 1, 1) := by decide +kernel
theorem dX3_moveLead_28 : decode cX3_moveLead 28 = .ok (.invokevirtual 98, 3) := by decide +kernel
theorem dX3_moveLead_31 : decode cX3_moveLead 31 = .ok (.bipush (-5), 2) := by decide +kernel
theorem dX3_moveLead_33 : decode cX3_moveLead 33 = .ok (.if_icmp .eq 6, 3) := by decide +kernel
theorem dX3_moveLead_36 : decode cX3_moveLead 36 = .ok (.bipush (-4), 2) := by decide +kernel
theorem dX3_moveLead_38 : decode cX3_moveLead 38 = .ok (.ireturn, 1) := by decide +kernel
theorem dX3_moveLead_39 : decode cX3_moveLead 39 = .ok (.aload_n 0, 1) := by decide +kernel
theorem dX3_moveLead_40 : decode cX3_moveLead 40 = .ok (.getfield 10, 3) := by decide +kernel
theorem dX3_moveLead_43 : decode cX3_moveLead 43 = .ok (.iload_n 1, 1) := by decide +kernel
theorem dX3_moveLead_44 : decode cX3_moveLead 44 = .ok (.invokevirtual 101, 3) := by decide +kernel
theorem dX3_moveLead_47 : decode cX3_moveLead 47 = .ok (.istore_n 3, 1) := by decide +kernel
theorem dX3_moveLead_48 : decode cX3_moveLead 48 = .ok (.iload_n 3, 1) := by decide +kernel
theorem dX3_moveLead_49 : decode cX3_moveLead 49 = .ok (.iload_n 2, 1) := by decide +kernel
theorem dX3_moveLead_50 : decode cX3_moveLead 50 = .ok (.if_icmp .ne 6, 3) := by decide +kernel
theorem dX3_moveLead_53 : decode cX3_moveLead 53 = .ok (.bipush (-5), 2) := by decide +kernel
theorem dX3_moveLead_55 : decode cX3_moveLead 55 = .ok (.ireturn, 1) := by decide +kernel
theorem dX3_moveLead_56 : decode cX3_moveLead 56 = .ok (.aload_n 0, 1) := by decide +kernel
theorem dX3_moveLead_57 : decode cX3_moveLead 57 = .ok (.getfield 29, 3) := by decide +kernel
theorem dX3_moveLead_60 : decode cX3_moveLead 60 = .ok (.aload_n 0, 1) := by decide +kernel
theorem dX3_moveLead_61 : decode cX3_moveLead 61 = .ok (.getfield 10, 3) := by decide +kernel
theorem dX3_moveLead_64 : decode cX3_moveLead 64 = .ok (.invokevirtual 54, 3) := by decide +kernel
theorem dX3_moveLead_67 : decode cX3_moveLead 67 = .ok (.aload_n 0, 1) := by decide +kernel
theorem dX3_moveLead_68 : decode cX3_moveLead 68 = .ok (.getfield 10, 3) := by decide +kernel
theorem dX3_moveLead_71 : decode cX3_moveLead 71 = .ok (.iload_n 1, 1) := by decide +kernel
theorem dX3_moveLead_72 : decode cX3_moveLead 72 = .ok (.iload_n 2, 1) := by decide +kernel
theorem dX3_moveLead_73 : decode cX3_moveLead 73 = .ok (.invokevirtual 104, 3) := by decide +kernel
theorem dX3_moveLead_76 : decode cX3_moveLead 76 = .ok (.iload_n 3, 1) := by decide +kernel
theorem dX3_moveLead_77 : decode cX3_moveLead 77 = .ok (.ireturn, 1) := by decide +kernel
set_option maxRecDepth 20000 in
theorem ggX3_setWidth_X3_isWithin : GoodIn wsX3_setWidth wsX3_isWithin := goodIn_r _ [6] (by decide +kernel) (by decide +kernel)
set_option maxRecDepth 20000 in
theorem gX3_setWidth_X3_isWithin : GoodIn wsX3_setWidth (va_wsS RX3 94 yX3_isWithin wsX3_isWithin) := goodIn_app (goodIn_of _ (by decide +kernel)) ggX3_setWidth_X3_isWithin
set_option maxRecDepth 20000 in
theorem ggX3_setWidth_X1_record : GoodIn wsX3_setWidth wsX1_record := goodIn_r _ [11, 12, 13, 14, 15, 10, 16, 17, 18, 19, 20, 21, 4, 5, 6, 22, 23, 24, 25, 26, 27, 28, 29, 30, 31, 32, 33, 34, 35, 36, 37, 38, 39, 40, 41, 42, 61, 62, 49, 50, 51, 52, 53, 54, 55, 56, 57, 58, 59, 60] (by decide +kernel) (by decide +kernel)
set_option maxRecDepth 20000 in
theorem gX3_setWidth_X1_record : GoodIn wsX3_setWidth (wsV RX3 54 RX1 yX1_record wsX1_record) := goodIn_app (goodIn_of _ (by decide +kernel)) ggX3_setWidth_X1_record
theorem dX3_setWidth_0 : decode cX3_setWidth 0 = .ok (.iload_n 1, 1) := by decide +kernel
theorem dX3_setWidth_1 : decode cX3_setWidth 1 = .ok (.iconst 1, 1) := by decide +kernel
theorem dX3_setWidth_2 : decode cX3_setWidth 2 = .ok (.bipush 50, 2) := by decide +kernel
theorem dX3_setWidth_4 : decode cX3_setWidth 4 = .ok (.invokestatic 94, 3) := by decide +kernel
theorem dX3_setWidth_7 : decode cX3_setWidth 7 = .ok (.ifCond .ne 6, 3) := by decide +kernel
theorem dX3_setWidth_10 : decode cX3_setWidth 10 = .ok (.bipush (-2), 2) := by decide +kernel
theorem dX3_setWidth_12 : decode cX3_setWidth 12 = .ok (.ireturn, 1) := by decide +kernel
theorem dX3_setWidth_13 : decode cX3_setWidth 13 = .ok (.aload_n 0, 1) := by decide +kernel
theorem dX3_setWidth_14 : decode cX3_setWidth 14 = .ok (.getfield 10, 3) := by decide +kernel
theorem dX3_setWidth_17 : decode cX3_setWidth 17 = .ok (.getfield 107, 3) := by decide +kernel
theorem dX3_setWidth_20 : decode cX3_setWidth 20 = .ok (.istore_n 2, 1) := by decide +kernel
theorem dX3_setWidth_21 : decode cX3_setWidth 21 = .ok (.iload_n 2, 1) := by decide +kernel
theorem dX3_setWidth_22 : decode cX3_setWidth 22 = .ok (.iload_n 1, 1) := by decide +kernel
theorem dX3_setWidth_23 : decode cX3_setWidth 23 = .ok (.if_icmp .ne 6, 3) := by decide +kernel
theorem dX3_setWidth_26 : decode cX3_setWidth 26 = .ok (.bipush (-5), 2) := by decide +kernel
theorem dX3_setWidth_28 : decode cX3_setWidth 28 = .ok (.ireturn, 1) := by decide +kernel
theorem dX3_setWidth_29 : decode cX3_setWidth 29 = .ok (.aload_n 0, 1) := by decide +kernel
theorem dX3_setWidth_30 : decode cX3_setWidth 30 = .ok (.getfield 29, 3) := by decide +kernel
theorem dX3_setWidth_33 : decode cX3_setWidth 33 = .ok (.aload_n 0, 1) := by decide +kernel
theorem dX3_setWidth_34 : decode cX3_setWidth 34 = .ok (.getfield 10, 3) := by decide +kernel
theorem dX3_setWidth_37 : decode cX3_setWidth 37 = .ok (.invokevirtual 54, 3) := by decide +kernel
theorem dX3_setWidth_40 : decode cX3_setWidth 40 = .ok (.aload_n 0, 1) := by decide +kernel
theorem dX3_setWidth_41 : decode cX3_setWidth 41 = .ok (.getfield 10, 3) := by decide +kernel
theorem dX3_setWidth_44 : decode cX3_setWidth 44 = .ok (.iload_n 1, 1) := by decide +kernel
theorem dX3_setWidth_45 : decode cX3_setWidth 45 = .ok (.putfield 107, 3) := by decide +kernel
theorem dX3_setWidth_48 : decode cX3_setWidth 48 = .ok (.iload_n 2, 1) := by decide +kernel
theorem dX3_setWidth_49 : decode cX3_setWidth 49 = .ok (.ireturn, 1) := by decide +kernel
set_option maxRecDepth 20000 in
theorem ggX3_changeTool_X1_record : GoodIn wsX3_changeTool wsX1_record := goodIn_r _ [7, 8, 9, 10, 11, 6, 12, 13, 14, 15, 16, 17, 18, 19, 20, 21, 22, 23, 24, 25, 26, 27, 28, 29, 30, 31, 32, 33, 34, 35, 36, 37, 38, 39, 40, 41, 60, 61, 48, 49, 50, 51, 52, 53, 54, 55, 56, 57, 58, 59] (by decide +kernel) (by decide +kernel)
set_option maxRecDepth 20000 in
theorem gX3_changeTool_X1_record : GoodIn wsX3_changeTool (wsV RX3 54 RX1 yX1_record wsX1_record) := goodIn_app (goodIn_of _ (by decide +kernel)) ggX3_changeTool_X1_record
theorem dX3_changeTool_0 : decode cX3_changeTool 0 = .ok (.aload_n 0, 1) := by decide +kernel
theorem dX3_changeTool_1 : decode cX3_changeTool 1 = .ok (.getfield 10, 3) := by decide +kernel
theorem dX3_changeTool_4 : decode cX3_changeTool 4 = .ok (.getfield 111, 3) := by decide +kernel
theorem dX3_changeTool_7 : decode cX3_changeTool 7 = .ok (.istore_n 1, 1) := by decide +kernel
theorem dX3_changeTool_8 : decode cX3_changeTool 8 = .ok (.iload_n 1, 1) := by decide +kernel
theorem dX3_changeTool_9 : decode cX3_changeTool 9 = .ok (.ifCond .ne 6, 3) := by decide +kernel
theorem dX3_changeTool_12 : decode cX3_changeTool 12 = .ok (.bipush (-5), 2) := by decide +kernel
theorem dX3_changeTool_14 : decode cX3_changeTool 14 = .ok (.ireturn, 1) := by decide +kernel
theorem dX3_changeTool_15 : decode cX3_changeTool 15 = .ok (.aload_n 0, 1) := by decide +kernel
theorem dX3_changeTool_16 : decode cX3_changeTool 16 = .ok (.getfield 29, 3) := by decide +kernel
theorem dX3_changeTool_19 : decode cX3_changeTool 19 = .ok (.aload_n 0, 1) := by decide +kernel
theorem dX3_changeTool_20 : decode cX3_changeTool 20 = .ok (.getfield 10, 3) := by decide +kernel
theorem dX3_changeTool_23 : decode cX3_changeTool 23 = .ok (.invokevirtual 54, 3) := by decide +kernel
theorem dX3_changeTool_26 : decode cX3_changeTool 26 = .ok (.aload_n 0, 1) := by decide +kernel
theorem dX3_changeTool_27 : decode cX3_changeTool 27 = .ok (.getfield 10, 3) := by decide +kernel
theorem dX3_changeTool_30 : decode cX3_changeTool 30 = .ok (.iconst 0, 1) := by decide +kernel
theorem dX3_changeTool_31 : decode cX3_changeTool 31 = .ok (.putfield 111, 3) := by decide +kernel
theorem dX3_changeTool_34 : decode cX3_changeTool 34 = .ok (.aload_n 0, 1) := by decide +kernel
theorem dX3_changeTool_35 : decode cX3_changeTool 35 = .ok (.getfield 10, 3) := by decide +kernel
theorem dX3_changeTool_38 : decode cX3_changeTool 38 = .ok (.dup, 1) := by decide +kernel
theorem dX3_changeTool_39 : decode cX3_changeTool 39 = .ok (.getfield 114, 3) := by decide +kernel
theorem dX3_changeTool_42 : decode cX3_changeTool 42 = .ok (.iconst 1, 1) := by decide +kernel
theorem dX3_changeTool_43 : decode cX3_changeTool 43 = .ok (.iadd, 1) := by decide +kernel
theorem dX3_changeTool_44 : decode cX3_changeTool 44 = .ok (.putfield 114, 3) := by decide +kernel
theorem dX3_changeTool_47 : decode cX3_changeTool 47 = .ok (.iload_n 1, 1) := by decide +kernel
theorem dX3_changeTool_48 : decode cX3_changeTool 48 = .ok (.ireturn, 1) := by decide +kernel
set_option maxRecDepth 20000 in
theorem ggX3_thread_X1_record : GoodIn wsX3_thread wsX1_record := goodIn_r _ [7, 8, 9, 10, 11, 6, 12, 13, 14, 15, 16, 17, 18, 19, 20, 21, 22, 23, 24, 25, 26, 27, 28, 29, 30, 31, 32, 33, 34, 35, 36, 37, 38, 39, 40, 41, 60, 61, 48, 49, 50, 51, 52, 53, 54, 55, 56, 57, 58, 59] (by decide +kernel) (by decide +kernel)
set_option maxRecDepth 20000 in
theorem gX3_thread_X1_record : GoodIn wsX3_thread (wsV RX3 54 RX1 yX1_record wsX1_record) := goodIn_app (goodIn_of _ (by decide +kernel)) ggX3_thread_X1_record
theorem dX3_thread_0 : decode cX3_thread 0 = .ok (.aload_n 0, 1) := by decide +kernel
theorem dX3_thread_1 : decode cX3_thread 1 = .ok (.getfield 10, 3) := by decide +kernel
theorem dX3_thread_4 : decode cX3_thread 4 = .ok (.getfield 117, 3) := by decide +kernel
theorem dX3_thread_7 : decode cX3_thread 7 = .ok (.ifCond .ne 6, 3) := by decide +kernel
theorem dX3_thread_10 : decode cX3_thread 10 = .ok (.bipush (-5), 2) := by decide +kernel
theorem dX3_thread_12 : decode cX3_thread 12 = .ok (.ireturn, 1) := by decide +kernel
theorem dX3_thread_13 : decode cX3_thread 13 = .ok (.aload_n 0, 1) := by decide +kernel
theorem dX3_thread_14 : decode cX3_thread 14 = .ok (.getfield 29, 3) := by decide +kernel
theorem dX3_thread_17 : decode cX3_thread 17 = .ok (.aload_n 0, 1) := by decide +kernel
theorem dX3_thread_18 : decode cX3_thread 18 = .ok (.getfield 10, 3) := by decide +kernel
theorem dX3_thread_21 : decode cX3_thread 21 = .ok (.invokevirtual 54, 3) := by decide +kernel
theorem dX3_thread_24 : decode cX3_thread 24 = .ok (.aload_n 0, 1) := by decide +kernel
theorem dX3_thread_25 : decode cX3_thread 25 = .ok (.getfield 10, 3) := by decide +kernel
theorem dX3_thread_28 : decode cX3_thread 28 = .ok (.iconst 0, 1) := by decide +kernel
theorem dX3_thread_29 : decode cX3_thread 29 = .ok (.putfield 117, 3) := by decide +kernel
theorem dX3_thread_32 : decode cX3_thread 32 = .ok (.aload_n 0, 1) := by decide +kernel
theorem dX3_thread_33 : decode cX3_thread 33 = .ok (.getfield 10, 3) := by decide +kernel
theorem dX3_thread_36 : decode cX3_thread 36 = .ok (.getfield 120, 3) := by decide +kernel
theorem dX3_thread_39 : decode cX3_thread 39 = .ok (.ireturn, 1) := by decide +kernel
set_option maxRecDepth 20000 in
theorem ggX3_pull_X0_hasWire : GoodIn wsX3_pull wsX0_hasWire := goodIn_r _ [7, 8, 9, 10, 11, 72, 73, 74, 75, 76, 77, 78, 79, 80, 81, 82, 83] (by decide +kernel) (by decide +kernel)
set_option maxRecDepth 20000 in
theorem gX3_pull_X0_hasWire : GoodIn wsX3_pull (wsV RX3 80 RX0 yX0_hasWire wsX0_hasWire) := goodIn_app (goodIn_of _ (by decide +kernel)) ggX3_pull_X0_hasWire
set_option maxRecDepth 20000 in
theorem ggX3_pull_X3_isWithin : GoodIn wsX3_pull wsX3_isWithin := goodIn_r _ [14] (by decide +kernel) (by decide +kernel)
set_option maxRecDepth 20000 in
theorem gX3_pull_X3_isWithin : GoodIn wsX3_pull (va_wsS RX3 94 yX3_isWithin wsX3_isWithin) := goodIn_app (goodIn_of _ (by decide +kernel)) ggX3_pull_X3_isWithin
set_option maxRecDepth 20000 in
theorem ggX3_pull_X1_record : GoodIn wsX3_pull wsX1_record := goodIn_r _ [19, 20, 21, 22, 23, 18, 24, 25, 26, 27, 28, 29, 13, 10, 14, 30, 31, 32, 6, 33, 34, 35, 36, 37, 38, 8, 39, 40, 41, 42, 43, 44, 45, 46, 47, 48, 84, 85, 72, 73, 74, 75, 76, 77, 78, 79, 80, 81, 82, 83] (by decide +kernel) (by decide +kernel)
set_option maxRecDepth 20000 in
theorem gX3_pull_X1_record : GoodIn wsX3_pull (wsV RX3 54 RX1 yX1_record wsX1_record) := goodIn_app (goodIn_of _ (by decide +kernel)) ggX3_pull_X1_record
set_option maxRecDepth 20000 in
theorem ggX3_pull_X0_breaksUnder : GoodIn wsX3_pull wsX0_breaksUnder := goodIn_r _ [52, 40, 48, 53, 54, 55, 56, 57, 4, 5, 6, 7, 8, 9, 10, 11, 58, 59, 60, 61, 72, 73, 74, 75, 76, 77, 78, 79, 80, 81, 82, 83] (by decide +kernel) (by decide +kernel)
set_option maxRecDepth 20000 in
theorem gX3_pull_X0_breaksUnder : GoodIn wsX3_pull (wsV RX3 123 RX0 yX0_breaksUnder wsX0_breaksUnder) := goodIn_app (goodIn_of _ (by decide +kernel)) ggX3_pull_X0_breaksUnder
set_option maxRecDepth 20000 in
theorem ggX3_pull_X0_strengthOf : GoodIn wsX3_pull wsX0_strengthOf := goodIn_r _ [65, 40, 9, 10, 11, 72, 73, 74, 75, 76, 77, 78, 79, 80, 81, 82, 83] (by decide +kernel) (by decide +kernel)
set_option maxRecDepth 20000 in
theorem gX3_pull_X0_strengthOf : GoodIn wsX3_pull (wsV RX3 62 RX0 yX0_strengthOf wsX0_strengthOf) := goodIn_app (goodIn_of _ (by decide +kernel)) ggX3_pull_X0_strengthOf
theorem dX3_pull_0 : decode cX3_pull 0 = .ok (.aload_n 0, 1) := by decide +kernel
theorem dX3_pull_1 : decode cX3_pull 1 = .ok (.getfield 10, 3) := by decide +kernel
theorem dX3_pull_4 : decode cX3_pull 4 = .ok (.iload_n 1, 1) := by decide +kernel
theorem dX3_pull_5 : decode cX3_pull 5 = .ok (.invokevirtual 80, 3) := by decide +kernel
theorem dX3_pull_8 : decode cX3_pull 8 = .ok (.ifCond .ne 5, 3) := by decide +kernel
theorem dX3_pull_11 : decode cX3_pull 11 = .ok (.iconst (-1), 1) := by decide +kernel
theorem dX3_pull_12 : decode cX3_pull 12 = .ok (.ireturn, 1) := by decide +kernel
theorem dX3_pull_13 : decode cX3_pull 13 = .ok (.iload_n 2, 1) := by decide +kernel
theorem dX3_pull_14 : decode cX3_pull 14 = .ok (.iconst 1, 1) := by decide +kernel
theorem dX3_pull_15 : decode cX3_pull 15 = .ok (.bipush 100, 2) := by decide +kernel
theorem dX3_pull_17 : decode cX3_pull 17 = .ok (.invokestatic 94, 3) := by decide +kernel
theorem dX3_pull_20 : decode cX3_pull 20 = .ok (.ifCond .ne 6, 3) := by decide +kernel
theorem dX3_pull_23 : decode cX3_pull 23 = .ok (.bipush (-2), 2) := by decide +kernel
theorem dX3_pull_25 : decode cX3_pull 25 = .ok (.ireturn, 1) := by decide +kernel
theorem dX3_pull_26 : decode cX3_pull 26 = .ok (.aload_n 0, 1) := by decide +kernel
theorem dX3_pull_27 : decode cX3_pull 27 = .ok (.getfield 29, 3) := by decide +kernel
theorem dX3_pull_30 : decode cX3_pull 30 = .ok (.aload_n 0, 1) := by decide +kernel
theorem dX3_pull_31 : decode cX3_pull 31 = .ok (.getfield 10, 3) := by decide +kernel
theorem dX3_pull_34 : decode cX3_pull 34 = .ok (.invokevirtual 54, 3) := by decide +kernel
theorem dX3_pull_37 : decode cX3_pull 37 = .ok (.aload_n 0, 1) := by decide +kernel
theorem dX3_pull_38 : decode cX3_pull 38 = .ok (.getfield 10, 3) := by decide +kernel
theorem dX3_pull_41 : decode cX3_pull 41 = .ok (.iload_n 1, 1) := by decide +kernel
theorem dX3_pull_42 : decode cX3_pull 42 = .ok (.iload_n 2, 1) := by decide +kernel
theorem dX3_pull_43 : decode cX3_pull 43 = .ok (.invokevirtual 123, 3) := by decide +kernel
theorem dX3_pull_46 : decode cX3_pull 46 = .ok (.ifCond .eq 9, 3) := by decide +kernel
theorem dX3_pull_49 : decode cX3_pull 49 = .ok (.sipush 1000, 3) := by decide +kernel
theorem dX3_pull_52 : decode cX3_pull 52 = .ok (.goto 11, 3) := by decide +kernel
theorem dX3_pull_55 : decode cX3_pull 55 = .ok (.aload_n 0, 1) := by decide +kernel
theorem dX3_pull_56 : decode cX3_pull 56 = .ok (.getfield 10, 3) := by decide +kernel
theorem dX3_pull_59 : decode cX3_pull 59 = .ok (.iload_n 1, 1) := by decide +kernel
theorem dX3_pull_60 : decode cX3_pull 60 = .ok (.invokevirtual 62, 3) := by decide +kernel
theorem dX3_pull_63 : decode cX3_pull 63 = .ok (.ireturn, 1) := by decide +kernel
set_option maxRecDepth 20000 in
theorem ggX3_sample_X3_isWithin : GoodIn wsX3_sample wsX3_isWithin := goodIn_r _ [6] (by decide +kernel) (by decide +kernel)
set_option maxRecDepth 20000 in
theorem gX3_sample_X3_isWithin : GoodIn wsX3_sample (va_wsS RX3 94 yX3_isWithin wsX3_isWithin) := goodIn_app (goodIn_of _ (by decide +kernel)) ggX3_sample_X3_isWithin
set_option maxRecDepth 20000 in
theorem ggX3_sample_X0_wires : GoodIn wsX3_sample wsX0_wires := goodIn_r _ [11, 12, 13, 14, 10, 15, 16, 17, 5, 18, 75, 76, 77, 78, 79, 80, 81, 82, 83, 84, 85, 86] (by decide +kernel) (by decide +kernel)
set_option maxRecDepth 20000 in
theorem gX3_sample_X0_wires : GoodIn wsX3_sample (wsV RX3 77 RX0 yX0_wires wsX0_wires) := goodIn_app (goodIn_of _ (by decide +kernel)) ggX3_sample_X0_wires
set_option maxRecDepth 20000 in
theorem ggX3_sample_X1_record : GoodIn wsX3_sample wsX1_record := goodIn_r _ [23, 24, 25, 26, 27, 22, 28, 29, 30, 31, 32, 33, 4, 5, 6, 34, 35, 36, 10, 37, 38, 39, 40, 41, 42, 16, 43, 44, 45, 46, 47, 48, 49, 50, 51, 52, 87, 88, 75, 76, 77, 78, 79, 80, 81, 82, 83, 84, 85, 86] (by decide +kernel) (by decide +kernel)
set_option maxRecDepth 20000 in
theorem gX3_sample_X1_record : GoodIn wsX3_sample (wsV RX3 54 RX1 yX1_record wsX1_record) := goodIn_app (goodIn_of _ (by decide +kernel)) ggX3_sample_X1_record
set_option maxRecDepth 20000 in
theorem ggX3_sample_X0_breakingOfSample : GoodIn wsX3_sample wsX0_breakingOfSample := goodIn_r _ [56, 12, 13, 14, 10, 15, 16, 17, 5, 18, 57, 58, 59, 60, 44, 52, 61, 62, 63, 64, 65, 66, 67, 68, 75, 76, 77, 78, 79, 80, 81, 82, 83, 84, 85, 86] (by decide +kernel) (by decide +kernel)
set_option maxRecDepth 20000 in
theorem gX3_sample_X0_breakingOfSample : GoodIn wsX3_sample (wsV RX3 127 RX0 yX0_breakingOfSample wsX0_breakingOfSample) := goodIn_app (goodIn_of _ (by decide +kernel)) ggX3_sample_X0_breakingOfSample
theorem dX3_sample_0 : decode cX3_sample 0 = .ok (.iload_n 1, 1) := by decide +kernel
theorem dX3_sample_1 : decode cX3_sample 1 = .ok (.iconst 1, 1) := by decide +kernel
theorem dX3_sample_2 : decode cX3_sample 2 = .ok (.bipush 12, 2) := by decide +kernel
theorem dX3_sample_4 : decode cX3_sample 4 = .ok (.invokestatic 94, 3) := by decide +kernel
theorem dX3_sample_7 : decode cX3_sample 7 = .ok (.ifCond .eq 13, 3) := by decide +kernel
theorem dX3_sample_10 : decode cX3_sample 10 = .ok (.iload_n 2, 1) := by decide +kernel
theorem dX3_sample_11 : decode cX3_sample 11 = .ok (.iconst 1, 1) := by decide +kernel
theorem dX3_sample_12 : decode cX3_sample 12 = .ok (.bipush 100, 2) := by decide +kernel
theorem dX3_sample_14 : decode cX3_sample 14 = .ok (.invokestatic 94, 3) := by decide +kernel
theorem dX3_sample_17 : decode cX3_sample 17 = .ok (.ifCond .ne 6, 3) := by decide +kernel
theorem dX3_sample_20 : decode cX3_sample 20 = .ok (.bipush (-2), 2) := by decide +kernel
theorem dX3_sample_22 : decode cX3_sample 22 = .ok (.ireturn, 1) := by decide +kernel
theorem dX3_sample_23 : decode cX3_sample 23 = .ok (.aload_n 0, 1) := by decide +kernel
theorem dX3_sample_24 : decode cX3_sample 24 = .ok (.getfield 10, 3) := by decide +kernel
theorem dX3_sample_27 : decode cX3_sample 27 = .ok (.invokevirtual 77, 3) := by decide +kernel
theorem dX3_sample_30 : decode cX3_sample 30 = .ok (.ifCond .ne 6, 3) := by decide +kernel
theorem dX3_sample_33 : decode cX3_sample 33 = .ok (.bipush (-5), 2) := by decide +kernel
theorem dX3_sample_35 : decode cX3_sample 35 = .ok (.ireturn, 1) := by decide +kernel
theorem dX3_sample_36 : decode cX3_sample 36 = .ok (.aload_n 0, 1) := by decide +kernel
theorem dX3_sample_37 : decode cX3_sample 37 = .ok (.getfield 29, 3) := by decide +kernel
theorem dX3_sample_40 : decode cX3_sample 40 = .ok (.aload_n 0, 1) := by decide +kernel
theorem dX3_sample_41 : decode cX3_sample 41 = .ok (.getfield 10, 3) := by decide +kernel
theorem dX3_sample_44 : decode cX3_sample 44 = .ok (.invokevirtual 54, 3) := by decide +kernel
theorem dX3_sample_47 : decode cX3_sample 47 = .ok (.aload_n 0, 1) := by decide +kernel
theorem dX3_sample_48 : decode cX3_sample 48 = .ok (.getfield 10, 3) := by decide +kernel
theorem dX3_sample_51 : decode cX3_sample 51 = .ok (.iload_n 1, 1) := by decide +kernel
theorem dX3_sample_52 : decode cX3_sample 52 = .ok (.iload_n 2, 1) := by decide +kernel
theorem dX3_sample_53 : decode cX3_sample 53 = .ok (.invokevirtual 127, 3) := by decide +kernel
theorem dX3_sample_56 : decode cX3_sample 56 = .ok (.ireturn, 1) := by decide +kernel
set_option maxRecDepth 20000 in
theorem ggX3_type_X2_append : GoodIn wsX3_type wsX2_append := goodIn_r _ [6, 7, 8, 19, 20, 21, 22, 23, 24, 25] (by decide +kernel) (by decide +kernel)
set_option maxRecDepth 20000 in
theorem gX3_type_X2_append : GoodIn wsX3_type (wsV RX3 130 RX2 yX2_append wsX2_append) := goodIn_app (goodIn_of _ (by decide +kernel)) ggX3_type_X2_append
set_option maxRecDepth 20000 in
theorem ggX3_type_X2_length : GoodIn wsX3_type wsX2_length := goodIn_r _ [12, 7, 19, 20, 21, 22, 23, 24, 25] (by decide +kernel) (by decide +kernel)
set_option maxRecDepth 20000 in
theorem gX3_type_X2_length : GoodIn wsX3_type (wsV RX3 134 RX2 yX2_length wsX2_length) := goodIn_app (goodIn_of _ (by decide +kernel)) ggX3_type_X2_length
theorem dX3_type_0 : decode cX3_type 0 = .ok (.aload_n 0, 1) := by decide +kernel
theorem dX3_type_1 : decode cX3_type 1 = .ok (.getfield 36, 3) := by decide +kernel
theorem dX3_type_4 : decode cX3_type 4 = .ok (.iload_n 1, 1) := by decide +kernel
theorem dX3_type_5 : decode cX3_type 5 = .ok (.invokevirtual 130, 3) := by decide +kernel
theorem dX3_type_8 : decode cX3_type 8 = .ok (.ifCond .ne 6, 3) := by decide +kernel
theorem dX3_type_11 : decode cX3_type 11 = .ok (.bipush (-3), 2) := by decide +kernel
theorem dX3_type_13 : decode cX3_type 13 = .ok (.ireturn, 1) := by decide +kernel
theorem dX3_type_14 : decode cX3_type 14 = .ok (.aload_n 0, 1) := by decide +kernel
theorem dX3_type_15 : decode cX3_type 15 = .ok (.getfield 36, 3) := by decide +kernel
theorem dX3_type_18 : decode cX3_type 18 = .ok (.invokevirtual 134, 3) := by decide +kernel
theorem dX3_type_21 : decode cX3_type 21 = .ok (.ireturn, 1) := by decide +kernel
set_option maxRecDepth 20000 in
theorem ggX3_clearText_X2_length : GoodIn wsX3_clearText wsX2_length := goodIn_r _ [6, 7, 18, 19, 20, 21, 22, 23, 24] (by decide +kernel) (by decide +kernel)
set_option maxRecDepth 20000 in
theorem gX3_clearText_X2_length : GoodIn wsX3_clearText (wsV RX3 134 RX2 yX2_length wsX2_length) := goodIn_app (goodIn_of _ (by decide +kernel)) ggX3_clearText_X2_length
set_option maxRecDepth 20000 in
theorem ggX3_clearText_X2_empty : GoodIn wsX3_clearText wsX2_empty := goodIn_r _ [11, 7, 18, 19, 20, 21, 22, 23, 24] (by decide +kernel) (by decide +kernel)
set_option maxRecDepth 20000 in
theorem gX3_clearText_X2_empty : GoodIn wsX3_clearText (wsV RX3 137 RX2 yX2_empty wsX2_empty) := goodIn_app (goodIn_of _ (by decide +kernel)) ggX3_clearText_X2_empty
theorem dX3_clearText_0 : decode cX3_clearText 0 = .ok (.aload_n 0, 1) := by decide +kernel
theorem dX3_clearText_1 : decode cX3_clearText 1 = .ok (.getfield 36, 3) := by decide +kernel
theorem dX3_clearText_4 : decode cX3_clearText 4 = .ok (.invokevirtual 134, 3) := by decide +kernel
theorem dX3_clearText_7 : decode cX3_clearText 7 = .ok (.istore_n 1, 1) := by decide +kernel
theorem dX3_clearText_8 : decode cX3_clearText 8 = .ok (.aload_n 0, 1) := by decide +kernel
theorem dX3_clearText_9 : decode cX3_clearText 9 = .ok (.getfield 36, 3) := by decide +kernel
theorem dX3_clearText_12 : decode cX3_clearText 12 = .ok (.invokevirtual 137, 3) := by decide +kernel
theorem dX3_clearText_15 : decode cX3_clearText 15 = .ok (.iload_n 1, 1) := by decide +kernel
theorem dX3_clearText_16 : decode cX3_clearText 16 = .ok (.ireturn, 1) := by decide +kernel
set_option maxRecDepth 20000 in
theorem ggX3_undo_X1_states : GoodIn wsX3_undo wsX1_states := goodIn_r _ [7, 8, 48, 49] (by decide +kernel) (by decide +kernel)
set_option maxRecDepth 20000 in
theorem gX3_undo_X1_states : GoodIn wsX3_undo (wsV RX3 140 RX1 yX1_states wsX1_states) := goodIn_app (goodIn_of _ (by decide +kernel)) ggX3_undo_X1_states
set_option maxRecDepth 20000 in
theorem ggX3_undo_X1_takeLatest : GoodIn wsX3_undo wsX1_takeLatest := goodIn_r _ [12, 8, 13, 14, 15, 6, 16, 17, 18, 19, 20, 21, 22, 23, 24, 25, 26, 27, 28, 29, 30, 31, 32, 33, 34, 35, 36, 37, 38, 39, 40, 41, 48, 49, 50, 51, 52, 53, 54, 55, 56, 57, 58, 59, 60, 61] (by decide +kernel) (by decide +kernel)
set_option maxRecDepth 20000 in
theorem gX3_undo_X1_takeLatest : GoodIn wsX3_undo (wsV RX3 143 RX1 yX1_takeLatest wsX1_takeLatest) := goodIn_app (goodIn_of _ (by decide +kernel)) ggX3_undo_X1_takeLatest
theorem dX3_undo_0 : decode cX3_undo 0 = .ok (.aload_n 0, 1) := by decide +kernel
theorem dX3_undo_1 : decode cX3_undo 1 = .ok (.getfield 29, 3) := by decide +kernel
theorem dX3_undo_4 : decode cX3_undo 4 = .ok (.invokevirtual 140, 3) := by decide +kernel
theorem dX3_undo_7 : decode cX3_undo 7 = .ok (.ifCond .ne 6, 3) := by decide +kernel
theorem dX3_undo_10 : decode cX3_undo 10 = .ok (.bipush (-5), 2) := by decide +kernel
theorem dX3_undo_12 : decode cX3_undo 12 = .ok (.ireturn, 1) := by decide +kernel
theorem dX3_undo_13 : decode cX3_undo 13 = .ok (.aload_n 0, 1) := by decide +kernel
theorem dX3_undo_14 : decode cX3_undo 14 = .ok (.getfield 29, 3) := by decide +kernel
theorem dX3_undo_17 : decode cX3_undo 17 = .ok (.aload_n 0, 1) := by decide +kernel
theorem dX3_undo_18 : decode cX3_undo 18 = .ok (.getfield 10, 3) := by decide +kernel
theorem dX3_undo_21 : decode cX3_undo 21 = .ok (.invokevirtual 143, 3) := by decide +kernel
theorem dX3_undo_24 : decode cX3_undo 24 = .ok (.aload_n 0, 1) := by decide +kernel
theorem dX3_undo_25 : decode cX3_undo 25 = .ok (.getfield 29, 3) := by decide +kernel
theorem dX3_undo_28 : decode cX3_undo 28 = .ok (.invokevirtual 140, 3) := by decide +kernel
theorem dX3_undo_31 : decode cX3_undo 31 = .ok (.ireturn, 1) := by decide +kernel
