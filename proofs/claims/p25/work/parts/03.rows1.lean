theorem dX0_init_1 : decode cX0_init 1 = .ok (.invokespecial 3, 3) := by decide +kernel
theorem dX0_init_4 : decode cX0_init 4 = .ok (.aload_n 0, 1) := by decide +kernel
theorem dX0_init_5 : decode cX0_init 5 = .ok (.bipush 16, 2) := by decide +kernel
theorem dX0_init_7 : decode cX0_init 7 = .ok (.newarray .int, 2) := by decide +kernel
theorem dX0_init_9 : decode cX0_init 9 = .ok (.putfield 9, 3) := by decide +kernel
theorem dX0_init_12 : decode cX0_init 12 = .ok (.aload_n 0, 1) := by decide +kernel
theorem dX0_init_13 : decode cX0_init 13 = .ok (.bipush 12, 2) := by decide +kernel
theorem dX0_init_15 : decode cX0_init 15 = .ok (.newarray .int, 2) := by decide +kernel
theorem dX0_init_17 : decode cX0_init 17 = .ok (.putfield 15, 3) := by decide +kernel
theorem dX0_init_20 : decode cX0_init 20 = .ok (.aload_n 0, 1) := by decide +kernel
theorem dX0_init_21 : decode cX0_init 21 = .ok (.bipush 12, 2) := by decide +kernel
theorem dX0_init_23 : decode cX0_init 23 = .ok (.newarray .int, 2) := by decide +kernel
theorem dX0_init_25 : decode cX0_init 25 = .ok (.putfield 18, 3) := by decide +kernel
theorem dX0_init_28 : decode cX0_init 28 = .ok (.aload_n 0, 1) := by decide +kernel
theorem dX0_init_29 : decode cX0_init 29 = .ok (.bipush 12, 2) := by decide +kernel
theorem dX0_init_31 : decode cX0_init 31 = .ok (.newarray .int, 2) := by decide +kernel
theorem dX0_init_33 : decode cX0_init 33 = .ok (.putfield 21, 3) := by decide +kernel
theorem dX0_init_36 : decode cX0_init 36 = .ok (.aload_n 0, 1) := by decide +kernel
theorem dX0_init_37 : decode cX0_init 37 = .ok (.bipush 12, 2) := by decide +kernel
theorem dX0_init_39 : decode cX0_init 39 = .ok (.newarray .int, 2) := by decide +kernel
theorem dX0_init_41 : decode cX0_init 41 = .ok (.putfield 24, 3) := by decide +kernel
theorem dX0_init_44 : decode cX0_init 44 = .ok (.iconst 0, 1) := by decide +kernel
theorem dX0_init_45 : decode cX0_init 45 = .ok (.istore_n 1, 1) := by decide +kernel
theorem dX0_init_46 : decode cX0_init 46 = .ok (.iload_n 1, 1) := by decide +kernel
theorem dX0_init_47 : decode cX0_init 47 = .ok (.bipush 16, 2) := by decide +kernel
theorem dX0_init_49 : decode cX0_init 49 = .ok (.if_icmp .ge 19, 3) := by decide +kernel
theorem dX0_init_52 : decode cX0_init 52 = .ok (.aload_n 0, 1) := by decide +kernel
theorem dX0_init_53 : decode cX0_init 53 = .ok (.getfield 9, 3) := by decide +kernel
theorem dX0_init_56 : decode cX0_init 56 = .ok (.iload_n 1, 1) := by decide +kernel
theorem dX0_init_57 : decode cX0_init 57 = .ok (.bipush 40, 2) := by decide +kernel
theorem dX0_init_59 : decode cX0_init 59 = .ok (.iload_n 1, 1) := by decide +kernel
theorem dX0_init_60 : decode cX0_init 60 = .ok (.imul, 1) := by decide +kernel
theorem dX0_init_61 : decode cX0_init 61 = .ok (.iastore, 1) := by decide +kernel
theorem dX0_init_62 : decode cX0_init 62 = .ok (.iinc 1 1, 3) := by decide +kernel
theorem dX0_init_65 : decode cX0_init 65 = .ok (.goto (-19), 3) := by decide +kernel
theorem dX0_init_68 : decode cX0_init 68 = .ok (.aload_n 0, 1) := by decide +kernel
theorem dX0_init_69 : decode cX0_init 69 = .ok (.getfield 15, 3) := by decide +kernel
theorem dX0_init_72 : decode cX0_init 72 = .ok (.iconst (-1), 1) := by decide +kernel
theorem dX0_init_73 : decode cX0_init 73 = .ok (.invokestatic 27, 3) := by decide +kernel
theorem dX0_init_76 : decode cX0_init 76 = .ok (.aload_n 0, 1) := by decide +kernel
theorem dX0_init_77 : decode cX0_init 77 = .ok (.bipush 10, 2) := by decide +kernel
theorem dX0_init_79 : decode cX0_init 79 = .ok (.putfield 33, 3) := by decide +kernel
theorem dX0_init_82 : decode cX0_init 82 = .ok (.return_, 1) := by decide +kernel
theorem dX0_copyFrom_0 : decode cX0_copyFrom 0 = .ok (.aload_n 1, 1) := by decide +kernel
theorem dX0_copyFrom_1 : decode cX0_copyFrom 1 = .ok (.getfield 9, 3) := by decide +kernel
theorem dX0_copyFrom_4 : decode cX0_copyFrom 4 = .ok (.iconst 0, 1) := by decide +kernel
theorem dX0_copyFrom_5 : decode cX0_copyFrom 5 = .ok (.aload_n 0, 1) := by decide +kernel
theorem dX0_copyFrom_6 : decode cX0_copyFrom 6 = .ok (.getfield 9, 3) := by decide +kernel
theorem dX0_copyFrom_9 : decode cX0_copyFrom 9 = .ok (.iconst 0, 1) := by decide +kernel
theorem dX0_copyFrom_10 : decode cX0_copyFrom 10 = .ok (.bipush 16, 2) := by decide +kernel
theorem dX0_copyFrom_12 : decode cX0_copyFrom 12 = .ok (.invokestatic 37, 3) := by decide +kernel
theorem dX0_copyFrom_15 : decode cX0_copyFrom 15 = .ok (.aload_n 1, 1) := by decide +kernel
theorem dX0_copyFrom_16 : decode cX0_copyFrom 16 = .ok (.getfield 15, 3) := by decide +kernel
theorem dX0_copyFrom_19 : decode cX0_copyFrom 19 = .ok (.iconst 0, 1) := by decide +kernel
theorem dX0_copyFrom_20 : decode cX0_copyFrom 20 = .ok (.aload_n 0, 1) := by decide +kernel
theorem dX0_copyFrom_21 : decode cX0_copyFrom 21 = .ok (.getfield 15, 3) := by decide +kernel
theorem dX0_copyFrom_24 : decode cX0_copyFrom 24 = .ok (.iconst 0, 1) := by decide +kernel
theorem dX0_copyFrom_25 : decode cX0_copyFrom 25 = .ok (.bipush 12, 2) := by decide +kernel
theorem dX0_copyFrom_27 : decode cX0_copyFrom 27 = .ok (.invokestatic 37, 3) := by decide +kernel
theorem dX0_copyFrom_30 : decode cX0_copyFrom 30 = .ok (.aload_n 1, 1) := by decide +kernel
theorem dX0_copyFrom_31 : decode cX0_copyFrom 31 = .ok (.getfield 18, 3) := by decide +kernel
theorem dX0_copyFrom_34 : decode cX0_copyFrom 34 = .ok (.iconst 0, 1) := by decide +kernel
theorem dX0_copyFrom_35 : decode cX0_copyFrom 35 = .ok (.aload_n 0, 1) := by decide +kernel
theorem dX0_copyFrom_36 : decode cX0_copyFrom 36 = .ok (.getfield 18, 3) := by decide +kernel
theorem dX0_copyFrom_39 : decode cX0_copyFrom 39 = .ok (.iconst 0, 1) := by decide +kernel
theorem dX0_copyFrom_40 : decode cX0_copyFrom 40 = .ok (.bipush 12, 2) := by decide +kernel
theorem dX0_copyFrom_42 : decode cX0_copyFrom 42 = .ok (.invokestatic 37, 3) := by decide +kernel
theorem dX0_copyFrom_45 : decode cX0_copyFrom 45 = .ok (.aload_n 1, 1) := by decide +kernel
theorem dX0_copyFrom_46 : decode cX0_copyFrom 46 = .ok (.getfield 21, 3) := by decide +kernel
theorem dX0_copyFrom_49 : decode cX0_copyFrom 49 = .ok (.iconst 0, 1) := by decide +kernel
theorem dX0_copyFrom_50 : decode cX0_copyFrom 50 = .ok (.aload_n 0, 1) := by decide +kernel
theorem dX0_copyFrom_51 : decode cX0_copyFrom 51 = .ok (.getfield 21, 3) := by decide +kernel
theorem dX0_copyFrom_54 : decode cX0_copyFrom 54 = .ok (.iconst 0, 1) := by decide +kernel
theorem dX0_copyFrom_55 : decode cX0_copyFrom 55 = .ok (.bipush 12, 2) := by decide +kernel
theorem dX0_copyFrom_57 : decode cX0_copyFrom 57 = .ok (.invokestatic 37, 3) := by decide +kernel
theorem dX0_copyFrom_60 : decode cX0_copyFrom 60 = .ok (.aload_n 1, 1) := by decide +kernel
theorem dX0_copyFrom_61 : decode cX0_copyFrom 61 = .ok (.getfield 24, 3) := by decide +kernel
theorem dX0_copyFrom_64 : decode cX0_copyFrom 64 = .ok (.iconst 0, 1) := by decide +kernel
theorem dX0_copyFrom_65 : decode cX0_copyFrom 65 = .ok (.aload_n 0, 1) := by decide +kernel
theorem dX0_copyFrom_66 : decode cX0_copyFrom 66 = .ok (.getfield 24, 3) := by decide +kernel
theorem dX0_copyFrom_69 : decode cX0_copyFrom 69 = .ok (.iconst 0, 1) := by decide +kernel
theorem dX0_copyFrom_70 : decode cX0_copyFrom 70 = .ok (.bipush 12, 2) := by decide +kernel
theorem dX0_copyFrom_72 : decode cX0_copyFrom 72 = .ok (.invokestatic 37, 3) := by decide +kernel
theorem dX0_copyFrom_75 : decode cX0_copyFrom 75 = .ok (.aload_n 0, 1) := by decide +kernel
theorem dX0_copyFrom_76 : decode cX0_copyFrom 76 = .ok (.aload_n 1, 1) := by decide +kernel
theorem dX0_copyFrom_77 : decode cX0_copyFrom 77 = .ok (.getfield 43, 3) := by decide +kernel
theorem dX0_copyFrom_80 : decode cX0_copyFrom 80 = .ok (.putfield 43, 3) := by decide +kernel
theorem dX0_copyFrom_83 : decode cX0_copyFrom 83 = .ok (.aload_n 0, 1) := by decide +kernel
theorem dX0_copyFrom_84 : decode cX0_copyFrom 84 = .ok (.aload_n 1, 1) := by decide +kernel
theorem dX0_copyFrom_85 : decode cX0_copyFrom 85 = .ok (.getfield 33, 3) := by decide +kernel
theorem dX0_copyFrom_88 : decode cX0_copyFrom 88 = .ok (.putfield 33, 3) := by decide +kernel
theorem dX0_copyFrom_91 : decode cX0_copyFrom 91 = .ok (.aload_n 0, 1) := by decide +kernel
theorem dX0_copyFrom_92 : decode cX0_copyFrom 92 = .ok (.aload_n 1, 1) := by decide +kernel
theorem dX0_copyFrom_93 : decode cX0_copyFrom 93 = .ok (.getfield 46, 3) := by decide +kernel
theorem dX0_copyFrom_96 : decode cX0_copyFrom 96 = .ok (.putfield 46, 3) := by decide +kernel
theorem dX0_copyFrom_99 : decode cX0_copyFrom 99 = .ok (.aload_n 0, 1) := by decide +kernel
theorem dX0_copyFrom_100 : decode cX0_copyFrom 100 = .ok (.aload_n 1, 1) := by decide +kernel
theorem dX0_copyFrom_101 : decode cX0_copyFrom 101 = .ok (.getfield 49, 3) := by decide +kernel
theorem dX0_copyFrom_104 : decode cX0_copyFrom 104 = .ok (.putfield 49, 3) := by decide +kernel
theorem dX0_copyFrom_107 : decode cX0_copyFrom 107 = .ok (.aload_n 0, 1) := by decide +kernel
theorem dX0_copyFrom_108 : decode cX0_copyFrom 108 = .ok (.aload_n 1, 1) := by decide +kernel
theorem dX0_copyFrom_109 : decode cX0_copyFrom 109 = .ok (.getfield 52, 3) := by decide +kernel
theorem dX0_copyFrom_112 : decode cX0_copyFrom 112 = .ok (.putfield 52, 3) := by decide +kernel
theorem dX0_copyFrom_115 : decode cX0_copyFrom 115 = .ok (.aload_n 0, 1) := by decide +kernel
theorem dX0_copyFrom_116 : decode cX0_copyFrom 116 = .ok (.aload_n 1, 1) := by decide +kernel
theorem dX0_copyFrom_117 : decode cX0_copyFrom 117 = .ok (.getfield 56, 3) := by decide +kernel
theorem dX0_copyFrom_120 : decode cX0_copyFrom 120 = .ok (.putfield 56, 3) := by decide +kernel
theorem dX0_copyFrom_123 : decode cX0_copyFrom 123 = .ok (.aload_n 0, 1) := by decide +kernel
theorem dX0_copyFrom_124 : decode cX0_copyFrom 124 = .ok (.aload_n 1, 1) := by decide +kernel
theorem dX0_copyFrom_125 : decode cX0_copyFrom 125 = .ok (.getfield 59, 3) := by decide +kernel
theorem dX0_copyFrom_128 : decode cX0_copyFrom 128 = .ok (.putfield 59, 3) := by decide +kernel
theorem dX0_copyFrom_131 : decode cX0_copyFrom 131 = .ok (.return_, 1) := by decide +kernel
set_option maxRecDepth 20000 in
theorem ggX0_hasWire_X3_isPad : GoodIn wsX0_hasWire wsX3_isPad := goodIn_r _ [4] (by decide +kernel) (by decide +kernel)
set_option maxRecDepth 20000 in
theorem gX0_hasWire_X3_isPad_n62 : GoodIn wsX0_hasWire (wsX3_isPad) := ggX0_hasWire_X3_isPad
theorem dX0_hasWire_0 : decode cX0_hasWire 0 = .ok (.iload_n 1, 1) := by decide +kernel
theorem dX0_hasWire_1 : decode cX0_hasWire 1 = .ok (.invokestatic 62, 3) := by decide +kernel
theorem dX0_hasWire_4 : decode cX0_hasWire 4 = .ok (.ifCond .eq 17, 3) := by decide +kernel
theorem dX0_hasWire_7 : decode cX0_hasWire 7 = .ok (.aload_n 0, 1) := by decide +kernel
theorem dX0_hasWire_8 : decode cX0_hasWire 8 = .ok (.getfield 15, 3) := by decide +kernel
theorem dX0_hasWire_11 : decode cX0_hasWire 11 = .ok (.iload_n 1, 1) := by decide +kernel
theorem dX0_hasWire_12 : decode cX0_hasWire 12 = .ok (.iaload, 1) := by decide +kernel
theorem dX0_hasWire_13 : decode cX0_hasWire 13 = .ok (.iconst (-1), 1) := by decide +kernel
theorem dX0_hasWire_14 : decode cX0_hasWire 14 = .ok (.if_icmp .eq 7, 3) := by decide +kernel
theorem dX0_hasWire_17 : decode cX0_hasWire 17 = .ok (.iconst 1, 1) := by decide +kernel
theorem dX0_hasWire_18 : decode cX0_hasWire 18 = .ok (.goto 4, 3) := by decide +kernel
theorem dX0_hasWire_21 : decode cX0_hasWire 21 = .ok (.iconst 0, 1) := by decide +kernel
theorem dX0_hasWire_22 : decode cX0_hasWire 22 = .ok (.ireturn, 1) := by decide +kernel
set_option maxRecDepth 20000 in
theorem ggX0_leadAtPad_X3_isPad : GoodIn wsX0_leadAtPad wsX3_isPad := goodIn_r _ [4] (by decide +kernel) (by decide +kernel)
set_option maxRecDepth 20000 in
theorem gX0_leadAtPad_X3_isPad_n62 : GoodIn wsX0_leadAtPad (wsX3_isPad) := ggX0_leadAtPad_X3_isPad
theorem dX0_leadAtPad_0 : decode cX0_leadAtPad 0 = .ok (.iload_n 1, 1) := by decide +kernel
theorem dX0_leadAtPad_1 : decode cX0_leadAtPad 1 = .ok (.invokestatic 62, 3) := by decide +kernel
theorem dX0_leadAtPad_4 : decode cX0_leadAtPad 4 = .ok (.ifCond .eq 12, 3) := by decide +kernel
theorem dX0_leadAtPad_7 : decode cX0_leadAtPad 7 = .ok (.aload_n 0, 1) := by decide +kernel
theorem dX0_leadAtPad_8 : decode cX0_leadAtPad 8 = .ok (.getfield 15, 3) := by decide +kernel
theorem dX0_leadAtPad_11 : decode cX0_leadAtPad 11 = .ok (.iload_n 1, 1) := by decide +kernel
theorem dX0_leadAtPad_12 : decode cX0_leadAtPad 12 = .ok (.iaload, 1) := by decide +kernel
theorem dX0_leadAtPad_13 : decode cX0_leadAtPad 13 = .ok (.goto 4, 3) := by decide +kernel
theorem dX0_leadAtPad_16 : decode cX0_leadAtPad 16 = .ok (.iconst (-1), 1) := by decide +kernel
theorem dX0_leadAtPad_17 : decode cX0_leadAtPad 17 = .ok (.ireturn, 1) := by decide +kernel
set_option maxRecDepth 20000 in
theorem ggX0_heightOf_X3_isPad : GoodIn wsX0_heightOf wsX3_isPad := goodIn_r _ [4] (by decide +kernel) (by decide +kernel)
set_option maxRecDepth 20000 in
theorem gX0_heightOf_X3_isPad_n62 : GoodIn wsX0_heightOf (wsX3_isPad) := ggX0_heightOf_X3_isPad
theorem dX0_heightOf_0 : decode cX0_heightOf 0 = .ok (.iload_n 1, 1) := by decide +kernel
theorem dX0_heightOf_1 : decode cX0_heightOf 1 = .ok (.invokestatic 62, 3) := by decide +kernel
theorem dX0_heightOf_4 : decode cX0_heightOf 4 = .ok (.ifCond .eq 12, 3) := by decide +kernel
theorem dX0_heightOf_7 : decode cX0_heightOf 7 = .ok (.aload_n 0, 1) := by decide +kernel
theorem dX0_heightOf_8 : decode cX0_heightOf 8 = .ok (.getfield 18, 3) := by decide +kernel
theorem dX0_heightOf_11 : decode cX0_heightOf 11 = .ok (.iload_n 1, 1) := by decide +kernel
theorem dX0_heightOf_12 : decode cX0_heightOf 12 = .ok (.iaload, 1) := by decide +kernel
theorem dX0_heightOf_13 : decode cX0_heightOf 13 = .ok (.goto 4, 3) := by decide +kernel
theorem dX0_heightOf_16 : decode cX0_heightOf 16 = .ok (.iconst 0, 1) := by decide +kernel
theorem dX0_heightOf_17 : decode cX0_heightOf 17 = .ok (.ireturn, 1) := by decide +kernel
set_option maxRecDepth 20000 in
theorem ggX0_strengthOf_X3_isPad : GoodIn wsX0_strengthOf wsX3_isPad := goodIn_r _ [4] (by decide +kernel) (by decide +kernel)
set_option maxRecDepth 20000 in
theorem gX0_strengthOf_X3_isPad_n62 : GoodIn wsX0_strengthOf (wsX3_isPad) := ggX0_strengthOf_X3_isPad
theorem dX0_strengthOf_0 : decode cX0_strengthOf 0 = .ok (.iload_n 1, 1) := by decide +kernel
theorem dX0_strengthOf_1 : decode cX0_strengthOf 1 = .ok (.invokestatic 62, 3) := by decide +kernel
theorem dX0_strengthOf_4 : decode cX0_strengthOf 4 = .ok (.ifCond .eq 12, 3) := by decide +kernel
theorem dX0_strengthOf_7 : decode cX0_strengthOf 7 = .ok (.aload_n 0, 1) := by decide +kernel
theorem dX0_strengthOf_8 : decode cX0_strengthOf 8 = .ok (.getfield 21, 3) := by decide +kernel
theorem dX0_strengthOf_11 : decode cX0_strengthOf 11 = .ok (.iload_n 1, 1) := by decide +kernel
theorem dX0_strengthOf_12 : decode cX0_strengthOf 12 = .ok (.iaload, 1) := by decide +kernel
theorem dX0_strengthOf_13 : decode cX0_strengthOf 13 = .ok (.goto 4, 3) := by decide +kernel
theorem dX0_strengthOf_16 : decode cX0_strengthOf 16 = .ok (.iconst 0, 1) := by decide +kernel
theorem dX0_strengthOf_17 : decode cX0_strengthOf 17 = .ok (.ireturn, 1) := by decide +kernel
set_option maxRecDepth 20000 in
theorem ggX0_numberOf_X3_isPad : GoodIn wsX0_numberOf wsX3_isPad := goodIn_r _ [4] (by decide +kernel) (by decide +kernel)
set_option maxRecDepth 20000 in
theorem gX0_numberOf_X3_isPad_n62 : GoodIn wsX0_numberOf (wsX3_isPad) := ggX0_numberOf_X3_isPad
theorem dX0_numberOf_0 : decode cX0_numberOf 0 = .ok (.iload_n 1, 1) := by decide +kernel
theorem dX0_numberOf_1 : decode cX0_numberOf 1 = .ok (.invokestatic 62, 3) := by decide +kernel
theorem dX0_numberOf_4 : decode cX0_numberOf 4 = .ok (.ifCond .eq 12, 3) := by decide +kernel
theorem dX0_numberOf_7 : decode cX0_numberOf 7 = .ok (.aload_n 0, 1) := by decide +kernel
theorem dX0_numberOf_8 : decode cX0_numberOf 8 = .ok (.getfield 24, 3) := by decide +kernel
theorem dX0_numberOf_11 : decode cX0_numberOf 11 = .ok (.iload_n 1, 1) := by decide +kernel
theorem dX0_numberOf_12 : decode cX0_numberOf 12 = .ok (.iaload, 1) := by decide +kernel
theorem dX0_numberOf_13 : decode cX0_numberOf 13 = .ok (.goto 4, 3) := by decide +kernel
theorem dX0_numberOf_16 : decode cX0_numberOf 16 = .ok (.iconst 0, 1) := by decide +kernel
theorem dX0_numberOf_17 : decode cX0_numberOf 17 = .ok (.ireturn, 1) := by decide +kernel
set_option maxRecDepth 20000 in
theorem ggX0_xOfLead_X3_isLead : GoodIn wsX0_xOfLead wsX3_isLead := goodIn_r _ [4] (by decide +kernel) (by decide +kernel)
set_option maxRecDepth 20000 in
theorem gX0_xOfLead_X3_isLead_n66 : GoodIn wsX0_xOfLead (wsX3_isLead) := ggX0_xOfLead_X3_isLead
theorem dX0_xOfLead_0 : decode cX0_xOfLead 0 = .ok (.iload_n 1, 1) := by decide +kernel
theorem dX0_xOfLead_1 : decode cX0_xOfLead 1 = .ok (.invokestatic 66, 3) := by decide +kernel
theorem dX0_xOfLead_4 : decode cX0_xOfLead 4 = .ok (.ifCond .eq 12, 3) := by decide +kernel
theorem dX0_xOfLead_7 : decode cX0_xOfLead 7 = .ok (.aload_n 0, 1) := by decide +kernel
theorem dX0_xOfLead_8 : decode cX0_xOfLead 8 = .ok (.getfield 9, 3) := by decide +kernel
theorem dX0_xOfLead_11 : decode cX0_xOfLead 11 = .ok (.iload_n 1, 1) := by decide +kernel
theorem dX0_xOfLead_12 : decode cX0_xOfLead 12 = .ok (.iaload, 1) := by decide +kernel
theorem dX0_xOfLead_13 : decode cX0_xOfLead 13 = .ok (.goto 4, 3) := by decide +kernel
theorem dX0_xOfLead_16 : decode cX0_xOfLead 16 = .ok (.iconst 0, 1) := by decide +kernel
theorem dX0_xOfLead_17 : decode cX0_xOfLead 17 = .ok (.ireturn, 1) := by decide +kernel
set_option maxRecDepth 20000 in
theorem ggX0_padAtLead_X0_hasWire : GoodIn wsX0_padAtLead wsX0_hasWire := goodIn_r _ [6, 1, 7, 8, 9, 10, 11, 12, 13, 14, 15, 16, 17, 18, 19, 20, 21] (by decide +kernel) (by decide +kernel)
set_option maxRecDepth 20000 in
theorem gX0_padAtLead_X0_hasWire : GoodIn wsX0_padAtLead (wsV RX0 69 RX0 yX0_hasWire wsX0_hasWire) := goodIn_app (goodIn_of _ (by decide +kernel)) ggX0_padAtLead_X0_hasWire
theorem dX0_padAtLead_0 : decode cX0_padAtLead 0 = .ok (.iconst 0, 1) := by decide +kernel
theorem dX0_padAtLead_1 : decode cX0_padAtLead 1 = .ok (.istore_n 2, 1) := by decide +kernel
theorem dX0_padAtLead_2 : decode cX0_padAtLead 2 = .ok (.iload_n 2, 1) := by decide +kernel
theorem dX0_padAtLead_3 : decode cX0_padAtLead 3 = .ok (.bipush 12, 2) := by decide +kernel
theorem dX0_padAtLead_5 : decode cX0_padAtLead 5 = .ok (.if_icmp .ge 29, 3) := by decide +kernel
theorem dX0_padAtLead_8 : decode cX0_padAtLead 8 = .ok (.aload_n 0, 1) := by decide +kernel
theorem dX0_padAtLead_9 : decode cX0_padAtLead 9 = .ok (.iload_n 2, 1) := by decide +kernel
theorem dX0_padAtLead_10 : decode cX0_padAtLead 10 = .ok (.invokevirtual 69, 3) := by decide +kernel
theorem dX0_padAtLead_13 : decode cX0_padAtLead 13 = .ok (.ifCond .eq 15, 3) := by decide +kernel
theorem dX0_padAtLead_16 : decode cX0_padAtLead 16 = .ok (.aload_n 0, 1) := by decide +kernel
theorem dX0_padAtLead_17 : decode cX0_padAtLead 17 = .ok (.getfield 15, 3) := by decide +kernel
theorem dX0_padAtLead_20 : decode cX0_padAtLead 20 = .ok (.iload_n 2, 1) := by decide +kernel
theorem dX0_padAtLead_21 : decode cX0_padAtLead 21 = .ok (.iaload, 1) := by decide +kernel
theorem dX0_padAtLead_22 : decode cX0_padAtLead 22 = .ok (.iload_n 1, 1) := by decide +kernel
theorem dX0_padAtLead_23 : decode cX0_padAtLead 23 = .ok (.if_icmp .ne 5, 3) := by decide +kernel
theorem dX0_padAtLead_26 : decode cX0_padAtLead 26 = .ok (.iload_n 2, 1) := by decide +kernel
theorem dX0_padAtLead_27 : decode cX0_padAtLead 27 = .ok (.ireturn, 1) := by decide +kernel
theorem dX0_padAtLead_28 : decode cX0_padAtLead 28 = .ok (.iinc 2 1, 3) := by decide +kernel
theorem dX0_padAtLead_31 : decode cX0_padAtLead 31 = .ok (.goto (-29), 3) := by decide +kernel
theorem dX0_padAtLead_34 : decode cX0_padAtLead 34 = .ok (.bipush (-5), 2) := by decide +kernel
theorem dX0_padAtLead_36 : decode cX0_padAtLead 36 = .ok (.ireturn, 1) := by decide +kernel
theorem dX0_endX_0 : decode cX0_endX 0 = .ok (.iload_n 1, 1) := by decide +kernel
theorem dX0_endX_1 : decode cX0_endX 1 = .ok (.ifCond .lt 18, 3) := by decide +kernel
theorem dX0_endX_4 : decode cX0_endX 4 = .ok (.iload_n 1, 1) := by decide +kernel
theorem dX0_endX_5 : decode cX0_endX 5 = .ok (.bipush 12, 2) := by decide +kernel
theorem dX0_endX_7 : decode cX0_endX 7 = .ok (.if_icmp .ge 12, 3) := by decide +kernel
theorem dX0_endX_10 : decode cX0_endX 10 = .ok (.aload_n 0, 1) := by decide +kernel
theorem dX0_endX_11 : decode cX0_endX 11 = .ok (.getfield 15, 3) := by decide +kernel
theorem dX0_endX_14 : decode cX0_endX 14 = .ok (.iload_n 1, 1) := by decide +kernel
theorem dX0_endX_15 : decode cX0_endX 15 = .ok (.iaload, 1) := by decide +kernel
theorem dX0_endX_16 : decode cX0_endX 16 = .ok (.goto 4, 3) := by decide +kernel
theorem dX0_endX_19 : decode cX0_endX 19 = .ok (.iconst (-1), 1) := by decide +kernel
theorem dX0_endX_20 : decode cX0_endX 20 = .ok (.istore_n 2, 1) := by decide +kernel
theorem dX0_endX_21 : decode cX0_endX 21 = .ok (.iload_n 2, 1) := by decide +kernel
theorem dX0_endX_22 : decode cX0_endX 22 = .ok (.ifCond .lt 18, 3) := by decide +kernel
theorem dX0_endX_25 : decode cX0_endX 25 = .ok (.iload_n 2, 1) := by decide +kernel
theorem dX0_endX_26 : decode cX0_endX 26 = .ok (.bipush 16, 2) := by decide +kernel
theorem dX0_endX_28 : decode cX0_endX 28 = .ok (.if_icmp .ge 12, 3) := by decide +kernel
theorem dX0_endX_31 : decode cX0_endX 31 = .ok (.aload_n 0, 1) := by decide +kernel
theorem dX0_endX_32 : decode cX0_endX 32 = .ok (.getfield 9, 3) := by decide +kernel
theorem dX0_endX_35 : decode cX0_endX 35 = .ok (.iload_n 2, 1) := by decide +kernel
theorem dX0_endX_36 : decode cX0_endX 36 = .ok (.iaload, 1) := by decide +kernel
theorem dX0_endX_37 : decode cX0_endX 37 = .ok (.goto 4, 3) := by decide +kernel
theorem dX0_endX_40 : decode cX0_endX 40 = .ok (.iconst 0, 1) := by decide +kernel
theorem dX0_endX_41 : decode cX0_endX 41 = .ok (.ireturn, 1) := by decide +kernel
set_option maxRecDepth 20000 in
theorem ggX0_changeHeight_X3_isPad : GoodIn wsX0_changeHeight wsX3_isPad := goodIn_r _ [4] (by decide +kernel) (by decide +kernel)
set_option maxRecDepth 20000 in
theorem gX0_changeHeight_X3_isPad_n62 : GoodIn wsX0_changeHeight (wsX3_isPad) := ggX0_changeHeight_X3_isPad
theorem dX0_changeHeight_0 : decode cX0_changeHeight 0 = .ok (.iload_n 1, 1) := by decide +kernel
theorem dX0_changeHeight_1 : decode cX0_changeHeight 1 = .ok (.invokestatic 62, 3) := by decide +kernel
theorem dX0_changeHeight_4 : decode cX0_changeHeight 4 = .ok (.ifCond .eq 10, 3) := by decide +kernel
theorem dX0_changeHeight_7 : decode cX0_changeHeight 7 = .ok (.aload_n 0, 1) := by decide +kernel
theorem dX0_changeHeight_8 : decode cX0_changeHeight 8 = .ok (.getfield 18, 3) := by decide +kernel
theorem dX0_changeHeight_11 : decode cX0_changeHeight 11 = .ok (.iload_n 1, 1) := by decide +kernel
theorem dX0_changeHeight_12 : decode cX0_changeHeight 12 = .ok (.iload_n 2, 1) := by decide +kernel
theorem dX0_changeHeight_13 : decode cX0_changeHeight 13 = .ok (.iastore, 1) := by decide +kernel
theorem dX0_changeHeight_14 : decode cX0_changeHeight 14 = .ok (.return_, 1) := by decide +kernel
set_option maxRecDepth 20000 in
theorem ggX0_placeLead_X3_isLead : GoodIn wsX0_placeLead wsX3_isLead := goodIn_r _ [4] (by decide +kernel) (by decide +kernel)
set_option maxRecDepth 20000 in
theorem gX0_placeLead_X3_isLead_n66 : GoodIn wsX0_placeLead (wsX3_isLead) := ggX0_placeLead_X3_isLead
theorem dX0_placeLead_0 : decode cX0_placeLead 0 = .ok (.iload_n 1, 1) := by decide +kernel
theorem dX0_placeLead_1 : decode cX0_placeLead 1 = .ok (.invokestatic 66, 3) := by decide +kernel
theorem dX0_placeLead_4 : decode cX0_placeLead 4 = .ok (.ifCond .eq 10, 3) := by decide +kernel
theorem dX0_placeLead_7 : decode cX0_placeLead 7 = .ok (.aload_n 0, 1) := by decide +kernel
theorem dX0_placeLead_8 : decode cX0_placeLead 8 = .ok (.getfield 9, 3) := by decide +kernel
theorem dX0_placeLead_11 : decode cX0_placeLead 11 = .ok (.iload_n 1, 1) := by decide +kernel
theorem dX0_placeLead_12 : decode cX0_placeLead 12 = .ok (.iload_n 2, 1) := by decide +kernel
theorem dX0_placeLead_13 : decode cX0_placeLead 13 = .ok (.iastore, 1) := by decide +kernel
theorem dX0_placeLead_14 : decode cX0_placeLead 14 = .ok (.return_, 1) := by decide +kernel
set_option maxRecDepth 20000 in
theorem ggX0_errorOfLaying_X0_hasWire : GoodIn wsX0_errorOfLaying wsX0_hasWire := goodIn_r _ [7, 8, 9, 10, 11, 16, 17, 18, 19, 20, 21, 22, 23, 24, 25, 26, 27] (by decide +kernel) (by decide +kernel)
set_option maxRecDepth 20000 in
theorem gX0_errorOfLaying_X0_hasWire : GoodIn wsX0_errorOfLaying (wsV RX0 69 RX0 yX0_hasWire wsX0_hasWire) := goodIn_app (goodIn_of _ (by decide +kernel)) ggX0_errorOfLaying_X0_hasWire
set_option maxRecDepth 20000 in
theorem ggX0_errorOfLaying_X0_padAtLead : GoodIn wsX0_errorOfLaying wsX0_padAtLead := goodIn_r _ [15, 8, 3, 4, 5, 6, 7, 9, 10, 11, 16, 17, 18, 19, 20, 21, 22, 23, 24, 25, 26, 27] (by decide +kernel) (by decide +kernel)
set_option maxRecDepth 20000 in
theorem gX0_errorOfLaying_X0_padAtLead : GoodIn wsX0_errorOfLaying (wsV RX0 72 RX0 yX0_padAtLead wsX0_padAtLead) := goodIn_app (goodIn_of _ (by decide +kernel)) ggX0_errorOfLaying_X0_padAtLead
theorem dX0_errorOfLaying_0 : decode cX0_errorOfLaying 0 = .ok (.aload_n 0, 1) := by decide +kernel
theorem dX0_errorOfLaying_1 : decode cX0_errorOfLaying 1 = .ok (.iload_n 1, 1) := by decide +kernel
theorem dX0_errorOfLaying_2 : decode cX0_errorOfLaying 2 = .ok (.invokevirtual 69, 3) := by decide +kernel
theorem dX0_errorOfLaying_5 : decode cX0_errorOfLaying 5 = .ok (.ifCond .ne 13, 3) := by decide +kernel
theorem dX0_errorOfLaying_8 : decode cX0_errorOfLaying 8 = .ok (.aload_n 0, 1) := by decide +kernel
theorem dX0_errorOfLaying_9 : decode cX0_errorOfLaying 9 = .ok (.iload_n 2, 1) := by decide +kernel
theorem dX0_errorOfLaying_10 : decode cX0_errorOfLaying 10 = .ok (.invokevirtual 72, 3) := by decide +kernel
theorem dX0_errorOfLaying_13 : decode cX0_errorOfLaying 13 = .ok (.bipush (-5), 2) := by decide +kernel
theorem dX0_errorOfLaying_15 : decode cX0_errorOfLaying 15 = .ok (.if_icmp .eq 6, 3) := by decide +kernel
theorem dX0_errorOfLaying_18 : decode cX0_errorOfLaying 18 = .ok (.bipush (-4), 2) := by decide +kernel
theorem dX0_errorOfLaying_20 : decode cX0_errorOfLaying 20 = .ok (.ireturn, 1) := by decide +kernel
theorem dX0_errorOfLaying_21 : decode cX0_errorOfLaying 21 = .ok (.aload_n 0, 1) := by decide +kernel
theorem dX0_errorOfLaying_22 : decode cX0_errorOfLaying 22 = .ok (.getfield 52, 3) := by decide +kernel
theorem dX0_errorOfLaying_25 : decode cX0_errorOfLaying 25 = .ok (.ifCond .eq 6, 3) := by decide +kernel
theorem dX0_errorOfLaying_28 : decode cX0_errorOfLaying 28 = .ok (.bipush (-6), 2) := by decide +kernel
theorem dX0_errorOfLaying_30 : decode cX0_errorOfLaying 30 = .ok (.ireturn, 1) := by decide +kernel
theorem dX0_errorOfLaying_31 : decode cX0_errorOfLaying 31 = .ok (.aload_n 0, 1) := by decide +kernel
theorem dX0_errorOfLaying_32 : decode cX0_errorOfLaying 32 = .ok (.getfield 46, 3) := by decide +kernel
theorem dX0_errorOfLaying_35 : decode cX0_errorOfLaying 35 = .ok (.sipush 200, 3) := by decide +kernel
theorem dX0_errorOfLaying_38 : decode cX0_errorOfLaying 38 = .ok (.if_icmp .lt 8, 3) := by decide +kernel
theorem dX0_errorOfLaying_41 : decode cX0_errorOfLaying 41 = .ok (.bipush (-7), 2) := by decide +kernel
theorem dX0_errorOfLaying_43 : decode cX0_errorOfLaying 43 = .ok (.goto 4, 3) := by decide +kernel
theorem dX0_errorOfLaying_46 : decode cX0_errorOfLaying 46 = .ok (.iconst 0, 1) := by decide +kernel
theorem dX0_errorOfLaying_47 : decode cX0_errorOfLaying 47 = .ok (.ireturn, 1) := by decide +kernel
set_option maxRecDepth 20000 in
theorem ggX0_addWire_X3_isPad : GoodIn wsX0_addWire wsX3_isPad := goodIn_r _ [11] (by decide +kernel) (by decide +kernel)
set_option maxRecDepth 20000 in
theorem gX0_addWire_X3_isPad_n62 : GoodIn wsX0_addWire (wsX3_isPad) := ggX0_addWire_X3_isPad
set_option maxRecDepth 20000 in
theorem ggX0_addWire_X3_isLead : GoodIn wsX0_addWire wsX3_isLead := goodIn_r _ [13] (by decide +kernel) (by decide +kernel)
set_option maxRecDepth 20000 in
theorem gX0_addWire_X3_isLead_n66 : GoodIn wsX0_addWire (wsX3_isLead) := ggX0_addWire_X3_isLead
set_option maxRecDepth 20000 in
theorem ggX0_addWire_X0_newStrength : GoodIn wsX0_addWire wsX0_newStrength := goodIn_r _ [18, 6, 19, 20, 21, 22, 23, 24, 25, 26, 10, 27, 28, 29, 30, 17, 31, 32, 12, 13, 39, 40, 41, 42, 43, 44, 45, 46, 47, 48, 49, 50] (by decide +kernel) (by decide +kernel)
set_option maxRecDepth 20000 in
theorem gX0_addWire_X0_newStrength : GoodIn wsX0_addWire (wsV RX0 76 RX0 yX0_newStrength wsX0_newStrength) := goodIn_app (goodIn_of _ (by decide +kernel)) ggX0_addWire_X0_newStrength
set_option maxRecDepth 20000 in
theorem ggX0_addWire_X0_wearOfLaying : GoodIn wsX0_addWire wsX0_wearOfLaying := goodIn_r _ [35] (by decide +kernel) (by decide +kernel)
set_option maxRecDepth 20000 in
theorem gX0_addWire_X0_wearOfLaying : GoodIn wsX0_addWire (va_wsS RX0 80 yX0_wearOfLaying wsX0_wearOfLaying) := goodIn_app (goodIn_of _ (by decide +kernel)) ggX0_addWire_X0_wearOfLaying
set_option maxRecDepth 20000 in
theorem ggX0_addWire_X0_losesTail : GoodIn wsX0_addWire wsX0_losesTail := goodIn_r _ [38] (by decide +kernel) (by decide +kernel)
set_option maxRecDepth 20000 in
theorem gX0_addWire_X0_losesTail : GoodIn wsX0_addWire (va_wsS RX0 83 yX0_losesTail wsX0_losesTail) := goodIn_app (goodIn_of _ (by decide +kernel)) ggX0_addWire_X0_losesTail
theorem dX0_addWire_0 : decode cX0_addWire 0 = .ok (.iload_n 1, 1) := by decide +kernel
theorem dX0_addWire_1 : decode cX0_addWire 1 = .ok (.invokestatic 62, 3) := by decide +kernel
theorem dX0_addWire_4 : decode cX0_addWire 4 = .ok (.ifCond .eq 10, 3) := by decide +kernel
theorem dX0_addWire_7 : decode cX0_addWire 7 = .ok (.iload_n 2, 1) := by decide +kernel
theorem dX0_addWire_8 : decode cX0_addWire 8 = .ok (.invokestatic 66, 3) := by decide +kernel
theorem dX0_addWire_11 : decode cX0_addWire 11 = .ok (.ifCond .ne 4, 3) := by decide +kernel
theorem dX0_addWire_14 : decode cX0_addWire 14 = .ok (.return_, 1) := by decide +kernel
theorem dX0_addWire_15 : decode cX0_addWire 15 = .ok (.aload_n 0, 1) := by decide +kernel
theorem dX0_addWire_16 : decode cX0_addWire 16 = .ok (.getfield 15, 3) := by decide +kernel
theorem dX0_addWire_19 : decode cX0_addWire 19 = .ok (.iload_n 1, 1) := by decide +kernel
theorem dX0_addWire_20 : decode cX0_addWire 20 = .ok (.iload_n 2, 1) := by decide +kernel
theorem dX0_addWire_21 : decode cX0_addWire 21 = .ok (.iastore, 1) := by decide +kernel
theorem dX0_addWire_22 : decode cX0_addWire 22 = .ok (.aload_n 0, 1) := by decide +kernel
theorem dX0_addWire_23 : decode cX0_addWire 23 = .ok (.getfield 18, 3) := by decide +kernel
theorem dX0_addWire_26 : decode cX0_addWire 26 = .ok (.iload_n 1, 1) := by decide +kernel
theorem dX0_addWire_27 : decode cX0_addWire 27 = .ok (.iload_n 3, 1) := by decide +kernel
theorem dX0_addWire_28 : decode cX0_addWire 28 = .ok (.iastore, 1) := by decide +kernel
theorem dX0_addWire_29 : decode cX0_addWire 29 = .ok (.aload_n 0, 1) := by decide +kernel
theorem dX0_addWire_30 : decode cX0_addWire 30 = .ok (.getfield 21, 3) := by decide +kernel
theorem dX0_addWire_33 : decode cX0_addWire 33 = .ok (.iload_n 1, 1) := by decide +kernel
theorem dX0_addWire_34 : decode cX0_addWire 34 = .ok (.aload_n 0, 1) := by decide +kernel
theorem dX0_addWire_35 : decode cX0_addWire 35 = .ok (.iload_n 1, 1) := by decide +kernel
theorem dX0_addWire_36 : decode cX0_addWire 36 = .ok (.iload_n 2, 1) := by decide +kernel
theorem dX0_addWire_37 : decode cX0_addWire 37 = .ok (.invokevirtual 76, 3) := by decide +kernel
theorem dX0_addWire_40 : decode cX0_addWire 40 = .ok (.iastore, 1) := by decide +kernel
theorem dX0_addWire_41 : decode cX0_addWire 41 = .ok (.aload_n 0, 1) := by decide +kernel
theorem dX0_addWire_42 : decode cX0_addWire 42 = .ok (.getfield 24, 3) := by decide +kernel
theorem dX0_addWire_45 : decode cX0_addWire 45 = .ok (.iload_n 1, 1) := by decide +kernel
theorem dX0_addWire_46 : decode cX0_addWire 46 = .ok (.aload_n 0, 1) := by decide +kernel
theorem dX0_addWire_47 : decode cX0_addWire 47 = .ok (.getfield 43, 3) := by decide +kernel
theorem dX0_addWire_50 : decode cX0_addWire 50 = .ok (.iastore, 1) := by decide +kernel
theorem dX0_addWire_51 : decode cX0_addWire 51 = .ok (.aload_n 0, 1) := by decide +kernel
theorem dX0_addWire_52 : decode cX0_addWire 52 = .ok (.dup, 1) := by decide +kernel
theorem dX0_addWire_53 : decode cX0_addWire 53 = .ok (.getfield 46, 3) := by decide +kernel
theorem dX0_addWire_56 : decode cX0_addWire 56 = .ok (.iload_n 3, 1) := by decide +kernel
theorem dX0_addWire_57 : decode cX0_addWire 57 = .ok (.invokestatic 80, 3) := by decide +kernel
theorem dX0_addWire_60 : decode cX0_addWire 60 = .ok (.iadd, 1) := by decide +kernel
theorem dX0_addWire_61 : decode cX0_addWire 61 = .ok (.putfield 46, 3) := by decide +kernel
theorem dX0_addWire_64 : decode cX0_addWire 64 = .ok (.aload_n 0, 1) := by decide +kernel
theorem dX0_addWire_65 : decode cX0_addWire 65 = .ok (.dup, 1) := by decide +kernel
theorem dX0_addWire_66 : decode cX0_addWire 66 = .ok (.getfield 43, 3) := by decide +kernel
theorem dX0_addWire_69 : decode cX0_addWire 69 = .ok (.iconst 1, 1) := by decide +kernel
theorem dX0_addWire_70 : decode cX0_addWire 70 = .ok (.iadd, 1) := by decide +kernel
theorem dX0_addWire_71 : decode cX0_addWire 71 = .ok (.putfield 43, 3) := by decide +kernel
theorem dX0_addWire_74 : decode cX0_addWire 74 = .ok (.aload_n 0, 1) := by decide +kernel
theorem dX0_addWire_75 : decode cX0_addWire 75 = .ok (.getfield 43, 3) := by decide +kernel
theorem dX0_addWire_78 : decode cX0_addWire 78 = .ok (.invokestatic 83, 3) := by decide +kernel
theorem dX0_addWire_81 : decode cX0_addWire 81 = .ok (.ifCond .eq 18, 3) := by decide +kernel
theorem dX0_addWire_84 : decode cX0_addWire 84 = .ok (.aload_n 0, 1) := by decide +kernel
theorem dX0_addWire_85 : decode cX0_addWire 85 = .ok (.iconst 1, 1) := by decide +kernel
theorem dX0_addWire_86 : decode cX0_addWire 86 = .ok (.putfield 52, 3) := by decide +kernel
theorem dX0_addWire_89 : decode cX0_addWire 89 = .ok (.aload_n 0, 1) := by decide +kernel
theorem dX0_addWire_90 : decode cX0_addWire 90 = .ok (.dup, 1) := by decide +kernel
theorem dX0_addWire_91 : decode cX0_addWire 91 = .ok (.getfield 56, 3) := by decide +kernel
theorem dX0_addWire_94 : decode cX0_addWire 94 = .ok (.iconst 1, 1) := by decide +kernel
theorem dX0_addWire_95 : decode cX0_addWire 95 = .ok (.iadd, 1) := by decide +kernel
theorem dX0_addWire_96 : decode cX0_addWire 96 = .ok (.putfield 56, 3) := by decide +kernel
theorem dX0_addWire_99 : decode cX0_addWire 99 = .ok (.return_, 1) := by decide +kernel
set_option maxRecDepth 20000 in
theorem ggX0_addListed_X2_listed : GoodIn wsX0_addListed wsX2_listed := goodIn_r _ [5, 6, 82, 83, 84, 85, 86, 87, 88] (by decide +kernel) (by decide +kernel)
set_option maxRecDepth 20000 in
theorem gX0_addListed_X2_listed : GoodIn wsX0_addListed (wsV RX0 86 RX2 yX2_listed wsX2_listed) := goodIn_app (goodIn_of _ (by decide +kernel)) ggX0_addListed_X2_listed
set_option maxRecDepth 20000 in
theorem ggX0_addListed_X2_listedPad : GoodIn wsX0_addListed wsX2_listedPad := goodIn_r _ [10, 11, 12, 13, 14, 4, 15, 6, 16, 17, 18, 82, 83, 84, 85, 86, 87, 88] (by decide +kernel) (by decide +kernel)
set_option maxRecDepth 20000 in
theorem gX0_addListed_X2_listedPad : GoodIn wsX0_addListed (wsV RX0 92 RX2 yX2_listedPad wsX2_listedPad) := goodIn_app (goodIn_of _ (by decide +kernel)) ggX0_addListed_X2_listedPad
set_option maxRecDepth 20000 in
theorem ggX0_addListed_X2_listedLead : GoodIn wsX0_addListed wsX2_listedLead := goodIn_r _ [22, 23, 12, 13, 14, 4, 15, 6, 16, 17, 18, 82, 83, 84, 85, 86, 87, 88] (by decide +kernel) (by decide +kernel)
set_option maxRecDepth 20000 in
theorem gX0_addListed_X2_listedLead : GoodIn wsX0_addListed (wsV RX0 95 RX2 yX2_listedLead wsX2_listedLead) := goodIn_app (goodIn_of _ (by decide +kernel)) ggX0_addListed_X2_listedLead
set_option maxRecDepth 20000 in
theorem ggX0_addListed_X0_errorOfLaying : GoodIn wsX0_addListed wsX0_errorOfLaying := goodIn_r _ [28, 29, 30, 31, 32, 33, 27, 34, 35, 36, 17, 37, 38, 39, 40, 41, 89, 90, 91, 92, 93, 94, 95, 96, 97, 98, 99, 100] (by decide +kernel) (by decide +kernel)
set_option maxRecDepth 20000 in
theorem gX0_addListed_X0_errorOfLaying : GoodIn wsX0_addListed (wsV RX0 98 RX0 yX0_errorOfLaying wsX0_errorOfLaying) := goodIn_app (goodIn_of _ (by decide +kernel)) ggX0_addListed_X0_errorOfLaying
set_option maxRecDepth 20000 in
theorem ggX0_addListed_X2_listedHeight : GoodIn wsX0_addListed wsX2_listedHeight := goodIn_r _ [45, 46, 12, 13, 14, 4, 15, 6, 16, 17, 18, 82, 83, 84, 85, 86, 87, 88] (by decide +kernel) (by decide +kernel)
set_option maxRecDepth 20000 in
theorem gX0_addListed_X2_listedHeight : GoodIn wsX0_addListed (wsV RX0 101 RX2 yX2_listedHeight wsX2_listedHeight) := goodIn_app (goodIn_of _ (by decide +kernel)) ggX0_addListed_X2_listedHeight
set_option maxRecDepth 20000 in
theorem ggX0_addListed_X0_addWire : GoodIn wsX0_addListed wsX0_addWire := goodIn_r _ [50, 35, 51, 52, 53, 54, 30, 29, 55, 36, 17, 37, 56, 57, 58, 59, 60, 27, 61, 62, 63, 64, 65, 66, 67, 68, 69, 70, 71, 72, 73, 74, 75, 76, 77, 78, 79, 80, 81, 89, 90, 91, 92, 93, 94, 95, 96, 97, 98, 99, 100] (by decide +kernel) (by decide +kernel)
set_option maxRecDepth 20000 in
theorem gX0_addListed_X0_addWire : GoodIn wsX0_addListed (wsV RX0 104 RX0 yX0_addWire wsX0_addWire) := goodIn_app (goodIn_of _ (by decide +kernel)) ggX0_addListed_X0_addWire
theorem dX0_addListed_0 : decode cX0_addListed 0 = .ok (.iconst 0, 1) := by decide +kernel
theorem dX0_addListed_1 : decode cX0_addListed 1 = .ok (.istore_n 2, 1) := by decide +kernel
theorem dX0_addListed_2 : decode cX0_addListed 2 = .ok (.iload_n 2, 1) := by decide +kernel
theorem dX0_addListed_3 : decode cX0_addListed 3 = .ok (.aload_n 1, 1) := by decide +kernel
theorem dX0_addListed_4 : decode cX0_addListed 4 = .ok (.invokevirtual 86, 3) := by decide +kernel
theorem dX0_addListed_7 : decode cX0_addListed 7 = .ok (.if_icmp .ge 51, 3) := by decide +kernel
theorem dX0_addListed_10 : decode cX0_addListed 10 = .ok (.aload_n 1, 1) := by decide +kernel
theorem dX0_addListed_11 : decode cX0_addListed 11 = .ok (.iload_n 2, 1) := by decide +kernel
theorem dX0_addListed_12 : decode cX0_addListed 12 = .ok (.invokevirtual 92, 3) := by decide +kernel
theorem dX0_addListed_15 : decode cX0_addListed 15 = .ok (.istore_n 3, 1) := by decide +kernel
theorem dX0_addListed_16 : decode cX0_addListed 16 = .ok (.aload_n 1, 1) := by decide +kernel
theorem dX0_addListed_17 : decode cX0_addListed 17 = .ok (.iload_n 2, 1) := by decide +kernel
theorem dX0_addListed_18 : decode cX0_addListed 18 = .ok (.invokevirtual 95, 3) := by decide +kernel
theorem dX0_addListed_21 : decode cX0_addListed 21 = .ok (.istore 4, 2) := by decide +kernel
theorem dX0_addListed_23 : decode cX0_addListed 23 = .ok (.aload_n 0, 1) := by decide +kernel
theorem dX0_addListed_24 : decode cX0_addListed 24 = .ok (.iload_n 3, 1) := by decide +kernel
theorem dX0_addListed_25 : decode cX0_addListed 25 = .ok (.iload 4, 2) := by decide +kernel
theorem dX0_addListed_27 : decode cX0_addListed 27 = .ok (.invokevirtual 98, 3) := by decide +kernel
theorem dX0_addListed_30 : decode cX0_addListed 30 = .ok (.istore 5, 2) := by decide +kernel
theorem dX0_addListed_32 : decode cX0_addListed 32 = .ok (.iload 5, 2) := by decide +kernel
theorem dX0_addListed_34 : decode cX0_addListed 34 = .ok (.ifCond .eq 6, 3) := by decide +kernel
theorem dX0_addListed_37 : decode cX0_addListed 37 = .ok (.iload 5, 2) := by decide +kernel
theorem dX0_addListed_39 : decode cX0_addListed 39 = .ok (.ireturn, 1) := by decide +kernel
theorem dX0_addListed_40 : decode cX0_addListed 40 = .ok (.aload_n 0, 1) := by decide +kernel
theorem dX0_addListed_41 : decode cX0_addListed 41 = .ok (.iload_n 3, 1) := by decide +kernel
theorem dX0_addListed_42 : decode cX0_addListed 42 = .ok (.iload 4, 2) := by decide +kernel
theorem dX0_addListed_44 : decode cX0_addListed 44 = .ok (.aload_n 1, 1) := by decide +kernel
theorem dX0_addListed_45 : decode cX0_addListed 45 = .ok (.iload_n 2, 1) := by decide +kernel
theorem dX0_addListed_46 : decode cX0_addListed 46 = .ok (.invokevirtual 101, 3) := by decide +kernel
theorem dX0_addListed_49 : decode cX0_addListed 49 = .ok (.invokevirtual 104, 3) := by decide +kernel
theorem dX0_addListed_52 : decode cX0_addListed 52 = .ok (.iinc 2 1, 3) := by decide +kernel
theorem dX0_addListed_55 : decode cX0_addListed 55 = .ok (.goto (-53), 3) := by decide +kernel
theorem dX0_addListed_58 : decode cX0_addListed 58 = .ok (.iconst 0, 1) := by decide +kernel
theorem dX0_addListed_59 : decode cX0_addListed 59 = .ok (.ireturn, 1) := by decide +kernel
set_option maxRecDepth 20000 in
theorem ggX0_newStrength_X3_padX : GoodIn wsX0_newStrength wsX3_padX := goodIn_r _ [11] (by decide +kernel) (by decide +kernel)
set_option maxRecDepth 20000 in
theorem gX0_newStrength_X3_padX_n113 : GoodIn wsX0_newStrength (wsX3_padX) := ggX0_newStrength_X3_padX
set_option maxRecDepth 20000 in
theorem ggX0_newStrength_X0_xOfLead : GoodIn wsX0_newStrength wsX0_xOfLead := goodIn_r _ [16, 17, 18, 10, 19, 20, 21, 22, 23, 24, 25, 26, 27, 28, 29, 30, 31] (by decide +kernel) (by decide +kernel)
set_option maxRecDepth 20000 in
theorem gX0_newStrength_X0_xOfLead : GoodIn wsX0_newStrength (wsV RX0 116 RX0 yX0_xOfLead wsX0_xOfLead) := goodIn_app (goodIn_of _ (by decide +kernel)) ggX0_newStrength_X0_xOfLead
theorem dX0_newStrength_0 : decode cX0_newStrength 0 = .ok (.iconst 0, 1) := by decide +kernel
theorem dX0_newStrength_1 : decode cX0_newStrength 1 = .ok (.bipush 100, 2) := by decide +kernel
theorem dX0_newStrength_3 : decode cX0_newStrength 3 = .ok (.aload_n 0, 1) := by decide +kernel
theorem dX0_newStrength_4 : decode cX0_newStrength 4 = .ok (.getfield 46, 3) := by decide +kernel
theorem dX0_newStrength_7 : decode cX0_newStrength 7 = .ok (.iconst 4, 1) := by decide +kernel
theorem dX0_newStrength_8 : decode cX0_newStrength 8 = .ok (.idiv, 1) := by decide +kernel
theorem dX0_newStrength_9 : decode cX0_newStrength 9 = .ok (.isub, 1) := by decide +kernel
theorem dX0_newStrength_10 : decode cX0_newStrength 10 = .ok (.invokestatic 108, 3) := by decide +kernel
theorem dX0_newStrength_13 : decode cX0_newStrength 13 = .ok (.istore_n 3, 1) := by decide +kernel
theorem dX0_newStrength_14 : decode cX0_newStrength 14 = .ok (.iload_n 1, 1) := by decide +kernel
theorem dX0_newStrength_15 : decode cX0_newStrength 15 = .ok (.invokestatic 113, 3) := by decide +kernel
theorem dX0_newStrength_18 : decode cX0_newStrength 18 = .ok (.aload_n 0, 1) := by decide +kernel
theorem dX0_newStrength_19 : decode cX0_newStrength 19 = .ok (.iload_n 2, 1) := by decide +kernel
theorem dX0_newStrength_20 : decode cX0_newStrength 20 = .ok (.invokevirtual 116, 3) := by decide +kernel
theorem dX0_newStrength_23 : decode cX0_newStrength 23 = .ok (.isub, 1) := by decide +kernel
theorem dX0_newStrength_24 : decode cX0_newStrength 24 = .ok (.invokestatic 119, 3) := by decide +kernel
theorem dX0_newStrength_27 : decode cX0_newStrength 27 = .ok (.istore 4, 2) := by decide +kernel
theorem dX0_newStrength_29 : decode cX0_newStrength 29 = .ok (.iconst 0, 1) := by decide +kernel
theorem dX0_newStrength_30 : decode cX0_newStrength 30 = .ok (.iload_n 3, 1) := by decide +kernel
theorem dX0_newStrength_31 : decode cX0_newStrength 31 = .ok (.iload 4, 2) := by decide +kernel
theorem dX0_newStrength_33 : decode cX0_newStrength 33 = .ok (.bipush 20, 2) := by decide +kernel
theorem dX0_newStrength_35 : decode cX0_newStrength 35 = .ok (.idiv, 1) := by decide +kernel
theorem dX0_newStrength_36 : decode cX0_newStrength 36 = .ok (.isub, 1) := by decide +kernel
theorem dX0_newStrength_37 : decode cX0_newStrength 37 = .ok (.invokestatic 108, 3) := by decide +kernel
theorem dX0_newStrength_40 : decode cX0_newStrength 40 = .ok (.ireturn, 1) := by decide +kernel
theorem dX0_wearOfLaying_0 : decode cX0_wearOfLaying 0 = .ok (.iconst 2, 1) := by decide +kernel
theorem dX0_wearOfLaying_1 : decode cX0_wearOfLaying 1 = .ok (.iload_n 0, 1) := by decide +kernel
theorem dX0_wearOfLaying_2 : decode cX0_wearOfLaying 2 = .ok (.bipush 50, 2) := by decide +kernel
theorem dX0_wearOfLaying_4 : decode cX0_wearOfLaying 4 = .ok (.idiv, 1) := by decide +kernel
theorem dX0_wearOfLaying_5 : decode cX0_wearOfLaying 5 = .ok (.iadd, 1) := by decide +kernel
theorem dX0_wearOfLaying_6 : decode cX0_wearOfLaying 6 = .ok (.ireturn, 1) := by decide +kernel
theorem dX0_losesTail_0 : decode cX0_losesTail 0 = .ok (.iload_n 0, 1) := by decide +kernel
theorem dX0_losesTail_1 : decode cX0_losesTail 1 = .ok (.bipush 7, 2) := by decide +kernel
theorem dX0_losesTail_3 : decode cX0_losesTail 3 = .ok (.irem, 1) := by decide +kernel
theorem dX0_losesTail_4 : decode cX0_losesTail 4 = .ok (.ifCond .ne 7, 3) := by decide +kernel
theorem dX0_losesTail_7 : decode cX0_losesTail 7 = .ok (.iconst 1, 1) := by decide +kernel
theorem dX0_losesTail_8 : decode cX0_losesTail 8 = .ok (.goto 4, 3) := by decide +kernel
theorem dX0_losesTail_11 : decode cX0_losesTail 11 = .ok (.iconst 0, 1) := by decide +kernel
theorem dX0_losesTail_12 : decode cX0_losesTail 12 = .ok (.ireturn, 1) := by decide +kernel
set_option maxRecDepth 20000 in
theorem ggX0_laysUntilStop_X0_wearOfLaying : GoodIn wsX0_laysUntilStop wsX0_wearOfLaying := goodIn_r _ [7] (by decide +kernel) (by decide +kernel)
set_option maxRecDepth 20000 in
theorem gX0_laysUntilStop_X0_wearOfLaying : GoodIn wsX0_laysUntilStop (va_wsS RX0 80 yX0_wearOfLaying wsX0_wearOfLaying) := goodIn_app (goodIn_of _ (by decide +kernel)) ggX0_laysUntilStop_X0_wearOfLaying
set_option maxRecDepth 20000 in
theorem ggX0_laysUntilStop_X0_losesTail : GoodIn wsX0_laysUntilStop wsX0_losesTail := goodIn_r _ [10] (by decide +kernel) (by decide +kernel)
set_option maxRecDepth 20000 in
theorem gX0_laysUntilStop_X0_losesTail : GoodIn wsX0_laysUntilStop (va_wsS RX0 83 yX0_losesTail wsX0_losesTail) := goodIn_app (goodIn_of _ (by decide +kernel)) ggX0_laysUntilStop_X0_losesTail
theorem dX0_laysUntilStop_0 : decode cX0_laysUntilStop 0 = .ok (.aload_n 0, 1) := by decide +kernel
theorem dX0_laysUntilStop_1 : decode cX0_laysUntilStop 1 = .ok (.getfield 46, 3) := by decide +kernel
theorem dX0_laysUntilStop_4 : decode cX0_laysUntilStop 4 = .ok (.istore_n 2, 1) := by decide +kernel
theorem dX0_laysUntilStop_5 : decode cX0_laysUntilStop 5 = .ok (.aload_n 0, 1) := by decide +kernel
theorem dX0_laysUntilStop_6 : decode cX0_laysUntilStop 6 = .ok (.getfield 52, 3) := by decide +kernel
theorem dX0_laysUntilStop_9 : decode cX0_laysUntilStop 9 = .ok (.istore_n 3, 1) := by decide +kernel
theorem dX0_laysUntilStop_10 : decode cX0_laysUntilStop 10 = .ok (.iconst 0, 1) := by decide +kernel
theorem dX0_laysUntilStop_11 : decode cX0_laysUntilStop 11 = .ok (.istore 4, 2) := by decide +kernel
theorem dX0_laysUntilStop_13 : decode cX0_laysUntilStop 13 = .ok (.iload 4, 2) := by decide +kernel
theorem dX0_laysUntilStop_15 : decode cX0_laysUntilStop 15 = .ok (.bipush 7, 2) := by decide +kernel
theorem dX0_laysUntilStop_17 : decode cX0_laysUntilStop 17 = .ok (.if_icmp .ge 38, 3) := by decide +kernel
theorem dX0_laysUntilStop_20 : decode cX0_laysUntilStop 20 = .ok (.iload_n 3, 1) := by decide +kernel
theorem dX0_laysUntilStop_21 : decode cX0_laysUntilStop 21 = .ok (.ifCond .ne 34, 3) := by decide +kernel
theorem dX0_laysUntilStop_24 : decode cX0_laysUntilStop 24 = .ok (.iload_n 2, 1) := by decide +kernel
theorem dX0_laysUntilStop_25 : decode cX0_laysUntilStop 25 = .ok (.sipush 200, 3) := by decide +kernel
theorem dX0_laysUntilStop_28 : decode cX0_laysUntilStop 28 = .ok (.if_icmp .ge 27, 3) := by decide +kernel
theorem dX0_laysUntilStop_31 : decode cX0_laysUntilStop 31 = .ok (.iinc 4 1, 3) := by decide +kernel
theorem dX0_laysUntilStop_34 : decode cX0_laysUntilStop 34 = .ok (.iload_n 2, 1) := by decide +kernel
theorem dX0_laysUntilStop_35 : decode cX0_laysUntilStop 35 = .ok (.iload_n 1, 1) := by decide +kernel
theorem dX0_laysUntilStop_36 : decode cX0_laysUntilStop 36 = .ok (.invokestatic 80, 3) := by decide +kernel
theorem dX0_laysUntilStop_39 : decode cX0_laysUntilStop 39 = .ok (.iadd, 1) := by decide +kernel
theorem dX0_laysUntilStop_40 : decode cX0_laysUntilStop 40 = .ok (.istore_n 2, 1) := by decide +kernel
theorem dX0_laysUntilStop_41 : decode cX0_laysUntilStop 41 = .ok (.aload_n 0, 1) := by decide +kernel
theorem dX0_laysUntilStop_42 : decode cX0_laysUntilStop 42 = .ok (.getfield 43, 3) := by decide +kernel
theorem dX0_laysUntilStop_45 : decode cX0_laysUntilStop 45 = .ok (.iload 4, 2) := by decide +kernel
theorem dX0_laysUntilStop_47 : decode cX0_laysUntilStop 47 = .ok (.iadd, 1) := by decide +kernel
theorem dX0_laysUntilStop_48 : decode cX0_laysUntilStop 48 = .ok (.invokestatic 83, 3) := by decide +kernel
theorem dX0_laysUntilStop_51 : decode cX0_laysUntilStop 51 = .ok (.istore_n 3, 1) := by decide +kernel
theorem dX0_laysUntilStop_52 : decode cX0_laysUntilStop 52 = .ok (.goto (-39), 3) := by decide +kernel
theorem dX0_laysUntilStop_55 : decode cX0_laysUntilStop 55 = .ok (.iload 4, 2) := by decide +kernel
theorem dX0_laysUntilStop_57 : decode cX0_laysUntilStop 57 = .ok (.ireturn, 1) := by decide +kernel
set_option maxRecDepth 20000 in
theorem ggX0_removeWire_X3_isPad : GoodIn wsX0_removeWire wsX3_isPad := goodIn_r _ [4] (by decide +kernel) (by decide +kernel)
set_option maxRecDepth 20000 in
theorem gX0_removeWire_X3_isPad_n62 : GoodIn wsX0_removeWire (wsX3_isPad) := ggX0_removeWire_X3_isPad
theorem dX0_removeWire_0 : decode cX0_removeWire 0 = .ok (.iload_n 1, 1) := by decide +kernel
theorem dX0_removeWire_1 : decode cX0_removeWire 1 = .ok (.invokestatic 62, 3) := by decide +kernel
theorem dX0_removeWire_4 : decode cX0_removeWire 4 = .ok (.ifCond .eq 10, 3) := by decide +kernel
theorem dX0_removeWire_7 : decode cX0_removeWire 7 = .ok (.aload_n 0, 1) := by decide +kernel
theorem dX0_removeWire_8 : decode cX0_removeWire 8 = .ok (.getfield 15, 3) := by decide +kernel
theorem dX0_removeWire_11 : decode cX0_removeWire 11 = .ok (.iload_n 1, 1) := by decide +kernel
theorem dX0_removeWire_12 : decode cX0_removeWire 12 = .ok (.iconst (-1), 1) := by decide +kernel
theorem dX0_removeWire_13 : decode cX0_removeWire 13 = .ok (.iastore, 1) := by decide +kernel
theorem dX0_removeWire_14 : decode cX0_removeWire 14 = .ok (.return_, 1) := by decide +kernel
set_option maxRecDepth 20000 in
theorem ggX0_breaksUnder_X0_hasWire : GoodIn wsX0_breaksUnder wsX0_hasWire := goodIn_r _ [11, 12, 13, 14, 15, 20, 21, 22, 23, 24, 25, 26, 27, 28, 29, 30, 31] (by decide +kernel) (by decide +kernel)
set_option maxRecDepth 20000 in
theorem gX0_breaksUnder_X0_hasWire : GoodIn wsX0_breaksUnder (wsV RX0 69 RX0 yX0_hasWire wsX0_hasWire) := goodIn_app (goodIn_of _ (by decide +kernel)) ggX0_breaksUnder_X0_hasWire
set_option maxRecDepth 20000 in
theorem ggX0_breaksUnder_X0_removeWire : GoodIn wsX0_breaksUnder wsX0_removeWire := goodIn_r _ [19, 12, 13, 14, 15, 20, 21, 22, 23, 24, 25, 26, 27, 28, 29, 30, 31] (by decide +kernel) (by decide +kernel)
set_option maxRecDepth 20000 in
theorem gX0_breaksUnder_X0_removeWire : GoodIn wsX0_breaksUnder (wsV RX0 122 RX0 yX0_removeWire wsX0_removeWire) := goodIn_app (goodIn_of _ (by decide +kernel)) ggX0_breaksUnder_X0_removeWire
theorem dX0_breaksUnder_0 : decode cX0_breaksUnder 0 = .ok (.aload_n 0, 1) := by decide +kernel
theorem dX0_breaksUnder_1 : decode cX0_breaksUnder 1 = .ok (.iload_n 1, 1) := by decide +kernel
theorem dX0_breaksUnder_2 : decode cX0_breaksUnder 2 = .ok (.invokevirtual 69, 3) := by decide +kernel
theorem dX0_breaksUnder_5 : decode cX0_breaksUnder 5 = .ok (.ifCond .ne 5, 3) := by decide +kernel
theorem dX0_breaksUnder_8 : decode cX0_breaksUnder 8 = .ok (.iconst 0, 1) := by decide +kernel
theorem dX0_breaksUnder_9 : decode cX0_breaksUnder 9 = .ok (.ireturn, 1) := by decide +kernel
theorem dX0_breaksUnder_10 : decode cX0_breaksUnder 10 = .ok (.aload_n 0, 1) := by decide +kernel
theorem dX0_breaksUnder_11 : decode cX0_breaksUnder 11 = .ok (.getfield 21, 3) := by decide +kernel
theorem dX0_breaksUnder_14 : decode cX0_breaksUnder 14 = .ok (.iload_n 1, 1) := by decide +kernel
theorem dX0_breaksUnder_15 : decode cX0_breaksUnder 15 = .ok (.iaload, 1) := by decide +kernel
theorem dX0_breaksUnder_16 : decode cX0_breaksUnder 16 = .ok (.iload_n 2, 1) := by decide +kernel
theorem dX0_breaksUnder_17 : decode cX0_breaksUnder 17 = .ok (.if_icmp .ge 20, 3) := by decide +kernel
theorem dX0_breaksUnder_20 : decode cX0_breaksUnder 20 = .ok (.aload_n 0, 1) := by decide +kernel
theorem dX0_breaksUnder_21 : decode cX0_breaksUnder 21 = .ok (.iload_n 1, 1) := by decide +kernel
theorem dX0_breaksUnder_22 : decode cX0_breaksUnder 22 = .ok (.invokevirtual 122, 3) := by decide +kernel
theorem dX0_breaksUnder_25 : decode cX0_breaksUnder 25 = .ok (.aload_n 0, 1) := by decide +kernel
theorem dX0_breaksUnder_26 : decode cX0_breaksUnder 26 = .ok (.dup, 1) := by decide +kernel
theorem dX0_breaksUnder_27 : decode cX0_breaksUnder 27 = .ok (.getfield 59, 3) := by decide +kernel
theorem dX0_breaksUnder_30 : decode cX0_breaksUnder 30 = .ok (.iconst 1, 1) := by decide +kernel
theorem dX0_breaksUnder_31 : decode cX0_breaksUnder 31 = .ok (.iadd, 1) := by decide +kernel
theorem dX0_breaksUnder_32 : decode cX0_breaksUnder 32 = .ok (.putfield 59, 3) := by decide +kernel
theorem dX0_breaksUnder_35 : decode cX0_breaksUnder 35 = .ok (.iconst 1, 1) := by decide +kernel
theorem dX0_breaksUnder_36 : decode cX0_breaksUnder 36 = .ok (.ireturn, 1) := by decide +kernel
theorem dX0_breaksUnder_37 : decode cX0_breaksUnder 37 = .ok (.aload_n 0, 1) := by decide +kernel
theorem dX0_breaksUnder_38 : decode cX0_breaksUnder 38 = .ok (.getfield 21, 3) := by decide +kernel
theorem dX0_breaksUnder_41 : decode cX0_breaksUnder 41 = .ok (.iload_n 1, 1) := by decide +kernel
theorem dX0_breaksUnder_42 : decode cX0_breaksUnder 42 = .ok (.iconst 0, 1) := by decide +kernel
theorem dX0_breaksUnder_43 : decode cX0_breaksUnder 43 = .ok (.aload_n 0, 1) := by decide +kernel
theorem dX0_breaksUnder_44 : decode cX0_breaksUnder 44 = .ok (.getfield 21, 3) := by decide +kernel
theorem dX0_breaksUnder_47 : decode cX0_breaksUnder 47 = .ok (.iload_n 1, 1) := by decide +kernel
theorem dX0_breaksUnder_48 : decode cX0_breaksUnder 48 = .ok (.iaload, 1) := by decide +kernel
theorem dX0_breaksUnder_49 : decode cX0_breaksUnder 49 = .ok (.iload_n 2, 1) := by decide +kernel
theorem dX0_breaksUnder_50 : decode cX0_breaksUnder 50 = .ok (.bipush 10, 2) := by decide +kernel
theorem dX0_breaksUnder_52 : decode cX0_breaksUnder 52 = .ok (.idiv, 1) := by decide +kernel
theorem dX0_breaksUnder_53 : decode cX0_breaksUnder 53 = .ok (.isub, 1) := by decide +kernel
theorem dX0_breaksUnder_54 : decode cX0_breaksUnder 54 = .ok (.invokestatic 108, 3) := by decide +kernel
theorem dX0_breaksUnder_57 : decode cX0_breaksUnder 57 = .ok (.iastore, 1) := by decide +kernel
theorem dX0_breaksUnder_58 : decode cX0_breaksUnder 58 = .ok (.iconst 0, 1) := by decide +kernel
theorem dX0_breaksUnder_59 : decode cX0_breaksUnder 59 = .ok (.ireturn, 1) := by decide +kernel
set_option maxRecDepth 20000 in
theorem ggX0_breakingOfSample_X0_hasWire : GoodIn wsX0_breakingOfSample wsX0_hasWire := goodIn_r _ [5, 6, 7, 8, 9, 24, 25, 26, 27, 28, 29, 30, 31, 32, 33, 34, 35] (by decide +kernel) (by decide +kernel)
set_option maxRecDepth 20000 in
theorem gX0_breakingOfSample_X0_hasWire : GoodIn wsX0_breakingOfSample (wsV RX0 69 RX0 yX0_hasWire wsX0_hasWire) := goodIn_app (goodIn_of _ (by decide +kernel)) ggX0_breakingOfSample_X0_hasWire
set_option maxRecDepth 20000 in
theorem ggX0_breakingOfSample_X0_breaksUnder : GoodIn wsX0_breakingOfSample wsX0_breaksUnder := goodIn_r _ [13, 14, 15, 16, 17, 18, 19, 1, 2, 3, 4, 5, 6, 7, 8, 9, 20, 21, 22, 23, 24, 25, 26, 27, 28, 29, 30, 31, 32, 33, 34, 35] (by decide +kernel) (by decide +kernel)
set_option maxRecDepth 20000 in
theorem gX0_breakingOfSample_X0_breaksUnder : GoodIn wsX0_breakingOfSample (wsV RX0 126 RX0 yX0_breaksUnder wsX0_breaksUnder) := goodIn_app (goodIn_of _ (by decide +kernel)) ggX0_breakingOfSample_X0_breaksUnder
theorem dX0_breakingOfSample_0 : decode cX0_breakingOfSample 0 = .ok (.iconst 0, 1) := by decide +kernel
theorem dX0_breakingOfSample_1 : decode cX0_breakingOfSample 1 = .ok (.istore_n 3, 1) := by decide +kernel
theorem dX0_breakingOfSample_2 : decode cX0_breakingOfSample 2 = .ok (.iconst 0, 1) := by decide +kernel
theorem dX0_breakingOfSample_3 : decode cX0_breakingOfSample 3 = .ok (.istore 4, 2) := by decide +kernel
theorem dX0_breakingOfSample_5 : decode cX0_breakingOfSample 5 = .ok (.iconst 0, 1) := by decide +kernel
theorem dX0_breakingOfSample_6 : decode cX0_breakingOfSample 6 = .ok (.istore 5, 2) := by decide +kernel
theorem dX0_breakingOfSample_8 : decode cX0_breakingOfSample 8 = .ok (.iload 5, 2) := by decide +kernel
theorem dX0_breakingOfSample_10 : decode cX0_breakingOfSample 10 = .ok (.bipush 12, 2) := by decide +kernel
theorem dX0_breakingOfSample_12 : decode cX0_breakingOfSample 12 = .ok (.if_icmp .ge 51, 3) := by decide +kernel
theorem dX0_breakingOfSample_15 : decode cX0_breakingOfSample 15 = .ok (.aload_n 0, 1) := by decide +kernel
theorem dX0_breakingOfSample_16 : decode cX0_breakingOfSample 16 = .ok (.iload 5, 2) := by decide +kernel
theorem dX0_breakingOfSample_18 : decode cX0_breakingOfSample 18 = .ok (.invokevirtual 69, 3) := by decide +kernel
theorem dX0_breakingOfSample_21 : decode cX0_breakingOfSample 21 = .ok (.ifCond .ne 6, 3) := by decide +kernel
theorem dX0_breakingOfSample_24 : decode cX0_breakingOfSample 24 = .ok (.goto 33, 3) := by decide +kernel
theorem dX0_breakingOfSample_27 : decode cX0_breakingOfSample 27 = .ok (.iload 4, 2) := by decide +kernel
theorem dX0_breakingOfSample_29 : decode cX0_breakingOfSample 29 = .ok (.ifCond .ne 16, 3) := by decide +kernel
theorem dX0_breakingOfSample_32 : decode cX0_breakingOfSample 32 = .ok (.aload_n 0, 1) := by decide +kernel
theorem dX0_breakingOfSample_33 : decode cX0_breakingOfSample 33 = .ok (.iload 5, 2) := by decide +kernel
theorem dX0_breakingOfSample_35 : decode cX0_breakingOfSample 35 = .ok (.iload_n 2, 1) := by decide +kernel
theorem dX0_breakingOfSample_36 : decode cX0_breakingOfSample 36 = .ok (.invokevirtual 126, 3) := by decide +kernel
theorem dX0_breakingOfSample_39 : decode cX0_breakingOfSample 39 = .ok (.ifCond .eq 6, 3) := by decide +kernel
theorem dX0_breakingOfSample_42 : decode cX0_breakingOfSample 42 = .ok (.iinc 3 1, 3) := by decide +kernel
theorem dX0_breakingOfSample_45 : decode cX0_breakingOfSample 45 = .ok (.iinc 4 1, 3) := by decide +kernel
theorem dX0_breakingOfSample_48 : decode cX0_breakingOfSample 48 = .ok (.iload 4, 2) := by decide +kernel
theorem dX0_breakingOfSample_50 : decode cX0_breakingOfSample 50 = .ok (.iload_n 1, 1) := by decide +kernel
theorem dX0_breakingOfSample_51 : decode cX0_breakingOfSample 51 = .ok (.if_icmp .ne 6, 3) := by decide +kernel
theorem dX0_breakingOfSample_54 : decode cX0_breakingOfSample 54 = .ok (.iconst 0, 1) := by decide +kernel
theorem dX0_breakingOfSample_55 : decode cX0_breakingOfSample 55 = .ok (.istore 4, 2) := by decide +kernel
theorem dX0_breakingOfSample_57 : decode cX0_breakingOfSample 57 = .ok (.iinc 5 1, 3) := by decide +kernel
theorem dX0_breakingOfSample_60 : decode cX0_breakingOfSample 60 = .ok (.goto (-52), 3) := by decide +kernel
theorem dX0_breakingOfSample_63 : decode cX0_breakingOfSample 63 = .ok (.iload_n 3, 1) := by decide +kernel
theorem dX0_breakingOfSample_64 : decode cX0_breakingOfSample 64 = .ok (.ireturn, 1) := by decide +kernel
set_option maxRecDepth 20000 in
theorem ggX0_cross_X0_hasWire : GoodIn wsX0_cross wsX0_hasWire := goodIn_r _ [5, 6, 7, 8, 9, 15, 16, 17, 18, 19, 20, 21, 22, 23, 24, 25, 26] (by decide +kernel) (by decide +kernel)
set_option maxRecDepth 20000 in
theorem gX0_cross_X0_hasWire : GoodIn wsX0_cross (wsV RX0 69 RX0 yX0_hasWire wsX0_hasWire) := goodIn_app (goodIn_of _ (by decide +kernel)) ggX0_cross_X0_hasWire
set_option maxRecDepth 20000 in
theorem ggX0_cross_X0_endX : GoodIn wsX0_cross wsX0_endX := goodIn_r _ [13, 6, 14, 15, 16, 17, 18, 19, 20, 21, 22, 23, 24, 25, 26] (by decide +kernel) (by decide +kernel)
set_option maxRecDepth 20000 in
theorem gX0_cross_X0_endX : GoodIn wsX0_cross (wsV RX0 130 RX0 yX0_endX wsX0_endX) := goodIn_app (goodIn_of _ (by decide +kernel)) ggX0_cross_X0_endX
theorem dX0_cross_0 : decode cX0_cross 0 = .ok (.aload_n 0, 1) := by decide +kernel
theorem dX0_cross_1 : decode cX0_cross 1 = .ok (.iload_n 1, 1) := by decide +kernel
theorem dX0_cross_2 : decode cX0_cross 2 = .ok (.invokevirtual 69, 3) := by decide +kernel
theorem dX0_cross_5 : decode cX0_cross 5 = .ok (.ifCond .eq 16, 3) := by decide +kernel
theorem dX0_cross_8 : decode cX0_cross 8 = .ok (.aload_n 0, 1) := by decide +kernel
theorem dX0_cross_9 : decode cX0_cross 9 = .ok (.iload_n 2, 1) := by decide +kernel
theorem dX0_cross_10 : decode cX0_cross 10 = .ok (.invokevirtual 69, 3) := by decide +kernel
theorem dX0_cross_13 : decode cX0_cross 13 = .ok (.ifCond .eq 8, 3) := by decide +kernel
theorem dX0_cross_16 : decode cX0_cross 16 = .ok (.iload_n 1, 1) := by decide +kernel
theorem dX0_cross_17 : decode cX0_cross 17 = .ok (.iload_n 2, 1) := by decide +kernel
theorem dX0_cross_18 : decode cX0_cross 18 = .ok (.if_icmp .ne 5, 3) := by decide +kernel
theorem dX0_cross_21 : decode cX0_cross 21 = .ok (.iconst 0, 1) := by decide +kernel
theorem dX0_cross_22 : decode cX0_cross 22 = .ok (.ireturn, 1) := by decide +kernel
theorem dX0_cross_23 : decode cX0_cross 23 = .ok (.iload_n 1, 1) := by decide +kernel
theorem dX0_cross_24 : decode cX0_cross 24 = .ok (.iload_n 2, 1) := by decide +kernel
theorem dX0_cross_25 : decode cX0_cross 25 = .ok (.if_icmp .ge 24, 3) := by decide +kernel
theorem dX0_cross_28 : decode cX0_cross 28 = .ok (.aload_n 0, 1) := by decide +kernel
theorem dX0_cross_29 : decode cX0_cross 29 = .ok (.iload_n 1, 1) := by decide +kernel
theorem dX0_cross_30 : decode cX0_cross 30 = .ok (.invokevirtual 130, 3) := by decide +kernel
theorem dX0_cross_33 : decode cX0_cross 33 = .ok (.aload_n 0, 1) := by decide +kernel
theorem dX0_cross_34 : decode cX0_cross 34 = .ok (.iload_n 2, 1) := by decide +kernel
theorem dX0_cross_35 : decode cX0_cross 35 = .ok (.invokevirtual 130, 3) := by decide +kernel
theorem dX0_cross_38 : decode cX0_cross 38 = .ok (.if_icmp .le 7, 3) := by decide +kernel
theorem dX0_cross_41 : decode cX0_cross 41 = .ok (.iconst 1, 1) := by decide +kernel
theorem dX0_cross_42 : decode cX0_cross 42 = .ok (.goto 25, 3) := by decide +kernel
theorem dX0_cross_45 : decode cX0_cross 45 = .ok (.iconst 0, 1) := by decide +kernel
theorem dX0_cross_46 : decode cX0_cross 46 = .ok (.goto 21, 3) := by decide +kernel
theorem dX0_cross_49 : decode cX0_cross 49 = .ok (.aload_n 0, 1) := by decide +kernel
theorem dX0_cross_50 : decode cX0_cross 50 = .ok (.iload_n 1, 1) := by decide +kernel
theorem dX0_cross_51 : decode cX0_cross 51 = .ok (.invokevirtual 130, 3) := by decide +kernel
theorem dX0_cross_54 : decode cX0_cross 54 = .ok (.aload_n 0, 1) := by decide +kernel
theorem dX0_cross_55 : decode cX0_cross 55 = .ok (.iload_n 2, 1) := by decide +kernel
theorem dX0_cross_56 : decode cX0_cross 56 = .ok (.invokevirtual 130, 3) := by decide +kernel
theorem dX0_cross_59 : decode cX0_cross 59 = .ok (.if_icmp .ge 7, 3) := by decide +kernel
theorem dX0_cross_62 : decode cX0_cross 62 = .ok (.iconst 1, 1) := by decide +kernel
theorem dX0_cross_63 : decode cX0_cross 63 = .ok (.goto 4, 3) := by decide +kernel
theorem dX0_cross_66 : decode cX0_cross 66 = .ok (.iconst 0, 1) := by decide +kernel
theorem dX0_cross_67 : decode cX0_cross 67 = .ok (.ireturn, 1) := by decide +kernel
set_option maxRecDepth 20000 in
theorem ggX0_crossingY_X3_padX : GoodIn wsX0_crossingY wsX3_padX := goodIn_r _ [7] (by decide +kernel) (by decide +kernel)
set_option maxRecDepth 20000 in
theorem gX0_crossingY_X3_padX_n113 : GoodIn wsX0_crossingY (wsX3_padX) := ggX0_crossingY_X3_padX
set_option maxRecDepth 20000 in
theorem ggX0_crossingY_X0_endX : GoodIn wsX0_crossingY wsX0_endX := goodIn_r _ [12, 13, 14, 15, 16, 17, 18, 19, 20, 21, 22, 23, 24, 25, 26] (by decide +kernel) (by decide +kernel)
set_option maxRecDepth 20000 in
theorem gX0_crossingY_X0_endX : GoodIn wsX0_crossingY (wsV RX0 130 RX0 yX0_endX wsX0_endX) := goodIn_app (goodIn_of _ (by decide +kernel)) ggX0_crossingY_X0_endX
theorem dX0_crossingY_0 : decode cX0_crossingY 0 = .ok (.iload_n 1, 1) := by decide +kernel
theorem dX0_crossingY_1 : decode cX0_crossingY 1 = .ok (.invokestatic 113, 3) := by decide +kernel
theorem dX0_crossingY_4 : decode cX0_crossingY 4 = .ok (.iload_n 2, 1) := by decide +kernel
theorem dX0_crossingY_5 : decode cX0_crossingY 5 = .ok (.invokestatic 113, 3) := by decide +kernel
theorem dX0_crossingY_8 : decode cX0_crossingY 8 = .ok (.isub, 1) := by decide +kernel
theorem dX0_crossingY_9 : decode cX0_crossingY 9 = .ok (.invokestatic 119, 3) := by decide +kernel
theorem dX0_crossingY_12 : decode cX0_crossingY 12 = .ok (.istore_n 3, 1) := by decide +kernel
theorem dX0_crossingY_13 : decode cX0_crossingY 13 = .ok (.aload_n 0, 1) := by decide +kernel
theorem dX0_crossingY_14 : decode cX0_crossingY 14 = .ok (.iload_n 1, 1) := by decide +kernel
theorem dX0_crossingY_15 : decode cX0_crossingY 15 = .ok (.invokevirtual 130, 3) := by decide +kernel
theorem dX0_crossingY_18 : decode cX0_crossingY 18 = .ok (.aload_n 0, 1) := by decide +kernel
theorem dX0_crossingY_19 : decode cX0_crossingY 19 = .ok (.iload_n 2, 1) := by decide +kernel
theorem dX0_crossingY_20 : decode cX0_crossingY 20 = .ok (.invokevirtual 130, 3) := by decide +kernel
theorem dX0_crossingY_23 : decode cX0_crossingY 23 = .ok (.isub, 1) := by decide +kernel
theorem dX0_crossingY_24 : decode cX0_crossingY 24 = .ok (.invokestatic 119, 3) := by decide +kernel
theorem dX0_crossingY_27 : decode cX0_crossingY 27 = .ok (.istore 4, 2) := by decide +kernel
theorem dX0_crossingY_29 : decode cX0_crossingY 29 = .ok (.iload_n 3, 1) := by decide +kernel
theorem dX0_crossingY_30 : decode cX0_crossingY 30 = .ok (.iload 4, 2) := by decide +kernel
theorem dX0_crossingY_32 : decode cX0_crossingY 32 = .ok (.iadd, 1) := by decide +kernel
theorem dX0_crossingY_33 : decode cX0_crossingY 33 = .ok (.istore 5, 2) := by decide +kernel
theorem dX0_crossingY_35 : decode cX0_crossingY 35 = .ok (.iload 5, 2) := by decide +kernel
theorem dX0_crossingY_37 : decode cX0_crossingY 37 = .ok (.ifCond .le 14, 3) := by decide +kernel
theorem dX0_crossingY_40 : decode cX0_crossingY 40 = .ok (.sipush 200, 3) := by decide +kernel
theorem dX0_crossingY_43 : decode cX0_crossingY 43 = .ok (.iload_n 3, 1) := by decide +kernel
theorem dX0_crossingY_44 : decode cX0_crossingY 44 = .ok (.imul, 1) := by decide +kernel
theorem dX0_crossingY_45 : decode cX0_crossingY 45 = .ok (.iload 5, 2) := by decide +kernel
theorem dX0_crossingY_47 : decode cX0_crossingY 47 = .ok (.idiv, 1) := by decide +kernel
theorem dX0_crossingY_48 : decode cX0_crossingY 48 = .ok (.goto 4, 3) := by decide +kernel
theorem dX0_crossingY_51 : decode cX0_crossingY 51 = .ok (.iconst 0, 1) := by decide +kernel
theorem dX0_crossingY_52 : decode cX0_crossingY 52 = .ok (.ireturn, 1) := by decide +kernel
set_option maxRecDepth 20000 in
theorem ggX0_gap_X0_crossingY : GoodIn wsX0_gap wsX0_crossingY := goodIn_r _ [9, 1, 2, 3, 4, 10, 11, 12, 13, 14, 15, 8, 16, 17, 18, 29, 30, 31, 32, 33, 34, 35, 36, 37, 38, 39, 40] (by decide +kernel) (by decide +kernel)
set_option maxRecDepth 20000 in
theorem gX0_gap_X0_crossingY : GoodIn wsX0_gap (wsV RX0 133 RX0 yX0_crossingY wsX0_crossingY) := goodIn_app (goodIn_of _ (by decide +kernel)) ggX0_gap_X0_crossingY
set_option maxRecDepth 20000 in
theorem ggX0_gap_X3_loopAt : GoodIn wsX0_gap wsX3_loopAt := goodIn_r _ [20, 21] (by decide +kernel) (by decide +kernel)
set_option maxRecDepth 20000 in
theorem gX0_gap_X3_loopAt_n136 : GoodIn wsX0_gap (wsX3_loopAt) := ggX0_gap_X3_loopAt
set_option maxRecDepth 20000 in
theorem ggX0_gap_X0_heightOf : GoodIn wsX0_gap wsX0_heightOf := goodIn_r _ [25, 26, 27, 11, 28, 29, 30, 31, 32, 33, 34, 35, 36, 37, 38, 39, 40] (by decide +kernel) (by decide +kernel)
set_option maxRecDepth 20000 in
theorem gX0_gap_X0_heightOf : GoodIn wsX0_gap (wsV RX0 139 RX0 yX0_heightOf wsX0_heightOf) := goodIn_app (goodIn_of _ (by decide +kernel)) ggX0_gap_X0_heightOf
theorem dX0_gap_0 : decode cX0_gap 0 = .ok (.aload_n 0, 1) := by decide +kernel
theorem dX0_gap_1 : decode cX0_gap 1 = .ok (.iload_n 1, 1) := by decide +kernel
theorem dX0_gap_2 : decode cX0_gap 2 = .ok (.iload_n 3, 1) := by decide +kernel
theorem dX0_gap_3 : decode cX0_gap 3 = .ok (.invokevirtual 133, 3) := by decide +kernel
theorem dX0_gap_6 : decode cX0_gap 6 = .ok (.istore 4, 2) := by decide +kernel
theorem dX0_gap_8 : decode cX0_gap 8 = .ok (.iload_n 2, 1) := by decide +kernel
theorem dX0_gap_9 : decode cX0_gap 9 = .ok (.iload 4, 2) := by decide +kernel
theorem dX0_gap_11 : decode cX0_gap 11 = .ok (.invokestatic 136, 3) := by decide +kernel
theorem dX0_gap_14 : decode cX0_gap 14 = .ok (.aload_n 0, 1) := by decide +kernel
theorem dX0_gap_15 : decode cX0_gap 15 = .ok (.iload_n 3, 1) := by decide +kernel
theorem dX0_gap_16 : decode cX0_gap 16 = .ok (.invokevirtual 139, 3) := by decide +kernel
theorem dX0_gap_19 : decode cX0_gap 19 = .ok (.iload 4, 2) := by decide +kernel
theorem dX0_gap_21 : decode cX0_gap 21 = .ok (.invokestatic 136, 3) := by decide +kernel
theorem dX0_gap_24 : decode cX0_gap 24 = .ok (.isub, 1) := by decide +kernel
theorem dX0_gap_25 : decode cX0_gap 25 = .ok (.invokestatic 119, 3) := by decide +kernel
theorem dX0_gap_28 : decode cX0_gap 28 = .ok (.ireturn, 1) := by decide +kernel
set_option maxRecDepth 20000 in
theorem ggX0_isShort_X0_cross : GoodIn wsX0_isShort wsX0_cross := goodIn_r _ [6, 7, 8, 9, 5, 10, 11, 12, 13, 14, 15, 16, 17, 18, 19, 42, 43, 44, 45, 46, 47, 48, 49, 50, 51, 52, 53] (by decide +kernel) (by decide +kernel)
set_option maxRecDepth 20000 in
theorem gX0_isShort_X0_cross : GoodIn wsX0_isShort (wsV RX0 142 RX0 yX0_cross wsX0_cross) := goodIn_app (goodIn_of _ (by decide +kernel)) ggX0_isShort_X0_cross
set_option maxRecDepth 20000 in
theorem ggX0_isShort_X0_gap : GoodIn wsX0_isShort wsX0_gap := goodIn_r _ [23, 24, 25, 26, 27, 28, 29, 30, 5, 31, 32, 13, 33, 15, 16, 17, 18, 11, 19, 34, 35, 36, 37, 38, 39, 40, 41, 12, 14, 42, 43, 44, 45, 46, 47, 48, 49, 50, 51, 52, 53] (by decide +kernel) (by decide +kernel)
set_option maxRecDepth 20000 in
theorem gX0_isShort_X0_gap : GoodIn wsX0_isShort (wsV RX0 145 RX0 yX0_gap wsX0_gap) := goodIn_app (goodIn_of _ (by decide +kernel)) ggX0_isShort_X0_gap
theorem dX0_isShort_0 : decode cX0_isShort 0 = .ok (.aload_n 0, 1) := by decide +kernel
theorem dX0_isShort_1 : decode cX0_isShort 1 = .ok (.iload_n 1, 1) := by decide +kernel
theorem dX0_isShort_2 : decode cX0_isShort 2 = .ok (.iload_n 3, 1) := by decide +kernel
theorem dX0_isShort_3 : decode cX0_isShort 3 = .ok (.invokevirtual 142, 3) := by decide +kernel
theorem dX0_isShort_6 : decode cX0_isShort 6 = .ok (.ifCond .eq 21, 3) := by decide +kernel
theorem dX0_isShort_9 : decode cX0_isShort 9 = .ok (.aload_n 0, 1) := by decide +kernel
theorem dX0_isShort_10 : decode cX0_isShort 10 = .ok (.iload_n 1, 1) := by decide +kernel
theorem dX0_isShort_11 : decode cX0_isShort 11 = .ok (.iload_n 2, 1) := by decide +kernel
theorem dX0_isShort_12 : decode cX0_isShort 12 = .ok (.iload_n 3, 1) := by decide +kernel
theorem dX0_isShort_13 : decode cX0_isShort 13 = .ok (.invokevirtual 145, 3) := by decide +kernel
theorem dX0_isShort_16 : decode cX0_isShort 16 = .ok (.aload_n 0, 1) := by decide +kernel
theorem dX0_isShort_17 : decode cX0_isShort 17 = .ok (.getfield 33, 3) := by decide +kernel
theorem dX0_isShort_20 : decode cX0_isShort 20 = .ok (.if_icmp .ge 7, 3) := by decide +kernel
theorem dX0_isShort_23 : decode cX0_isShort 23 = .ok (.iconst 1, 1) := by decide +kernel
theorem dX0_isShort_24 : decode cX0_isShort 24 = .ok (.goto 4, 3) := by decide +kernel
theorem dX0_isShort_27 : decode cX0_isShort 27 = .ok (.iconst 0, 1) := by decide +kernel
theorem dX0_isShort_28 : decode cX0_isShort 28 = .ok (.ireturn, 1) := by decide +kernel
set_option maxRecDepth 20000 in
theorem ggX0_crossingsOf_X0_cross : GoodIn wsX0_crossingsOf wsX0_cross := goodIn_r _ [5, 6, 7, 8, 4, 9, 10, 11, 12, 13, 14, 15, 16, 17, 18, 19, 20, 21, 22, 23, 24, 25, 26, 27, 28, 29, 30] (by decide +kernel) (by decide +kernel)
set_option maxRecDepth 20000 in
theorem gX0_crossingsOf_X0_cross : GoodIn wsX0_crossingsOf (wsV RX0 142 RX0 yX0_cross wsX0_cross) := goodIn_app (goodIn_of _ (by decide +kernel)) ggX0_crossingsOf_X0_cross
theorem dX0_crossingsOf_0 : decode cX0_crossingsOf 0 = .ok (.iconst 0, 1) := by decide +kernel
theorem dX0_crossingsOf_1 : decode cX0_crossingsOf 1 = .ok (.istore_n 2, 1) := by decide +kernel
theorem dX0_crossingsOf_2 : decode cX0_crossingsOf 2 = .ok (.iconst 0, 1) := by decide +kernel
theorem dX0_crossingsOf_3 : decode cX0_crossingsOf 3 = .ok (.istore_n 3, 1) := by decide +kernel
theorem dX0_crossingsOf_4 : decode cX0_crossingsOf 4 = .ok (.iload_n 3, 1) := by decide +kernel
theorem dX0_crossingsOf_5 : decode cX0_crossingsOf 5 = .ok (.bipush 12, 2) := by decide +kernel
theorem dX0_crossingsOf_7 : decode cX0_crossingsOf 7 = .ok (.if_icmp .ge 21, 3) := by decide +kernel
theorem dX0_crossingsOf_10 : decode cX0_crossingsOf 10 = .ok (.aload_n 0, 1) := by decide +kernel
theorem dX0_crossingsOf_11 : decode cX0_crossingsOf 11 = .ok (.iload_n 1, 1) := by decide +kernel
theorem dX0_crossingsOf_12 : decode cX0_crossingsOf 12 = .ok (.iload_n 3, 1) := by decide +kernel
theorem dX0_crossingsOf_13 : decode cX0_crossingsOf 13 = .ok (.invokevirtual 142, 3) := by decide +kernel
theorem dX0_crossingsOf_16 : decode cX0_crossingsOf 16 = .ok (.ifCond .eq 6, 3) := by decide +kernel
theorem dX0_crossingsOf_19 : decode cX0_crossingsOf 19 = .ok (.iinc 2 1, 3) := by decide +kernel
theorem dX0_crossingsOf_22 : decode cX0_crossingsOf 22 = .ok (.iinc 3 1, 3) := by decide +kernel
theorem dX0_crossingsOf_25 : decode cX0_crossingsOf 25 = .ok (.goto (-21), 3) := by decide +kernel
theorem dX0_crossingsOf_28 : decode cX0_crossingsOf 28 = .ok (.iload_n 2, 1) := by decide +kernel
theorem dX0_crossingsOf_29 : decode cX0_crossingsOf 29 = .ok (.ireturn, 1) := by decide +kernel
set_option maxRecDepth 20000 in
theorem ggX0_shortOnes_X0_isShort : GoodIn wsX0_shortOnes wsX0_isShort := goodIn_r _ [5, 6, 7, 8, 9, 4, 10, 11, 12, 13, 14, 15, 16, 17, 18, 19, 20, 21, 22, 23, 24, 25, 26, 27, 28, 29, 30, 31, 32, 33, 34, 35, 36, 37, 38, 39, 40, 41, 42, 43, 44, 45, 46, 47, 48, 49, 50, 51, 52, 53, 54, 55, 56, 57] (by decide +kernel) (by decide +kernel)
set_option maxRecDepth 20000 in
theorem gX0_shortOnes_X0_isShort : GoodIn wsX0_shortOnes (wsV RX0 149 RX0 yX0_isShort wsX0_isShort) := goodIn_app (goodIn_of _ (by decide +kernel)) ggX0_shortOnes_X0_isShort
theorem dX0_shortOnes_0 : decode cX0_shortOnes 0 = .ok (.iconst 0, 1) := by decide +kernel
theorem dX0_shortOnes_1 : decode cX0_shortOnes 1 = .ok (.istore_n 3, 1) := by decide +kernel
theorem dX0_shortOnes_2 : decode cX0_shortOnes 2 = .ok (.iconst 0, 1) := by decide +kernel
theorem dX0_shortOnes_3 : decode cX0_shortOnes 3 = .ok (.istore 4, 2) := by decide +kernel
theorem dX0_shortOnes_5 : decode cX0_shortOnes 5 = .ok (.iload 4, 2) := by decide +kernel
theorem dX0_shortOnes_7 : decode cX0_shortOnes 7 = .ok (.bipush 12, 2) := by decide +kernel
theorem dX0_shortOnes_9 : decode cX0_shortOnes 9 = .ok (.if_icmp .ge 23, 3) := by decide +kernel
theorem dX0_shortOnes_12 : decode cX0_shortOnes 12 = .ok (.aload_n 0, 1) := by decide +kernel
theorem dX0_shortOnes_13 : decode cX0_shortOnes 13 = .ok (.iload_n 1, 1) := by decide +kernel
theorem dX0_shortOnes_14 : decode cX0_shortOnes 14 = .ok (.iload_n 2, 1) := by decide +kernel
theorem dX0_shortOnes_15 : decode cX0_shortOnes 15 = .ok (.iload 4, 2) := by decide +kernel
theorem dX0_shortOnes_17 : decode cX0_shortOnes 17 = .ok (.invokevirtual 149, 3) := by decide +kernel
theorem dX0_shortOnes_20 : decode cX0_shortOnes 20 = .ok (.ifCond .eq 6, 3) := by decide +kernel
theorem dX0_shortOnes_23 : decode cX0_shortOnes 23 = .ok (.iinc 3 1, 3) := by decide +kernel
theorem dX0_shortOnes_26 : decode cX0_shortOnes 26 = .ok (.iinc 4 1, 3) := by decide +kernel
theorem dX0_shortOnes_29 : decode cX0_shortOnes 29 = .ok (.goto (-24), 3) := by decide +kernel
theorem dX0_shortOnes_32 : decode cX0_shortOnes 32 = .ok (.iload_n 3, 1) := by decide +kernel
theorem dX0_shortOnes_33 : decode cX0_shortOnes 33 = .ok (.ireturn, 1) := by decide +kernel
set_option maxRecDepth 20000 in
theorem ggX0_leastGap_X0_cross : GoodIn wsX0_leastGap wsX0_cross := goodIn_r _ [9, 10, 11, 12, 8, 13, 14, 15, 16, 17, 18, 19, 20, 21, 22, 44, 45, 46, 47, 48, 49, 50, 51, 52, 53, 54, 55] (by decide +kernel) (by decide +kernel)
set_option maxRecDepth 20000 in
theorem gX0_leastGap_X0_cross : GoodIn wsX0_leastGap (wsV RX0 142 RX0 yX0_cross wsX0_cross) := goodIn_app (goodIn_of _ (by decide +kernel)) ggX0_leastGap_X0_cross
set_option maxRecDepth 20000 in
theorem ggX0_leastGap_X0_heightOf : GoodIn wsX0_leastGap wsX0_heightOf := goodIn_r _ [26, 27, 15, 16, 17, 44, 45, 46, 47, 48, 49, 50, 51, 52, 53, 54, 55] (by decide +kernel) (by decide +kernel)
set_option maxRecDepth 20000 in
theorem gX0_leastGap_X0_heightOf : GoodIn wsX0_leastGap (wsV RX0 139 RX0 yX0_heightOf wsX0_heightOf) := goodIn_app (goodIn_of _ (by decide +kernel)) ggX0_leastGap_X0_heightOf
set_option maxRecDepth 20000 in
theorem ggX0_leastGap_X0_gap : GoodIn wsX0_leastGap wsX0_gap := goodIn_r _ [31, 32, 33, 3, 34, 35, 36, 37, 8, 38, 39, 16, 40, 18, 19, 20, 21, 14, 22, 41, 42, 43, 23, 24, 25, 26, 27, 15, 17, 44, 45, 46, 47, 48, 49, 50, 51, 52, 53, 54, 55] (by decide +kernel) (by decide +kernel)
set_option maxRecDepth 20000 in
theorem gX0_leastGap_X0_gap : GoodIn wsX0_leastGap (wsV RX0 145 RX0 yX0_gap wsX0_gap) := goodIn_app (goodIn_of _ (by decide +kernel)) ggX0_leastGap_X0_gap
theorem dX0_leastGap_0 : decode cX0_leastGap 0 = .ok (.bipush (-5), 2) := by decide +kernel
theorem dX0_leastGap_2 : decode cX0_leastGap 2 = .ok (.istore_n 2, 1) := by decide +kernel
theorem dX0_leastGap_3 : decode cX0_leastGap 3 = .ok (.iconst 0, 1) := by decide +kernel
theorem dX0_leastGap_4 : decode cX0_leastGap 4 = .ok (.istore_n 3, 1) := by decide +kernel
theorem dX0_leastGap_5 : decode cX0_leastGap 5 = .ok (.iload_n 3, 1) := by decide +kernel
theorem dX0_leastGap_6 : decode cX0_leastGap 6 = .ok (.bipush 12, 2) := by decide +kernel
theorem dX0_leastGap_8 : decode cX0_leastGap 8 = .ok (.if_icmp .ge 49, 3) := by decide +kernel
theorem dX0_leastGap_11 : decode cX0_leastGap 11 = .ok (.aload_n 0, 1) := by decide +kernel
theorem dX0_leastGap_12 : decode cX0_leastGap 12 = .ok (.iload_n 1, 1) := by decide +kernel
theorem dX0_leastGap_13 : decode cX0_leastGap 13 = .ok (.iload_n 3, 1) := by decide +kernel
theorem dX0_leastGap_14 : decode cX0_leastGap 14 = .ok (.invokevirtual 142, 3) := by decide +kernel
theorem dX0_leastGap_17 : decode cX0_leastGap 17 = .ok (.ifCond .eq 34, 3) := by decide +kernel
theorem dX0_leastGap_20 : decode cX0_leastGap 20 = .ok (.aload_n 0, 1) := by decide +kernel
theorem dX0_leastGap_21 : decode cX0_leastGap 21 = .ok (.iload_n 1, 1) := by decide +kernel
theorem dX0_leastGap_22 : decode cX0_leastGap 22 = .ok (.aload_n 0, 1) := by decide +kernel
theorem dX0_leastGap_23 : decode cX0_leastGap 23 = .ok (.iload_n 1, 1) := by decide +kernel
theorem dX0_leastGap_24 : decode cX0_leastGap 24 = .ok (.invokevirtual 139, 3) := by decide +kernel
theorem dX0_leastGap_27 : decode cX0_leastGap 27 = .ok (.iload_n 3, 1) := by decide +kernel
theorem dX0_leastGap_28 : decode cX0_leastGap 28 = .ok (.invokevirtual 145, 3) := by decide +kernel
theorem dX0_leastGap_31 : decode cX0_leastGap 31 = .ok (.istore 4, 2) := by decide +kernel
theorem dX0_leastGap_33 : decode cX0_leastGap 33 = .ok (.iload_n 2, 1) := by decide +kernel
theorem dX0_leastGap_34 : decode cX0_leastGap 34 = .ok (.bipush (-5), 2) := by decide +kernel
theorem dX0_leastGap_36 : decode cX0_leastGap 36 = .ok (.if_icmp .ne 8, 3) := by decide +kernel
theorem dX0_leastGap_39 : decode cX0_leastGap 39 = .ok (.iload 4, 2) := by decide +kernel
theorem dX0_leastGap_41 : decode cX0_leastGap 41 = .ok (.goto 9, 3) := by decide +kernel
theorem dX0_leastGap_44 : decode cX0_leastGap 44 = .ok (.iload_n 2, 1) := by decide +kernel
theorem dX0_leastGap_45 : decode cX0_leastGap 45 = .ok (.iload 4, 2) := by decide +kernel
theorem dX0_leastGap_47 : decode cX0_leastGap 47 = .ok (.invokestatic 153, 3) := by decide +kernel
theorem dX0_leastGap_50 : decode cX0_leastGap 50 = .ok (.istore_n 2, 1) := by decide +kernel
theorem dX0_leastGap_51 : decode cX0_leastGap 51 = .ok (.iinc 3 1, 3) := by decide +kernel
theorem dX0_leastGap_54 : decode cX0_leastGap 54 = .ok (.goto (-49), 3) := by decide +kernel
theorem dX0_leastGap_57 : decode cX0_leastGap 57 = .ok (.iload_n 2, 1) := by decide +kernel
theorem dX0_leastGap_58 : decode cX0_leastGap 58 = .ok (.ireturn, 1) := by decide +kernel
set_option maxRecDepth 20000 in
theorem ggX0_clearestHeight_X0_shortOnes : GoodIn wsX0_clearestHeight wsX0_shortOnes := goodIn_r _ [5, 6, 7, 8, 4, 9, 10, 11, 12, 13, 14, 15, 16, 17, 18, 19, 20, 21, 22, 23, 24, 25, 26, 27, 28, 29, 30, 31, 32, 33, 34, 35, 36, 37, 38, 39, 40, 41, 42, 43, 44, 45, 46, 47, 48, 49, 50, 51, 52, 53, 54, 55, 56, 57, 58, 59, 60, 61] (by decide +kernel) (by decide +kernel)
set_option maxRecDepth 20000 in
theorem gX0_clearestHeight_X0_shortOnes : GoodIn wsX0_clearestHeight (wsV RX0 156 RX0 yX0_shortOnes wsX0_shortOnes) := goodIn_app (goodIn_of _ (by decide +kernel)) ggX0_clearestHeight_X0_shortOnes
theorem dX0_clearestHeight_0 : decode cX0_clearestHeight 0 = .ok (.bipush 10, 2) := by decide +kernel
theorem dX0_clearestHeight_2 : decode cX0_clearestHeight 2 = .ok (.istore_n 2, 1) := by decide +kernel
theorem dX0_clearestHeight_3 : decode cX0_clearestHeight 3 = .ok (.aload_n 0, 1) := by decide +kernel
theorem dX0_clearestHeight_4 : decode cX0_clearestHeight 4 = .ok (.iload_n 1, 1) := by decide +kernel
theorem dX0_clearestHeight_5 : decode cX0_clearestHeight 5 = .ok (.iload_n 2, 1) := by decide +kernel
theorem dX0_clearestHeight_6 : decode cX0_clearestHeight 6 = .ok (.invokevirtual 156, 3) := by decide +kernel
theorem dX0_clearestHeight_9 : decode cX0_clearestHeight 9 = .ok (.istore_n 3, 1) := by decide +kernel
theorem dX0_clearestHeight_10 : decode cX0_clearestHeight 10 = .ok (.bipush 11, 2) := by decide +kernel
theorem dX0_clearestHeight_12 : decode cX0_clearestHeight 12 = .ok (.istore 4, 2) := by decide +kernel
theorem dX0_clearestHeight_14 : decode cX0_clearestHeight 14 = .ok (.iload 4, 2) := by decide +kernel
theorem dX0_clearestHeight_16 : decode cX0_clearestHeight 16 = .ok (.sipush 200, 3) := by decide +kernel
theorem dX0_clearestHeight_19 : decode cX0_clearestHeight 19 = .ok (.if_icmp .gt 30, 3) := by decide +kernel
theorem dX0_clearestHeight_22 : decode cX0_clearestHeight 22 = .ok (.aload_n 0, 1) := by decide +kernel
theorem dX0_clearestHeight_23 : decode cX0_clearestHeight 23 = .ok (.iload_n 1, 1) := by decide +kernel
theorem dX0_clearestHeight_24 : decode cX0_clearestHeight 24 = .ok (.iload 4, 2) := by decide +kernel
theorem dX0_clearestHeight_26 : decode cX0_clearestHeight 26 = .ok (.invokevirtual 156, 3) := by decide +kernel
theorem dX0_clearestHeight_29 : decode cX0_clearestHeight 29 = .ok (.istore 5, 2) := by decide +kernel
theorem dX0_clearestHeight_31 : decode cX0_clearestHeight 31 = .ok (.iload 5, 2) := by decide +kernel
theorem dX0_clearestHeight_33 : decode cX0_clearestHeight 33 = .ok (.iload_n 3, 1) := by decide +kernel
theorem dX0_clearestHeight_34 : decode cX0_clearestHeight 34 = .ok (.if_icmp .ge 9, 3) := by decide +kernel
theorem dX0_clearestHeight_37 : decode cX0_clearestHeight 37 = .ok (.iload 4, 2) := by decide +kernel
theorem dX0_clearestHeight_39 : decode cX0_clearestHeight 39 = .ok (.istore_n 2, 1) := by decide +kernel
theorem dX0_clearestHeight_40 : decode cX0_clearestHeight 40 = .ok (.iload 5, 2) := by decide +kernel
theorem dX0_clearestHeight_42 : decode cX0_clearestHeight 42 = .ok (.istore_n 3, 1) := by decide +kernel
theorem dX0_clearestHeight_43 : decode cX0_clearestHeight 43 = .ok (.iinc 4 1, 3) := by decide +kernel
theorem dX0_clearestHeight_46 : decode cX0_clearestHeight 46 = .ok (.goto (-32), 3) := by decide +kernel
theorem dX0_clearestHeight_49 : decode cX0_clearestHeight 49 = .ok (.iload_n 2, 1) := by decide +kernel
theorem dX0_clearestHeight_50 : decode cX0_clearestHeight 50 = .ok (.ireturn, 1) := by decide +kernel
set_option maxRecDepth 20000 in
theorem ggX0_wires_X0_hasWire : GoodIn wsX0_wires wsX0_hasWire := goodIn_r _ [5, 6, 7, 8, 9, 10, 11, 12, 13, 14, 15, 16, 17, 18, 19, 20, 21] (by decide +kernel) (by decide +kernel)
set_option maxRecDepth 20000 in
theorem gX0_wires_X0_hasWire : GoodIn wsX0_wires (wsV RX0 69 RX0 yX0_hasWire wsX0_hasWire) := goodIn_app (goodIn_of _ (by decide +kernel)) ggX0_wires_X0_hasWire
theorem dX0_wires_0 : decode cX0_wires 0 = .ok (.iconst 0, 1) := by decide +kernel
theorem dX0_wires_1 : decode cX0_wires 1 = .ok (.istore_n 1, 1) := by decide +kernel
theorem dX0_wires_2 : decode cX0_wires 2 = .ok (.iconst 0, 1) := by decide +kernel
theorem dX0_wires_3 : decode cX0_wires 3 = .ok (.istore_n 2, 1) := by decide +kernel
theorem dX0_wires_4 : decode cX0_wires 4 = .ok (.iload_n 2, 1) := by decide +kernel
theorem dX0_wires_5 : decode cX0_wires 5 = .ok (.bipush 12, 2) := by decide +kernel
theorem dX0_wires_7 : decode cX0_wires 7 = .ok (.if_icmp .ge 20, 3) := by decide +kernel
theorem dX0_wires_10 : decode cX0_wires 10 = .ok (.aload_n 0, 1) := by decide +kernel
theorem dX0_wires_11 : decode cX0_wires 11 = .ok (.iload_n 2, 1) := by decide +kernel
theorem dX0_wires_12 : decode cX0_wires 12 = .ok (.invokevirtual 69, 3) := by decide +kernel
theorem dX0_wires_15 : decode cX0_wires 15 = .ok (.ifCond .eq 6, 3) := by decide +kernel
theorem dX0_wires_18 : decode cX0_wires 18 = .ok (.iinc 1 1, 3) := by decide +kernel
theorem dX0_wires_21 : decode cX0_wires 21 = .ok (.iinc 2 1, 3) := by decide +kernel
theorem dX0_wires_24 : decode cX0_wires 24 = .ok (.goto (-20), 3) := by decide +kernel
theorem dX0_wires_27 : decode cX0_wires 27 = .ok (.iload_n 1, 1) := by decide +kernel
theorem dX0_wires_28 : decode cX0_wires 28 = .ok (.ireturn, 1) := by decide +kernel
set_option maxRecDepth 20000 in
theorem ggX0_allCrossings_X0_cross : GoodIn wsX0_allCrossings wsX0_cross := goodIn_r _ [5, 6, 7, 8, 4, 9, 10, 11, 12, 13, 14, 15, 16, 17, 18, 19, 20, 21, 22, 23, 24, 25, 26, 27, 28, 29, 30] (by decide +kernel) (by decide +kernel)
set_option maxRecDepth 20000 in
theorem gX0_allCrossings_X0_cross : GoodIn wsX0_allCrossings (wsV RX0 142 RX0 yX0_cross wsX0_cross) := goodIn_app (goodIn_of _ (by decide +kernel)) ggX0_allCrossings_X0_cross
theorem dX0_allCrossings_0 : decode cX0_allCrossings 0 = .ok (.iconst 0, 1) := by decide +kernel
theorem dX0_allCrossings_1 : decode cX0_allCrossings 1 = .ok (.istore_n 1, 1) := by decide +kernel
theorem dX0_allCrossings_2 : decode cX0_allCrossings 2 = .ok (.iconst 0, 1) := by decide +kernel
theorem dX0_allCrossings_3 : decode cX0_allCrossings 3 = .ok (.istore_n 2, 1) := by decide +kernel
theorem dX0_allCrossings_4 : decode cX0_allCrossings 4 = .ok (.iload_n 2, 1) := by decide +kernel
theorem dX0_allCrossings_5 : decode cX0_allCrossings 5 = .ok (.bipush 12, 2) := by decide +kernel
theorem dX0_allCrossings_7 : decode cX0_allCrossings 7 = .ok (.if_icmp .ge 37, 3) := by decide +kernel
theorem dX0_allCrossings_10 : decode cX0_allCrossings 10 = .ok (.iload_n 2, 1) := by decide +kernel
theorem dX0_allCrossings_11 : decode cX0_allCrossings 11 = .ok (.iconst 1, 1) := by decide +kernel
theorem dX0_allCrossings_12 : decode cX0_allCrossings 12 = .ok (.iadd, 1) := by decide +kernel
theorem dX0_allCrossings_13 : decode cX0_allCrossings 13 = .ok (.istore_n 3, 1) := by decide +kernel
theorem dX0_allCrossings_14 : decode cX0_allCrossings 14 = .ok (.iload_n 3, 1) := by decide +kernel
theorem dX0_allCrossings_15 : decode cX0_allCrossings 15 = .ok (.bipush 12, 2) := by decide +kernel
theorem dX0_allCrossings_17 : decode cX0_allCrossings 17 = .ok (.if_icmp .ge 21, 3) := by decide +kernel
theorem dX0_allCrossings_20 : decode cX0_allCrossings 20 = .ok (.aload_n 0, 1) := by decide +kernel
