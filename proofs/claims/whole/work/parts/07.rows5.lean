theorem dX4_heightAt_30 : decode cX4_heightAt 30 = .ok (.iload_n 2, 1) := by decide +kernel
theorem dX4_heightAt_31 : decode cX4_heightAt 31 = .ok (.invokestatic 107, 3) := by decide +kernel
theorem dX4_heightAt_34 : decode cX4_heightAt 34 = .ok (.goto 5, 3) := by decide +kernel
theorem dX4_heightAt_37 : decode cX4_heightAt 37 = .ok (.bipush (-2), 2) := by decide +kernel
theorem dX4_heightAt_39 : decode cX4_heightAt 39 = .ok (.ireturn, 1) := by decide +kernel
set_option maxRecDepth 20000 in
theorem ggX4_crossing_X4_hasWire : GoodIn wsX4_crossing wsX4_hasWire := goodIn_r _ [6, 1, 7, 8, 5, 9, 10, 11, 12, 13, 14, 15, 34, 35, 36, 37, 38, 39, 40, 41, 42, 43, 44] (by decide +kernel) (by decide +kernel)
set_option maxRecDepth 20000 in
theorem gX4_crossing_X4_hasWire : GoodIn wsX4_crossing (wsV RX4 49 RX4 yX4_hasWire wsX4_hasWire) := goodIn_app (goodIn_of _ (by decide +kernel)) ggX4_crossing_X4_hasWire
set_option maxRecDepth 20000 in
theorem ggX4_crossing_X4_in : GoodIn wsX4_crossing wsX4_in := goodIn_r _ [12] (by decide +kernel) (by decide +kernel)
set_option maxRecDepth 20000 in
theorem gX4_crossing_X4_in : GoodIn wsX4_crossing (va_wsS RX4 37 yX4_in wsX4_in) := goodIn_app (goodIn_of _ (by decide +kernel)) ggX4_crossing_X4_in
set_option maxRecDepth 20000 in
theorem ggX4_crossing_X4_crossingY : GoodIn wsX4_crossing wsX4_crossingY := goodIn_r _ [19, 1, 13, 14, 5, 15, 20, 21, 22, 34, 35, 36, 37, 38, 39, 40, 41, 42, 43, 44] (by decide +kernel) (by decide +kernel)
set_option maxRecDepth 20000 in
theorem gX4_crossing_X4_crossingY : GoodIn wsX4_crossing (wsV RX4 104 RX4 yX4_crossingY wsX4_crossingY) := goodIn_app (goodIn_of _ (by decide +kernel)) ggX4_crossing_X4_crossingY
set_option maxRecDepth 20000 in
theorem ggX4_crossing_X4_of : GoodIn wsX4_crossing wsX4_of := goodIn_r _ [15] (by decide +kernel) (by decide +kernel)
set_option maxRecDepth 20000 in
theorem gX4_crossing_X4_of : GoodIn wsX4_crossing (va_wsS RX4 45 yX4_of wsX4_of) := goodIn_app (goodIn_of _ (by decide +kernel)) ggX4_crossing_X4_of
set_option maxRecDepth 20000 in
theorem ggX4_crossing_X4_gap : GoodIn wsX4_crossing wsX4_gap := goodIn_r _ [26, 1, 16, 17, 18, 5, 19, 13, 14, 15, 20, 21, 22, 27, 28, 29, 30, 31, 32, 33, 34, 35, 36, 37, 38, 39, 40, 41, 42, 43, 44] (by decide +kernel) (by decide +kernel)
set_option maxRecDepth 20000 in
theorem gX4_crossing_X4_gap : GoodIn wsX4_crossing (wsV RX4 114 RX4 yX4_gap wsX4_gap) := goodIn_app (goodIn_of _ (by decide +kernel)) ggX4_crossing_X4_gap
theorem dX4_crossing_0 : decode cX4_crossing 0 = .ok (.aload_n 0, 1) := by decide +kernel
theorem dX4_crossing_1 : decode cX4_crossing 1 = .ok (.iload_n 1, 1) := by decide +kernel
theorem dX4_crossing_2 : decode cX4_crossing 2 = .ok (.invokevirtual 49, 3) := by decide +kernel
theorem dX4_crossing_5 : decode cX4_crossing 5 = .ok (.ifCond .eq 11, 3) := by decide +kernel
theorem dX4_crossing_8 : decode cX4_crossing 8 = .ok (.aload_n 0, 1) := by decide +kernel
theorem dX4_crossing_9 : decode cX4_crossing 9 = .ok (.iload_n 2, 1) := by decide +kernel
theorem dX4_crossing_10 : decode cX4_crossing 10 = .ok (.invokevirtual 49, 3) := by decide +kernel
theorem dX4_crossing_13 : decode cX4_crossing 13 = .ok (.ifCond .ne 5, 3) := by decide +kernel
theorem dX4_crossing_16 : decode cX4_crossing 16 = .ok (.iconst (-1), 1) := by decide +kernel
theorem dX4_crossing_17 : decode cX4_crossing 17 = .ok (.ireturn, 1) := by decide +kernel
theorem dX4_crossing_18 : decode cX4_crossing 18 = .ok (.iload_n 3, 1) := by decide +kernel
theorem dX4_crossing_19 : decode cX4_crossing 19 = .ok (.iconst 0, 1) := by decide +kernel
theorem dX4_crossing_20 : decode cX4_crossing 20 = .ok (.iconst 2, 1) := by decide +kernel
theorem dX4_crossing_21 : decode cX4_crossing 21 = .ok (.invokestatic 37, 3) := by decide +kernel
theorem dX4_crossing_24 : decode cX4_crossing 24 = .ok (.ifCond .ne 6, 3) := by decide +kernel
theorem dX4_crossing_27 : decode cX4_crossing 27 = .ok (.bipush (-2), 2) := by decide +kernel
theorem dX4_crossing_29 : decode cX4_crossing 29 = .ok (.ireturn, 1) := by decide +kernel
theorem dX4_crossing_30 : decode cX4_crossing 30 = .ok (.aload_n 0, 1) := by decide +kernel
theorem dX4_crossing_31 : decode cX4_crossing 31 = .ok (.iload_n 1, 1) := by decide +kernel
theorem dX4_crossing_32 : decode cX4_crossing 32 = .ok (.iload_n 2, 1) := by decide +kernel
theorem dX4_crossing_33 : decode cX4_crossing 33 = .ok (.invokevirtual 104, 3) := by decide +kernel
theorem dX4_crossing_36 : decode cX4_crossing 36 = .ok (.istore 4, 2) := by decide +kernel
theorem dX4_crossing_38 : decode cX4_crossing 38 = .ok (.iload 4, 2) := by decide +kernel
theorem dX4_crossing_40 : decode cX4_crossing 40 = .ok (.bipush (-5), 2) := by decide +kernel
theorem dX4_crossing_42 : decode cX4_crossing 42 = .ok (.if_icmp .eq 7, 3) := by decide +kernel
theorem dX4_crossing_45 : decode cX4_crossing 45 = .ok (.iload_n 3, 1) := by decide +kernel
theorem dX4_crossing_46 : decode cX4_crossing 46 = .ok (.ifCond .ne 6, 3) := by decide +kernel
theorem dX4_crossing_49 : decode cX4_crossing 49 = .ok (.iload 4, 2) := by decide +kernel
theorem dX4_crossing_51 : decode cX4_crossing 51 = .ok (.ireturn, 1) := by decide +kernel
theorem dX4_crossing_52 : decode cX4_crossing 52 = .ok (.aload_n 0, 1) := by decide +kernel
theorem dX4_crossing_53 : decode cX4_crossing 53 = .ok (.iload_n 1, 1) := by decide +kernel
theorem dX4_crossing_54 : decode cX4_crossing 54 = .ok (.aload_n 0, 1) := by decide +kernel
theorem dX4_crossing_55 : decode cX4_crossing 55 = .ok (.getfield 7, 3) := by decide +kernel
theorem dX4_crossing_58 : decode cX4_crossing 58 = .ok (.iload_n 1, 1) := by decide +kernel
theorem dX4_crossing_59 : decode cX4_crossing 59 = .ok (.iconst 1, 1) := by decide +kernel
theorem dX4_crossing_60 : decode cX4_crossing 60 = .ok (.invokestatic 45, 3) := by decide +kernel
theorem dX4_crossing_63 : decode cX4_crossing 63 = .ok (.iload_n 2, 1) := by decide +kernel
theorem dX4_crossing_64 : decode cX4_crossing 64 = .ok (.invokevirtual 114, 3) := by decide +kernel
theorem dX4_crossing_67 : decode cX4_crossing 67 = .ok (.istore 5, 2) := by decide +kernel
theorem dX4_crossing_69 : decode cX4_crossing 69 = .ok (.iload_n 3, 1) := by decide +kernel
theorem dX4_crossing_70 : decode cX4_crossing 70 = .ok (.iconst 1, 1) := by decide +kernel
theorem dX4_crossing_71 : decode cX4_crossing 71 = .ok (.if_icmp .ne 8, 3) := by decide +kernel
theorem dX4_crossing_74 : decode cX4_crossing 74 = .ok (.iload 5, 2) := by decide +kernel
theorem dX4_crossing_76 : decode cX4_crossing 76 = .ok (.goto 20, 3) := by decide +kernel
theorem dX4_crossing_79 : decode cX4_crossing 79 = .ok (.iload 5, 2) := by decide +kernel
theorem dX4_crossing_81 : decode cX4_crossing 81 = .ok (.aload_n 0, 1) := by decide +kernel
theorem dX4_crossing_82 : decode cX4_crossing 82 = .ok (.getfield 7, 3) := by decide +kernel
theorem dX4_crossing_85 : decode cX4_crossing 85 = .ok (.bipush 64, 2) := by decide +kernel
theorem dX4_crossing_87 : decode cX4_crossing 87 = .ok (.iaload, 1) := by decide +kernel
theorem dX4_crossing_88 : decode cX4_crossing 88 = .ok (.if_icmp .ge 7, 3) := by decide +kernel
theorem dX4_crossing_91 : decode cX4_crossing 91 = .ok (.iconst 1, 1) := by decide +kernel
theorem dX4_crossing_92 : decode cX4_crossing 92 = .ok (.goto 4, 3) := by decide +kernel
theorem dX4_crossing_95 : decode cX4_crossing 95 = .ok (.iconst 0, 1) := by decide +kernel
theorem dX4_crossing_96 : decode cX4_crossing 96 = .ok (.ireturn, 1) := by decide +kernel
set_option maxRecDepth 20000 in
theorem ggX4_lead_X4_isLead : GoodIn wsX4_lead wsX4_isLead := goodIn_r _ [5, 6, 7, 4, 8] (by decide +kernel) (by decide +kernel)
set_option maxRecDepth 20000 in
theorem gX4_lead_X4_isLead : GoodIn wsX4_lead (va_wsS RX4 67 yX4_isLead wsX4_isLead) := goodIn_app (goodIn_of _ (by decide +kernel)) ggX4_lead_X4_isLead
set_option maxRecDepth 20000 in
theorem ggX4_lead_X4_padOf : GoodIn wsX4_lead wsX4_padOf := goodIn_r _ [11, 12, 13, 4, 14] (by decide +kernel) (by decide +kernel)
set_option maxRecDepth 20000 in
theorem gX4_lead_X4_padOf : GoodIn wsX4_lead (va_wsS RX4 52 yX4_padOf wsX4_padOf) := goodIn_app (goodIn_of _ (by decide +kernel)) ggX4_lead_X4_padOf
theorem dX4_lead_0 : decode cX4_lead 0 = .ok (.iload_n 1, 1) := by decide +kernel
theorem dX4_lead_1 : decode cX4_lead 1 = .ok (.invokestatic 67, 3) := by decide +kernel
theorem dX4_lead_4 : decode cX4_lead 4 = .ok (.ifCond .ne 5, 3) := by decide +kernel
theorem dX4_lead_7 : decode cX4_lead 7 = .ok (.iconst (-1), 1) := by decide +kernel
theorem dX4_lead_8 : decode cX4_lead 8 = .ok (.ireturn, 1) := by decide +kernel
theorem dX4_lead_9 : decode cX4_lead 9 = .ok (.iload_n 2, 1) := by decide +kernel
theorem dX4_lead_10 : decode cX4_lead 10 = .ok (.ifCond .ne 14, 3) := by decide +kernel
theorem dX4_lead_13 : decode cX4_lead 13 = .ok (.aload_n 0, 1) := by decide +kernel
theorem dX4_lead_14 : decode cX4_lead 14 = .ok (.getfield 7, 3) := by decide +kernel
theorem dX4_lead_17 : decode cX4_lead 17 = .ok (.iconst 0, 1) := by decide +kernel
theorem dX4_lead_18 : decode cX4_lead 18 = .ok (.iload_n 1, 1) := by decide +kernel
theorem dX4_lead_19 : decode cX4_lead 19 = .ok (.iadd, 1) := by decide +kernel
theorem dX4_lead_20 : decode cX4_lead 20 = .ok (.iaload, 1) := by decide +kernel
theorem dX4_lead_21 : decode cX4_lead 21 = .ok (.goto 21, 3) := by decide +kernel
theorem dX4_lead_24 : decode cX4_lead 24 = .ok (.iload_n 2, 1) := by decide +kernel
theorem dX4_lead_25 : decode cX4_lead 25 = .ok (.iconst 1, 1) := by decide +kernel
theorem dX4_lead_26 : decode cX4_lead 26 = .ok (.if_icmp .ne 14, 3) := by decide +kernel
theorem dX4_lead_29 : decode cX4_lead 29 = .ok (.aload_n 0, 1) := by decide +kernel
theorem dX4_lead_30 : decode cX4_lead 30 = .ok (.getfield 7, 3) := by decide +kernel
theorem dX4_lead_33 : decode cX4_lead 33 = .ok (.iload_n 1, 1) := by decide +kernel
theorem dX4_lead_34 : decode cX4_lead 34 = .ok (.invokestatic 52, 3) := by decide +kernel
theorem dX4_lead_37 : decode cX4_lead 37 = .ok (.goto 5, 3) := by decide +kernel
theorem dX4_lead_40 : decode cX4_lead 40 = .ok (.bipush (-2), 2) := by decide +kernel
theorem dX4_lead_42 : decode cX4_lead 42 = .ok (.ireturn, 1) := by decide +kernel
set_option maxRecDepth 20000 in
theorem ggX4_bestHeight_X4_hasWire : GoodIn wsX4_bestHeight wsX4_hasWire := goodIn_r _ [5, 6, 7, 8, 4, 9, 10, 11, 12, 13, 14, 15, 42, 43, 44, 45, 46, 47, 48, 49, 50, 51, 52] (by decide +kernel) (by decide +kernel)
set_option maxRecDepth 20000 in
theorem gX4_bestHeight_X4_hasWire : GoodIn wsX4_bestHeight (wsV RX4 49 RX4 yX4_hasWire wsX4_hasWire) := goodIn_app (goodIn_of _ (by decide +kernel)) ggX4_bestHeight_X4_hasWire
set_option maxRecDepth 20000 in
theorem ggX4_bestHeight_X4_in : GoodIn wsX4_bestHeight wsX4_in := goodIn_r _ [12] (by decide +kernel) (by decide +kernel)
set_option maxRecDepth 20000 in
theorem gX4_bestHeight_X4_in : GoodIn wsX4_bestHeight (va_wsS RX4 37 yX4_in wsX4_in) := goodIn_app (goodIn_of _ (by decide +kernel)) ggX4_bestHeight_X4_in
set_option maxRecDepth 20000 in
theorem ggX4_bestHeight_X4_shortOnes : GoodIn wsX4_bestHeight wsX4_shortOnes := goodIn_r _ [19, 6, 20, 21, 22, 4, 23, 1, 2, 3, 5, 7, 8, 9, 10, 11, 12, 13, 14, 15, 24, 25, 26, 27, 28, 29, 30, 31, 32, 33, 34, 35, 36, 37, 38, 39, 40, 41, 42, 43, 44, 45, 46, 47, 48, 49, 50, 51, 52] (by decide +kernel) (by decide +kernel)
set_option maxRecDepth 20000 in
theorem gX4_bestHeight_X4_shortOnes : GoodIn wsX4_bestHeight (wsV RX4 144 RX4 yX4_shortOnes wsX4_shortOnes) := goodIn_app (goodIn_of _ (by decide +kernel)) ggX4_bestHeight_X4_shortOnes
theorem dX4_bestHeight_0 : decode cX4_bestHeight 0 = .ok (.aload_n 0, 1) := by decide +kernel
theorem dX4_bestHeight_1 : decode cX4_bestHeight 1 = .ok (.iload_n 1, 1) := by decide +kernel
theorem dX4_bestHeight_2 : decode cX4_bestHeight 2 = .ok (.invokevirtual 49, 3) := by decide +kernel
theorem dX4_bestHeight_5 : decode cX4_bestHeight 5 = .ok (.ifCond .ne 5, 3) := by decide +kernel
theorem dX4_bestHeight_8 : decode cX4_bestHeight 8 = .ok (.iconst (-1), 1) := by decide +kernel
theorem dX4_bestHeight_9 : decode cX4_bestHeight 9 = .ok (.ireturn, 1) := by decide +kernel
theorem dX4_bestHeight_10 : decode cX4_bestHeight 10 = .ok (.iload_n 2, 1) := by decide +kernel
theorem dX4_bestHeight_11 : decode cX4_bestHeight 11 = .ok (.iconst 0, 1) := by decide +kernel
theorem dX4_bestHeight_12 : decode cX4_bestHeight 12 = .ok (.iconst 1, 1) := by decide +kernel
theorem dX4_bestHeight_13 : decode cX4_bestHeight 13 = .ok (.invokestatic 37, 3) := by decide +kernel
theorem dX4_bestHeight_16 : decode cX4_bestHeight 16 = .ok (.ifCond .ne 6, 3) := by decide +kernel
theorem dX4_bestHeight_19 : decode cX4_bestHeight 19 = .ok (.bipush (-2), 2) := by decide +kernel
theorem dX4_bestHeight_21 : decode cX4_bestHeight 21 = .ok (.ireturn, 1) := by decide +kernel
theorem dX4_bestHeight_22 : decode cX4_bestHeight 22 = .ok (.bipush 10, 2) := by decide +kernel
theorem dX4_bestHeight_24 : decode cX4_bestHeight 24 = .ok (.istore_n 3, 1) := by decide +kernel
theorem dX4_bestHeight_25 : decode cX4_bestHeight 25 = .ok (.aload_n 0, 1) := by decide +kernel
theorem dX4_bestHeight_26 : decode cX4_bestHeight 26 = .ok (.iload_n 1, 1) := by decide +kernel
theorem dX4_bestHeight_27 : decode cX4_bestHeight 27 = .ok (.bipush 10, 2) := by decide +kernel
theorem dX4_bestHeight_29 : decode cX4_bestHeight 29 = .ok (.invokevirtual 144, 3) := by decide +kernel
theorem dX4_bestHeight_32 : decode cX4_bestHeight 32 = .ok (.istore 4, 2) := by decide +kernel
theorem dX4_bestHeight_34 : decode cX4_bestHeight 34 = .ok (.bipush 11, 2) := by decide +kernel
theorem dX4_bestHeight_36 : decode cX4_bestHeight 36 = .ok (.istore 5, 2) := by decide +kernel
theorem dX4_bestHeight_38 : decode cX4_bestHeight 38 = .ok (.iload 5, 2) := by decide +kernel
theorem dX4_bestHeight_40 : decode cX4_bestHeight 40 = .ok (.sipush 200, 3) := by decide +kernel
theorem dX4_bestHeight_43 : decode cX4_bestHeight 43 = .ok (.if_icmp .gt 48, 3) := by decide +kernel
theorem dX4_bestHeight_46 : decode cX4_bestHeight 46 = .ok (.aload_n 0, 1) := by decide +kernel
theorem dX4_bestHeight_47 : decode cX4_bestHeight 47 = .ok (.iload_n 1, 1) := by decide +kernel
theorem dX4_bestHeight_48 : decode cX4_bestHeight 48 = .ok (.iload 5, 2) := by decide +kernel
theorem dX4_bestHeight_50 : decode cX4_bestHeight 50 = .ok (.invokevirtual 144, 3) := by decide +kernel
theorem dX4_bestHeight_53 : decode cX4_bestHeight 53 = .ok (.istore 6, 2) := by decide +kernel
theorem dX4_bestHeight_55 : decode cX4_bestHeight 55 = .ok (.iload 6, 2) := by decide +kernel
theorem dX4_bestHeight_57 : decode cX4_bestHeight 57 = .ok (.iload 4, 2) := by decide +kernel
theorem dX4_bestHeight_59 : decode cX4_bestHeight 59 = .ok (.if_icmp .ge 8, 3) := by decide +kernel
theorem dX4_bestHeight_62 : decode cX4_bestHeight 62 = .ok (.iload 5, 2) := by decide +kernel
theorem dX4_bestHeight_64 : decode cX4_bestHeight 64 = .ok (.goto 4, 3) := by decide +kernel
theorem dX4_bestHeight_67 : decode cX4_bestHeight 67 = .ok (.iload_n 3, 1) := by decide +kernel
theorem dX4_bestHeight_68 : decode cX4_bestHeight 68 = .ok (.istore_n 3, 1) := by decide +kernel
theorem dX4_bestHeight_69 : decode cX4_bestHeight 69 = .ok (.iload 6, 2) := by decide +kernel
theorem dX4_bestHeight_71 : decode cX4_bestHeight 71 = .ok (.iload 4, 2) := by decide +kernel
theorem dX4_bestHeight_73 : decode cX4_bestHeight 73 = .ok (.if_icmp .ge 8, 3) := by decide +kernel
theorem dX4_bestHeight_76 : decode cX4_bestHeight 76 = .ok (.iload 6, 2) := by decide +kernel
theorem dX4_bestHeight_78 : decode cX4_bestHeight 78 = .ok (.goto 5, 3) := by decide +kernel
theorem dX4_bestHeight_81 : decode cX4_bestHeight 81 = .ok (.iload 4, 2) := by decide +kernel
theorem dX4_bestHeight_83 : decode cX4_bestHeight 83 = .ok (.istore 4, 2) := by decide +kernel
theorem dX4_bestHeight_85 : decode cX4_bestHeight 85 = .ok (.iinc 5 1, 3) := by decide +kernel
theorem dX4_bestHeight_88 : decode cX4_bestHeight 88 = .ok (.goto (-50), 3) := by decide +kernel
theorem dX4_bestHeight_91 : decode cX4_bestHeight 91 = .ok (.iload_n 2, 1) := by decide +kernel
theorem dX4_bestHeight_92 : decode cX4_bestHeight 92 = .ok (.ifCond .ne 7, 3) := by decide +kernel
theorem dX4_bestHeight_95 : decode cX4_bestHeight 95 = .ok (.iload_n 3, 1) := by decide +kernel
theorem dX4_bestHeight_96 : decode cX4_bestHeight 96 = .ok (.goto 5, 3) := by decide +kernel
theorem dX4_bestHeight_99 : decode cX4_bestHeight 99 = .ok (.iload 4, 2) := by decide +kernel
theorem dX4_bestHeight_101 : decode cX4_bestHeight 101 = .ok (.ireturn, 1) := by decide +kernel
set_option maxRecDepth 20000 in
theorem ggX4_laysLeft_X4_isHeight : GoodIn wsX4_laysLeft wsX4_isHeight := goodIn_r _ [5, 6, 7, 4, 8] (by decide +kernel) (by decide +kernel)
set_option maxRecDepth 20000 in
theorem gX4_laysLeft_X4_isHeight : GoodIn wsX4_laysLeft (va_wsS RX4 70 yX4_isHeight wsX4_isHeight) := goodIn_app (goodIn_of _ (by decide +kernel)) ggX4_laysLeft_X4_isHeight
theorem dX4_laysLeft_0 : decode cX4_laysLeft 0 = .ok (.iload_n 1, 1) := by decide +kernel
theorem dX4_laysLeft_1 : decode cX4_laysLeft 1 = .ok (.invokestatic 70, 3) := by decide +kernel
theorem dX4_laysLeft_4 : decode cX4_laysLeft 4 = .ok (.ifCond .ne 6, 3) := by decide +kernel
theorem dX4_laysLeft_7 : decode cX4_laysLeft 7 = .ok (.bipush (-2), 2) := by decide +kernel
theorem dX4_laysLeft_9 : decode cX4_laysLeft 9 = .ok (.ireturn, 1) := by decide +kernel
theorem dX4_laysLeft_10 : decode cX4_laysLeft 10 = .ok (.iconst 0, 1) := by decide +kernel
theorem dX4_laysLeft_11 : decode cX4_laysLeft 11 = .ok (.istore_n 2, 1) := by decide +kernel
theorem dX4_laysLeft_12 : decode cX4_laysLeft 12 = .ok (.aload_n 0, 1) := by decide +kernel
theorem dX4_laysLeft_13 : decode cX4_laysLeft 13 = .ok (.getfield 7, 3) := by decide +kernel
theorem dX4_laysLeft_16 : decode cX4_laysLeft 16 = .ok (.bipush 65, 2) := by decide +kernel
theorem dX4_laysLeft_18 : decode cX4_laysLeft 18 = .ok (.iaload, 1) := by decide +kernel
theorem dX4_laysLeft_19 : decode cX4_laysLeft 19 = .ok (.istore_n 3, 1) := by decide +kernel
theorem dX4_laysLeft_20 : decode cX4_laysLeft 20 = .ok (.aload_n 0, 1) := by decide +kernel
theorem dX4_laysLeft_21 : decode cX4_laysLeft 21 = .ok (.getfield 7, 3) := by decide +kernel
theorem dX4_laysLeft_24 : decode cX4_laysLeft 24 = .ok (.bipush 66, 2) := by decide +kernel
theorem dX4_laysLeft_26 : decode cX4_laysLeft 26 = .ok (.iaload, 1) := by decide +kernel
theorem dX4_laysLeft_27 : decode cX4_laysLeft 27 = .ok (.iconst 1, 1) := by decide +kernel
theorem dX4_laysLeft_28 : decode cX4_laysLeft 28 = .ok (.if_icmp .ne 7, 3) := by decide +kernel
theorem dX4_laysLeft_31 : decode cX4_laysLeft 31 = .ok (.iconst 1, 1) := by decide +kernel
theorem dX4_laysLeft_32 : decode cX4_laysLeft 32 = .ok (.goto 4, 3) := by decide +kernel
theorem dX4_laysLeft_35 : decode cX4_laysLeft 35 = .ok (.iconst 0, 1) := by decide +kernel
theorem dX4_laysLeft_36 : decode cX4_laysLeft 36 = .ok (.istore 4, 2) := by decide +kernel
theorem dX4_laysLeft_38 : decode cX4_laysLeft 38 = .ok (.iload 4, 2) := by decide +kernel
theorem dX4_laysLeft_40 : decode cX4_laysLeft 40 = .ok (.ifCond .ne 47, 3) := by decide +kernel
theorem dX4_laysLeft_43 : decode cX4_laysLeft 43 = .ok (.iload_n 3, 1) := by decide +kernel
theorem dX4_laysLeft_44 : decode cX4_laysLeft 44 = .ok (.sipush 200, 3) := by decide +kernel
theorem dX4_laysLeft_47 : decode cX4_laysLeft 47 = .ok (.if_icmp .ge 40, 3) := by decide +kernel
theorem dX4_laysLeft_50 : decode cX4_laysLeft 50 = .ok (.iinc 2 1, 3) := by decide +kernel
theorem dX4_laysLeft_53 : decode cX4_laysLeft 53 = .ok (.iload_n 3, 1) := by decide +kernel
theorem dX4_laysLeft_54 : decode cX4_laysLeft 54 = .ok (.iconst 2, 1) := by decide +kernel
theorem dX4_laysLeft_55 : decode cX4_laysLeft 55 = .ok (.iload_n 1, 1) := by decide +kernel
theorem dX4_laysLeft_56 : decode cX4_laysLeft 56 = .ok (.bipush 50, 2) := by decide +kernel
theorem dX4_laysLeft_58 : decode cX4_laysLeft 58 = .ok (.idiv, 1) := by decide +kernel
theorem dX4_laysLeft_59 : decode cX4_laysLeft 59 = .ok (.iadd, 1) := by decide +kernel
theorem dX4_laysLeft_60 : decode cX4_laysLeft 60 = .ok (.iadd, 1) := by decide +kernel
theorem dX4_laysLeft_61 : decode cX4_laysLeft 61 = .ok (.istore_n 3, 1) := by decide +kernel
theorem dX4_laysLeft_62 : decode cX4_laysLeft 62 = .ok (.aload_n 0, 1) := by decide +kernel
theorem dX4_laysLeft_63 : decode cX4_laysLeft 63 = .ok (.getfield 7, 3) := by decide +kernel
theorem dX4_laysLeft_66 : decode cX4_laysLeft 66 = .ok (.bipush 68, 2) := by decide +kernel
theorem dX4_laysLeft_68 : decode cX4_laysLeft 68 = .ok (.iaload, 1) := by decide +kernel
theorem dX4_laysLeft_69 : decode cX4_laysLeft 69 = .ok (.iload_n 2, 1) := by decide +kernel
theorem dX4_laysLeft_70 : decode cX4_laysLeft 70 = .ok (.iadd, 1) := by decide +kernel
theorem dX4_laysLeft_71 : decode cX4_laysLeft 71 = .ok (.bipush 7, 2) := by decide +kernel
theorem dX4_laysLeft_73 : decode cX4_laysLeft 73 = .ok (.irem, 1) := by decide +kernel
theorem dX4_laysLeft_74 : decode cX4_laysLeft 74 = .ok (.ifCond .ne 7, 3) := by decide +kernel
theorem dX4_laysLeft_77 : decode cX4_laysLeft 77 = .ok (.iconst 1, 1) := by decide +kernel
theorem dX4_laysLeft_78 : decode cX4_laysLeft 78 = .ok (.goto 4, 3) := by decide +kernel
theorem dX4_laysLeft_81 : decode cX4_laysLeft 81 = .ok (.iconst 0, 1) := by decide +kernel
theorem dX4_laysLeft_82 : decode cX4_laysLeft 82 = .ok (.istore 4, 2) := by decide +kernel
theorem dX4_laysLeft_84 : decode cX4_laysLeft 84 = .ok (.goto (-46), 3) := by decide +kernel
theorem dX4_laysLeft_87 : decode cX4_laysLeft 87 = .ok (.iload_n 2, 1) := by decide +kernel
theorem dX4_laysLeft_88 : decode cX4_laysLeft 88 = .ok (.ireturn, 1) := by decide +kernel
set_option maxRecDepth 20000 in
theorem ggX4_all_X4_of : GoodIn wsX4_all wsX4_of := goodIn_r _ [5] (by decide +kernel) (by decide +kernel)
set_option maxRecDepth 20000 in
theorem gX4_all_X4_of : GoodIn wsX4_all (va_wsS RX4 45 yX4_of wsX4_of) := goodIn_app (goodIn_of _ (by decide +kernel)) ggX4_all_X4_of
set_option maxRecDepth 20000 in
theorem ggX4_all_X4_shortOnes : GoodIn wsX4_all wsX4_shortOnes := goodIn_r _ [9, 1, 10, 11, 12, 4, 13, 14, 15, 16, 17, 18, 19, 20, 21, 22, 23, 2, 3, 5, 24, 25, 26, 27, 28, 29, 30, 31, 32, 33, 34, 35, 36, 37, 38, 39, 40, 41, 46, 47, 48, 49, 50, 51, 52, 53, 54, 55, 56] (by decide +kernel) (by decide +kernel)
set_option maxRecDepth 20000 in
theorem gX4_all_X4_shortOnes : GoodIn wsX4_all (wsV RX4 144 RX4 yX4_shortOnes wsX4_shortOnes) := goodIn_app (goodIn_of _ (by decide +kernel)) ggX4_all_X4_shortOnes
set_option maxRecDepth 20000 in
theorem ggX4_all_X4_crossings : GoodIn wsX4_all wsX4_crossings := goodIn_r _ [45, 10, 11, 12, 4, 13, 14, 15, 16, 17, 1, 18, 19, 20, 21, 22, 23, 2, 3, 5, 24, 25, 26, 27, 28, 29, 30, 46, 47, 48, 49, 50, 51, 52, 53, 54, 55, 56] (by decide +kernel) (by decide +kernel)
set_option maxRecDepth 20000 in
theorem gX4_all_X4_crossings : GoodIn wsX4_all (wsV RX4 141 RX4 yX4_crossings wsX4_crossings) := goodIn_app (goodIn_of _ (by decide +kernel)) ggX4_all_X4_crossings
theorem dX4_all_0 : decode cX4_all 0 = .ok (.iconst 0, 1) := by decide +kernel
theorem dX4_all_1 : decode cX4_all 1 = .ok (.istore_n 2, 1) := by decide +kernel
theorem dX4_all_2 : decode cX4_all 2 = .ok (.iconst 0, 1) := by decide +kernel
theorem dX4_all_3 : decode cX4_all 3 = .ok (.istore_n 3, 1) := by decide +kernel
theorem dX4_all_4 : decode cX4_all 4 = .ok (.iload_n 3, 1) := by decide +kernel
theorem dX4_all_5 : decode cX4_all 5 = .ok (.bipush 12, 2) := by decide +kernel
theorem dX4_all_7 : decode cX4_all 7 = .ok (.if_icmp .ge 38, 3) := by decide +kernel
theorem dX4_all_10 : decode cX4_all 10 = .ok (.iload_n 2, 1) := by decide +kernel
theorem dX4_all_11 : decode cX4_all 11 = .ok (.iload_n 1, 1) := by decide +kernel
theorem dX4_all_12 : decode cX4_all 12 = .ok (.ifCond .eq 20, 3) := by decide +kernel
theorem dX4_all_15 : decode cX4_all 15 = .ok (.aload_n 0, 1) := by decide +kernel
theorem dX4_all_16 : decode cX4_all 16 = .ok (.iload_n 3, 1) := by decide +kernel
theorem dX4_all_17 : decode cX4_all 17 = .ok (.aload_n 0, 1) := by decide +kernel
theorem dX4_all_18 : decode cX4_all 18 = .ok (.getfield 7, 3) := by decide +kernel
theorem dX4_all_21 : decode cX4_all 21 = .ok (.iload_n 3, 1) := by decide +kernel
theorem dX4_all_22 : decode cX4_all 22 = .ok (.iconst 1, 1) := by decide +kernel
theorem dX4_all_23 : decode cX4_all 23 = .ok (.invokestatic 45, 3) := by decide +kernel
theorem dX4_all_26 : decode cX4_all 26 = .ok (.invokevirtual 144, 3) := by decide +kernel
theorem dX4_all_29 : decode cX4_all 29 = .ok (.goto 8, 3) := by decide +kernel
theorem dX4_all_32 : decode cX4_all 32 = .ok (.aload_n 0, 1) := by decide +kernel
theorem dX4_all_33 : decode cX4_all 33 = .ok (.iload_n 3, 1) := by decide +kernel
theorem dX4_all_34 : decode cX4_all 34 = .ok (.invokevirtual 141, 3) := by decide +kernel
theorem dX4_all_37 : decode cX4_all 37 = .ok (.iadd, 1) := by decide +kernel
theorem dX4_all_38 : decode cX4_all 38 = .ok (.istore_n 2, 1) := by decide +kernel
theorem dX4_all_39 : decode cX4_all 39 = .ok (.iinc 3 1, 3) := by decide +kernel
theorem dX4_all_42 : decode cX4_all 42 = .ok (.goto (-38), 3) := by decide +kernel
theorem dX4_all_45 : decode cX4_all 45 = .ok (.iload_n 2, 1) := by decide +kernel
theorem dX4_all_46 : decode cX4_all 46 = .ok (.iconst 2, 1) := by decide +kernel
theorem dX4_all_47 : decode cX4_all 47 = .ok (.idiv, 1) := by decide +kernel
theorem dX4_all_48 : decode cX4_all 48 = .ok (.ireturn, 1) := by decide +kernel
set_option maxRecDepth 20000 in
theorem ggX4_weakest_X4_hasWire : GoodIn wsX4_weakest wsX4_hasWire := goodIn_r _ [6, 1, 7, 8, 5, 9, 10, 11, 12, 13, 14, 15, 16, 17, 18, 19, 20, 21, 22, 23, 24, 25, 26] (by decide +kernel) (by decide +kernel)
set_option maxRecDepth 20000 in
theorem gX4_weakest_X4_hasWire : GoodIn wsX4_weakest (wsV RX4 49 RX4 yX4_hasWire wsX4_hasWire) := goodIn_app (goodIn_of _ (by decide +kernel)) ggX4_weakest_X4_hasWire
set_option maxRecDepth 20000 in
theorem ggX4_weakest_X4_of : GoodIn wsX4_weakest wsX4_of := goodIn_r _ [15] (by decide +kernel) (by decide +kernel)
set_option maxRecDepth 20000 in
theorem gX4_weakest_X4_of : GoodIn wsX4_weakest (va_wsS RX4 45 yX4_of wsX4_of) := goodIn_app (goodIn_of _ (by decide +kernel)) ggX4_weakest_X4_of
theorem dX4_weakest_0 : decode cX4_weakest 0 = .ok (.bipush (-5), 2) := by decide +kernel
theorem dX4_weakest_2 : decode cX4_weakest 2 = .ok (.istore_n 1, 1) := by decide +kernel
theorem dX4_weakest_3 : decode cX4_weakest 3 = .ok (.iconst 0, 1) := by decide +kernel
theorem dX4_weakest_4 : decode cX4_weakest 4 = .ok (.istore_n 2, 1) := by decide +kernel
theorem dX4_weakest_5 : decode cX4_weakest 5 = .ok (.iload_n 2, 1) := by decide +kernel
theorem dX4_weakest_6 : decode cX4_weakest 6 = .ok (.bipush 12, 2) := by decide +kernel
theorem dX4_weakest_8 : decode cX4_weakest 8 = .ok (.if_icmp .ge 50, 3) := by decide +kernel
theorem dX4_weakest_11 : decode cX4_weakest 11 = .ok (.aload_n 0, 1) := by decide +kernel
theorem dX4_weakest_12 : decode cX4_weakest 12 = .ok (.iload_n 2, 1) := by decide +kernel
theorem dX4_weakest_13 : decode cX4_weakest 13 = .ok (.invokevirtual 49, 3) := by decide +kernel
theorem dX4_weakest_16 : decode cX4_weakest 16 = .ok (.ifCond .eq 34, 3) := by decide +kernel
theorem dX4_weakest_19 : decode cX4_weakest 19 = .ok (.iload_n 1, 1) := by decide +kernel
theorem dX4_weakest_20 : decode cX4_weakest 20 = .ok (.bipush (-5), 2) := by decide +kernel
theorem dX4_weakest_22 : decode cX4_weakest 22 = .ok (.if_icmp .eq 24, 3) := by decide +kernel
theorem dX4_weakest_25 : decode cX4_weakest 25 = .ok (.aload_n 0, 1) := by decide +kernel
theorem dX4_weakest_26 : decode cX4_weakest 26 = .ok (.getfield 7, 3) := by decide +kernel
theorem dX4_weakest_29 : decode cX4_weakest 29 = .ok (.iload_n 2, 1) := by decide +kernel
theorem dX4_weakest_30 : decode cX4_weakest 30 = .ok (.iconst 2, 1) := by decide +kernel
theorem dX4_weakest_31 : decode cX4_weakest 31 = .ok (.invokestatic 45, 3) := by decide +kernel
theorem dX4_weakest_34 : decode cX4_weakest 34 = .ok (.aload_n 0, 1) := by decide +kernel
theorem dX4_weakest_35 : decode cX4_weakest 35 = .ok (.getfield 7, 3) := by decide +kernel
theorem dX4_weakest_38 : decode cX4_weakest 38 = .ok (.iload_n 1, 1) := by decide +kernel
theorem dX4_weakest_39 : decode cX4_weakest 39 = .ok (.iconst 2, 1) := by decide +kernel
theorem dX4_weakest_40 : decode cX4_weakest 40 = .ok (.invokestatic 45, 3) := by decide +kernel
theorem dX4_weakest_43 : decode cX4_weakest 43 = .ok (.if_icmp .ge 7, 3) := by decide +kernel
theorem dX4_weakest_46 : decode cX4_weakest 46 = .ok (.iload_n 2, 1) := by decide +kernel
theorem dX4_weakest_47 : decode cX4_weakest 47 = .ok (.goto 4, 3) := by decide +kernel
theorem dX4_weakest_50 : decode cX4_weakest 50 = .ok (.iload_n 1, 1) := by decide +kernel
theorem dX4_weakest_51 : decode cX4_weakest 51 = .ok (.istore_n 1, 1) := by decide +kernel
theorem dX4_weakest_52 : decode cX4_weakest 52 = .ok (.iinc 2 1, 3) := by decide +kernel
theorem dX4_weakest_55 : decode cX4_weakest 55 = .ok (.goto (-50), 3) := by decide +kernel
theorem dX4_weakest_58 : decode cX4_weakest 58 = .ok (.iload_n 1, 1) := by decide +kernel
theorem dX4_weakest_59 : decode cX4_weakest 59 = .ok (.ireturn, 1) := by decide +kernel
set_option maxRecDepth 20000 in
theorem ggX4_strengths_X4_of : GoodIn wsX4_strengths wsX4_of := goodIn_r _ [5] (by decide +kernel) (by decide +kernel)
set_option maxRecDepth 20000 in
theorem gX4_strengths_X4_of : GoodIn wsX4_strengths (va_wsS RX4 45 yX4_of wsX4_of) := goodIn_app (goodIn_of _ (by decide +kernel)) ggX4_strengths_X4_of
theorem dX4_strengths_0 : decode cX4_strengths 0 = .ok (.iconst 0, 1) := by decide +kernel
theorem dX4_strengths_1 : decode cX4_strengths 1 = .ok (.istore_n 1, 1) := by decide +kernel
theorem dX4_strengths_2 : decode cX4_strengths 2 = .ok (.iconst 0, 1) := by decide +kernel
theorem dX4_strengths_3 : decode cX4_strengths 3 = .ok (.istore_n 2, 1) := by decide +kernel
theorem dX4_strengths_4 : decode cX4_strengths 4 = .ok (.iload_n 2, 1) := by decide +kernel
theorem dX4_strengths_5 : decode cX4_strengths 5 = .ok (.bipush 12, 2) := by decide +kernel
theorem dX4_strengths_7 : decode cX4_strengths 7 = .ok (.if_icmp .ge 21, 3) := by decide +kernel
theorem dX4_strengths_10 : decode cX4_strengths 10 = .ok (.iload_n 1, 1) := by decide +kernel
theorem dX4_strengths_11 : decode cX4_strengths 11 = .ok (.aload_n 0, 1) := by decide +kernel
theorem dX4_strengths_12 : decode cX4_strengths 12 = .ok (.getfield 7, 3) := by decide +kernel
theorem dX4_strengths_15 : decode cX4_strengths 15 = .ok (.iload_n 2, 1) := by decide +kernel
theorem dX4_strengths_16 : decode cX4_strengths 16 = .ok (.iconst 2, 1) := by decide +kernel
theorem dX4_strengths_17 : decode cX4_strengths 17 = .ok (.invokestatic 45, 3) := by decide +kernel
theorem dX4_strengths_20 : decode cX4_strengths 20 = .ok (.iadd, 1) := by decide +kernel
theorem dX4_strengths_21 : decode cX4_strengths 21 = .ok (.istore_n 1, 1) := by decide +kernel
theorem dX4_strengths_22 : decode cX4_strengths 22 = .ok (.iinc 2 1, 3) := by decide +kernel
theorem dX4_strengths_25 : decode cX4_strengths 25 = .ok (.goto (-21), 3) := by decide +kernel
theorem dX4_strengths_28 : decode cX4_strengths 28 = .ok (.iload_n 1, 1) := by decide +kernel
theorem dX4_strengths_29 : decode cX4_strengths 29 = .ok (.ireturn, 1) := by decide +kernel
set_option maxRecDepth 20000 in
theorem ggX4_count_X4_wires : GoodIn wsX4_count wsX4_wires := goodIn_r _ [8, 9, 10, 11, 7, 12, 1, 13, 14, 15, 16, 17, 18, 19, 20, 21, 64, 65, 66, 67, 68, 69, 70, 71, 72, 73, 74] (by decide +kernel) (by decide +kernel)
set_option maxRecDepth 20000 in
theorem gX4_count_X4_wires : GoodIn wsX4_count (wsV RX4 90 RX4 yX4_wires wsX4_wires) := goodIn_app (goodIn_of _ (by decide +kernel)) ggX4_count_X4_wires
set_option maxRecDepth 20000 in
theorem ggX4_count_X4_all : GoodIn wsX4_count wsX4_all := goodIn_r _ [25, 1, 19, 20, 7, 21, 26, 27, 28, 29, 30, 31, 32, 33, 9, 10, 11, 12, 13, 14, 15, 16, 17, 18, 34, 35, 36, 37, 38, 39, 40, 41, 42, 43, 44, 45, 46, 47, 48, 49, 50, 51, 52, 53, 54, 55, 64, 65, 66, 67, 68, 69, 70, 71, 72, 73, 74] (by decide +kernel) (by decide +kernel)
set_option maxRecDepth 20000 in
theorem gX4_count_X4_all : GoodIn wsX4_count (wsV RX4 150 RX4 yX4_all wsX4_all) := goodIn_app (goodIn_of _ (by decide +kernel)) ggX4_count_X4_all
set_option maxRecDepth 20000 in
theorem ggX4_count_X4_weakest : GoodIn wsX4_count wsX4_weakest := goodIn_r _ [59, 1, 9, 10, 11, 7, 12, 13, 14, 15, 16, 17, 18, 19, 20, 21, 64, 65, 66, 67, 68, 69, 70, 71, 72, 73, 74] (by decide +kernel) (by decide +kernel)
set_option maxRecDepth 20000 in
theorem gX4_count_X4_weakest : GoodIn wsX4_count (wsV RX4 154 RX4 yX4_weakest wsX4_weakest) := goodIn_app (goodIn_of _ (by decide +kernel)) ggX4_count_X4_weakest
set_option maxRecDepth 20000 in
theorem ggX4_count_X4_strengths : GoodIn wsX4_count wsX4_strengths := goodIn_r _ [63, 1, 19, 20, 7, 21, 64, 65, 66, 67, 68, 69, 70, 71, 72, 73, 74] (by decide +kernel) (by decide +kernel)
set_option maxRecDepth 20000 in
theorem gX4_count_X4_strengths : GoodIn wsX4_count (wsV RX4 157 RX4 yX4_strengths wsX4_strengths) := goodIn_app (goodIn_of _ (by decide +kernel)) ggX4_count_X4_strengths
theorem dX4_count_0 : decode cX4_count 0 = .ok (.iload_n 1, 1) := by decide +kernel
theorem dX4_count_1 : decode cX4_count 1 = .ok (.tableswitch 164 0 13 #[71, 76, 84, 90, 96, 104, 112, 120, 128, 136, 141, 146, 154, 159], 71) := by decide +kernel
theorem dX4_count_72 : decode cX4_count 72 = .ok (.aload_n 0, 1) := by decide +kernel
theorem dX4_count_73 : decode cX4_count 73 = .ok (.invokevirtual 90, 3) := by decide +kernel
theorem dX4_count_76 : decode cX4_count 76 = .ok (.ireturn, 1) := by decide +kernel
theorem dX4_count_77 : decode cX4_count 77 = .ok (.aload_n 0, 1) := by decide +kernel
theorem dX4_count_78 : decode cX4_count 78 = .ok (.getfield 7, 3) := by decide +kernel
theorem dX4_count_81 : decode cX4_count 81 = .ok (.bipush 68, 2) := by decide +kernel
theorem dX4_count_83 : decode cX4_count 83 = .ok (.iaload, 1) := by decide +kernel
theorem dX4_count_84 : decode cX4_count 84 = .ok (.ireturn, 1) := by decide +kernel
theorem dX4_count_85 : decode cX4_count 85 = .ok (.aload_n 0, 1) := by decide +kernel
theorem dX4_count_86 : decode cX4_count 86 = .ok (.iconst 0, 1) := by decide +kernel
theorem dX4_count_87 : decode cX4_count 87 = .ok (.invokevirtual 150, 3) := by decide +kernel
theorem dX4_count_90 : decode cX4_count 90 = .ok (.ireturn, 1) := by decide +kernel
theorem dX4_count_91 : decode cX4_count 91 = .ok (.aload_n 0, 1) := by decide +kernel
theorem dX4_count_92 : decode cX4_count 92 = .ok (.iconst 1, 1) := by decide +kernel
theorem dX4_count_93 : decode cX4_count 93 = .ok (.invokevirtual 150, 3) := by decide +kernel
theorem dX4_count_96 : decode cX4_count 96 = .ok (.ireturn, 1) := by decide +kernel
theorem dX4_count_97 : decode cX4_count 97 = .ok (.aload_n 0, 1) := by decide +kernel
theorem dX4_count_98 : decode cX4_count 98 = .ok (.getfield 7, 3) := by decide +kernel
theorem dX4_count_101 : decode cX4_count 101 = .ok (.bipush 65, 2) := by decide +kernel
theorem dX4_count_103 : decode cX4_count 103 = .ok (.iaload, 1) := by decide +kernel
theorem dX4_count_104 : decode cX4_count 104 = .ok (.ireturn, 1) := by decide +kernel
theorem dX4_count_105 : decode cX4_count 105 = .ok (.aload_n 0, 1) := by decide +kernel
theorem dX4_count_106 : decode cX4_count 106 = .ok (.getfield 7, 3) := by decide +kernel
theorem dX4_count_109 : decode cX4_count 109 = .ok (.bipush 66, 2) := by decide +kernel
theorem dX4_count_111 : decode cX4_count 111 = .ok (.iaload, 1) := by decide +kernel
theorem dX4_count_112 : decode cX4_count 112 = .ok (.ireturn, 1) := by decide +kernel
theorem dX4_count_113 : decode cX4_count 113 = .ok (.aload_n 0, 1) := by decide +kernel
theorem dX4_count_114 : decode cX4_count 114 = .ok (.getfield 7, 3) := by decide +kernel
theorem dX4_count_117 : decode cX4_count 117 = .ok (.bipush 67, 2) := by decide +kernel
theorem dX4_count_119 : decode cX4_count 119 = .ok (.iaload, 1) := by decide +kernel
theorem dX4_count_120 : decode cX4_count 120 = .ok (.ireturn, 1) := by decide +kernel
theorem dX4_count_121 : decode cX4_count 121 = .ok (.aload_n 0, 1) := by decide +kernel
theorem dX4_count_122 : decode cX4_count 122 = .ok (.getfield 7, 3) := by decide +kernel
theorem dX4_count_125 : decode cX4_count 125 = .ok (.bipush 64, 2) := by decide +kernel
theorem dX4_count_127 : decode cX4_count 127 = .ok (.iaload, 1) := by decide +kernel
theorem dX4_count_128 : decode cX4_count 128 = .ok (.ireturn, 1) := by decide +kernel
theorem dX4_count_129 : decode cX4_count 129 = .ok (.aload_n 0, 1) := by decide +kernel
theorem dX4_count_130 : decode cX4_count 130 = .ok (.getfield 7, 3) := by decide +kernel
theorem dX4_count_133 : decode cX4_count 133 = .ok (.bipush 69, 2) := by decide +kernel
theorem dX4_count_135 : decode cX4_count 135 = .ok (.iaload, 1) := by decide +kernel
theorem dX4_count_136 : decode cX4_count 136 = .ok (.ireturn, 1) := by decide +kernel
theorem dX4_count_137 : decode cX4_count 137 = .ok (.aload_n 0, 1) := by decide +kernel
theorem dX4_count_138 : decode cX4_count 138 = .ok (.invokevirtual 154, 3) := by decide +kernel
theorem dX4_count_141 : decode cX4_count 141 = .ok (.ireturn, 1) := by decide +kernel
theorem dX4_count_142 : decode cX4_count 142 = .ok (.aload_n 0, 1) := by decide +kernel
theorem dX4_count_143 : decode cX4_count 143 = .ok (.invokevirtual 157, 3) := by decide +kernel
theorem dX4_count_146 : decode cX4_count 146 = .ok (.ireturn, 1) := by decide +kernel
theorem dX4_count_147 : decode cX4_count 147 = .ok (.aload_n 0, 1) := by decide +kernel
theorem dX4_count_148 : decode cX4_count 148 = .ok (.getfield 7, 3) := by decide +kernel
theorem dX4_count_151 : decode cX4_count 151 = .ok (.bipush 70, 2) := by decide +kernel
theorem dX4_count_153 : decode cX4_count 153 = .ok (.iaload, 1) := by decide +kernel
theorem dX4_count_154 : decode cX4_count 154 = .ok (.ireturn, 1) := by decide +kernel
theorem dX4_count_155 : decode cX4_count 155 = .ok (.aload_n 0, 1) := by decide +kernel
theorem dX4_count_156 : decode cX4_count 156 = .ok (.getfield 29, 3) := by decide +kernel
theorem dX4_count_159 : decode cX4_count 159 = .ok (.ireturn, 1) := by decide +kernel
theorem dX4_count_160 : decode cX4_count 160 = .ok (.aload_n 0, 1) := by decide +kernel
theorem dX4_count_161 : decode cX4_count 161 = .ok (.getfield 118, 3) := by decide +kernel
theorem dX4_count_164 : decode cX4_count 164 = .ok (.ireturn, 1) := by decide +kernel
theorem dX4_count_165 : decode cX4_count 165 = .ok (.bipush (-2), 2) := by decide +kernel
theorem dX4_count_167 : decode cX4_count 167 = .ok (.ireturn, 1) := by decide +kernel
theorem dJ9_abs_0f7a4_0 : decode cJ9_abs_0f7a4 0 = .ok (.iload_n 0, 1) := by decide +kernel
theorem dJ9_abs_0f7a4_1 : decode cJ9_abs_0f7a4 1 = .ok (.ifCond .ge 8, 3) := by decide +kernel
theorem dJ9_abs_0f7a4_4 : decode cJ9_abs_0f7a4 4 = .ok (.iload_n 0, 1) := by decide +kernel
theorem dJ9_abs_0f7a4_5 : decode cJ9_abs_0f7a4 5 = .ok (.ineg, 1) := by decide +kernel
theorem dJ9_abs_0f7a4_6 : decode cJ9_abs_0f7a4 6 = .ok (.goto 4, 3) := by decide +kernel
theorem dJ9_abs_0f7a4_9 : decode cJ9_abs_0f7a4 9 = .ok (.iload_n 0, 1) := by decide +kernel
theorem dJ9_abs_0f7a4_10 : decode cJ9_abs_0f7a4 10 = .ok (.ireturn, 1) := by decide +kernel
theorem dJ9_max_7cf53_0 : decode cJ9_max_7cf53 0 = .ok (.iload_n 0, 1) := by decide +kernel
theorem dJ9_max_7cf53_1 : decode cJ9_max_7cf53 1 = .ok (.iload_n 1, 1) := by decide +kernel
theorem dJ9_max_7cf53_2 : decode cJ9_max_7cf53 2 = .ok (.if_icmp .lt 7, 3) := by decide +kernel
theorem dJ9_max_7cf53_5 : decode cJ9_max_7cf53 5 = .ok (.iload_n 0, 1) := by decide +kernel
theorem dJ9_max_7cf53_6 : decode cJ9_max_7cf53 6 = .ok (.goto 4, 3) := by decide +kernel
theorem dJ9_max_7cf53_9 : decode cJ9_max_7cf53 9 = .ok (.iload_n 1, 1) := by decide +kernel
theorem dJ9_max_7cf53_10 : decode cJ9_max_7cf53 10 = .ok (.ireturn, 1) := by decide +kernel
theorem dJ9_min_7cf53_0 : decode cJ9_min_7cf53 0 = .ok (.iload_n 0, 1) := by decide +kernel
theorem dJ9_min_7cf53_1 : decode cJ9_min_7cf53 1 = .ok (.iload_n 1, 1) := by decide +kernel
theorem dJ9_min_7cf53_2 : decode cJ9_min_7cf53 2 = .ok (.if_icmp .gt 7, 3) := by decide +kernel
theorem dJ9_min_7cf53_5 : decode cJ9_min_7cf53 5 = .ok (.iload_n 0, 1) := by decide +kernel
theorem dJ9_min_7cf53_6 : decode cJ9_min_7cf53 6 = .ok (.goto 4, 3) := by decide +kernel
theorem dJ9_min_7cf53_9 : decode cJ9_min_7cf53 9 = .ok (.iload_n 1, 1) := by decide +kernel
theorem dJ9_min_7cf53_10 : decode cJ9_min_7cf53 10 = .ok (.ireturn, 1) := by decide +kernel
theorem dJ7_fill_53178_0 : decode cJ7_fill_53178 0 = .ok (.iconst 0, 1) := by decide +kernel
theorem dJ7_fill_53178_1 : decode cJ7_fill_53178 1 = .ok (.istore_n 2, 1) := by decide +kernel
theorem dJ7_fill_53178_2 : decode cJ7_fill_53178 2 = .ok (.aload_n 0, 1) := by decide +kernel
theorem dJ7_fill_53178_3 : decode cJ7_fill_53178 3 = .ok (.arraylength, 1) := by decide +kernel
theorem dJ7_fill_53178_4 : decode cJ7_fill_53178 4 = .ok (.istore_n 3, 1) := by decide +kernel
theorem dJ7_fill_53178_5 : decode cJ7_fill_53178 5 = .ok (.iload_n 2, 1) := by decide +kernel
theorem dJ7_fill_53178_6 : decode cJ7_fill_53178 6 = .ok (.iload_n 3, 1) := by decide +kernel
theorem dJ7_fill_53178_7 : decode cJ7_fill_53178 7 = .ok (.if_icmp .ge 13, 3) := by decide +kernel
theorem dJ7_fill_53178_10 : decode cJ7_fill_53178 10 = .ok (.aload_n 0, 1) := by decide +kernel
theorem dJ7_fill_53178_11 : decode cJ7_fill_53178 11 = .ok (.iload_n 2, 1) := by decide +kernel
theorem dJ7_fill_53178_12 : decode cJ7_fill_53178 12 = .ok (.iload_n 1, 1) := by decide +kernel
theorem dJ7_fill_53178_13 : decode cJ7_fill_53178 13 = .ok (.iastore, 1) := by decide +kernel
theorem dJ7_fill_53178_14 : decode cJ7_fill_53178 14 = .ok (.iinc 2 1, 3) := by decide +kernel
theorem dJ7_fill_53178_17 : decode cJ7_fill_53178 17 = .ok (.goto (-12), 3) := by decide +kernel
theorem dJ7_fill_53178_20 : decode cJ7_fill_53178 20 = .ok (.return_, 1) := by decide +kernel
set_option maxRecDepth 20000 in
theorem ggL_law_X3_init : GoodIn wsL_law wsX3_init := goodIn_r _ [8, 9, 10, 11, 12, 13, 14, 15, 16, 17, 18, 19, 20, 21, 22, 23, 24, 25, 26, 27, 28, 29, 30, 31, 32, 33, 34, 35, 36, 37, 38, 39, 40, 41, 42, 43, 44, 45, 46, 47, 48, 49, 50, 51, 52, 53, 54, 55, 56, 57, 660, 661, 662, 663, 664, 665, 666, 667, 668, 669, 670, 671, 643, 644, 645, 646, 647, 648, 672, 673, 674, 675, 676, 677, 678, 679, 680] (by decide +kernel) (by decide +kernel)
set_option maxRecDepth 20000 in
theorem gL_law_X3_init : GoodIn wsL_law (wsX3_init) := ggL_law_X3_init
set_option maxRecDepth 20000 in
theorem ggL_law_X4_init : GoodIn wsL_law wsX4_init := goodIn_r _ [60, 61, 10, 11, 31, 62, 63, 64, 65, 53, 66, 67, 649, 650, 651, 652, 653, 654, 655, 656, 657, 658, 659] (by decide +kernel) (by decide +kernel)
set_option maxRecDepth 20000 in
theorem gL_law_X4_init : GoodIn wsL_law (wsX4_init) := ggL_law_X4_init
set_option maxRecDepth 20000 in
theorem ggL_law_X3_lay : GoodIn wsL_law wsX3_lay := goodIn_r _ [71, 15, 22, 72, 73, 2, 74, 75, 76, 77, 78, 79, 80, 81, 82, 83, 84, 85, 86, 14, 87, 88, 89, 90, 91, 92, 93, 33, 94, 95, 96, 97, 98, 99, 100, 21, 101, 48, 102, 103, 104, 105, 47, 106, 107, 108, 109, 110, 111, 112, 113, 32, 114, 115, 116, 117, 34, 35, 36, 118, 37, 119, 120, 121, 122, 123, 124, 125, 126, 127, 128, 129, 130, 131, 132, 133, 134, 135, 136, 137, 138, 139, 140, 141, 142, 143, 144, 145, 146, 147, 148, 149, 150, 151, 152, 643, 644, 645, 646, 647, 648, 660, 661, 662, 663, 664, 665, 666, 667, 668, 669, 670, 671, 672, 673] (by decide +kernel) (by decide +kernel)
set_option maxRecDepth 20000 in
theorem gL_law_X3_lay : GoodIn wsL_law (wsV RL 13 RX3 yX3_lay wsX3_lay) := goodIn_app (goodIn_of _ (by decide +kernel)) ggL_law_X3_lay
set_option maxRecDepth 20000 in
theorem ggL_law_X4_lay : GoodIn wsL_law wsX4_lay := goodIn_r _ [156, 62, 157, 158, 5, 159, 160, 161, 162, 163, 164, 165, 166, 167, 168, 169, 170, 171, 172, 173, 174, 175, 176, 177, 178, 179, 180, 181, 182, 64, 183, 184, 185, 186, 187, 188, 189, 190, 191, 192, 193, 194, 195, 196, 197, 649, 650, 651, 652, 653, 654, 655, 656, 657, 658, 659] (by decide +kernel) (by decide +kernel)
set_option maxRecDepth 20000 in
theorem gL_law_X4_lay : GoodIn wsL_law (wsV RL 17 RX4 yX4_lay wsX4_lay) := goodIn_app (goodIn_of _ (by decide +kernel)) ggL_law_X4_lay
set_option maxRecDepth 20000 in
theorem ggL_law_X3_layAll : GoodIn wsL_law wsX3_layAll := goodIn_r _ [201, 26, 16, 15, 22, 202, 203, 204, 25, 205, 206, 207, 208, 209, 210, 211, 212, 55, 56, 57, 213, 214, 215, 216, 217, 218, 219, 220, 54, 221, 222, 223, 224, 82, 2, 83, 225, 226, 227, 228, 229, 230, 231, 232, 233, 234, 235, 236, 237, 111, 112, 14, 113, 32, 114, 115, 116, 117, 33, 34, 35, 36, 118, 37, 89, 119, 88, 120, 121, 238, 239, 240, 241, 242, 243, 244, 245, 246, 247, 248, 249, 250, 251, 252, 253, 254, 255, 256, 257, 258, 85, 86, 87, 90, 91, 92, 93, 73, 74, 94, 95, 96, 97, 259, 260, 261, 262, 263, 123, 124, 125, 76, 77, 126, 127, 128, 129, 130, 131, 132, 133, 134, 135, 136, 137, 138, 139, 140, 141, 142, 143, 144, 145, 146, 147, 148, 98, 99, 100, 21, 101, 48, 102, 103, 104, 105, 47, 106, 107, 108, 109, 110, 264, 265, 266, 267, 643, 644, 645, 646, 647, 648, 674, 675, 676, 677, 678, 679, 680, 660, 661, 662, 663, 664, 665, 666, 667, 668, 669, 670, 671, 672, 673] (by decide +kernel) (by decide +kernel)
set_option maxRecDepth 20000 in
theorem gL_law_X3_layAll : GoodIn wsL_law (wsV RL 18 RX3 yX3_layAll wsX3_layAll) := goodIn_app (goodIn_of _ (by decide +kernel)) ggL_law_X3_layAll
set_option maxRecDepth 20000 in
theorem ggL_law_X4_layAll : GoodIn wsL_law wsX4_layAll := goodIn_r _ [271, 62, 63, 272, 67, 273, 274, 275, 5, 276, 277, 278, 279, 280, 281, 282, 283, 284, 285, 286, 66, 287, 288, 289, 290, 160, 161, 162, 291, 292, 293, 294, 183, 184, 185, 169, 170, 171, 172, 173, 174, 175, 176, 177, 186, 187, 188, 189, 190, 191, 192, 193, 194, 195, 196, 197, 178, 179, 180, 181, 182, 64, 295, 296, 297, 298, 299, 300, 301, 302, 157, 158, 159, 649, 650, 651, 652, 653, 654, 655, 656, 657, 658, 659] (by decide +kernel) (by decide +kernel)
set_option maxRecDepth 20000 in
theorem gL_law_X4_layAll : GoodIn wsL_law (wsV RL 22 RX4 yX4_layAll wsX4_layAll) := goodIn_app (goodIn_of _ (by decide +kernel)) ggL_law_X4_layAll
set_option maxRecDepth 20000 in
theorem ggL_law_X3_takeOff : GoodIn wsL_law wsX3_takeOff := goodIn_r _ [306, 15, 22, 307, 91, 92, 14, 93, 33, 73, 2, 74, 98, 99, 100, 21, 101, 48, 102, 103, 104, 105, 47, 106, 107, 108, 109, 82, 83, 110, 111, 112, 113, 32, 114, 115, 116, 117, 34, 35, 36, 118, 37, 89, 119, 88, 120, 121, 149, 150, 151, 152, 308, 309, 310, 311, 643, 644, 645, 646, 647, 648, 660, 661, 662, 663, 664, 665, 666, 667, 668, 669, 670, 671, 672, 673] (by decide +kernel) (by decide +kernel)
set_option maxRecDepth 20000 in
theorem gL_law_X3_takeOff : GoodIn wsL_law (wsV RL 23 RX3 yX3_takeOff wsX3_takeOff) := goodIn_app (goodIn_of _ (by decide +kernel)) ggL_law_X3_takeOff
set_option maxRecDepth 20000 in
theorem ggL_law_X4_takeOff : GoodIn wsL_law wsX4_takeOff := goodIn_r _ [315, 62, 299, 300, 301, 5, 302, 157, 158, 159, 160, 161, 162, 172, 173, 174, 178, 179, 180, 181, 182, 64, 183, 184, 185, 316, 317, 318, 319, 649, 650, 651, 652, 653, 654, 655, 656, 657, 658, 659] (by decide +kernel) (by decide +kernel)
set_option maxRecDepth 20000 in
theorem gL_law_X4_takeOff : GoodIn wsL_law (wsV RL 27 RX4 yX4_takeOff wsX4_takeOff) := goodIn_app (goodIn_of _ (by decide +kernel)) ggL_law_X4_takeOff
set_option maxRecDepth 20000 in
theorem ggL_law_X3_bend : GoodIn wsL_law wsX3_bend := goodIn_r _ [323, 15, 22, 307, 91, 92, 14, 93, 33, 73, 2, 74, 78, 79, 80, 81, 82, 83, 324, 325, 326, 327, 34, 98, 99, 100, 21, 101, 48, 102, 103, 104, 105, 47, 106, 107, 108, 109, 110, 111, 112, 113, 32, 114, 115, 116, 117, 35, 36, 118, 37, 89, 119, 88, 120, 121, 328, 329, 330, 331, 643, 644, 645, 646, 647, 648, 660, 661, 662, 663, 664, 665, 666, 667, 668, 669, 670, 671, 672, 673] (by decide +kernel) (by decide +kernel)
set_option maxRecDepth 20000 in
theorem gL_law_X3_bend : GoodIn wsL_law (wsV RL 28 RX3 yX3_bend wsX3_bend) := goodIn_app (goodIn_of _ (by decide +kernel)) ggL_law_X3_bend
set_option maxRecDepth 20000 in
theorem ggL_law_X4_bend : GoodIn wsL_law wsX4_bend := goodIn_r _ [335, 299, 300, 301, 5, 302, 62, 157, 158, 159, 160, 161, 162, 172, 173, 174, 166, 167, 168, 336, 337, 338, 339, 178, 179, 180, 181, 182, 64, 183, 184, 185, 649, 650, 651, 652, 653, 654, 655, 656, 657, 658, 659] (by decide +kernel) (by decide +kernel)
set_option maxRecDepth 20000 in
theorem gL_law_X4_bend : GoodIn wsL_law (wsV RL 32 RX4 yX4_bend wsX4_bend) := goodIn_app (goodIn_of _ (by decide +kernel)) ggL_law_X4_bend
set_option maxRecDepth 20000 in
theorem ggL_law_X3_moveLead : GoodIn wsL_law wsX3_moveLead := goodIn_r _ [343, 15, 22, 75, 76, 2, 77, 81, 82, 83, 344, 95, 96, 14, 97, 33, 90, 91, 92, 93, 73, 74, 345, 140, 141, 142, 32, 98, 99, 100, 21, 101, 48, 102, 103, 104, 105, 47, 106, 107, 108, 109, 110, 111, 112, 113, 114, 115, 116, 117, 34, 35, 36, 118, 37, 89, 119, 88, 120, 121, 346, 347, 348, 349, 643, 644, 645, 646, 647, 648, 660, 661, 662, 663, 664, 665, 666, 667, 668, 669, 670, 671, 672, 673] (by decide +kernel) (by decide +kernel)
set_option maxRecDepth 20000 in
theorem gL_law_X3_moveLead : GoodIn wsL_law (wsV RL 33 RX3 yX3_moveLead wsX3_moveLead) := goodIn_app (goodIn_of _ (by decide +kernel)) ggL_law_X3_moveLead
set_option maxRecDepth 20000 in
theorem ggL_law_X4_moveLead : GoodIn wsL_law wsX4_moveLead := goodIn_r _ [353, 62, 163, 164, 5, 165, 160, 161, 162, 175, 176, 177, 172, 173, 174, 336, 337, 338, 339, 178, 179, 180, 181, 182, 64, 183, 184, 185, 649, 650, 651, 652, 653, 654, 655, 656, 657, 658, 659] (by decide +kernel) (by decide +kernel)
set_option maxRecDepth 20000 in
theorem gL_law_X4_moveLead : GoodIn wsL_law (wsV RL 36 RX4 yX4_moveLead wsX4_moveLead) := goodIn_app (goodIn_of _ (by decide +kernel)) ggL_law_X4_moveLead
set_option maxRecDepth 20000 in
theorem ggL_law_X3_setWidth : GoodIn wsL_law wsX3_setWidth := goodIn_r _ [357, 15, 22, 81, 82, 2, 83, 98, 99, 100, 21, 101, 48, 102, 103, 104, 105, 47, 106, 107, 108, 109, 110, 111, 112, 14, 113, 32, 114, 115, 116, 117, 33, 34, 35, 36, 118, 37, 89, 119, 88, 120, 121, 643, 644, 645, 646, 647, 648, 660, 661, 662, 663, 664, 665, 666, 667, 668, 669, 670, 671, 672, 673] (by decide +kernel) (by decide +kernel)
set_option maxRecDepth 20000 in
theorem gL_law_X3_setWidth : GoodIn wsL_law (wsV RL 37 RX3 yX3_setWidth wsX3_setWidth) := goodIn_app (goodIn_of _ (by decide +kernel)) ggL_law_X3_setWidth
set_option maxRecDepth 20000 in
theorem ggL_law_X4_setWidth : GoodIn wsL_law wsX4_setWidth := goodIn_r _ [361, 160, 161, 5, 162, 336, 337, 338, 339, 62, 178, 179, 180, 181, 182, 64, 183, 184, 185, 649, 650, 651, 652, 653, 654, 655, 656, 657, 658, 659] (by decide +kernel) (by decide +kernel)
set_option maxRecDepth 20000 in
theorem gL_law_X4_setWidth : GoodIn wsL_law (wsV RL 40 RX4 yX4_setWidth wsX4_setWidth) := goodIn_app (goodIn_of _ (by decide +kernel)) ggL_law_X4_setWidth
set_option maxRecDepth 20000 in
theorem ggL_law_X3_changeTool : GoodIn wsL_law wsX3_changeTool := goodIn_r _ [365, 15, 22, 98, 99, 100, 21, 101, 48, 102, 103, 104, 105, 47, 106, 107, 108, 109, 82, 2, 83, 110, 111, 112, 14, 113, 32, 114, 115, 116, 117, 33, 34, 35, 36, 118, 37, 89, 119, 88, 120, 121, 643, 644, 645, 646, 647, 648, 660, 661, 662, 663, 664, 665, 666, 667, 668, 669, 670, 671, 672, 673] (by decide +kernel) (by decide +kernel)
set_option maxRecDepth 20000 in
theorem gL_law_X3_changeTool : GoodIn wsL_law (wsV RL 41 RX3 yX3_changeTool wsX3_changeTool) := goodIn_app (goodIn_of _ (by decide +kernel)) ggL_law_X3_changeTool
set_option maxRecDepth 20000 in
theorem ggL_law_X4_changeTool : GoodIn wsL_law wsX4_changeTool := goodIn_r _ [369, 62, 178, 179, 180, 5, 181, 182, 64, 183, 184, 185, 649, 650, 651, 652, 653, 654, 655, 656, 657, 658, 659] (by decide +kernel) (by decide +kernel)
set_option maxRecDepth 20000 in
theorem gL_law_X4_changeTool : GoodIn wsL_law (wsV RL 44 RX4 yX4_changeTool wsX4_changeTool) := goodIn_app (goodIn_of _ (by decide +kernel)) ggL_law_X4_changeTool
set_option maxRecDepth 20000 in
theorem ggL_law_X3_thread : GoodIn wsL_law wsX3_thread := goodIn_r _ [373, 15, 22, 98, 99, 100, 21, 101, 48, 102, 103, 104, 105, 47, 106, 107, 108, 109, 82, 2, 83, 110, 111, 112, 14, 113, 32, 114, 115, 116, 117, 33, 34, 35, 36, 118, 37, 89, 119, 88, 120, 121, 643, 644, 645, 646, 647, 648, 660, 661, 662, 663, 664, 665, 666, 667, 668, 669, 670, 671, 672, 673] (by decide +kernel) (by decide +kernel)
set_option maxRecDepth 20000 in
theorem gL_law_X3_thread : GoodIn wsL_law (wsV RL 45 RX3 yX3_thread wsX3_thread) := goodIn_app (goodIn_of _ (by decide +kernel)) ggL_law_X3_thread
set_option maxRecDepth 20000 in
theorem ggL_law_X4_thread : GoodIn wsL_law wsX4_thread := goodIn_r _ [377, 62, 178, 179, 180, 5, 181, 182, 64, 183, 184, 185, 649, 650, 651, 652, 653, 654, 655, 656, 657, 658, 659] (by decide +kernel) (by decide +kernel)
set_option maxRecDepth 20000 in
theorem gL_law_X4_thread : GoodIn wsL_law (wsV RL 48 RX4 yX4_thread wsX4_thread) := goodIn_app (goodIn_of _ (by decide +kernel)) ggL_law_X4_thread
set_option maxRecDepth 20000 in
theorem ggL_law_X3_pull : GoodIn wsL_law wsX3_pull := goodIn_r _ [381, 15, 22, 307, 91, 92, 14, 93, 33, 73, 2, 74, 81, 82, 83, 98, 99, 100, 21, 101, 48, 102, 103, 104, 105, 47, 106, 107, 108, 109, 110, 111, 112, 113, 32, 114, 115, 116, 117, 34, 35, 36, 118, 37, 89, 119, 88, 120, 121, 382, 383, 384, 385, 130, 131, 132, 133, 90, 386, 309, 310, 311, 149, 150, 151, 152, 643, 644, 645, 646, 647, 648, 660, 661, 662, 663, 664, 665, 666, 667, 668, 669, 670, 671, 672, 673] (by decide +kernel) (by decide +kernel)
set_option maxRecDepth 20000 in
theorem gL_law_X3_pull : GoodIn wsL_law (wsV RL 49 RX3 yX3_pull wsX3_pull) := goodIn_app (goodIn_of _ (by decide +kernel)) ggL_law_X3_pull
set_option maxRecDepth 20000 in
theorem ggL_law_X4_pull : GoodIn wsL_law wsX4_pull := goodIn_r _ [390, 299, 300, 301, 5, 302, 62, 157, 158, 159, 160, 161, 162, 172, 173, 174, 178, 179, 180, 181, 182, 64, 183, 184, 185, 391, 392, 393, 394, 316, 317, 318, 319, 649, 650, 651, 652, 653, 654, 655, 656, 657, 658, 659] (by decide +kernel) (by decide +kernel)
set_option maxRecDepth 20000 in
theorem gL_law_X4_pull : GoodIn wsL_law (wsV RL 52 RX4 yX4_pull wsX4_pull) := goodIn_app (goodIn_of _ (by decide +kernel)) ggL_law_X4_pull
set_option maxRecDepth 20000 in
theorem ggL_law_X3_sample : GoodIn wsL_law wsX3_sample := goodIn_r _ [398, 15, 22, 81, 82, 2, 83, 264, 265, 266, 14, 267, 90, 91, 92, 93, 33, 73, 74, 98, 99, 100, 21, 101, 48, 102, 103, 104, 105, 47, 106, 107, 108, 109, 110, 111, 112, 113, 32, 114, 115, 116, 117, 34, 35, 36, 118, 37, 89, 119, 88, 120, 121, 399, 400, 401, 402, 403, 383, 384, 385, 130, 131, 132, 133, 386, 309, 310, 311, 643, 644, 645, 646, 647, 648, 660, 661, 662, 663, 664, 665, 666, 667, 668, 669, 670, 671, 672, 673] (by decide +kernel) (by decide +kernel)
set_option maxRecDepth 20000 in
theorem gL_law_X3_sample : GoodIn wsL_law (wsV RL 53 RX3 yX3_sample wsX3_sample) := goodIn_app (goodIn_of _ (by decide +kernel)) ggL_law_X3_sample
set_option maxRecDepth 20000 in
theorem ggL_law_X4_sample : GoodIn wsL_law wsX4_sample := goodIn_r _ [407, 160, 161, 5, 162, 295, 296, 297, 298, 299, 300, 301, 302, 62, 157, 158, 159, 172, 173, 174, 178, 179, 180, 181, 182, 64, 183, 184, 185, 391, 392, 393, 394, 316, 317, 318, 319, 649, 650, 651, 652, 653, 654, 655, 656, 657, 658, 659] (by decide +kernel) (by decide +kernel)
set_option maxRecDepth 20000 in
theorem gL_law_X4_sample : GoodIn wsL_law (wsV RL 56 RX4 yX4_sample wsX4_sample) := goodIn_app (goodIn_of _ (by decide +kernel)) ggL_law_X4_sample
set_option maxRecDepth 20000 in
theorem ggL_law_X3_type : GoodIn wsL_law wsX3_type := goodIn_r _ [411, 26, 412, 413, 414, 25, 415, 208, 54, 416, 417, 418, 419, 643, 644, 645, 646, 647, 648, 674, 675, 676, 677, 678, 679, 680] (by decide +kernel) (by decide +kernel)
set_option maxRecDepth 20000 in
theorem gL_law_X3_type : GoodIn wsL_law (wsV RL 57 RX3 yX3_type wsX3_type) := goodIn_app (goodIn_of _ (by decide +kernel)) ggL_law_X3_type
set_option maxRecDepth 20000 in
theorem ggL_law_X4_type : GoodIn wsL_law wsX4_type := goodIn_r _ [423, 278, 66, 649, 650, 651, 652, 653, 654, 655, 656, 657, 658, 659] (by decide +kernel) (by decide +kernel)
set_option maxRecDepth 20000 in
theorem gL_law_X4_type : GoodIn wsL_law (wsV RL 61 RX4 yX4_type wsX4_type) := goodIn_app (goodIn_of _ (by decide +kernel)) ggL_law_X4_type
set_option maxRecDepth 20000 in
theorem ggL_law_X3_clearText : GoodIn wsL_law wsX3_clearText := goodIn_r _ [427, 26, 416, 417, 418, 25, 419, 208, 428, 429, 430, 431, 643, 644, 645, 646, 647, 648, 674, 675, 676, 677, 678, 679, 680] (by decide +kernel) (by decide +kernel)
set_option maxRecDepth 20000 in
theorem gL_law_X3_clearText : GoodIn wsL_law (wsV RL 62 RX3 yX3_clearText wsX3_clearText) := goodIn_app (goodIn_of _ (by decide +kernel)) ggL_law_X3_clearText
set_option maxRecDepth 20000 in
theorem ggL_law_X4_clearText : GoodIn wsL_law wsX4_clearText := goodIn_r _ [435, 278, 649, 650, 651, 652, 653, 654, 655, 656, 657, 658, 659] (by decide +kernel) (by decide +kernel)
set_option maxRecDepth 20000 in
theorem gL_law_X4_clearText : GoodIn wsL_law (wsV RL 65 RX4 yX4_clearText wsX4_clearText) := goodIn_app (goodIn_of _ (by decide +kernel)) ggL_law_X4_clearText
set_option maxRecDepth 20000 in
theorem ggL_law_X3_undo : GoodIn wsL_law wsX3_undo := goodIn_r _ [439, 22, 15, 440, 441, 442, 21, 443, 48, 444, 445, 446, 447, 106, 107, 108, 109, 47, 82, 2, 83, 110, 111, 112, 14, 113, 32, 114, 115, 116, 117, 33, 34, 35, 36, 118, 37, 89, 119, 88, 120, 121, 643, 644, 645, 646, 647, 648, 672, 673, 660, 661, 662, 663, 664, 665, 666, 667, 668, 669, 670, 671] (by decide +kernel) (by decide +kernel)
set_option maxRecDepth 20000 in
theorem gL_law_X3_undo : GoodIn wsL_law (wsV RL 66 RX3 yX3_undo wsX3_undo) := goodIn_app (goodIn_of _ (by decide +kernel)) ggL_law_X3_undo
set_option maxRecDepth 20000 in
theorem ggL_law_X4_undo : GoodIn wsL_law wsX4_undo := goodIn_r _ [451, 182, 64, 62, 183, 184, 5, 185, 649, 650, 651, 652, 653, 654, 655, 656, 657, 658, 659] (by decide +kernel) (by decide +kernel)
set_option maxRecDepth 20000 in
theorem gL_law_X4_undo : GoodIn wsL_law (wsV RL 69 RX4 yX4_undo wsX4_undo) := goodIn_app (goodIn_of _ (by decide +kernel)) ggL_law_X4_undo
set_option maxRecDepth 20000 in
theorem ggL_law_X3_keep : GoodIn wsL_law wsX3_keep := goodIn_r _ [455, 17, 15, 18, 237, 111, 112, 14, 113, 32, 114, 115, 116, 117, 33, 34, 35, 36, 118, 37, 89, 119, 88, 120, 121, 264, 265, 266, 267, 90, 91, 92, 93, 73, 2, 74, 643, 644, 645, 646, 647, 648, 660, 661, 662, 663, 664, 665, 666, 667, 668, 669, 670, 671] (by decide +kernel) (by decide +kernel)
set_option maxRecDepth 20000 in
theorem gL_law_X3_keep : GoodIn wsL_law (wsV RL 70 RX3 yX3_keep wsX3_keep) := goodIn_app (goodIn_of _ (by decide +kernel)) ggL_law_X3_keep
set_option maxRecDepth 20000 in
theorem ggL_law_X4_keep : GoodIn wsL_law wsX4_keep := goodIn_r _ [459, 62, 65, 460, 183, 184, 5, 185, 295, 296, 297, 298, 299, 300, 301, 302, 157, 158, 159, 160, 161, 162, 172, 173, 174, 649, 650, 651, 652, 653, 654, 655, 656, 657, 658, 659] (by decide +kernel) (by decide +kernel)
set_option maxRecDepth 20000 in
theorem gL_law_X4_keep : GoodIn wsL_law (wsV RL 73 RX4 yX4_keep wsX4_keep) := goodIn_app (goodIn_of _ (by decide +kernel)) ggL_law_X4_keep
set_option maxRecDepth 20000 in
theorem ggL_law_X3_restore : GoodIn wsL_law wsX3_restore := goodIn_r _ [464, 18, 22, 15, 17, 98, 99, 100, 21, 101, 48, 102, 103, 104, 105, 47, 106, 107, 108, 109, 82, 2, 83, 110, 111, 112, 14, 113, 32, 114, 115, 116, 117, 33, 34, 35, 36, 118, 37, 89, 119, 88, 120, 121, 237, 264, 265, 266, 267, 90, 91, 92, 93, 73, 74, 643, 644, 645, 646, 647, 648, 672, 673, 660, 661, 662, 663, 664, 665, 666, 667, 668, 669, 670, 671] (by decide +kernel) (by decide +kernel)
set_option maxRecDepth 20000 in
theorem gL_law_X3_restore : GoodIn wsL_law (wsV RL 74 RX3 yX3_restore wsX3_restore) := goodIn_app (goodIn_of _ (by decide +kernel)) ggL_law_X3_restore
set_option maxRecDepth 20000 in
theorem ggL_law_X4_restore : GoodIn wsL_law wsX4_restore := goodIn_r _ [468, 460, 65, 62, 178, 179, 180, 5, 181, 182, 64, 183, 184, 185, 295, 296, 297, 298, 299, 300, 301, 302, 157, 158, 159, 160, 161, 162, 172, 173, 174, 649, 650, 651, 652, 653, 654, 655, 656, 657, 658, 659] (by decide +kernel) (by decide +kernel)
set_option maxRecDepth 20000 in
theorem gL_law_X4_restore : GoodIn wsL_law (wsV RL 77 RX4 yX4_restore wsX4_restore) := goodIn_app (goodIn_of _ (by decide +kernel)) ggL_law_X4_restore
set_option maxRecDepth 20000 in
theorem ggL_law_X3_wire : GoodIn wsL_law wsX3_wire := goodIn_r _ [472, 15, 307, 91, 92, 14, 93, 33, 73, 2, 74, 473, 474, 475, 476, 324, 325, 326, 327, 34, 149, 150, 151, 152, 35, 477, 478, 479, 480, 481, 482, 483, 484, 90, 485, 486, 487, 488, 32, 489, 490, 491, 492, 493, 494, 495, 496, 37, 497, 498, 499, 500, 134, 135, 132, 136, 501, 502, 503, 504, 137, 138, 505, 506, 507, 508, 509, 510, 511, 512, 513, 514, 515, 516, 517, 518, 519, 36, 643, 644, 645, 646, 647, 648, 660, 661, 662, 663, 664, 665, 666, 667, 668, 669, 670, 671] (by decide +kernel) (by decide +kernel)
set_option maxRecDepth 20000 in
theorem gL_law_X3_wire : GoodIn wsL_law (wsV RL 78 RX3 yX3_wire wsX3_wire) := goodIn_app (goodIn_of _ (by decide +kernel)) ggL_law_X3_wire
set_option maxRecDepth 20000 in
theorem ggL_law_X4_wire : GoodIn wsL_law wsX4_wire := goodIn_r _ [523, 62, 299, 300, 301, 5, 302, 157, 158, 159, 160, 161, 162, 172, 173, 174, 524, 525, 526, 527, 528, 529, 530, 531, 532, 533, 534, 535, 192, 193, 194, 536, 537, 538, 539, 540, 541, 542, 543, 544, 545, 546, 547, 195, 196, 197, 548, 549, 550, 551, 649, 650, 651, 652, 653, 654, 655, 656, 657, 658, 659] (by decide +kernel) (by decide +kernel)
set_option maxRecDepth 20000 in
theorem gL_law_X4_wire : GoodIn wsL_law (wsV RL 81 RX4 yX4_wire wsX4_wire) := goodIn_app (goodIn_of _ (by decide +kernel)) ggL_law_X4_wire
set_option maxRecDepth 20000 in
theorem ggL_law_X3_heightAt : GoodIn wsL_law wsX3_heightAt := goodIn_r _ [555, 15, 307, 91, 92, 14, 93, 33, 73, 2, 74, 81, 82, 83, 324, 325, 326, 327, 34, 556, 505, 506, 507, 643, 644, 645, 646, 647, 648, 660, 661, 662, 663, 664, 665, 666, 667, 668, 669, 670, 671] (by decide +kernel) (by decide +kernel)
set_option maxRecDepth 20000 in
theorem gL_law_X3_heightAt : GoodIn wsL_law (wsV RL 82 RX3 yX3_heightAt wsX3_heightAt) := goodIn_app (goodIn_of _ (by decide +kernel)) ggL_law_X3_heightAt
set_option maxRecDepth 20000 in
theorem ggL_law_X4_heightAt : GoodIn wsL_law wsX4_heightAt := goodIn_r _ [560, 62, 299, 300, 301, 5, 302, 157, 158, 159, 160, 161, 162, 172, 173, 174, 544, 545, 546, 547, 649, 650, 651, 652, 653, 654, 655, 656, 657, 658, 659] (by decide +kernel) (by decide +kernel)
set_option maxRecDepth 20000 in
theorem gL_law_X4_heightAt : GoodIn wsL_law (wsV RL 85 RX4 yX4_heightAt wsX4_heightAt) := goodIn_app (goodIn_of _ (by decide +kernel)) ggL_law_X4_heightAt
set_option maxRecDepth 20000 in
theorem ggL_law_X3_crossing : GoodIn wsL_law wsX3_crossing := goodIn_r _ [564, 15, 307, 91, 92, 14, 93, 33, 73, 2, 74, 81, 82, 83, 565, 482, 483, 484, 90, 485, 486, 487, 488, 32, 566, 502, 503, 504, 134, 135, 132, 136, 137, 138, 324, 325, 326, 327, 34, 567, 498, 499, 500, 501, 505, 506, 507, 508, 568, 494, 495, 496, 37, 481, 497, 643, 644, 645, 646, 647, 648, 660, 661, 662, 663, 664, 665, 666, 667, 668, 669, 670, 671] (by decide +kernel) (by decide +kernel)
set_option maxRecDepth 20000 in
theorem gL_law_X3_crossing : GoodIn wsL_law (wsV RL 86 RX3 yX3_crossing wsX3_crossing) := goodIn_app (goodIn_of _ (by decide +kernel)) ggL_law_X3_crossing
set_option maxRecDepth 20000 in
theorem ggL_law_X4_crossing : GoodIn wsL_law wsX4_crossing := goodIn_r _ [572, 62, 299, 300, 301, 5, 302, 157, 158, 159, 160, 161, 162, 172, 173, 174, 532, 533, 534, 535, 192, 193, 194, 540, 541, 542, 543, 544, 545, 546, 547, 195, 196, 197, 649, 650, 651, 652, 653, 654, 655, 656, 657, 658, 659] (by decide +kernel) (by decide +kernel)
set_option maxRecDepth 20000 in
theorem gL_law_X4_crossing : GoodIn wsL_law (wsV RL 89 RX4 yX4_crossing wsX4_crossing) := goodIn_app (goodIn_of _ (by decide +kernel)) ggL_law_X4_crossing
set_option maxRecDepth 20000 in
theorem ggL_law_X3_lead : GoodIn wsL_law wsX3_lead := goodIn_r _ [576, 15, 75, 76, 2, 77, 345, 140, 141, 14, 142, 32, 344, 95, 96, 97, 33, 90, 91, 92, 93, 73, 74, 643, 644, 645, 646, 647, 648, 660, 661, 662, 663, 664, 665, 666, 667, 668, 669, 670, 671] (by decide +kernel) (by decide +kernel)
set_option maxRecDepth 20000 in
theorem gL_law_X3_lead : GoodIn wsL_law (wsV RL 90 RX3 yX3_lead wsX3_lead) := goodIn_app (goodIn_of _ (by decide +kernel)) ggL_law_X3_lead
set_option maxRecDepth 20000 in
theorem ggL_law_X4_lead : GoodIn wsL_law wsX4_lead := goodIn_r _ [580, 62, 163, 164, 5, 165, 160, 161, 162, 175, 176, 177, 172, 173, 174, 649, 650, 651, 652, 653, 654, 655, 656, 657, 658, 659] (by decide +kernel) (by decide +kernel)
set_option maxRecDepth 20000 in
theorem gL_law_X4_lead : GoodIn wsL_law (wsV RL 93 RX4 yX4_lead wsX4_lead) := goodIn_app (goodIn_of _ (by decide +kernel)) ggL_law_X4_lead
set_option maxRecDepth 20000 in
theorem ggL_law_X3_bestHeight : GoodIn wsL_law wsX3_bestHeight := goodIn_r _ [584, 15, 307, 91, 92, 14, 93, 33, 73, 2, 74, 81, 82, 83, 585, 586, 587, 588, 589, 490, 491, 492, 493, 494, 495, 496, 37, 481, 482, 483, 484, 90, 485, 486, 487, 488, 32, 497, 498, 499, 500, 134, 135, 132, 136, 501, 502, 503, 504, 137, 138, 505, 506, 507, 508, 325, 326, 327, 34, 489, 643, 644, 645, 646, 647, 648, 660, 661, 662, 663, 664, 665, 666, 667, 668, 669, 670, 671] (by decide +kernel) (by decide +kernel)
set_option maxRecDepth 20000 in
theorem gL_law_X3_bestHeight : GoodIn wsL_law (wsV RL 94 RX3 yX3_bestHeight wsX3_bestHeight) := goodIn_app (goodIn_of _ (by decide +kernel)) ggL_law_X3_bestHeight
set_option maxRecDepth 20000 in
theorem ggL_law_X4_bestHeight : GoodIn wsL_law wsX4_bestHeight := goodIn_r _ [593, 299, 300, 301, 5, 302, 62, 157, 158, 159, 160, 161, 162, 172, 173, 174, 536, 537, 538, 539, 528, 529, 530, 531, 532, 533, 534, 535, 192, 193, 194, 540, 541, 542, 543, 544, 545, 546, 547, 195, 196, 197, 649, 650, 651, 652, 653, 654, 655, 656, 657, 658, 659] (by decide +kernel) (by decide +kernel)
set_option maxRecDepth 20000 in
theorem gL_law_X4_bestHeight : GoodIn wsL_law (wsV RL 97 RX4 yX4_bestHeight wsX4_bestHeight) := goodIn_app (goodIn_of _ (by decide +kernel)) ggL_law_X4_bestHeight
set_option maxRecDepth 20000 in
theorem ggL_law_X3_laysLeft : GoodIn wsL_law wsX3_laysLeft := goodIn_r _ [597, 15, 78, 79, 2, 80, 81, 82, 83, 598, 599, 600, 14, 601, 89, 88, 118, 143, 144, 145, 146, 147, 148, 643, 644, 645, 646, 647, 648, 660, 661, 662, 663, 664, 665, 666, 667, 668, 669, 670, 671] (by decide +kernel) (by decide +kernel)
set_option maxRecDepth 20000 in
theorem gL_law_X3_laysLeft : GoodIn wsL_law (wsV RL 98 RX3 yX3_laysLeft wsX3_laysLeft) := goodIn_app (goodIn_of _ (by decide +kernel)) ggL_law_X3_laysLeft
set_option maxRecDepth 20000 in
theorem ggL_law_X4_laysLeft : GoodIn wsL_law wsX4_laysLeft := goodIn_r _ [605, 62, 166, 167, 5, 168, 160, 161, 162, 649, 650, 651, 652, 653, 654, 655, 656, 657, 658, 659] (by decide +kernel) (by decide +kernel)
set_option maxRecDepth 20000 in
theorem gL_law_X4_laysLeft : GoodIn wsL_law (wsV RL 101 RX4 yX4_laysLeft wsX4_laysLeft) := goodIn_app (goodIn_of _ (by decide +kernel)) ggL_law_X4_laysLeft
set_option maxRecDepth 20000 in
theorem ggL_law_X3_count : GoodIn wsL_law wsX3_count := goodIn_r _ [609, 15, 22, 26, 264, 265, 266, 14, 267, 90, 91, 92, 93, 33, 73, 2, 74, 610, 611, 612, 613, 481, 482, 483, 484, 485, 486, 487, 488, 32, 614, 615, 616, 617, 508, 325, 326, 327, 34, 493, 494, 495, 496, 37, 497, 498, 499, 500, 134, 135, 132, 136, 501, 502, 503, 504, 137, 138, 505, 506, 507, 618, 619, 620, 621, 35, 622, 150, 151, 152, 623, 624, 625, 626, 440, 441, 442, 21, 443, 48, 416, 417, 418, 25, 419, 208, 643, 644, 645, 646, 647, 648, 660, 661, 662, 663, 664, 665, 666, 667, 668, 669, 670, 671, 672, 673, 674, 675, 676, 677, 678, 679, 680] (by decide +kernel) (by decide +kernel)
set_option maxRecDepth 20000 in
theorem gL_law_X3_count : GoodIn wsL_law (wsV RL 102 RX3 yX3_count wsX3_count) := goodIn_app (goodIn_of _ (by decide +kernel)) ggL_law_X3_count
set_option maxRecDepth 20000 in
theorem ggL_law_X4_count : GoodIn wsL_law wsX4_count := goodIn_r _ [630, 62, 182, 278, 295, 296, 297, 5, 298, 299, 300, 301, 302, 157, 158, 159, 160, 161, 162, 172, 173, 174, 631, 632, 633, 634, 536, 537, 538, 539, 528, 529, 530, 531, 532, 533, 534, 535, 192, 193, 194, 540, 541, 542, 543, 544, 545, 546, 547, 195, 196, 197, 524, 525, 526, 527, 635, 636, 637, 638, 639, 640, 641, 642, 649, 650, 651, 652, 653, 654, 655, 656, 657, 658, 659] (by decide +kernel) (by decide +kernel)
set_option maxRecDepth 20000 in
theorem gL_law_X4_count : GoodIn wsL_law (wsV RL 105 RX4 yX4_count wsX4_count) := goodIn_app (goodIn_of _ (by decide +kernel)) ggL_law_X4_count
theorem dL_law_0 : decode cL_law 0 = .ok (.new 7, 3) := by decide +kernel
theorem dL_law_3 : decode cL_law 3 = .ok (.dup, 1) := by decide +kernel
theorem dL_law_4 : decode cL_law 4 = .ok (.invokespecial 9, 3) := by decide +kernel
theorem dL_law_7 : decode cL_law 7 = .ok (.astore_n 1, 1) := by decide +kernel
theorem dL_law_8 : decode cL_law 8 = .ok (.new 10, 3) := by decide +kernel
theorem dL_law_11 : decode cL_law 11 = .ok (.dup, 1) := by decide +kernel
theorem dL_law_12 : decode cL_law 12 = .ok (.invokespecial 12, 3) := by decide +kernel
theorem dL_law_15 : decode cL_law 15 = .ok (.astore_n 2, 1) := by decide +kernel
theorem dL_law_16 : decode cL_law 16 = .ok (.iconst 0, 1) := by decide +kernel
theorem dL_law_17 : decode cL_law 17 = .ok (.istore_n 3, 1) := by decide +kernel
theorem dL_law_18 : decode cL_law 18 = .ok (.iload_n 3, 1) := by decide +kernel
theorem dL_law_19 : decode cL_law 19 = .ok (.aload_n 0, 1) := by decide +kernel
theorem dL_law_20 : decode cL_law 20 = .ok (.arraylength, 1) := by decide +kernel
theorem dL_law_21 : decode cL_law 21 = .ok (.iconst 4, 1) := by decide +kernel
theorem dL_law_22 : decode cL_law 22 = .ok (.isub, 1) := by decide +kernel
theorem dL_law_23 : decode cL_law 23 = .ok (.if_icmp .gt 677, 3) := by decide +kernel
theorem dL_law_26 : decode cL_law 26 = .ok (.aload_n 0, 1) := by decide +kernel
theorem dL_law_27 : decode cL_law 27 = .ok (.iload_n 3, 1) := by decide +kernel
theorem dL_law_28 : decode cL_law 28 = .ok (.iaload, 1) := by decide +kernel
theorem dL_law_29 : decode cL_law 29 = .ok (.bipush 31, 2) := by decide +kernel
theorem dL_law_31 : decode cL_law 31 = .ok (.iand, 1) := by decide +kernel
theorem dL_law_32 : decode cL_law 32 = .ok (.tableswitch 662 0 21 #[104, 147, 160, 183, 216, 249, 272, 285, 298, 331, 364, 389, 402, 415, 428, 441, 474, 507, 550, 583, 616, 639], 104) := by decide +kernel
theorem dL_law_136 : decode cL_law 136 = .ok (.aload_n 1, 1) := by decide +kernel
theorem dL_law_137 : decode cL_law 137 = .ok (.aload_n 0, 1) := by decide +kernel
theorem dL_law_138 : decode cL_law 138 = .ok (.iload_n 3, 1) := by decide +kernel
theorem dL_law_139 : decode cL_law 139 = .ok (.iconst 1, 1) := by decide +kernel
theorem dL_law_140 : decode cL_law 140 = .ok (.iadd, 1) := by decide +kernel
theorem dL_law_141 : decode cL_law 141 = .ok (.iaload, 1) := by decide +kernel
theorem dL_law_142 : decode cL_law 142 = .ok (.aload_n 0, 1) := by decide +kernel
theorem dL_law_143 : decode cL_law 143 = .ok (.iload_n 3, 1) := by decide +kernel
theorem dL_law_144 : decode cL_law 144 = .ok (.iconst 2, 1) := by decide +kernel
theorem dL_law_145 : decode cL_law 145 = .ok (.iadd, 1) := by decide +kernel
theorem dL_law_146 : decode cL_law 146 = .ok (.iaload, 1) := by decide +kernel
theorem dL_law_147 : decode cL_law 147 = .ok (.aload_n 0, 1) := by decide +kernel
theorem dL_law_148 : decode cL_law 148 = .ok (.iload_n 3, 1) := by decide +kernel
theorem dL_law_149 : decode cL_law 149 = .ok (.iconst 3, 1) := by decide +kernel
theorem dL_law_150 : decode cL_law 150 = .ok (.iadd, 1) := by decide +kernel
theorem dL_law_151 : decode cL_law 151 = .ok (.iaload, 1) := by decide +kernel
theorem dL_law_152 : decode cL_law 152 = .ok (.invokevirtual 13, 3) := by decide +kernel
theorem dL_law_155 : decode cL_law 155 = .ok (.aload_n 2, 1) := by decide +kernel
theorem dL_law_156 : decode cL_law 156 = .ok (.aload_n 0, 1) := by decide +kernel
theorem dL_law_157 : decode cL_law 157 = .ok (.iload_n 3, 1) := by decide +kernel
theorem dL_law_158 : decode cL_law 158 = .ok (.iconst 1, 1) := by decide +kernel
theorem dL_law_159 : decode cL_law 159 = .ok (.iadd, 1) := by decide +kernel
theorem dL_law_160 : decode cL_law 160 = .ok (.iaload, 1) := by decide +kernel
theorem dL_law_161 : decode cL_law 161 = .ok (.aload_n 0, 1) := by decide +kernel
theorem dL_law_162 : decode cL_law 162 = .ok (.iload_n 3, 1) := by decide +kernel
theorem dL_law_163 : decode cL_law 163 = .ok (.iconst 2, 1) := by decide +kernel
theorem dL_law_164 : decode cL_law 164 = .ok (.iadd, 1) := by decide +kernel
theorem dL_law_165 : decode cL_law 165 = .ok (.iaload, 1) := by decide +kernel
theorem dL_law_166 : decode cL_law 166 = .ok (.aload_n 0, 1) := by decide +kernel
theorem dL_law_167 : decode cL_law 167 = .ok (.iload_n 3, 1) := by decide +kernel
theorem dL_law_168 : decode cL_law 168 = .ok (.iconst 3, 1) := by decide +kernel
theorem dL_law_169 : decode cL_law 169 = .ok (.iadd, 1) := by decide +kernel
theorem dL_law_170 : decode cL_law 170 = .ok (.iaload, 1) := by decide +kernel
theorem dL_law_171 : decode cL_law 171 = .ok (.invokevirtual 17, 3) := by decide +kernel
theorem dL_law_174 : decode cL_law 174 = .ok (.if_icmp .eq 520, 3) := by decide +kernel
theorem dL_law_177 : decode cL_law 177 = .ok (.iconst 0, 1) := by decide +kernel
theorem dL_law_178 : decode cL_law 178 = .ok (.ireturn, 1) := by decide +kernel
theorem dL_law_179 : decode cL_law 179 = .ok (.aload_n 1, 1) := by decide +kernel
theorem dL_law_180 : decode cL_law 180 = .ok (.invokevirtual 18, 3) := by decide +kernel
theorem dL_law_183 : decode cL_law 183 = .ok (.aload_n 2, 1) := by decide +kernel
theorem dL_law_184 : decode cL_law 184 = .ok (.invokevirtual 22, 3) := by decide +kernel
theorem dL_law_187 : decode cL_law 187 = .ok (.if_icmp .eq 507, 3) := by decide +kernel
theorem dL_law_190 : decode cL_law 190 = .ok (.iconst 0, 1) := by decide +kernel
theorem dL_law_191 : decode cL_law 191 = .ok (.ireturn, 1) := by decide +kernel
theorem dL_law_192 : decode cL_law 192 = .ok (.aload_n 1, 1) := by decide +kernel
theorem dL_law_193 : decode cL_law 193 = .ok (.aload_n 0, 1) := by decide +kernel
theorem dL_law_194 : decode cL_law 194 = .ok (.iload_n 3, 1) := by decide +kernel
theorem dL_law_195 : decode cL_law 195 = .ok (.iconst 1, 1) := by decide +kernel
theorem dL_law_196 : decode cL_law 196 = .ok (.iadd, 1) := by decide +kernel
theorem dL_law_197 : decode cL_law 197 = .ok (.iaload, 1) := by decide +kernel
theorem dL_law_198 : decode cL_law 198 = .ok (.invokevirtual 23, 3) := by decide +kernel
theorem dL_law_201 : decode cL_law 201 = .ok (.aload_n 2, 1) := by decide +kernel
theorem dL_law_202 : decode cL_law 202 = .ok (.aload_n 0, 1) := by decide +kernel
theorem dL_law_203 : decode cL_law 203 = .ok (.iload_n 3, 1) := by decide +kernel
theorem dL_law_204 : decode cL_law 204 = .ok (.iconst 1, 1) := by decide +kernel
theorem dL_law_205 : decode cL_law 205 = .ok (.iadd, 1) := by decide +kernel
theorem dL_law_206 : decode cL_law 206 = .ok (.iaload, 1) := by decide +kernel
theorem dL_law_207 : decode cL_law 207 = .ok (.invokevirtual 27, 3) := by decide +kernel
theorem dL_law_210 : decode cL_law 210 = .ok (.if_icmp .eq 484, 3) := by decide +kernel
theorem dL_law_213 : decode cL_law 213 = .ok (.iconst 0, 1) := by decide +kernel
theorem dL_law_214 : decode cL_law 214 = .ok (.ireturn, 1) := by decide +kernel
theorem dL_law_215 : decode cL_law 215 = .ok (.aload_n 1, 1) := by decide +kernel
theorem dL_law_216 : decode cL_law 216 = .ok (.aload_n 0, 1) := by decide +kernel
theorem dL_law_217 : decode cL_law 217 = .ok (.iload_n 3, 1) := by decide +kernel
theorem dL_law_218 : decode cL_law 218 = .ok (.iconst 1, 1) := by decide +kernel
theorem dL_law_219 : decode cL_law 219 = .ok (.iadd, 1) := by decide +kernel
theorem dL_law_220 : decode cL_law 220 = .ok (.iaload, 1) := by decide +kernel
theorem dL_law_221 : decode cL_law 221 = .ok (.aload_n 0, 1) := by decide +kernel
theorem dL_law_222 : decode cL_law 222 = .ok (.iload_n 3, 1) := by decide +kernel
theorem dL_law_223 : decode cL_law 223 = .ok (.iconst 2, 1) := by decide +kernel
theorem dL_law_224 : decode cL_law 224 = .ok (.iadd, 1) := by decide +kernel
theorem dL_law_225 : decode cL_law 225 = .ok (.iaload, 1) := by decide +kernel
theorem dL_law_226 : decode cL_law 226 = .ok (.invokevirtual 28, 3) := by decide +kernel
theorem dL_law_229 : decode cL_law 229 = .ok (.aload_n 2, 1) := by decide +kernel
theorem dL_law_230 : decode cL_law 230 = .ok (.aload_n 0, 1) := by decide +kernel
theorem dL_law_231 : decode cL_law 231 = .ok (.iload_n 3, 1) := by decide +kernel
theorem dL_law_232 : decode cL_law 232 = .ok (.iconst 1, 1) := by decide +kernel
theorem dL_law_233 : decode cL_law 233 = .ok (.iadd, 1) := by decide +kernel
theorem dL_law_234 : decode cL_law 234 = .ok (.iaload, 1) := by decide +kernel
theorem dL_law_235 : decode cL_law 235 = .ok (.aload_n 0, 1) := by decide +kernel
theorem dL_law_236 : decode cL_law 236 = .ok (.iload_n 3, 1) := by decide +kernel
theorem dL_law_237 : decode cL_law 237 = .ok (.iconst 2, 1) := by decide +kernel
theorem dL_law_238 : decode cL_law 238 = .ok (.iadd, 1) := by decide +kernel
theorem dL_law_239 : decode cL_law 239 = .ok (.iaload, 1) := by decide +kernel
theorem dL_law_240 : decode cL_law 240 = .ok (.invokevirtual 32, 3) := by decide +kernel
theorem dL_law_243 : decode cL_law 243 = .ok (.if_icmp .eq 451, 3) := by decide +kernel
theorem dL_law_246 : decode cL_law 246 = .ok (.iconst 0, 1) := by decide +kernel
theorem dL_law_247 : decode cL_law 247 = .ok (.ireturn, 1) := by decide +kernel
theorem dL_law_248 : decode cL_law 248 = .ok (.aload_n 1, 1) := by decide +kernel
theorem dL_law_249 : decode cL_law 249 = .ok (.aload_n 0, 1) := by decide +kernel
theorem dL_law_250 : decode cL_law 250 = .ok (.iload_n 3, 1) := by decide +kernel
theorem dL_law_251 : decode cL_law 251 = .ok (.iconst 1, 1) := by decide +kernel
theorem dL_law_252 : decode cL_law 252 = .ok (.iadd, 1) := by decide +kernel
theorem dL_law_253 : decode cL_law 253 = .ok (.iaload, 1) := by decide +kernel
theorem dL_law_254 : decode cL_law 254 = .ok (.aload_n 0, 1) := by decide +kernel
theorem dL_law_255 : decode cL_law 255 = .ok (.iload_n 3, 1) := by decide +kernel
theorem dL_law_256 : decode cL_law 256 = .ok (.iconst 2, 1) := by decide +kernel
theorem dL_law_257 : decode cL_law 257 = .ok (.iadd, 1) := by decide +kernel
theorem dL_law_258 : decode cL_law 258 = .ok (.iaload, 1) := by decide +kernel
theorem dL_law_259 : decode cL_law 259 = .ok (.invokevirtual 33, 3) := by decide +kernel
theorem dL_law_262 : decode cL_law 262 = .ok (.aload_n 2, 1) := by decide +kernel
theorem dL_law_263 : decode cL_law 263 = .ok (.aload_n 0, 1) := by decide +kernel
theorem dL_law_264 : decode cL_law 264 = .ok (.iload_n 3, 1) := by decide +kernel
theorem dL_law_265 : decode cL_law 265 = .ok (.iconst 1, 1) := by decide +kernel
theorem dL_law_266 : decode cL_law 266 = .ok (.iadd, 1) := by decide +kernel
theorem dL_law_267 : decode cL_law 267 = .ok (.iaload, 1) := by decide +kernel
theorem dL_law_268 : decode cL_law 268 = .ok (.aload_n 0, 1) := by decide +kernel
theorem dL_law_269 : decode cL_law 269 = .ok (.iload_n 3, 1) := by decide +kernel
theorem dL_law_270 : decode cL_law 270 = .ok (.iconst 2, 1) := by decide +kernel
theorem dL_law_271 : decode cL_law 271 = .ok (.iadd, 1) := by decide +kernel
theorem dL_law_272 : decode cL_law 272 = .ok (.iaload, 1) := by decide +kernel
theorem dL_law_273 : decode cL_law 273 = .ok (.invokevirtual 36, 3) := by decide +kernel
theorem dL_law_276 : decode cL_law 276 = .ok (.if_icmp .eq 418, 3) := by decide +kernel
theorem dL_law_279 : decode cL_law 279 = .ok (.iconst 0, 1) := by decide +kernel
theorem dL_law_280 : decode cL_law 280 = .ok (.ireturn, 1) := by decide +kernel
theorem dL_law_281 : decode cL_law 281 = .ok (.aload_n 1, 1) := by decide +kernel
theorem dL_law_282 : decode cL_law 282 = .ok (.aload_n 0, 1) := by decide +kernel
theorem dL_law_283 : decode cL_law 283 = .ok (.iload_n 3, 1) := by decide +kernel
theorem dL_law_284 : decode cL_law 284 = .ok (.iconst 1, 1) := by decide +kernel
theorem dL_law_285 : decode cL_law 285 = .ok (.iadd, 1) := by decide +kernel
theorem dL_law_286 : decode cL_law 286 = .ok (.iaload, 1) := by decide +kernel
theorem dL_law_287 : decode cL_law 287 = .ok (.invokevirtual 37, 3) := by decide +kernel
theorem dL_law_290 : decode cL_law 290 = .ok (.aload_n 2, 1) := by decide +kernel
theorem dL_law_291 : decode cL_law 291 = .ok (.aload_n 0, 1) := by decide +kernel
theorem dL_law_292 : decode cL_law 292 = .ok (.iload_n 3, 1) := by decide +kernel
theorem dL_law_293 : decode cL_law 293 = .ok (.iconst 1, 1) := by decide +kernel
theorem dL_law_294 : decode cL_law 294 = .ok (.iadd, 1) := by decide +kernel
theorem dL_law_295 : decode cL_law 295 = .ok (.iaload, 1) := by decide +kernel
theorem dL_law_296 : decode cL_law 296 = .ok (.invokevirtual 40, 3) := by decide +kernel
theorem dL_law_299 : decode cL_law 299 = .ok (.if_icmp .eq 395, 3) := by decide +kernel
theorem dL_law_302 : decode cL_law 302 = .ok (.iconst 0, 1) := by decide +kernel
theorem dL_law_303 : decode cL_law 303 = .ok (.ireturn, 1) := by decide +kernel
theorem dL_law_304 : decode cL_law 304 = .ok (.aload_n 1, 1) := by decide +kernel
theorem dL_law_305 : decode cL_law 305 = .ok (.invokevirtual 41, 3) := by decide +kernel
theorem dL_law_308 : decode cL_law 308 = .ok (.aload_n 2, 1) := by decide +kernel
theorem dL_law_309 : decode cL_law 309 = .ok (.invokevirtual 44, 3) := by decide +kernel
theorem dL_law_312 : decode cL_law 312 = .ok (.if_icmp .eq 382, 3) := by decide +kernel
theorem dL_law_315 : decode cL_law 315 = .ok (.iconst 0, 1) := by decide +kernel
theorem dL_law_316 : decode cL_law 316 = .ok (.ireturn, 1) := by decide +kernel
theorem dL_law_317 : decode cL_law 317 = .ok (.aload_n 1, 1) := by decide +kernel
theorem dL_law_318 : decode cL_law 318 = .ok (.invokevirtual 45, 3) := by decide +kernel
theorem dL_law_321 : decode cL_law 321 = .ok (.aload_n 2, 1) := by decide +kernel
theorem dL_law_322 : decode cL_law 322 = .ok (.invokevirtual 48, 3) := by decide +kernel
theorem dL_law_325 : decode cL_law 325 = .ok (.if_icmp .eq 369, 3) := by decide +kernel
theorem dL_law_328 : decode cL_law 328 = .ok (.iconst 0, 1) := by decide +kernel
theorem dL_law_329 : decode cL_law 329 = .ok (.ireturn, 1) := by decide +kernel
theorem dL_law_330 : decode cL_law 330 = .ok (.aload_n 1, 1) := by decide +kernel
theorem dL_law_331 : decode cL_law 331 = .ok (.aload_n 0, 1) := by decide +kernel
theorem dL_law_332 : decode cL_law 332 = .ok (.iload_n 3, 1) := by decide +kernel
theorem dL_law_333 : decode cL_law 333 = .ok (.iconst 1, 1) := by decide +kernel
theorem dL_law_334 : decode cL_law 334 = .ok (.iadd, 1) := by decide +kernel
theorem dL_law_335 : decode cL_law 335 = .ok (.iaload, 1) := by decide +kernel
theorem dL_law_336 : decode cL_law 336 = .ok (.aload_n 0, 1) := by decide +kernel
theorem dL_law_337 : decode cL_law 337 = .ok (.iload_n 3, 1) := by decide +kernel
theorem dL_law_338 : decode cL_law 338 = .ok (.iconst 2, 1) := by decide +kernel
theorem dL_law_339 : decode cL_law 339 = .ok (.iadd, 1) := by decide +kernel
theorem dL_law_340 : decode cL_law 340 = .ok (.iaload, 1) := by decide +kernel
theorem dL_law_341 : decode cL_law 341 = .ok (.invokevirtual 49, 3) := by decide +kernel
theorem dL_law_344 : decode cL_law 344 = .ok (.aload_n 2, 1) := by decide +kernel
theorem dL_law_345 : decode cL_law 345 = .ok (.aload_n 0, 1) := by decide +kernel
theorem dL_law_346 : decode cL_law 346 = .ok (.iload_n 3, 1) := by decide +kernel
theorem dL_law_347 : decode cL_law 347 = .ok (.iconst 1, 1) := by decide +kernel
theorem dL_law_348 : decode cL_law 348 = .ok (.iadd, 1) := by decide +kernel
theorem dL_law_349 : decode cL_law 349 = .ok (.iaload, 1) := by decide +kernel
theorem dL_law_350 : decode cL_law 350 = .ok (.aload_n 0, 1) := by decide +kernel
theorem dL_law_351 : decode cL_law 351 = .ok (.iload_n 3, 1) := by decide +kernel
theorem dL_law_352 : decode cL_law 352 = .ok (.iconst 2, 1) := by decide +kernel
theorem dL_law_353 : decode cL_law 353 = .ok (.iadd, 1) := by decide +kernel
theorem dL_law_354 : decode cL_law 354 = .ok (.iaload, 1) := by decide +kernel
theorem dL_law_355 : decode cL_law 355 = .ok (.invokevirtual 52, 3) := by decide +kernel
theorem dL_law_358 : decode cL_law 358 = .ok (.if_icmp .eq 336, 3) := by decide +kernel
theorem dL_law_361 : decode cL_law 361 = .ok (.iconst 0, 1) := by decide +kernel
theorem dL_law_362 : decode cL_law 362 = .ok (.ireturn, 1) := by decide +kernel
theorem dL_law_363 : decode cL_law 363 = .ok (.aload_n 1, 1) := by decide +kernel
theorem dL_law_364 : decode cL_law 364 = .ok (.aload_n 0, 1) := by decide +kernel
theorem dL_law_365 : decode cL_law 365 = .ok (.iload_n 3, 1) := by decide +kernel
theorem dL_law_366 : decode cL_law 366 = .ok (.iconst 1, 1) := by decide +kernel
theorem dL_law_367 : decode cL_law 367 = .ok (.iadd, 1) := by decide +kernel
theorem dL_law_368 : decode cL_law 368 = .ok (.iaload, 1) := by decide +kernel
theorem dL_law_369 : decode cL_law 369 = .ok (.aload_n 0, 1) := by decide +kernel
theorem dL_law_370 : decode cL_law 370 = .ok (.iload_n 3, 1) := by decide +kernel
theorem dL_law_371 : decode cL_law 371 = .ok (.iconst 2, 1) := by decide +kernel
theorem dL_law_372 : decode cL_law 372 = .ok (.iadd, 1) := by decide +kernel
theorem dL_law_373 : decode cL_law 373 = .ok (.iaload, 1) := by decide +kernel
theorem dL_law_374 : decode cL_law 374 = .ok (.invokevirtual 53, 3) := by decide +kernel
theorem dL_law_377 : decode cL_law 377 = .ok (.aload_n 2, 1) := by decide +kernel
theorem dL_law_378 : decode cL_law 378 = .ok (.aload_n 0, 1) := by decide +kernel
theorem dL_law_379 : decode cL_law 379 = .ok (.iload_n 3, 1) := by decide +kernel
theorem dL_law_380 : decode cL_law 380 = .ok (.iconst 1, 1) := by decide +kernel
theorem dL_law_381 : decode cL_law 381 = .ok (.iadd, 1) := by decide +kernel
theorem dL_law_382 : decode cL_law 382 = .ok (.iaload, 1) := by decide +kernel
theorem dL_law_383 : decode cL_law 383 = .ok (.aload_n 0, 1) := by decide +kernel
theorem dL_law_384 : decode cL_law 384 = .ok (.iload_n 3, 1) := by decide +kernel
theorem dL_law_385 : decode cL_law 385 = .ok (.iconst 2, 1) := by decide +kernel
theorem dL_law_386 : decode cL_law 386 = .ok (.iadd, 1) := by decide +kernel
theorem dL_law_387 : decode cL_law 387 = .ok (.iaload, 1) := by decide +kernel
theorem dL_law_388 : decode cL_law 388 = .ok (.invokevirtual 56, 3) := by decide +kernel
theorem dL_law_391 : decode cL_law 391 = .ok (.if_icmp .eq 303, 3) := by decide +kernel
theorem dL_law_394 : decode cL_law 394 = .ok (.iconst 0, 1) := by decide +kernel
theorem dL_law_395 : decode cL_law 395 = .ok (.ireturn, 1) := by decide +kernel
theorem dL_law_396 : decode cL_law 396 = .ok (.aload_n 1, 1) := by decide +kernel
theorem dL_law_397 : decode cL_law 397 = .ok (.aload_n 0, 1) := by decide +kernel
theorem dL_law_398 : decode cL_law 398 = .ok (.iload_n 3, 1) := by decide +kernel
theorem dL_law_399 : decode cL_law 399 = .ok (.iconst 1, 1) := by decide +kernel
theorem dL_law_400 : decode cL_law 400 = .ok (.iadd, 1) := by decide +kernel
theorem dL_law_401 : decode cL_law 401 = .ok (.iaload, 1) := by decide +kernel
theorem dL_law_402 : decode cL_law 402 = .ok (.i2c, 1) := by decide +kernel
theorem dL_law_403 : decode cL_law 403 = .ok (.invokevirtual 57, 3) := by decide +kernel
theorem dL_law_406 : decode cL_law 406 = .ok (.aload_n 2, 1) := by decide +kernel
theorem dL_law_407 : decode cL_law 407 = .ok (.aload_n 0, 1) := by decide +kernel
theorem dL_law_408 : decode cL_law 408 = .ok (.iload_n 3, 1) := by decide +kernel
theorem dL_law_409 : decode cL_law 409 = .ok (.iconst 1, 1) := by decide +kernel
theorem dL_law_410 : decode cL_law 410 = .ok (.iadd, 1) := by decide +kernel
theorem dL_law_411 : decode cL_law 411 = .ok (.iaload, 1) := by decide +kernel
theorem dL_law_412 : decode cL_law 412 = .ok (.i2c, 1) := by decide +kernel
theorem dL_law_413 : decode cL_law 413 = .ok (.invokevirtual 61, 3) := by decide +kernel
theorem dL_law_416 : decode cL_law 416 = .ok (.if_icmp .eq 278, 3) := by decide +kernel
theorem dL_law_419 : decode cL_law 419 = .ok (.iconst 0, 1) := by decide +kernel
theorem dL_law_420 : decode cL_law 420 = .ok (.ireturn, 1) := by decide +kernel
theorem dL_law_421 : decode cL_law 421 = .ok (.aload_n 1, 1) := by decide +kernel
theorem dL_law_422 : decode cL_law 422 = .ok (.invokevirtual 62, 3) := by decide +kernel
theorem dL_law_425 : decode cL_law 425 = .ok (.aload_n 2, 1) := by decide +kernel
theorem dL_law_426 : decode cL_law 426 = .ok (.invokevirtual 65, 3) := by decide +kernel
theorem dL_law_429 : decode cL_law 429 = .ok (.if_icmp .eq 265, 3) := by decide +kernel
theorem dL_law_432 : decode cL_law 432 = .ok (.iconst 0, 1) := by decide +kernel
theorem dL_law_433 : decode cL_law 433 = .ok (.ireturn, 1) := by decide +kernel
theorem dL_law_434 : decode cL_law 434 = .ok (.aload_n 1, 1) := by decide +kernel
theorem dL_law_435 : decode cL_law 435 = .ok (.invokevirtual 66, 3) := by decide +kernel
theorem dL_law_438 : decode cL_law 438 = .ok (.aload_n 2, 1) := by decide +kernel
theorem dL_law_439 : decode cL_law 439 = .ok (.invokevirtual 69, 3) := by decide +kernel
theorem dL_law_442 : decode cL_law 442 = .ok (.if_icmp .eq 252, 3) := by decide +kernel
theorem dL_law_445 : decode cL_law 445 = .ok (.iconst 0, 1) := by decide +kernel
theorem dL_law_446 : decode cL_law 446 = .ok (.ireturn, 1) := by decide +kernel
theorem dL_law_447 : decode cL_law 447 = .ok (.aload_n 1, 1) := by decide +kernel
theorem dL_law_448 : decode cL_law 448 = .ok (.invokevirtual 70, 3) := by decide +kernel
theorem dL_law_451 : decode cL_law 451 = .ok (.aload_n 2, 1) := by decide +kernel
theorem dL_law_452 : decode cL_law 452 = .ok (.invokevirtual 73, 3) := by decide +kernel
theorem dL_law_455 : decode cL_law 455 = .ok (.if_icmp .eq 239, 3) := by decide +kernel
theorem dL_law_458 : decode cL_law 458 = .ok (.iconst 0, 1) := by decide +kernel
theorem dL_law_459 : decode cL_law 459 = .ok (.ireturn, 1) := by decide +kernel
theorem dL_law_460 : decode cL_law 460 = .ok (.aload_n 1, 1) := by decide +kernel
theorem dL_law_461 : decode cL_law 461 = .ok (.invokevirtual 74, 3) := by decide +kernel
theorem dL_law_464 : decode cL_law 464 = .ok (.aload_n 2, 1) := by decide +kernel
theorem dL_law_465 : decode cL_law 465 = .ok (.invokevirtual 77, 3) := by decide +kernel
theorem dL_law_468 : decode cL_law 468 = .ok (.if_icmp .eq 226, 3) := by decide +kernel
theorem dL_law_471 : decode cL_law 471 = .ok (.iconst 0, 1) := by decide +kernel
theorem dL_law_472 : decode cL_law 472 = .ok (.ireturn, 1) := by decide +kernel
theorem dL_law_473 : decode cL_law 473 = .ok (.aload_n 1, 1) := by decide +kernel
theorem dL_law_474 : decode cL_law 474 = .ok (.aload_n 0, 1) := by decide +kernel
theorem dL_law_475 : decode cL_law 475 = .ok (.iload_n 3, 1) := by decide +kernel
theorem dL_law_476 : decode cL_law 476 = .ok (.iconst 1, 1) := by decide +kernel
theorem dL_law_477 : decode cL_law 477 = .ok (.iadd, 1) := by decide +kernel
theorem dL_law_478 : decode cL_law 478 = .ok (.iaload, 1) := by decide +kernel
theorem dL_law_479 : decode cL_law 479 = .ok (.aload_n 0, 1) := by decide +kernel
theorem dL_law_480 : decode cL_law 480 = .ok (.iload_n 3, 1) := by decide +kernel
theorem dL_law_481 : decode cL_law 481 = .ok (.iconst 2, 1) := by decide +kernel
theorem dL_law_482 : decode cL_law 482 = .ok (.iadd, 1) := by decide +kernel
theorem dL_law_483 : decode cL_law 483 = .ok (.iaload, 1) := by decide +kernel
theorem dL_law_484 : decode cL_law 484 = .ok (.invokevirtual 78, 3) := by decide +kernel
theorem dL_law_487 : decode cL_law 487 = .ok (.aload_n 2, 1) := by decide +kernel
theorem dL_law_488 : decode cL_law 488 = .ok (.aload_n 0, 1) := by decide +kernel
theorem dL_law_489 : decode cL_law 489 = .ok (.iload_n 3, 1) := by decide +kernel
theorem dL_law_490 : decode cL_law 490 = .ok (.iconst 1, 1) := by decide +kernel
theorem dL_law_491 : decode cL_law 491 = .ok (.iadd, 1) := by decide +kernel
theorem dL_law_492 : decode cL_law 492 = .ok (.iaload, 1) := by decide +kernel
theorem dL_law_493 : decode cL_law 493 = .ok (.aload_n 0, 1) := by decide +kernel
theorem dL_law_494 : decode cL_law 494 = .ok (.iload_n 3, 1) := by decide +kernel
theorem dL_law_495 : decode cL_law 495 = .ok (.iconst 2, 1) := by decide +kernel
theorem dL_law_496 : decode cL_law 496 = .ok (.iadd, 1) := by decide +kernel
theorem dL_law_497 : decode cL_law 497 = .ok (.iaload, 1) := by decide +kernel
theorem dL_law_498 : decode cL_law 498 = .ok (.invokevirtual 81, 3) := by decide +kernel
theorem dL_law_501 : decode cL_law 501 = .ok (.if_icmp .eq 193, 3) := by decide +kernel
theorem dL_law_504 : decode cL_law 504 = .ok (.iconst 0, 1) := by decide +kernel
theorem dL_law_505 : decode cL_law 505 = .ok (.ireturn, 1) := by decide +kernel
theorem dL_law_506 : decode cL_law 506 = .ok (.aload_n 1, 1) := by decide +kernel
theorem dL_law_507 : decode cL_law 507 = .ok (.aload_n 0, 1) := by decide +kernel
theorem dL_law_508 : decode cL_law 508 = .ok (.iload_n 3, 1) := by decide +kernel
theorem dL_law_509 : decode cL_law 509 = .ok (.iconst 1, 1) := by decide +kernel
theorem dL_law_510 : decode cL_law 510 = .ok (.iadd, 1) := by decide +kernel
theorem dL_law_511 : decode cL_law 511 = .ok (.iaload, 1) := by decide +kernel
theorem dL_law_512 : decode cL_law 512 = .ok (.aload_n 0, 1) := by decide +kernel
theorem dL_law_513 : decode cL_law 513 = .ok (.iload_n 3, 1) := by decide +kernel
theorem dL_law_514 : decode cL_law 514 = .ok (.iconst 2, 1) := by decide +kernel
theorem dL_law_515 : decode cL_law 515 = .ok (.iadd, 1) := by decide +kernel
theorem dL_law_516 : decode cL_law 516 = .ok (.iaload, 1) := by decide +kernel
theorem dL_law_517 : decode cL_law 517 = .ok (.invokevirtual 82, 3) := by decide +kernel
theorem dL_law_520 : decode cL_law 520 = .ok (.aload_n 2, 1) := by decide +kernel
theorem dL_law_521 : decode cL_law 521 = .ok (.aload_n 0, 1) := by decide +kernel
theorem dL_law_522 : decode cL_law 522 = .ok (.iload_n 3, 1) := by decide +kernel
theorem dL_law_523 : decode cL_law 523 = .ok (.iconst 1, 1) := by decide +kernel
theorem dL_law_524 : decode cL_law 524 = .ok (.iadd, 1) := by decide +kernel
theorem dL_law_525 : decode cL_law 525 = .ok (.iaload, 1) := by decide +kernel
theorem dL_law_526 : decode cL_law 526 = .ok (.aload_n 0, 1) := by decide +kernel
theorem dL_law_527 : decode cL_law 527 = .ok (.iload_n 3, 1) := by decide +kernel
theorem dL_law_528 : decode cL_law 528 = .ok (.iconst 2, 1) := by decide +kernel
theorem dL_law_529 : decode cL_law 529 = .ok (.iadd, 1) := by decide +kernel
theorem dL_law_530 : decode cL_law 530 = .ok (.iaload, 1) := by decide +kernel
theorem dL_law_531 : decode cL_law 531 = .ok (.invokevirtual 85, 3) := by decide +kernel
theorem dL_law_534 : decode cL_law 534 = .ok (.if_icmp .eq 160, 3) := by decide +kernel
theorem dL_law_537 : decode cL_law 537 = .ok (.iconst 0, 1) := by decide +kernel
theorem dL_law_538 : decode cL_law 538 = .ok (.ireturn, 1) := by decide +kernel
theorem dL_law_539 : decode cL_law 539 = .ok (.aload_n 1, 1) := by decide +kernel
theorem dL_law_540 : decode cL_law 540 = .ok (.aload_n 0, 1) := by decide +kernel
theorem dL_law_541 : decode cL_law 541 = .ok (.iload_n 3, 1) := by decide +kernel
theorem dL_law_542 : decode cL_law 542 = .ok (.iconst 1, 1) := by decide +kernel
theorem dL_law_543 : decode cL_law 543 = .ok (.iadd, 1) := by decide +kernel
theorem dL_law_544 : decode cL_law 544 = .ok (.iaload, 1) := by decide +kernel
theorem dL_law_545 : decode cL_law 545 = .ok (.aload_n 0, 1) := by decide +kernel
theorem dL_law_546 : decode cL_law 546 = .ok (.iload_n 3, 1) := by decide +kernel
theorem dL_law_547 : decode cL_law 547 = .ok (.iconst 2, 1) := by decide +kernel
theorem dL_law_548 : decode cL_law 548 = .ok (.iadd, 1) := by decide +kernel
theorem dL_law_549 : decode cL_law 549 = .ok (.iaload, 1) := by decide +kernel
theorem dL_law_550 : decode cL_law 550 = .ok (.aload_n 0, 1) := by decide +kernel
theorem dL_law_551 : decode cL_law 551 = .ok (.iload_n 3, 1) := by decide +kernel
theorem dL_law_552 : decode cL_law 552 = .ok (.iconst 3, 1) := by decide +kernel
theorem dL_law_553 : decode cL_law 553 = .ok (.iadd, 1) := by decide +kernel
theorem dL_law_554 : decode cL_law 554 = .ok (.iaload, 1) := by decide +kernel
theorem dL_law_555 : decode cL_law 555 = .ok (.invokevirtual 86, 3) := by decide +kernel
theorem dL_law_558 : decode cL_law 558 = .ok (.aload_n 2, 1) := by decide +kernel
theorem dL_law_559 : decode cL_law 559 = .ok (.aload_n 0, 1) := by decide +kernel
theorem dL_law_560 : decode cL_law 560 = .ok (.iload_n 3, 1) := by decide +kernel
theorem dL_law_561 : decode cL_law 561 = .ok (.iconst 1, 1) := by decide +kernel
theorem dL_law_562 : decode cL_law 562 = .ok (.iadd, 1) := by decide +kernel
theorem dL_law_563 : decode cL_law 563 = .ok (.iaload, 1) := by decide +kernel
theorem dL_law_564 : decode cL_law 564 = .ok (.aload_n 0, 1) := by decide +kernel
theorem dL_law_565 : decode cL_law 565 = .ok (.iload_n 3, 1) := by decide +kernel
theorem dL_law_566 : decode cL_law 566 = .ok (.iconst 2, 1) := by decide +kernel
theorem dL_law_567 : decode cL_law 567 = .ok (.iadd, 1) := by decide +kernel
theorem dL_law_568 : decode cL_law 568 = .ok (.iaload, 1) := by decide +kernel
theorem dL_law_569 : decode cL_law 569 = .ok (.aload_n 0, 1) := by decide +kernel
theorem dL_law_570 : decode cL_law 570 = .ok (.iload_n 3, 1) := by decide +kernel
theorem dL_law_571 : decode cL_law 571 = .ok (.iconst 3, 1) := by decide +kernel
theorem dL_law_572 : decode cL_law 572 = .ok (.iadd, 1) := by decide +kernel
theorem dL_law_573 : decode cL_law 573 = .ok (.iaload, 1) := by decide +kernel
theorem dL_law_574 : decode cL_law 574 = .ok (.invokevirtual 89, 3) := by decide +kernel
theorem dL_law_577 : decode cL_law 577 = .ok (.if_icmp .eq 117, 3) := by decide +kernel
theorem dL_law_580 : decode cL_law 580 = .ok (.iconst 0, 1) := by decide +kernel
theorem dL_law_581 : decode cL_law 581 = .ok (.ireturn, 1) := by decide +kernel
theorem dL_law_582 : decode cL_law 582 = .ok (.aload_n 1, 1) := by decide +kernel
theorem dL_law_583 : decode cL_law 583 = .ok (.aload_n 0, 1) := by decide +kernel
theorem dL_law_584 : decode cL_law 584 = .ok (.iload_n 3, 1) := by decide +kernel
theorem dL_law_585 : decode cL_law 585 = .ok (.iconst 1, 1) := by decide +kernel
theorem dL_law_586 : decode cL_law 586 = .ok (.iadd, 1) := by decide +kernel
theorem dL_law_587 : decode cL_law 587 = .ok (.iaload, 1) := by decide +kernel
theorem dL_law_588 : decode cL_law 588 = .ok (.aload_n 0, 1) := by decide +kernel
theorem dL_law_589 : decode cL_law 589 = .ok (.iload_n 3, 1) := by decide +kernel
theorem dL_law_590 : decode cL_law 590 = .ok (.iconst 2, 1) := by decide +kernel
theorem dL_law_591 : decode cL_law 591 = .ok (.iadd, 1) := by decide +kernel
theorem dL_law_592 : decode cL_law 592 = .ok (.iaload, 1) := by decide +kernel
theorem dL_law_593 : decode cL_law 593 = .ok (.invokevirtual 90, 3) := by decide +kernel
theorem dL_law_596 : decode cL_law 596 = .ok (.aload_n 2, 1) := by decide +kernel
theorem dL_law_597 : decode cL_law 597 = .ok (.aload_n 0, 1) := by decide +kernel
theorem dL_law_598 : decode cL_law 598 = .ok (.iload_n 3, 1) := by decide +kernel
theorem dL_law_599 : decode cL_law 599 = .ok (.iconst 1, 1) := by decide +kernel
theorem dL_law_600 : decode cL_law 600 = .ok (.iadd, 1) := by decide +kernel
theorem dL_law_601 : decode cL_law 601 = .ok (.iaload, 1) := by decide +kernel
theorem dL_law_602 : decode cL_law 602 = .ok (.aload_n 0, 1) := by decide +kernel
theorem dL_law_603 : decode cL_law 603 = .ok (.iload_n 3, 1) := by decide +kernel
theorem dL_law_604 : decode cL_law 604 = .ok (.iconst 2, 1) := by decide +kernel
theorem dL_law_605 : decode cL_law 605 = .ok (.iadd, 1) := by decide +kernel
theorem dL_law_606 : decode cL_law 606 = .ok (.iaload, 1) := by decide +kernel
theorem dL_law_607 : decode cL_law 607 = .ok (.invokevirtual 93, 3) := by decide +kernel
theorem dL_law_610 : decode cL_law 610 = .ok (.if_icmp .eq 84, 3) := by decide +kernel
theorem dL_law_613 : decode cL_law 613 = .ok (.iconst 0, 1) := by decide +kernel
theorem dL_law_614 : decode cL_law 614 = .ok (.ireturn, 1) := by decide +kernel
theorem dL_law_615 : decode cL_law 615 = .ok (.aload_n 1, 1) := by decide +kernel
theorem dL_law_616 : decode cL_law 616 = .ok (.aload_n 0, 1) := by decide +kernel
theorem dL_law_617 : decode cL_law 617 = .ok (.iload_n 3, 1) := by decide +kernel
theorem dL_law_618 : decode cL_law 618 = .ok (.iconst 1, 1) := by decide +kernel
theorem dL_law_619 : decode cL_law 619 = .ok (.iadd, 1) := by decide +kernel
theorem dL_law_620 : decode cL_law 620 = .ok (.iaload, 1) := by decide +kernel
theorem dL_law_621 : decode cL_law 621 = .ok (.aload_n 0, 1) := by decide +kernel
theorem dL_law_622 : decode cL_law 622 = .ok (.iload_n 3, 1) := by decide +kernel
theorem dL_law_623 : decode cL_law 623 = .ok (.iconst 2, 1) := by decide +kernel
theorem dL_law_624 : decode cL_law 624 = .ok (.iadd, 1) := by decide +kernel
theorem dL_law_625 : decode cL_law 625 = .ok (.iaload, 1) := by decide +kernel
theorem dL_law_626 : decode cL_law 626 = .ok (.invokevirtual 94, 3) := by decide +kernel
theorem dL_law_629 : decode cL_law 629 = .ok (.aload_n 2, 1) := by decide +kernel
theorem dL_law_630 : decode cL_law 630 = .ok (.aload_n 0, 1) := by decide +kernel
theorem dL_law_631 : decode cL_law 631 = .ok (.iload_n 3, 1) := by decide +kernel
theorem dL_law_632 : decode cL_law 632 = .ok (.iconst 1, 1) := by decide +kernel
theorem dL_law_633 : decode cL_law 633 = .ok (.iadd, 1) := by decide +kernel
theorem dL_law_634 : decode cL_law 634 = .ok (.iaload, 1) := by decide +kernel
theorem dL_law_635 : decode cL_law 635 = .ok (.aload_n 0, 1) := by decide +kernel
theorem dL_law_636 : decode cL_law 636 = .ok (.iload_n 3, 1) := by decide +kernel
theorem dL_law_637 : decode cL_law 637 = .ok (.iconst 2, 1) := by decide +kernel
theorem dL_law_638 : decode cL_law 638 = .ok (.iadd, 1) := by decide +kernel
theorem dL_law_639 : decode cL_law 639 = .ok (.iaload, 1) := by decide +kernel
theorem dL_law_640 : decode cL_law 640 = .ok (.invokevirtual 97, 3) := by decide +kernel
theorem dL_law_643 : decode cL_law 643 = .ok (.if_icmp .eq 51, 3) := by decide +kernel
theorem dL_law_646 : decode cL_law 646 = .ok (.iconst 0, 1) := by decide +kernel
theorem dL_law_647 : decode cL_law 647 = .ok (.ireturn, 1) := by decide +kernel
theorem dL_law_648 : decode cL_law 648 = .ok (.aload_n 1, 1) := by decide +kernel
theorem dL_law_649 : decode cL_law 649 = .ok (.aload_n 0, 1) := by decide +kernel
theorem dL_law_650 : decode cL_law 650 = .ok (.iload_n 3, 1) := by decide +kernel
theorem dL_law_651 : decode cL_law 651 = .ok (.iconst 1, 1) := by decide +kernel
theorem dL_law_652 : decode cL_law 652 = .ok (.iadd, 1) := by decide +kernel
theorem dL_law_653 : decode cL_law 653 = .ok (.iaload, 1) := by decide +kernel
theorem dL_law_654 : decode cL_law 654 = .ok (.invokevirtual 98, 3) := by decide +kernel
theorem dL_law_657 : decode cL_law 657 = .ok (.aload_n 2, 1) := by decide +kernel
theorem dL_law_658 : decode cL_law 658 = .ok (.aload_n 0, 1) := by decide +kernel
theorem dL_law_659 : decode cL_law 659 = .ok (.iload_n 3, 1) := by decide +kernel
theorem dL_law_660 : decode cL_law 660 = .ok (.iconst 1, 1) := by decide +kernel
theorem dL_law_661 : decode cL_law 661 = .ok (.iadd, 1) := by decide +kernel
theorem dL_law_662 : decode cL_law 662 = .ok (.iaload, 1) := by decide +kernel
theorem dL_law_663 : decode cL_law 663 = .ok (.invokevirtual 101, 3) := by decide +kernel
theorem dL_law_666 : decode cL_law 666 = .ok (.if_icmp .eq 28, 3) := by decide +kernel
theorem dL_law_669 : decode cL_law 669 = .ok (.iconst 0, 1) := by decide +kernel
theorem dL_law_670 : decode cL_law 670 = .ok (.ireturn, 1) := by decide +kernel
theorem dL_law_671 : decode cL_law 671 = .ok (.aload_n 1, 1) := by decide +kernel
theorem dL_law_672 : decode cL_law 672 = .ok (.aload_n 0, 1) := by decide +kernel
theorem dL_law_673 : decode cL_law 673 = .ok (.iload_n 3, 1) := by decide +kernel
theorem dL_law_674 : decode cL_law 674 = .ok (.iconst 1, 1) := by decide +kernel
theorem dL_law_675 : decode cL_law 675 = .ok (.iadd, 1) := by decide +kernel
theorem dL_law_676 : decode cL_law 676 = .ok (.iaload, 1) := by decide +kernel
theorem dL_law_677 : decode cL_law 677 = .ok (.invokevirtual 102, 3) := by decide +kernel
theorem dL_law_680 : decode cL_law 680 = .ok (.aload_n 2, 1) := by decide +kernel
theorem dL_law_681 : decode cL_law 681 = .ok (.aload_n 0, 1) := by decide +kernel
theorem dL_law_682 : decode cL_law 682 = .ok (.iload_n 3, 1) := by decide +kernel
theorem dL_law_683 : decode cL_law 683 = .ok (.iconst 1, 1) := by decide +kernel
theorem dL_law_684 : decode cL_law 684 = .ok (.iadd, 1) := by decide +kernel
theorem dL_law_685 : decode cL_law 685 = .ok (.iaload, 1) := by decide +kernel
theorem dL_law_686 : decode cL_law 686 = .ok (.invokevirtual 105, 3) := by decide +kernel
theorem dL_law_689 : decode cL_law 689 = .ok (.if_icmp .eq 5, 3) := by decide +kernel
theorem dL_law_692 : decode cL_law 692 = .ok (.iconst 0, 1) := by decide +kernel
theorem dL_law_693 : decode cL_law 693 = .ok (.ireturn, 1) := by decide +kernel
theorem dL_law_694 : decode cL_law 694 = .ok (.iinc 3 4, 3) := by decide +kernel
theorem dL_law_697 : decode cL_law 697 = .ok (.goto (-679), 3) := by decide +kernel
theorem dL_law_700 : decode cL_law 700 = .ok (.iconst 1, 1) := by decide +kernel
theorem dL_law_701 : decode cL_law 701 = .ok (.ireturn, 1) := by decide +kernel
abbrev vwCl : List vw_C := [(RX0, TX0, 12), (RX1, TX1, 2), (RX2, TX2, 7), (RX3, TX3, 6), (RX4, TX4, 11)]
