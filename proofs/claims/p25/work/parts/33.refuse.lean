/-! refused calls: the answers, for every state -/
theorem w_lo {a b c : Int32} (h : a < b) : f_X3_isWithin a b c = 0 := by rw [e_X3_isWithin, if_pos h]
theorem w_hi {a b c : Int32} (h : c < a) : f_X3_isWithin a b c = 0 := by rw [e_X3_isWithin]; split <;> first | rfl | exact if_pos h
theorem w_in {a b c : Int32} (h1 : ¬ a < b) (h2 : ¬ c < a) : f_X3_isWithin a b c = 1 := by rw [e_X3_isWithin, if_neg h1, if_neg h2]
theorem hw_no (S : XS) {p : Int32} (h : f_X3_isPad p = 0) : f_X0_hasWire S p = 0 := by rw [e_X0_hasWire, if_pos h]
theorem g_isPad_m1 : f_X3_isPad (-1) = 0 := (t_X3_isPad (-1)).trans (by decide +kernel)
theorem g_isPad_12 : f_X3_isPad 12 = 0 := (t_X3_isPad 12).trans (by decide +kernel)
theorem g_isPad_0 : f_X3_isPad 0 = 1 := (t_X3_isPad 0).trans (by decide +kernel)
theorem g_isLead_m1 : f_X3_isLead (-1) = 0 := (t_X3_isLead (-1)).trans (by decide +kernel)
theorem g_isLead_16 : f_X3_isLead 16 = 0 := (t_X3_isLead 16).trans (by decide +kernel)
theorem g_isLead_0 : f_X3_isLead 0 = 1 := (t_X3_isLead 0).trans (by decide +kernel)
theorem g_isHeight_9 : f_X3_isHeight 9 = 0 := (t_X3_isHeight 9).trans (by decide +kernel)
theorem g_isHeight_201 : f_X3_isHeight 201 = 0 := (t_X3_isHeight 201).trans (by decide +kernel)
theorem g_w_601_0_600 : f_X3_isWithin 601 0 600 = 0 := (t_X3_isWithin 601 0 600).trans (by decide +kernel)
theorem g_w_m1_0_600 : f_X3_isWithin (-1) 0 600 = 0 := (t_X3_isWithin (-1) 0 600).trans (by decide +kernel)
theorem g_w_0_1_50 : f_X3_isWithin 0 1 50 = 0 := (t_X3_isWithin 0 1 50).trans (by decide +kernel)
theorem g_w_51_1_50 : f_X3_isWithin 51 1 50 = 0 := (t_X3_isWithin 51 1 50).trans (by decide +kernel)
theorem g_w_0_1_12 : f_X3_isWithin 0 1 12 = 0 := (t_X3_isWithin 0 1 12).trans (by decide +kernel)
theorem g_w_13_1_12 : f_X3_isWithin 13 1 12 = 0 := (t_X3_isWithin 13 1 12).trans (by decide +kernel)
theorem g_w_1_1_12 : f_X3_isWithin 1 1 12 = 1 := (t_X3_isWithin 1 1 12).trans (by decide +kernel)
theorem g_w_0_1_100 : f_X3_isWithin 0 1 100 = 0 := (t_X3_isWithin 0 1 100).trans (by decide +kernel)
theorem g_w_101_1_100 : f_X3_isWithin 101 1 100 = 0 := (t_X3_isWithin 101 1 100).trans (by decide +kernel)
theorem g_w_m1_0_200 : f_X3_isWithin (-1) 0 200 = 0 := (t_X3_isWithin (-1) 0 200).trans (by decide +kernel)
theorem g_w_201_0_200 : f_X3_isWithin 201 0 200 = 0 := (t_X3_isWithin 201 0 200).trans (by decide +kernel)
theorem g_w_m1_0_2 : f_X3_isWithin (-1) 0 2 = 0 := (t_X3_isWithin (-1) 0 2).trans (by decide +kernel)
theorem g_w_3_0_2 : f_X3_isWithin 3 0 2 = 0 := (t_X3_isWithin 3 0 2).trans (by decide +kernel)
theorem g_w_0_0_2 : f_X3_isWithin 0 0 2 = 1 := (t_X3_isWithin 0 0 2).trans (by decide +kernel)
theorem g_w_m1_0_1 : f_X3_isWithin (-1) 0 1 = 0 := (t_X3_isWithin (-1) 0 1).trans (by decide +kernel)
theorem g_w_2_0_1 : f_X3_isWithin 2 0 1 = 0 := (t_X3_isWithin 2 0 1).trans (by decide +kernel)
theorem n10 : ((1 : Int32) = 0) = False := eq_false (by decide)
theorem hw_m1 (S : XS) : f_X0_hasWire S (-1) = 0 := hw_no S g_isPad_m1
theorem hw_12 (S : XS) : f_X0_hasWire S 12 = 0 := hw_no S g_isPad_12
theorem q_m1_0 : (((-1) : Int32) = 0) = False := eq_false (by decide)
theorem q_m1_1 : (((-1) : Int32) = 1) = False := eq_false (by decide)
theorem q_m1_2 : (((-1) : Int32) = 2) = False := eq_false (by decide)
theorem q_m1_3 : (((-1) : Int32) = 3) = False := eq_false (by decide)
theorem q_m1_4 : (((-1) : Int32) = 4) = False := eq_false (by decide)
theorem q_m1_5 : (((-1) : Int32) = 5) = False := eq_false (by decide)
theorem q_m1_6 : (((-1) : Int32) = 6) = False := eq_false (by decide)
theorem q_m1_7 : (((-1) : Int32) = 7) = False := eq_false (by decide)
theorem q_m1_8 : (((-1) : Int32) = 8) = False := eq_false (by decide)
theorem q_m1_9 : (((-1) : Int32) = 9) = False := eq_false (by decide)
theorem q_m1_10 : (((-1) : Int32) = 10) = False := eq_false (by decide)
theorem q_m1_11 : (((-1) : Int32) = 11) = False := eq_false (by decide)
theorem q_m1_12 : (((-1) : Int32) = 12) = False := eq_false (by decide)
theorem q_m1_13 : (((-1) : Int32) = 13) = False := eq_false (by decide)
theorem q_2_0 : ((2 : Int32) = 0) = False := eq_false (by decide)
theorem q_2_1 : ((2 : Int32) = 1) = False := eq_false (by decide)
theorem q_2_3 : ((2 : Int32) = 3) = False := eq_false (by decide)
theorem q_2_4 : ((2 : Int32) = 4) = False := eq_false (by decide)
theorem q_2_5 : ((2 : Int32) = 5) = False := eq_false (by decide)
theorem q_2_6 : ((2 : Int32) = 6) = False := eq_false (by decide)
theorem q_2_7 : ((2 : Int32) = 7) = False := eq_false (by decide)
theorem q_2_8 : ((2 : Int32) = 8) = False := eq_false (by decide)
theorem q_2_9 : ((2 : Int32) = 9) = False := eq_false (by decide)
theorem q_2_10 : ((2 : Int32) = 10) = False := eq_false (by decide)
theorem q_2_11 : ((2 : Int32) = 11) = False := eq_false (by decide)
theorem q_2_12 : ((2 : Int32) = 12) = False := eq_false (by decide)
theorem q_2_13 : ((2 : Int32) = 13) = False := eq_false (by decide)
theorem q_7_0 : ((7 : Int32) = 0) = False := eq_false (by decide)
theorem q_7_1 : ((7 : Int32) = 1) = False := eq_false (by decide)
theorem q_7_2 : ((7 : Int32) = 2) = False := eq_false (by decide)
theorem q_7_3 : ((7 : Int32) = 3) = False := eq_false (by decide)
theorem q_7_4 : ((7 : Int32) = 4) = False := eq_false (by decide)
theorem q_7_5 : ((7 : Int32) = 5) = False := eq_false (by decide)
theorem q_7_6 : ((7 : Int32) = 6) = False := eq_false (by decide)
theorem q_7_8 : ((7 : Int32) = 8) = False := eq_false (by decide)
theorem q_7_9 : ((7 : Int32) = 9) = False := eq_false (by decide)
theorem q_7_10 : ((7 : Int32) = 10) = False := eq_false (by decide)
theorem q_7_11 : ((7 : Int32) = 11) = False := eq_false (by decide)
theorem q_7_12 : ((7 : Int32) = 12) = False := eq_false (by decide)
theorem q_7_13 : ((7 : Int32) = 13) = False := eq_false (by decide)
theorem q_9_0 : ((9 : Int32) = 0) = False := eq_false (by decide)
theorem q_9_1 : ((9 : Int32) = 1) = False := eq_false (by decide)
theorem q_9_2 : ((9 : Int32) = 2) = False := eq_false (by decide)
theorem q_9_3 : ((9 : Int32) = 3) = False := eq_false (by decide)
theorem q_9_4 : ((9 : Int32) = 4) = False := eq_false (by decide)
theorem q_9_5 : ((9 : Int32) = 5) = False := eq_false (by decide)
theorem q_9_6 : ((9 : Int32) = 6) = False := eq_false (by decide)
theorem q_9_7 : ((9 : Int32) = 7) = False := eq_false (by decide)
theorem q_9_8 : ((9 : Int32) = 8) = False := eq_false (by decide)
theorem q_9_10 : ((9 : Int32) = 10) = False := eq_false (by decide)
theorem q_9_11 : ((9 : Int32) = 11) = False := eq_false (by decide)
theorem q_9_12 : ((9 : Int32) = 12) = False := eq_false (by decide)
theorem q_9_13 : ((9 : Int32) = 13) = False := eq_false (by decide)
theorem q_14_0 : ((14 : Int32) = 0) = False := eq_false (by decide)
theorem q_14_1 : ((14 : Int32) = 1) = False := eq_false (by decide)
theorem q_14_2 : ((14 : Int32) = 2) = False := eq_false (by decide)
theorem q_14_3 : ((14 : Int32) = 3) = False := eq_false (by decide)
theorem q_14_4 : ((14 : Int32) = 4) = False := eq_false (by decide)
theorem q_14_5 : ((14 : Int32) = 5) = False := eq_false (by decide)
theorem q_14_6 : ((14 : Int32) = 6) = False := eq_false (by decide)
theorem q_14_7 : ((14 : Int32) = 7) = False := eq_false (by decide)
theorem q_14_8 : ((14 : Int32) = 8) = False := eq_false (by decide)
theorem q_14_9 : ((14 : Int32) = 9) = False := eq_false (by decide)
theorem q_14_10 : ((14 : Int32) = 10) = False := eq_false (by decide)
theorem q_14_11 : ((14 : Int32) = 11) = False := eq_false (by decide)
theorem q_14_12 : ((14 : Int32) = 12) = False := eq_false (by decide)
theorem q_14_13 : ((14 : Int32) = 13) = False := eq_false (by decide)
theorem q_3_0 : ((3 : Int32) = 0) = False := eq_false (by decide)
theorem q_3_1 : ((3 : Int32) = 1) = False := eq_false (by decide)
theorem q_3_2 : ((3 : Int32) = 2) = False := eq_false (by decide)
theorem q_3_4 : ((3 : Int32) = 4) = False := eq_false (by decide)
theorem q_3_5 : ((3 : Int32) = 5) = False := eq_false (by decide)
theorem q_3_6 : ((3 : Int32) = 6) = False := eq_false (by decide)
theorem q_3_7 : ((3 : Int32) = 7) = False := eq_false (by decide)
theorem q_3_8 : ((3 : Int32) = 8) = False := eq_false (by decide)
theorem q_3_9 : ((3 : Int32) = 9) = False := eq_false (by decide)
theorem q_3_10 : ((3 : Int32) = 10) = False := eq_false (by decide)
theorem q_3_11 : ((3 : Int32) = 11) = False := eq_false (by decide)
theorem q_3_12 : ((3 : Int32) = 12) = False := eq_false (by decide)
theorem q_3_13 : ((3 : Int32) = 13) = False := eq_false (by decide)
theorem x_lay10 (S : XS) : f_X3_lay S (-1) 0 9 = ((-1), S) := by simp only [e_X3_lay, g_isPad_m1, g_isPad_12, g_isPad_0, g_isLead_m1, g_isLead_16, g_isLead_0, g_isHeight_9, g_isHeight_201, g_w_601_0_600, g_w_m1_0_600, g_w_0_1_50, g_w_51_1_50, g_w_0_1_12, g_w_13_1_12, g_w_1_1_12, g_w_0_1_100, g_w_101_1_100, g_w_m1_0_200, g_w_201_0_200, g_w_m1_0_2, g_w_3_0_2, g_w_0_0_2, g_w_m1_0_1, g_w_2_0_1, n10, hw_m1, hw_12, if_true, if_false, eq_self]
theorem x_lay20 (S : XS) : f_X3_lay S 0 (-1) 9 = ((-1), S) := by simp only [e_X3_lay, g_isPad_m1, g_isPad_12, g_isPad_0, g_isLead_m1, g_isLead_16, g_isLead_0, g_isHeight_9, g_isHeight_201, g_w_601_0_600, g_w_m1_0_600, g_w_0_1_50, g_w_51_1_50, g_w_0_1_12, g_w_13_1_12, g_w_1_1_12, g_w_0_1_100, g_w_101_1_100, g_w_m1_0_200, g_w_201_0_200, g_w_m1_0_2, g_w_3_0_2, g_w_0_0_2, g_w_m1_0_1, g_w_2_0_1, n10, hw_m1, hw_12, if_true, if_false, eq_self]
theorem x_lay30 (S : XS) : f_X3_lay S 0 0 9 = ((-2), S) := by simp only [e_X3_lay, g_isPad_m1, g_isPad_12, g_isPad_0, g_isLead_m1, g_isLead_16, g_isLead_0, g_isHeight_9, g_isHeight_201, g_w_601_0_600, g_w_m1_0_600, g_w_0_1_50, g_w_51_1_50, g_w_0_1_12, g_w_13_1_12, g_w_1_1_12, g_w_0_1_100, g_w_101_1_100, g_w_m1_0_200, g_w_201_0_200, g_w_m1_0_2, g_w_3_0_2, g_w_0_0_2, g_w_m1_0_1, g_w_2_0_1, n10, hw_m1, hw_12, if_true, if_false, eq_self]
theorem x_takeOff0 (S : XS) : f_X3_takeOff S (-1) = ((-1), S) := by simp only [e_X3_takeOff, g_isPad_m1, g_isPad_12, g_isPad_0, g_isLead_m1, g_isLead_16, g_isLead_0, g_isHeight_9, g_isHeight_201, g_w_601_0_600, g_w_m1_0_600, g_w_0_1_50, g_w_51_1_50, g_w_0_1_12, g_w_13_1_12, g_w_1_1_12, g_w_0_1_100, g_w_101_1_100, g_w_m1_0_200, g_w_201_0_200, g_w_m1_0_2, g_w_3_0_2, g_w_0_0_2, g_w_m1_0_1, g_w_2_0_1, n10, hw_m1, hw_12, if_true, if_false, eq_self]
theorem x_bend0 (S : XS) : f_X3_bend S (-1) 9 = ((-1), S) := by simp only [e_X3_bend, g_isPad_m1, g_isPad_12, g_isPad_0, g_isLead_m1, g_isLead_16, g_isLead_0, g_isHeight_9, g_isHeight_201, g_w_601_0_600, g_w_m1_0_600, g_w_0_1_50, g_w_51_1_50, g_w_0_1_12, g_w_13_1_12, g_w_1_1_12, g_w_0_1_100, g_w_101_1_100, g_w_m1_0_200, g_w_201_0_200, g_w_m1_0_2, g_w_3_0_2, g_w_0_0_2, g_w_m1_0_1, g_w_2_0_1, n10, hw_m1, hw_12, if_true, if_false, eq_self]
theorem x_moveLead10 (S : XS) : f_X3_moveLead S (-1) 601 = ((-1), S) := by simp only [e_X3_moveLead, g_isPad_m1, g_isPad_12, g_isPad_0, g_isLead_m1, g_isLead_16, g_isLead_0, g_isHeight_9, g_isHeight_201, g_w_601_0_600, g_w_m1_0_600, g_w_0_1_50, g_w_51_1_50, g_w_0_1_12, g_w_13_1_12, g_w_1_1_12, g_w_0_1_100, g_w_101_1_100, g_w_m1_0_200, g_w_201_0_200, g_w_m1_0_2, g_w_3_0_2, g_w_0_0_2, g_w_m1_0_1, g_w_2_0_1, n10, hw_m1, hw_12, if_true, if_false, eq_self]
theorem x_moveLead20 (S : XS) : f_X3_moveLead S 0 (-1) = ((-2), S) := by simp only [e_X3_moveLead, g_isPad_m1, g_isPad_12, g_isPad_0, g_isLead_m1, g_isLead_16, g_isLead_0, g_isHeight_9, g_isHeight_201, g_w_601_0_600, g_w_m1_0_600, g_w_0_1_50, g_w_51_1_50, g_w_0_1_12, g_w_13_1_12, g_w_1_1_12, g_w_0_1_100, g_w_101_1_100, g_w_m1_0_200, g_w_201_0_200, g_w_m1_0_2, g_w_3_0_2, g_w_0_0_2, g_w_m1_0_1, g_w_2_0_1, n10, hw_m1, hw_12, if_true, if_false, eq_self]
theorem x_setWidth0 (S : XS) : f_X3_setWidth S 0 = ((-2), S) := by simp only [e_X3_setWidth, g_isPad_m1, g_isPad_12, g_isPad_0, g_isLead_m1, g_isLead_16, g_isLead_0, g_isHeight_9, g_isHeight_201, g_w_601_0_600, g_w_m1_0_600, g_w_0_1_50, g_w_51_1_50, g_w_0_1_12, g_w_13_1_12, g_w_1_1_12, g_w_0_1_100, g_w_101_1_100, g_w_m1_0_200, g_w_201_0_200, g_w_m1_0_2, g_w_3_0_2, g_w_0_0_2, g_w_m1_0_1, g_w_2_0_1, n10, hw_m1, hw_12, if_true, if_false, eq_self]
theorem x_pull0 (S : XS) : f_X3_pull S (-1) 0 = ((-1), S) := by simp only [e_X3_pull, g_isPad_m1, g_isPad_12, g_isPad_0, g_isLead_m1, g_isLead_16, g_isLead_0, g_isHeight_9, g_isHeight_201, g_w_601_0_600, g_w_m1_0_600, g_w_0_1_50, g_w_51_1_50, g_w_0_1_12, g_w_13_1_12, g_w_1_1_12, g_w_0_1_100, g_w_101_1_100, g_w_m1_0_200, g_w_201_0_200, g_w_m1_0_2, g_w_3_0_2, g_w_0_0_2, g_w_m1_0_1, g_w_2_0_1, n10, hw_m1, hw_12, if_true, if_false, eq_self]
theorem x_sample10 (S : XS) : f_X3_sample S 0 1 = ((-2), S) := by simp only [e_X3_sample, g_isPad_m1, g_isPad_12, g_isPad_0, g_isLead_m1, g_isLead_16, g_isLead_0, g_isHeight_9, g_isHeight_201, g_w_601_0_600, g_w_m1_0_600, g_w_0_1_50, g_w_51_1_50, g_w_0_1_12, g_w_13_1_12, g_w_1_1_12, g_w_0_1_100, g_w_101_1_100, g_w_m1_0_200, g_w_201_0_200, g_w_m1_0_2, g_w_3_0_2, g_w_0_0_2, g_w_m1_0_1, g_w_2_0_1, n10, hw_m1, hw_12, if_true, if_false, eq_self]
theorem x_sample20 (S : XS) : f_X3_sample S 1 0 = ((-2), S) := by simp only [e_X3_sample, g_isPad_m1, g_isPad_12, g_isPad_0, g_isLead_m1, g_isLead_16, g_isLead_0, g_isHeight_9, g_isHeight_201, g_w_601_0_600, g_w_m1_0_600, g_w_0_1_50, g_w_51_1_50, g_w_0_1_12, g_w_13_1_12, g_w_1_1_12, g_w_0_1_100, g_w_101_1_100, g_w_m1_0_200, g_w_201_0_200, g_w_m1_0_2, g_w_3_0_2, g_w_0_0_2, g_w_m1_0_1, g_w_2_0_1, n10, hw_m1, hw_12, if_true, if_false, eq_self]
theorem x_wire0 (S : XS) : f_X3_wire S (-1) 9 = (-1) := by simp only [e_X3_wire, g_isPad_m1, g_isPad_12, g_isPad_0, g_isLead_m1, g_isLead_16, g_isLead_0, g_isHeight_9, g_isHeight_201, g_w_601_0_600, g_w_m1_0_600, g_w_0_1_50, g_w_51_1_50, g_w_0_1_12, g_w_13_1_12, g_w_1_1_12, g_w_0_1_100, g_w_101_1_100, g_w_m1_0_200, g_w_201_0_200, g_w_m1_0_2, g_w_3_0_2, g_w_0_0_2, g_w_m1_0_1, g_w_2_0_1, n10, hw_m1, hw_12, if_true, if_false, eq_self]
theorem x_heightAt0 (S : XS) : f_X3_heightAt S (-1) 999 = (-1) := by simp only [e_X3_heightAt, g_isPad_m1, g_isPad_12, g_isPad_0, g_isLead_m1, g_isLead_16, g_isLead_0, g_isHeight_9, g_isHeight_201, g_w_601_0_600, g_w_m1_0_600, g_w_0_1_50, g_w_51_1_50, g_w_0_1_12, g_w_13_1_12, g_w_1_1_12, g_w_0_1_100, g_w_101_1_100, g_w_m1_0_200, g_w_201_0_200, g_w_m1_0_2, g_w_3_0_2, g_w_0_0_2, g_w_m1_0_1, g_w_2_0_1, n10, hw_m1, hw_12, if_true, if_false, eq_self]
theorem x_crossing10 (S : XS) : f_X3_crossing S (-1) 0 9 = (-1) := by simp only [e_X3_crossing, g_isPad_m1, g_isPad_12, g_isPad_0, g_isLead_m1, g_isLead_16, g_isLead_0, g_isHeight_9, g_isHeight_201, g_w_601_0_600, g_w_m1_0_600, g_w_0_1_50, g_w_51_1_50, g_w_0_1_12, g_w_13_1_12, g_w_1_1_12, g_w_0_1_100, g_w_101_1_100, g_w_m1_0_200, g_w_201_0_200, g_w_m1_0_2, g_w_3_0_2, g_w_0_0_2, g_w_m1_0_1, g_w_2_0_1, n10, hw_m1, hw_12, if_true, if_false, eq_self]
theorem x_crossing20 (S : XS) : f_X3_crossing S 0 (-1) 9 = (-1) := by simp only [e_X3_crossing, g_isPad_m1, g_isPad_12, g_isPad_0, g_isLead_m1, g_isLead_16, g_isLead_0, g_isHeight_9, g_isHeight_201, g_w_601_0_600, g_w_m1_0_600, g_w_0_1_50, g_w_51_1_50, g_w_0_1_12, g_w_13_1_12, g_w_1_1_12, g_w_0_1_100, g_w_101_1_100, g_w_m1_0_200, g_w_201_0_200, g_w_m1_0_2, g_w_3_0_2, g_w_0_0_2, g_w_m1_0_1, g_w_2_0_1, n10, hw_m1, hw_12, if_true, if_false, eq_self, ite_self]
theorem x_lead10 (S : XS) : f_X3_lead S (-1) 9 = (-1) := by simp only [e_X3_lead, g_isPad_m1, g_isPad_12, g_isPad_0, g_isLead_m1, g_isLead_16, g_isLead_0, g_isHeight_9, g_isHeight_201, g_w_601_0_600, g_w_m1_0_600, g_w_0_1_50, g_w_51_1_50, g_w_0_1_12, g_w_13_1_12, g_w_1_1_12, g_w_0_1_100, g_w_101_1_100, g_w_m1_0_200, g_w_201_0_200, g_w_m1_0_2, g_w_3_0_2, g_w_0_0_2, g_w_m1_0_1, g_w_2_0_1, n10, hw_m1, hw_12, if_true, if_false, eq_self]
theorem x_lead20 (S : XS) : f_X3_lead S 0 (-1) = (-2) := by simp only [e_X3_lead, g_isPad_m1, g_isPad_12, g_isPad_0, g_isLead_m1, g_isLead_16, g_isLead_0, g_isHeight_9, g_isHeight_201, g_w_601_0_600, g_w_m1_0_600, g_w_0_1_50, g_w_51_1_50, g_w_0_1_12, g_w_13_1_12, g_w_1_1_12, g_w_0_1_100, g_w_101_1_100, g_w_m1_0_200, g_w_201_0_200, g_w_m1_0_2, g_w_3_0_2, g_w_0_0_2, g_w_m1_0_1, g_w_2_0_1, n10, hw_m1, hw_12, if_true, if_false, eq_self, q_m1_0, q_m1_1]
theorem x_bestHeight0 (S : XS) : f_X3_bestHeight S (-1) 9 = (-1) := by simp only [e_X3_bestHeight, g_isPad_m1, g_isPad_12, g_isPad_0, g_isLead_m1, g_isLead_16, g_isLead_0, g_isHeight_9, g_isHeight_201, g_w_601_0_600, g_w_m1_0_600, g_w_0_1_50, g_w_51_1_50, g_w_0_1_12, g_w_13_1_12, g_w_1_1_12, g_w_0_1_100, g_w_101_1_100, g_w_m1_0_200, g_w_201_0_200, g_w_m1_0_2, g_w_3_0_2, g_w_0_0_2, g_w_m1_0_1, g_w_2_0_1, n10, hw_m1, hw_12, if_true, if_false, eq_self]
theorem x_laysLeft0 (S : XS) : f_X3_laysLeft S 9 = (-2) := by simp only [e_X3_laysLeft, g_isPad_m1, g_isPad_12, g_isPad_0, g_isLead_m1, g_isLead_16, g_isLead_0, g_isHeight_9, g_isHeight_201, g_w_601_0_600, g_w_m1_0_600, g_w_0_1_50, g_w_51_1_50, g_w_0_1_12, g_w_13_1_12, g_w_1_1_12, g_w_0_1_100, g_w_101_1_100, g_w_m1_0_200, g_w_201_0_200, g_w_m1_0_2, g_w_3_0_2, g_w_0_0_2, g_w_m1_0_1, g_w_2_0_1, n10, hw_m1, hw_12, if_true, if_false, eq_self]
theorem x_count0 (S : XS) : f_X3_count S (-1) = (-2) := by simp only [e_X3_count, g_isPad_m1, g_isPad_12, g_isPad_0, g_isLead_m1, g_isLead_16, g_isLead_0, g_isHeight_9, g_isHeight_201, g_w_601_0_600, g_w_m1_0_600, g_w_0_1_50, g_w_51_1_50, g_w_0_1_12, g_w_13_1_12, g_w_1_1_12, g_w_0_1_100, g_w_101_1_100, g_w_m1_0_200, g_w_201_0_200, g_w_m1_0_2, g_w_3_0_2, g_w_0_0_2, g_w_m1_0_1, g_w_2_0_1, n10, hw_m1, hw_12, if_true, if_false, eq_self, q_m1_0, q_m1_1, q_m1_2, q_m1_3, q_m1_4, q_m1_5, q_m1_6, q_m1_7, q_m1_8, q_m1_9, q_m1_10, q_m1_11, q_m1_12, q_m1_13]
theorem y_bend0 (S : XS) {p : Int32} (h : f_X0_hasWire S p = 1) : f_X3_bend S p 9 = ((-2), S) := by simp only [e_X3_bend, h, g_isPad_m1, g_isPad_12, g_isPad_0, g_isLead_m1, g_isLead_16, g_isLead_0, g_isHeight_9, g_isHeight_201, g_w_601_0_600, g_w_m1_0_600, g_w_0_1_50, g_w_51_1_50, g_w_0_1_12, g_w_13_1_12, g_w_1_1_12, g_w_0_1_100, g_w_101_1_100, g_w_m1_0_200, g_w_201_0_200, g_w_m1_0_2, g_w_3_0_2, g_w_0_0_2, g_w_m1_0_1, g_w_2_0_1, n10, hw_m1, hw_12, if_true, if_false, eq_self]
theorem y_pull0 (S : XS) {p : Int32} (h : f_X0_hasWire S p = 1) : f_X3_pull S p 0 = ((-2), S) := by simp only [e_X3_pull, h, g_isPad_m1, g_isPad_12, g_isPad_0, g_isLead_m1, g_isLead_16, g_isLead_0, g_isHeight_9, g_isHeight_201, g_w_601_0_600, g_w_m1_0_600, g_w_0_1_50, g_w_51_1_50, g_w_0_1_12, g_w_13_1_12, g_w_1_1_12, g_w_0_1_100, g_w_101_1_100, g_w_m1_0_200, g_w_201_0_200, g_w_m1_0_2, g_w_3_0_2, g_w_0_0_2, g_w_m1_0_1, g_w_2_0_1, n10, hw_m1, hw_12, if_true, if_false, eq_self]
theorem y_wire0 (S : XS) {p : Int32} (h : f_X0_hasWire S p = 1) : f_X3_wire S p (-1) = (-2) := by simp only [e_X3_wire, h, g_isPad_m1, g_isPad_12, g_isPad_0, g_isLead_m1, g_isLead_16, g_isLead_0, g_isHeight_9, g_isHeight_201, g_w_601_0_600, g_w_m1_0_600, g_w_0_1_50, g_w_51_1_50, g_w_0_1_12, g_w_13_1_12, g_w_1_1_12, g_w_0_1_100, g_w_101_1_100, g_w_m1_0_200, g_w_201_0_200, g_w_m1_0_2, g_w_3_0_2, g_w_0_0_2, g_w_m1_0_1, g_w_2_0_1, n10, hw_m1, hw_12, if_true, if_false, eq_self, q_m1_0, q_m1_1, q_m1_2, q_m1_3, q_m1_4, q_m1_5, q_m1_6]
theorem y_heightAt0 (S : XS) {p : Int32} (h : f_X0_hasWire S p = 1) : f_X3_heightAt S p (-1) = (-2) := by simp only [e_X3_heightAt, h, g_isPad_m1, g_isPad_12, g_isPad_0, g_isLead_m1, g_isLead_16, g_isLead_0, g_isHeight_9, g_isHeight_201, g_w_601_0_600, g_w_m1_0_600, g_w_0_1_50, g_w_51_1_50, g_w_0_1_12, g_w_13_1_12, g_w_1_1_12, g_w_0_1_100, g_w_101_1_100, g_w_m1_0_200, g_w_201_0_200, g_w_m1_0_2, g_w_3_0_2, g_w_0_0_2, g_w_m1_0_1, g_w_2_0_1, n10, hw_m1, hw_12, if_true, if_false, eq_self]
theorem y_crossing10 (S : XS) {p : Int32} (h : f_X0_hasWire S p = 1) : f_X3_crossing S p p (-1) = (-2) := by simp only [e_X3_crossing, h, g_isPad_m1, g_isPad_12, g_isPad_0, g_isLead_m1, g_isLead_16, g_isLead_0, g_isHeight_9, g_isHeight_201, g_w_601_0_600, g_w_m1_0_600, g_w_0_1_50, g_w_51_1_50, g_w_0_1_12, g_w_13_1_12, g_w_1_1_12, g_w_0_1_100, g_w_101_1_100, g_w_m1_0_200, g_w_201_0_200, g_w_m1_0_2, g_w_3_0_2, g_w_0_0_2, g_w_m1_0_1, g_w_2_0_1, n10, hw_m1, hw_12, if_true, if_false, eq_self]
theorem y_bestHeight0 (S : XS) {p : Int32} (h : f_X0_hasWire S p = 1) : f_X3_bestHeight S p (-1) = (-2) := by simp only [e_X3_bestHeight, h, g_isPad_m1, g_isPad_12, g_isPad_0, g_isLead_m1, g_isLead_16, g_isLead_0, g_isHeight_9, g_isHeight_201, g_w_601_0_600, g_w_m1_0_600, g_w_0_1_50, g_w_51_1_50, g_w_0_1_12, g_w_13_1_12, g_w_1_1_12, g_w_0_1_100, g_w_101_1_100, g_w_m1_0_200, g_w_201_0_200, g_w_m1_0_2, g_w_3_0_2, g_w_0_0_2, g_w_m1_0_1, g_w_2_0_1, n10, hw_m1, hw_12, if_true, if_false, eq_self]
theorem x_lay11 (S : XS) : f_X3_lay S 12 0 201 = ((-1), S) := by simp only [e_X3_lay, g_isPad_m1, g_isPad_12, g_isPad_0, g_isLead_m1, g_isLead_16, g_isLead_0, g_isHeight_9, g_isHeight_201, g_w_601_0_600, g_w_m1_0_600, g_w_0_1_50, g_w_51_1_50, g_w_0_1_12, g_w_13_1_12, g_w_1_1_12, g_w_0_1_100, g_w_101_1_100, g_w_m1_0_200, g_w_201_0_200, g_w_m1_0_2, g_w_3_0_2, g_w_0_0_2, g_w_m1_0_1, g_w_2_0_1, n10, hw_m1, hw_12, if_true, if_false, eq_self]
theorem x_lay21 (S : XS) : f_X3_lay S 0 16 201 = ((-1), S) := by simp only [e_X3_lay, g_isPad_m1, g_isPad_12, g_isPad_0, g_isLead_m1, g_isLead_16, g_isLead_0, g_isHeight_9, g_isHeight_201, g_w_601_0_600, g_w_m1_0_600, g_w_0_1_50, g_w_51_1_50, g_w_0_1_12, g_w_13_1_12, g_w_1_1_12, g_w_0_1_100, g_w_101_1_100, g_w_m1_0_200, g_w_201_0_200, g_w_m1_0_2, g_w_3_0_2, g_w_0_0_2, g_w_m1_0_1, g_w_2_0_1, n10, hw_m1, hw_12, if_true, if_false, eq_self]
theorem x_lay31 (S : XS) : f_X3_lay S 0 0 201 = ((-2), S) := by simp only [e_X3_lay, g_isPad_m1, g_isPad_12, g_isPad_0, g_isLead_m1, g_isLead_16, g_isLead_0, g_isHeight_9, g_isHeight_201, g_w_601_0_600, g_w_m1_0_600, g_w_0_1_50, g_w_51_1_50, g_w_0_1_12, g_w_13_1_12, g_w_1_1_12, g_w_0_1_100, g_w_101_1_100, g_w_m1_0_200, g_w_201_0_200, g_w_m1_0_2, g_w_3_0_2, g_w_0_0_2, g_w_m1_0_1, g_w_2_0_1, n10, hw_m1, hw_12, if_true, if_false, eq_self]
theorem x_takeOff1 (S : XS) : f_X3_takeOff S 12 = ((-1), S) := by simp only [e_X3_takeOff, g_isPad_m1, g_isPad_12, g_isPad_0, g_isLead_m1, g_isLead_16, g_isLead_0, g_isHeight_9, g_isHeight_201, g_w_601_0_600, g_w_m1_0_600, g_w_0_1_50, g_w_51_1_50, g_w_0_1_12, g_w_13_1_12, g_w_1_1_12, g_w_0_1_100, g_w_101_1_100, g_w_m1_0_200, g_w_201_0_200, g_w_m1_0_2, g_w_3_0_2, g_w_0_0_2, g_w_m1_0_1, g_w_2_0_1, n10, hw_m1, hw_12, if_true, if_false, eq_self]
theorem x_bend1 (S : XS) : f_X3_bend S 12 201 = ((-1), S) := by simp only [e_X3_bend, g_isPad_m1, g_isPad_12, g_isPad_0, g_isLead_m1, g_isLead_16, g_isLead_0, g_isHeight_9, g_isHeight_201, g_w_601_0_600, g_w_m1_0_600, g_w_0_1_50, g_w_51_1_50, g_w_0_1_12, g_w_13_1_12, g_w_1_1_12, g_w_0_1_100, g_w_101_1_100, g_w_m1_0_200, g_w_201_0_200, g_w_m1_0_2, g_w_3_0_2, g_w_0_0_2, g_w_m1_0_1, g_w_2_0_1, n10, hw_m1, hw_12, if_true, if_false, eq_self]
theorem x_moveLead11 (S : XS) : f_X3_moveLead S 16 601 = ((-1), S) := by simp only [e_X3_moveLead, g_isPad_m1, g_isPad_12, g_isPad_0, g_isLead_m1, g_isLead_16, g_isLead_0, g_isHeight_9, g_isHeight_201, g_w_601_0_600, g_w_m1_0_600, g_w_0_1_50, g_w_51_1_50, g_w_0_1_12, g_w_13_1_12, g_w_1_1_12, g_w_0_1_100, g_w_101_1_100, g_w_m1_0_200, g_w_201_0_200, g_w_m1_0_2, g_w_3_0_2, g_w_0_0_2, g_w_m1_0_1, g_w_2_0_1, n10, hw_m1, hw_12, if_true, if_false, eq_self]
theorem x_moveLead21 (S : XS) : f_X3_moveLead S 0 601 = ((-2), S) := by simp only [e_X3_moveLead, g_isPad_m1, g_isPad_12, g_isPad_0, g_isLead_m1, g_isLead_16, g_isLead_0, g_isHeight_9, g_isHeight_201, g_w_601_0_600, g_w_m1_0_600, g_w_0_1_50, g_w_51_1_50, g_w_0_1_12, g_w_13_1_12, g_w_1_1_12, g_w_0_1_100, g_w_101_1_100, g_w_m1_0_200, g_w_201_0_200, g_w_m1_0_2, g_w_3_0_2, g_w_0_0_2, g_w_m1_0_1, g_w_2_0_1, n10, hw_m1, hw_12, if_true, if_false, eq_self]
theorem x_setWidth1 (S : XS) : f_X3_setWidth S 51 = ((-2), S) := by simp only [e_X3_setWidth, g_isPad_m1, g_isPad_12, g_isPad_0, g_isLead_m1, g_isLead_16, g_isLead_0, g_isHeight_9, g_isHeight_201, g_w_601_0_600, g_w_m1_0_600, g_w_0_1_50, g_w_51_1_50, g_w_0_1_12, g_w_13_1_12, g_w_1_1_12, g_w_0_1_100, g_w_101_1_100, g_w_m1_0_200, g_w_201_0_200, g_w_m1_0_2, g_w_3_0_2, g_w_0_0_2, g_w_m1_0_1, g_w_2_0_1, n10, hw_m1, hw_12, if_true, if_false, eq_self]
theorem x_pull1 (S : XS) : f_X3_pull S 12 0 = ((-1), S) := by simp only [e_X3_pull, g_isPad_m1, g_isPad_12, g_isPad_0, g_isLead_m1, g_isLead_16, g_isLead_0, g_isHeight_9, g_isHeight_201, g_w_601_0_600, g_w_m1_0_600, g_w_0_1_50, g_w_51_1_50, g_w_0_1_12, g_w_13_1_12, g_w_1_1_12, g_w_0_1_100, g_w_101_1_100, g_w_m1_0_200, g_w_201_0_200, g_w_m1_0_2, g_w_3_0_2, g_w_0_0_2, g_w_m1_0_1, g_w_2_0_1, n10, hw_m1, hw_12, if_true, if_false, eq_self]
theorem x_sample11 (S : XS) : f_X3_sample S 13 1 = ((-2), S) := by simp only [e_X3_sample, g_isPad_m1, g_isPad_12, g_isPad_0, g_isLead_m1, g_isLead_16, g_isLead_0, g_isHeight_9, g_isHeight_201, g_w_601_0_600, g_w_m1_0_600, g_w_0_1_50, g_w_51_1_50, g_w_0_1_12, g_w_13_1_12, g_w_1_1_12, g_w_0_1_100, g_w_101_1_100, g_w_m1_0_200, g_w_201_0_200, g_w_m1_0_2, g_w_3_0_2, g_w_0_0_2, g_w_m1_0_1, g_w_2_0_1, n10, hw_m1, hw_12, if_true, if_false, eq_self]
theorem x_sample21 (S : XS) : f_X3_sample S 1 101 = ((-2), S) := by simp only [e_X3_sample, g_isPad_m1, g_isPad_12, g_isPad_0, g_isLead_m1, g_isLead_16, g_isLead_0, g_isHeight_9, g_isHeight_201, g_w_601_0_600, g_w_m1_0_600, g_w_0_1_50, g_w_51_1_50, g_w_0_1_12, g_w_13_1_12, g_w_1_1_12, g_w_0_1_100, g_w_101_1_100, g_w_m1_0_200, g_w_201_0_200, g_w_m1_0_2, g_w_3_0_2, g_w_0_0_2, g_w_m1_0_1, g_w_2_0_1, n10, hw_m1, hw_12, if_true, if_false, eq_self]
theorem x_wire1 (S : XS) : f_X3_wire S 12 9 = (-1) := by simp only [e_X3_wire, g_isPad_m1, g_isPad_12, g_isPad_0, g_isLead_m1, g_isLead_16, g_isLead_0, g_isHeight_9, g_isHeight_201, g_w_601_0_600, g_w_m1_0_600, g_w_0_1_50, g_w_51_1_50, g_w_0_1_12, g_w_13_1_12, g_w_1_1_12, g_w_0_1_100, g_w_101_1_100, g_w_m1_0_200, g_w_201_0_200, g_w_m1_0_2, g_w_3_0_2, g_w_0_0_2, g_w_m1_0_1, g_w_2_0_1, n10, hw_m1, hw_12, if_true, if_false, eq_self]
theorem x_heightAt1 (S : XS) : f_X3_heightAt S 12 999 = (-1) := by simp only [e_X3_heightAt, g_isPad_m1, g_isPad_12, g_isPad_0, g_isLead_m1, g_isLead_16, g_isLead_0, g_isHeight_9, g_isHeight_201, g_w_601_0_600, g_w_m1_0_600, g_w_0_1_50, g_w_51_1_50, g_w_0_1_12, g_w_13_1_12, g_w_1_1_12, g_w_0_1_100, g_w_101_1_100, g_w_m1_0_200, g_w_201_0_200, g_w_m1_0_2, g_w_3_0_2, g_w_0_0_2, g_w_m1_0_1, g_w_2_0_1, n10, hw_m1, hw_12, if_true, if_false, eq_self]
theorem x_crossing11 (S : XS) : f_X3_crossing S 12 0 9 = (-1) := by simp only [e_X3_crossing, g_isPad_m1, g_isPad_12, g_isPad_0, g_isLead_m1, g_isLead_16, g_isLead_0, g_isHeight_9, g_isHeight_201, g_w_601_0_600, g_w_m1_0_600, g_w_0_1_50, g_w_51_1_50, g_w_0_1_12, g_w_13_1_12, g_w_1_1_12, g_w_0_1_100, g_w_101_1_100, g_w_m1_0_200, g_w_201_0_200, g_w_m1_0_2, g_w_3_0_2, g_w_0_0_2, g_w_m1_0_1, g_w_2_0_1, n10, hw_m1, hw_12, if_true, if_false, eq_self]
theorem x_crossing21 (S : XS) : f_X3_crossing S 0 12 9 = (-1) := by simp only [e_X3_crossing, g_isPad_m1, g_isPad_12, g_isPad_0, g_isLead_m1, g_isLead_16, g_isLead_0, g_isHeight_9, g_isHeight_201, g_w_601_0_600, g_w_m1_0_600, g_w_0_1_50, g_w_51_1_50, g_w_0_1_12, g_w_13_1_12, g_w_1_1_12, g_w_0_1_100, g_w_101_1_100, g_w_m1_0_200, g_w_201_0_200, g_w_m1_0_2, g_w_3_0_2, g_w_0_0_2, g_w_m1_0_1, g_w_2_0_1, n10, hw_m1, hw_12, if_true, if_false, eq_self, ite_self]
theorem x_lead11 (S : XS) : f_X3_lead S 16 9 = (-1) := by simp only [e_X3_lead, g_isPad_m1, g_isPad_12, g_isPad_0, g_isLead_m1, g_isLead_16, g_isLead_0, g_isHeight_9, g_isHeight_201, g_w_601_0_600, g_w_m1_0_600, g_w_0_1_50, g_w_51_1_50, g_w_0_1_12, g_w_13_1_12, g_w_1_1_12, g_w_0_1_100, g_w_101_1_100, g_w_m1_0_200, g_w_201_0_200, g_w_m1_0_2, g_w_3_0_2, g_w_0_0_2, g_w_m1_0_1, g_w_2_0_1, n10, hw_m1, hw_12, if_true, if_false, eq_self]
theorem x_lead21 (S : XS) : f_X3_lead S 0 2 = (-2) := by simp only [e_X3_lead, g_isPad_m1, g_isPad_12, g_isPad_0, g_isLead_m1, g_isLead_16, g_isLead_0, g_isHeight_9, g_isHeight_201, g_w_601_0_600, g_w_m1_0_600, g_w_0_1_50, g_w_51_1_50, g_w_0_1_12, g_w_13_1_12, g_w_1_1_12, g_w_0_1_100, g_w_101_1_100, g_w_m1_0_200, g_w_201_0_200, g_w_m1_0_2, g_w_3_0_2, g_w_0_0_2, g_w_m1_0_1, g_w_2_0_1, n10, hw_m1, hw_12, if_true, if_false, eq_self, q_2_0, q_2_1]
theorem x_bestHeight1 (S : XS) : f_X3_bestHeight S 12 9 = (-1) := by simp only [e_X3_bestHeight, g_isPad_m1, g_isPad_12, g_isPad_0, g_isLead_m1, g_isLead_16, g_isLead_0, g_isHeight_9, g_isHeight_201, g_w_601_0_600, g_w_m1_0_600, g_w_0_1_50, g_w_51_1_50, g_w_0_1_12, g_w_13_1_12, g_w_1_1_12, g_w_0_1_100, g_w_101_1_100, g_w_m1_0_200, g_w_201_0_200, g_w_m1_0_2, g_w_3_0_2, g_w_0_0_2, g_w_m1_0_1, g_w_2_0_1, n10, hw_m1, hw_12, if_true, if_false, eq_self]
theorem x_laysLeft1 (S : XS) : f_X3_laysLeft S 201 = (-2) := by simp only [e_X3_laysLeft, g_isPad_m1, g_isPad_12, g_isPad_0, g_isLead_m1, g_isLead_16, g_isLead_0, g_isHeight_9, g_isHeight_201, g_w_601_0_600, g_w_m1_0_600, g_w_0_1_50, g_w_51_1_50, g_w_0_1_12, g_w_13_1_12, g_w_1_1_12, g_w_0_1_100, g_w_101_1_100, g_w_m1_0_200, g_w_201_0_200, g_w_m1_0_2, g_w_3_0_2, g_w_0_0_2, g_w_m1_0_1, g_w_2_0_1, n10, hw_m1, hw_12, if_true, if_false, eq_self]
theorem x_count1 (S : XS) : f_X3_count S 14 = (-2) := by simp only [e_X3_count, g_isPad_m1, g_isPad_12, g_isPad_0, g_isLead_m1, g_isLead_16, g_isLead_0, g_isHeight_9, g_isHeight_201, g_w_601_0_600, g_w_m1_0_600, g_w_0_1_50, g_w_51_1_50, g_w_0_1_12, g_w_13_1_12, g_w_1_1_12, g_w_0_1_100, g_w_101_1_100, g_w_m1_0_200, g_w_201_0_200, g_w_m1_0_2, g_w_3_0_2, g_w_0_0_2, g_w_m1_0_1, g_w_2_0_1, n10, hw_m1, hw_12, if_true, if_false, eq_self, q_14_0, q_14_1, q_14_2, q_14_3, q_14_4, q_14_5, q_14_6, q_14_7, q_14_8, q_14_9, q_14_10, q_14_11, q_14_12, q_14_13]
theorem y_bend1 (S : XS) {p : Int32} (h : f_X0_hasWire S p = 1) : f_X3_bend S p 201 = ((-2), S) := by simp only [e_X3_bend, h, g_isPad_m1, g_isPad_12, g_isPad_0, g_isLead_m1, g_isLead_16, g_isLead_0, g_isHeight_9, g_isHeight_201, g_w_601_0_600, g_w_m1_0_600, g_w_0_1_50, g_w_51_1_50, g_w_0_1_12, g_w_13_1_12, g_w_1_1_12, g_w_0_1_100, g_w_101_1_100, g_w_m1_0_200, g_w_201_0_200, g_w_m1_0_2, g_w_3_0_2, g_w_0_0_2, g_w_m1_0_1, g_w_2_0_1, n10, hw_m1, hw_12, if_true, if_false, eq_self]
theorem y_pull1 (S : XS) {p : Int32} (h : f_X0_hasWire S p = 1) : f_X3_pull S p 101 = ((-2), S) := by simp only [e_X3_pull, h, g_isPad_m1, g_isPad_12, g_isPad_0, g_isLead_m1, g_isLead_16, g_isLead_0, g_isHeight_9, g_isHeight_201, g_w_601_0_600, g_w_m1_0_600, g_w_0_1_50, g_w_51_1_50, g_w_0_1_12, g_w_13_1_12, g_w_1_1_12, g_w_0_1_100, g_w_101_1_100, g_w_m1_0_200, g_w_201_0_200, g_w_m1_0_2, g_w_3_0_2, g_w_0_0_2, g_w_m1_0_1, g_w_2_0_1, n10, hw_m1, hw_12, if_true, if_false, eq_self]
theorem y_wire1 (S : XS) {p : Int32} (h : f_X0_hasWire S p = 1) : f_X3_wire S p 7 = (-2) := by simp only [e_X3_wire, h, g_isPad_m1, g_isPad_12, g_isPad_0, g_isLead_m1, g_isLead_16, g_isLead_0, g_isHeight_9, g_isHeight_201, g_w_601_0_600, g_w_m1_0_600, g_w_0_1_50, g_w_51_1_50, g_w_0_1_12, g_w_13_1_12, g_w_1_1_12, g_w_0_1_100, g_w_101_1_100, g_w_m1_0_200, g_w_201_0_200, g_w_m1_0_2, g_w_3_0_2, g_w_0_0_2, g_w_m1_0_1, g_w_2_0_1, n10, hw_m1, hw_12, if_true, if_false, eq_self, q_7_0, q_7_1, q_7_2, q_7_3, q_7_4, q_7_5, q_7_6]
theorem y_heightAt1 (S : XS) {p : Int32} (h : f_X0_hasWire S p = 1) : f_X3_heightAt S p 201 = (-2) := by simp only [e_X3_heightAt, h, g_isPad_m1, g_isPad_12, g_isPad_0, g_isLead_m1, g_isLead_16, g_isLead_0, g_isHeight_9, g_isHeight_201, g_w_601_0_600, g_w_m1_0_600, g_w_0_1_50, g_w_51_1_50, g_w_0_1_12, g_w_13_1_12, g_w_1_1_12, g_w_0_1_100, g_w_101_1_100, g_w_m1_0_200, g_w_201_0_200, g_w_m1_0_2, g_w_3_0_2, g_w_0_0_2, g_w_m1_0_1, g_w_2_0_1, n10, hw_m1, hw_12, if_true, if_false, eq_self]
theorem y_crossing11 (S : XS) {p : Int32} (h : f_X0_hasWire S p = 1) : f_X3_crossing S p p 3 = (-2) := by simp only [e_X3_crossing, h, g_isPad_m1, g_isPad_12, g_isPad_0, g_isLead_m1, g_isLead_16, g_isLead_0, g_isHeight_9, g_isHeight_201, g_w_601_0_600, g_w_m1_0_600, g_w_0_1_50, g_w_51_1_50, g_w_0_1_12, g_w_13_1_12, g_w_1_1_12, g_w_0_1_100, g_w_101_1_100, g_w_m1_0_200, g_w_201_0_200, g_w_m1_0_2, g_w_3_0_2, g_w_0_0_2, g_w_m1_0_1, g_w_2_0_1, n10, hw_m1, hw_12, if_true, if_false, eq_self]
theorem y_bestHeight1 (S : XS) {p : Int32} (h : f_X0_hasWire S p = 1) : f_X3_bestHeight S p 2 = (-2) := by simp only [e_X3_bestHeight, h, g_isPad_m1, g_isPad_12, g_isPad_0, g_isLead_m1, g_isLead_16, g_isLead_0, g_isHeight_9, g_isHeight_201, g_w_601_0_600, g_w_m1_0_600, g_w_0_1_50, g_w_51_1_50, g_w_0_1_12, g_w_13_1_12, g_w_1_1_12, g_w_0_1_100, g_w_101_1_100, g_w_m1_0_200, g_w_201_0_200, g_w_m1_0_2, g_w_3_0_2, g_w_0_0_2, g_w_m1_0_1, g_w_2_0_1, n10, hw_m1, hw_12, if_true, if_false, eq_self]
theorem cross_same (S : XS) (p : Int32) : f_X0_cross S p p = 0 := by
  rw [e_X0_cross]
  by_cases h : f_X0_hasWire S p = 0
  · rw [if_pos h]
  · rw [if_neg h, if_neg h, if_pos rfl]
theorem y_crossing2 (S : XS) {p : Int32} (h : f_X0_hasWire S p = 1) : f_X3_crossing S p p 0 = (-5) := by simp only [e_X3_crossing, h, cross_same, g_isPad_m1, g_isPad_12, g_isPad_0, g_isLead_m1, g_isLead_16, g_isLead_0, g_isHeight_9, g_isHeight_201, g_w_601_0_600, g_w_m1_0_600, g_w_0_1_50, g_w_51_1_50, g_w_0_1_12, g_w_13_1_12, g_w_1_1_12, g_w_0_1_100, g_w_101_1_100, g_w_m1_0_200, g_w_201_0_200, g_w_m1_0_2, g_w_3_0_2, g_w_0_0_2, g_w_m1_0_1, g_w_2_0_1, n10, hw_m1, hw_12, if_true, if_false, eq_self]
theorem hw_01 (S : XS) (p : Int32) : f_X0_hasWire S p = 0 ∨ f_X0_hasWire S p = 1 := by
  rw [e_X0_hasWire]
  split
  · exact Or.inl rfl
  · split
    · exact Or.inl rfl
    · exact Or.inr rfl
theorem hw_1 {S : XS} {p : Int32} (h : ¬ f_X0_hasWire S p = 0) : f_X0_hasWire S p = 1 := (hw_01 S p).resolve_left h
theorem g_weak (S : XS) : ∀ (n k : Nat) (v : Int32), (v = (-5) ∨ f_X0_hasWire S v = 1) → (g_X0_weakestPad_5 S n k v = (-5) ∨ f_X0_hasWire S (g_X0_weakestPad_5 S n k v) = 1) := by
  intro n
  induction n with
  | zero => intro k v h; exact h
  | succ n ih =>
    intro k v h
    rw [ge_X0_weakestPad_5]
    split
    · exact h
    · split
      · exact ih _ _ h
      · rename_i _ hk
        repeat' split
        all_goals first | exact ih _ _ h | exact ih _ _ (Or.inr (hw_1 hk))
theorem weak_ok (S : XS) : f_X3_count S 9 = (-5) ∨ f_X0_hasWire S (f_X3_count S 9) = 1 := by
  have e : f_X3_count S 9 = f_X0_weakestPad S := by simp only [e_X3_count, eq_self, if_true, if_false, q_9_0, q_9_1, q_9_2, q_9_3, q_9_4, q_9_5, q_9_6, q_9_7, q_9_8]
  rw [e, e_X0_weakestPad]
  exact g_weak S _ _ _ (Or.inl rfl)
