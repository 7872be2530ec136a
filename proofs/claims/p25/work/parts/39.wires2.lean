theorem pr_of {z : Int32 × XS} {v : Int32} (h : z.1 = v) : z = (v, z.2) := by rw [← h]
theorem wires_i0 : Iv wa0 := ivb_ok wires_ev0.1
theorem wires_s0 : f_X3_undo wa0 = ((-5), wa1) := by rw [t_X3_undo, wa1]; exact pr_of wires_ev0.2.1
theorem wires_i1 : Iv wa1 := ivb_ok wires_ev0.2.2.1
theorem wires_s1 : f_X3_restore wa1 = ((-5), wa2) := by rw [t_X3_restore, wa2]; exact pr_of wires_ev0.2.2.2.1
theorem wires_i2 : Iv wa2 := ivb_ok wires_ev0.2.2.2.2.1
theorem wires_s2 : f_X3_changeTool wa2 = ((-5), wa3) := by rw [t_X3_changeTool, wa3]; exact pr_of wires_ev0.2.2.2.2.2.1
theorem wires_i3 : Iv wa3 := ivb_ok wires_ev0.2.2.2.2.2.2.1
theorem wires_s3 : f_X3_thread wa3 = ((-5), wa4) := by rw [t_X3_thread, wa4]; exact pr_of wires_ev0.2.2.2.2.2.2.2.1
theorem wires_i4 : Iv wa4 := ivb_ok wires_ev0.2.2.2.2.2.2.2.2.1
theorem wires_s4 : f_X3_sample wa4 1 1 = ((-5), wa5) := by rw [t_X3_sample, wa5]; exact pr_of wires_ev0.2.2.2.2.2.2.2.2.2.1
theorem wires_i5 : Iv wa5 := ivb_ok wires_ev0.2.2.2.2.2.2.2.2.2.2.1
theorem wires_s5 : f_X3_count wa5 9 = (-5) := (t_X3_count wa5 9).trans wires_ev0.2.2.2.2.2.2.2.2.2.2.2.1
theorem wires_s6 : f_X3_lead wa5 15 0 = 600 := (t_X3_lead wa5 15 0).trans wires_ev0.2.2.2.2.2.2.2.2.2.2.2.2.1
theorem wires_s7 : f_X3_laysLeft wa5 10 = 7 := (t_X3_laysLeft wa5 10).trans wires_ev0.2.2.2.2.2.2.2.2.2.2.2.2.2.1
theorem wires_s8 : f_X3_lay wa5 0 0 60 = (95, wa6) := by rw [t_X3_lay, wa6]; exact pr_of wires_ev0.2.2.2.2.2.2.2.2.2.2.2.2.2.2.1
theorem wires_i6 : Iv wa6 := ivb_ok wires_ev0.2.2.2.2.2.2.2.2.2.2.2.2.2.2.2.1
theorem wires_s9 : f_X3_count wa6 4 = 3 := (t_X3_count wa6 4).trans wires_ev0.2.2.2.2.2.2.2.2.2.2.2.2.2.2.2.2.1
theorem wires_s10 : f_X3_lay wa6 0 1 60 = ((-4), wa7) := by rw [t_X3_lay, wa7]; exact pr_of wires_ev0.2.2.2.2.2.2.2.2.2.2.2.2.2.2.2.2.2.1
theorem wires_i7 : Iv wa7 := ivb_ok wires_ev0.2.2.2.2.2.2.2.2.2.2.2.2.2.2.2.2.2.2.1
theorem wires_s11 : f_X3_lay wa7 1 0 60 = ((-4), wa8) := by rw [t_X3_lay, wa8]; exact pr_of wires_ev0.2.2.2.2.2.2.2.2.2.2.2.2.2.2.2.2.2.2.2.1
theorem wires_i8 : Iv wa8 := ivb_ok wires_ev0.2.2.2.2.2.2.2.2.2.2.2.2.2.2.2.2.2.2.2.2.1
theorem wires_s12 : f_X3_lay wa8 12 0 5 = ((-1), wa9) := by rw [t_X3_lay, wa9]; exact pr_of wires_ev0.2.2.2.2.2.2.2.2.2.2.2.2.2.2.2.2.2.2.2.2.2.1
theorem wires_i9 : Iv wa9 := ivb_ok wires_ev0.2.2.2.2.2.2.2.2.2.2.2.2.2.2.2.2.2.2.2.2.2.2.1
theorem wires_s13 : f_X3_lay wa9 1 1 9 = ((-2), wa10) := by rw [t_X3_lay, wa10]; exact pr_of wires_ev0.2.2.2.2.2.2.2.2.2.2.2.2.2.2.2.2.2.2.2.2.2.2.2
theorem wires_i10 : Iv wa10 := ivb_ok wires_ev1.1
theorem wires_s14 : f_X3_lay wa10 1 5 100 = (96, wa11) := by rw [t_X3_lay, wa11]; exact pr_of wires_ev1.2.1
theorem wires_i11 : Iv wa11 := ivb_ok wires_ev1.2.2.1
theorem wires_s15 : f_X3_count wa11 4 = 7 := (t_X3_count wa11 4).trans wires_ev1.2.2.2.1
theorem wires_s16 : f_X3_crossing wa11 0 1 0 = (-5) := (t_X3_crossing wa11 0 1 0).trans wires_ev1.2.2.2.2.1
theorem wires_s17 : f_X3_lay wa11 2 3 200 = (98, wa12) := by rw [t_X3_lay, wa12]; exact pr_of wires_ev1.2.2.2.2.2.1
theorem wires_i12 : Iv wa12 := ivb_ok wires_ev1.2.2.2.2.2.2.1
theorem wires_s18 : f_X3_count wa12 4 = 13 := (t_X3_count wa12 4).trans wires_ev1.2.2.2.2.2.2.2.1
theorem wires_s19 : f_X3_crossing wa12 1 2 0 = 40 := (t_X3_crossing wa12 1 2 0).trans wires_ev1.2.2.2.2.2.2.2.2.1
theorem wires_s20 : f_X3_crossing wa12 2 1 1 = 64 := (t_X3_crossing wa12 2 1 1).trans wires_ev1.2.2.2.2.2.2.2.2.2.1
theorem wires_s21 : f_X3_crossing wa12 1 2 2 = 0 := (t_X3_crossing wa12 1 2 2).trans wires_ev1.2.2.2.2.2.2.2.2.2.2.1
theorem wires_s22 : f_X3_count wa12 2 = 1 := (t_X3_count wa12 2).trans wires_ev1.2.2.2.2.2.2.2.2.2.2.2.1
theorem wires_s23 : f_X3_count wa12 3 = 0 := (t_X3_count wa12 3).trans wires_ev1.2.2.2.2.2.2.2.2.2.2.2.2.1
theorem wires_s24 : f_X3_heightAt wa12 1 40 = 64 := (t_X3_heightAt wa12 1 40).trans wires_ev1.2.2.2.2.2.2.2.2.2.2.2.2.2.1
theorem wires_s25 : f_X3_heightAt wa12 1 100 = 100 := (t_X3_heightAt wa12 1 100).trans wires_ev1.2.2.2.2.2.2.2.2.2.2.2.2.2.2.1
theorem wires_s26 : f_X3_heightAt wa12 1 200 = 0 := (t_X3_heightAt wa12 1 200).trans wires_ev1.2.2.2.2.2.2.2.2.2.2.2.2.2.2.2.1
theorem wires_s27 : f_X3_count wa12 10 = 289 := (t_X3_count wa12 10).trans wires_ev1.2.2.2.2.2.2.2.2.2.2.2.2.2.2.2.2.1
theorem wires_s28 : f_X3_count wa12 9 = 0 := (t_X3_count wa12 9).trans wires_ev1.2.2.2.2.2.2.2.2.2.2.2.2.2.2.2.2.2.1
theorem wires_s29 : f_X3_wire wa12 2 6 = 2 := (t_X3_wire wa12 2 6).trans wires_ev1.2.2.2.2.2.2.2.2.2.2.2.2.2.2.2.2.2.2.1
theorem wires_s30 : f_X3_setWidth wa12 50 = (10, wa13) := by rw [t_X3_setWidth, wa13]; exact pr_of wires_ev1.2.2.2.2.2.2.2.2.2.2.2.2.2.2.2.2.2.2.2.1
theorem wires_i13 : Iv wa13 := ivb_ok wires_ev1.2.2.2.2.2.2.2.2.2.2.2.2.2.2.2.2.2.2.2.2.1
theorem wires_s31 : f_X3_setWidth wa13 50 = ((-5), wa14) := by rw [t_X3_setWidth, wa14]; exact pr_of wires_ev1.2.2.2.2.2.2.2.2.2.2.2.2.2.2.2.2.2.2.2.2.2.1
theorem wires_i14 : Iv wa14 := ivb_ok wires_ev1.2.2.2.2.2.2.2.2.2.2.2.2.2.2.2.2.2.2.2.2.2.2.1
theorem wires_s32 : f_X3_count wa14 3 = 0 := (t_X3_count wa14 3).trans wires_ev1.2.2.2.2.2.2.2.2.2.2.2.2.2.2.2.2.2.2.2.2.2.2.2
theorem wires_s33 : f_X3_bend wa14 2 120 = (200, wa15) := by rw [t_X3_bend, wa15]; exact pr_of wires_ev2.1
theorem wires_i15 : Iv wa15 := ivb_ok wires_ev2.2.1
theorem wires_s34 : f_X3_bend wa15 2 120 = ((-5), wa16) := by rw [t_X3_bend, wa16]; exact pr_of wires_ev2.2.2.1
theorem wires_i16 : Iv wa16 := ivb_ok wires_ev2.2.2.2.1
theorem wires_s35 : f_X3_crossing wa16 1 2 1 = 12 := (t_X3_crossing wa16 1 2 1).trans wires_ev2.2.2.2.2.1
theorem wires_s36 : f_X3_crossing wa16 2 1 2 = 1 := (t_X3_crossing wa16 2 1 2).trans wires_ev2.2.2.2.2.2.1
theorem wires_s37 : f_X3_count wa16 3 = 1 := (t_X3_count wa16 3).trans wires_ev2.2.2.2.2.2.2.1
theorem wires_s38 : f_X3_wire wa16 1 4 = 1 := (t_X3_wire wa16 1 4).trans wires_ev2.2.2.2.2.2.2.2.1
theorem wires_s39 : f_X3_wire wa16 1 5 = 12 := (t_X3_wire wa16 1 5).trans wires_ev2.2.2.2.2.2.2.2.2.1
theorem wires_s40 : f_X3_wire wa16 0 5 = (-5) := (t_X3_wire wa16 0 5).trans wires_ev2.2.2.2.2.2.2.2.2.2.1
theorem wires_s41 : f_X3_bestHeight wa16 1 0 = 10 := (t_X3_bestHeight wa16 1 0).trans wires_ev2.2.2.2.2.2.2.2.2.2.2.1
theorem wires_s42 : f_X3_bestHeight wa16 1 1 = 0 := (t_X3_bestHeight wa16 1 1).trans wires_ev2.2.2.2.2.2.2.2.2.2.2.2.1
theorem wires_s43 : f_X3_bestHeight wa16 0 0 = 10 := (t_X3_bestHeight wa16 0 0).trans wires_ev2.2.2.2.2.2.2.2.2.2.2.2.2.1
theorem wires_s44 : f_X3_pull wa16 0 95 = (86, wa17) := by rw [t_X3_pull, wa17]; exact pr_of wires_ev2.2.2.2.2.2.2.2.2.2.2.2.2.2.1
theorem wires_i17 : Iv wa17 := ivb_ok wires_ev2.2.2.2.2.2.2.2.2.2.2.2.2.2.2.1
theorem wires_s45 : f_X3_pull wa17 0 87 = (1000, wa18) := by rw [t_X3_pull, wa18]; exact pr_of wires_ev2.2.2.2.2.2.2.2.2.2.2.2.2.2.2.2.1
theorem wires_i18 : Iv wa18 := ivb_ok wires_ev2.2.2.2.2.2.2.2.2.2.2.2.2.2.2.2.2.1
theorem wires_s46 : f_X3_count wa18 8 = 1 := (t_X3_count wa18 8).trans wires_ev2.2.2.2.2.2.2.2.2.2.2.2.2.2.2.2.2.2.1
theorem wires_s47 : f_X3_wire wa18 0 0 = (-1) := (t_X3_wire wa18 0 0).trans wires_ev2.2.2.2.2.2.2.2.2.2.2.2.2.2.2.2.2.2.2.1
theorem wires_s48 : f_X3_lead wa18 0 1 = (-5) := (t_X3_lead wa18 0 1).trans wires_ev2.2.2.2.2.2.2.2.2.2.2.2.2.2.2.2.2.2.2.2.1
theorem wires_s49 : f_X3_moveLead wa18 3 120 = ((-4), wa19) := by rw [t_X3_moveLead, wa19]; exact pr_of wires_ev2.2.2.2.2.2.2.2.2.2.2.2.2.2.2.2.2.2.2.2.2.1
theorem wires_i19 : Iv wa19 := ivb_ok wires_ev2.2.2.2.2.2.2.2.2.2.2.2.2.2.2.2.2.2.2.2.2.2.1
theorem wires_s50 : f_X3_moveLead wa19 0 600 = (0, wa20) := by rw [t_X3_moveLead, wa20]; exact pr_of wires_ev2.2.2.2.2.2.2.2.2.2.2.2.2.2.2.2.2.2.2.2.2.2.2.1
theorem wires_i20 : Iv wa20 := ivb_ok wires_ev2.2.2.2.2.2.2.2.2.2.2.2.2.2.2.2.2.2.2.2.2.2.2.2
theorem wires_s51 : f_X3_moveLead wa20 0 600 = ((-5), wa21) := by rw [t_X3_moveLead, wa21]; exact pr_of wires_ev3.1
theorem wires_i21 : Iv wa21 := ivb_ok wires_ev3.2.1
theorem wires_s52 : f_X3_count wa21 9 = 1 := (t_X3_count wa21 9).trans wires_ev3.2.2.1
theorem wires_s53 : f_X3_sample wa21 2 97 = (1, wa22) := by rw [t_X3_sample, wa22]; exact pr_of wires_ev3.2.2.2.1
theorem wires_i22 : Iv wa22 := ivb_ok wires_ev3.2.2.2.2.1
theorem wires_s54 : f_X3_wire wa22 1 0 = (-1) := (t_X3_wire wa22 1 0).trans wires_ev3.2.2.2.2.2.1
theorem wires_s55 : f_X3_wire wa22 2 2 = 98 := (t_X3_wire wa22 2 2).trans wires_ev3.2.2.2.2.2.2.1
theorem wires_s56 : f_X3_sample wa22 5 40 = (0, wa23) := by rw [t_X3_sample, wa23]; exact pr_of wires_ev3.2.2.2.2.2.2.2.1
theorem wires_i23 : Iv wa23 := ivb_ok wires_ev3.2.2.2.2.2.2.2.2.1
theorem wires_s57 : f_X3_wire wa23 2 2 = 94 := (t_X3_wire wa23 2 2).trans wires_ev3.2.2.2.2.2.2.2.2.2.1
theorem wires_s58 : f_X3_laysLeft wa23 10 = 4 := (t_X3_laysLeft wa23 10).trans wires_ev3.2.2.2.2.2.2.2.2.2.2.1
theorem wires_s59 : f_X3_lay wa23 3 (3 + 3) 10 = (93, wa24) := by rw [t_X3_lay, wa24]; exact pr_of wires_ev3.2.2.2.2.2.2.2.2.2.2.2.1
theorem wires_i24 : Iv wa24 := ivb_ok wires_ev3.2.2.2.2.2.2.2.2.2.2.2.2.1
theorem wires_s60 : f_X3_lay wa24 4 (4 + 3) 10 = (92, wa25) := by rw [t_X3_lay, wa25]; exact pr_of wires_ev3.2.2.2.2.2.2.2.2.2.2.2.2.2.1
theorem wires_i25 : Iv wa25 := ivb_ok wires_ev3.2.2.2.2.2.2.2.2.2.2.2.2.2.2.1
theorem wires_s61 : f_X3_lay wa25 5 (5 + 3) 10 = (90, wa26) := by rw [t_X3_lay, wa26]; exact pr_of wires_ev3.2.2.2.2.2.2.2.2.2.2.2.2.2.2.2.1
theorem wires_i26 : Iv wa26 := ivb_ok wires_ev3.2.2.2.2.2.2.2.2.2.2.2.2.2.2.2.2.1
theorem wires_s62 : f_X3_lay wa26 6 (6 + 3) 10 = (89, wa27) := by rw [t_X3_lay, wa27]; exact pr_of wires_ev3.2.2.2.2.2.2.2.2.2.2.2.2.2.2.2.2.2.1
theorem wires_i27 : Iv wa27 := ivb_ok wires_ev3.2.2.2.2.2.2.2.2.2.2.2.2.2.2.2.2.2.2.1
theorem wires_s63 : f_X3_count wa27 5 = 1 := (t_X3_count wa27 5).trans wires_ev3.2.2.2.2.2.2.2.2.2.2.2.2.2.2.2.2.2.2.2.1
theorem wires_s64 : f_X3_count wa27 6 = 1 := (t_X3_count wa27 6).trans wires_ev3.2.2.2.2.2.2.2.2.2.2.2.2.2.2.2.2.2.2.2.2.1
theorem wires_s65 : f_X3_count wa27 1 = 7 := (t_X3_count wa27 1).trans wires_ev3.2.2.2.2.2.2.2.2.2.2.2.2.2.2.2.2.2.2.2.2.2.1
theorem wires_s66 : f_X3_wire wa27 6 6 = 6 := (t_X3_wire wa27 6 6).trans wires_ev3.2.2.2.2.2.2.2.2.2.2.2.2.2.2.2.2.2.2.2.2.2.2.1
theorem wires_s67 : f_X3_laysLeft wa27 10 = 0 := (t_X3_laysLeft wa27 10).trans wires_ev3.2.2.2.2.2.2.2.2.2.2.2.2.2.2.2.2.2.2.2.2.2.2.2
theorem wires_s68 : f_X3_lay wa27 8 12 10 = ((-6), wa28) := by rw [t_X3_lay, wa28]; exact pr_of wires_ev4.1
theorem wires_i28 : Iv wa28 := ivb_ok wires_ev4.2.1
theorem wires_s69 : f_X3_lay wa28 6 12 10 = ((-4), wa29) := by rw [t_X3_lay, wa29]; exact pr_of wires_ev4.2.2.1
theorem wires_i29 : Iv wa29 := ivb_ok wires_ev4.2.2.2.1
theorem wires_s70 : f_X3_thread wa29 = (1, wa30) := by rw [t_X3_thread, wa30]; exact pr_of wires_ev4.2.2.2.2.1
theorem wires_i30 : Iv wa30 := ivb_ok wires_ev4.2.2.2.2.2.1
theorem wires_s71 : f_X3_thread wa30 = ((-5), wa31) := by rw [t_X3_thread, wa31]; exact pr_of wires_ev4.2.2.2.2.2.2.1
theorem wires_i31 : Iv wa31 := ivb_ok wires_ev4.2.2.2.2.2.2.2.1
theorem wires_s72 : f_X3_laysLeft wa31 10 = 7 := (t_X3_laysLeft wa31 10).trans wires_ev4.2.2.2.2.2.2.2.2.1
theorem wires_s73 : f_X3_takeOff wa31 6 = (89, wa32) := by rw [t_X3_takeOff, wa32]; exact pr_of wires_ev4.2.2.2.2.2.2.2.2.2.1
theorem wires_i32 : Iv wa32 := ivb_ok wires_ev4.2.2.2.2.2.2.2.2.2.2.1
theorem wires_s74 : f_X3_count wa32 12 = 4 := (t_X3_count wa32 12).trans wires_ev4.2.2.2.2.2.2.2.2.2.2.2.1
theorem wires_s75 : f_X3_undo wa32 = (3, wa33) := by rw [t_X3_undo, wa33]; exact pr_of wires_ev4.2.2.2.2.2.2.2.2.2.2.2.2.1
theorem wires_i33 : Iv wa33 := ivb_ok wires_ev4.2.2.2.2.2.2.2.2.2.2.2.2.2.1
theorem wires_s76 : f_X3_undo wa33 = (2, wa34) := by rw [t_X3_undo, wa34]; exact pr_of wires_ev4.2.2.2.2.2.2.2.2.2.2.2.2.2.2.1
theorem wires_i34 : Iv wa34 := ivb_ok wires_ev4.2.2.2.2.2.2.2.2.2.2.2.2.2.2.2.1
theorem wires_s77 : f_X3_count wa34 5 = 1 := (t_X3_count wa34 5).trans wires_ev4.2.2.2.2.2.2.2.2.2.2.2.2.2.2.2.2.1
theorem wires_s78 : f_X3_undo wa34 = (1, wa35) := by rw [t_X3_undo, wa35]; exact pr_of wires_ev4.2.2.2.2.2.2.2.2.2.2.2.2.2.2.2.2.2.1
theorem wires_i35 : Iv wa35 := ivb_ok wires_ev4.2.2.2.2.2.2.2.2.2.2.2.2.2.2.2.2.2.2.1
theorem wires_s79 : f_X3_count wa35 5 = 0 := (t_X3_count wa35 5).trans wires_ev4.2.2.2.2.2.2.2.2.2.2.2.2.2.2.2.2.2.2.2.1
theorem wires_s80 : f_X3_count wa35 1 = 6 := (t_X3_count wa35 1).trans wires_ev4.2.2.2.2.2.2.2.2.2.2.2.2.2.2.2.2.2.2.2.2
set_option maxHeartbeats 4000000 in
set_option maxRecDepth 100000 in
theorem c_L_wires (l : Launch) (G : GG) : Ma l yL_wires wsL_wires ({ frames := 9, cells := 50, slots := 691, locals := 215 } : Room) G [] 1 50 691 := by
  refine L_wires l G waw rfl (fun j hj => ?_) wires_s0 wires_s1 wires_s2 wires_s3 wires_s4 wires_s5 wires_s6 wires_s7 wires_s8 wires_s9 wires_s10 wires_s11 wires_s12 wires_s13 wires_s14 wires_s15 wires_s16 wires_s17 wires_s18 wires_s19 wires_s20 wires_s21 wires_s22 wires_s23 wires_s24 wires_s25 wires_s26 wires_s27 wires_s28 wires_s29 wires_s30 wires_s31 wires_s32 wires_s33 wires_s34 wires_s35 wires_s36 wires_s37 wires_s38 wires_s39 wires_s40 wires_s41 wires_s42 wires_s43 wires_s44 wires_s45 wires_s46 wires_s47 wires_s48 wires_s49 wires_s50 wires_s51 wires_s52 wires_s53 wires_s54 wires_s55 wires_s56 wires_s57 wires_s58 wires_s59 wires_s60 wires_s61 wires_s62 wires_s63 wires_s64 wires_s65 wires_s66 wires_s67 wires_s68 wires_s69 wires_s70 wires_s71 wires_s72 wires_s73 wires_s74 wires_s75 wires_s76 wires_s77 wires_s78 wires_s79 wires_s80
  match j, hj with
  | 0, _ => exact wires_i0
  | 1, _ => exact wires_i1
  | 2, _ => exact wires_i2
  | 3, _ => exact wires_i3
  | 4, _ => exact wires_i4
  | 5, _ => exact wires_i5
  | 6, _ => exact wires_i6
  | 7, _ => exact wires_i7
  | 8, _ => exact wires_i8
  | 9, _ => exact wires_i9
  | 10, _ => exact wires_i10
  | 11, _ => exact wires_i11
  | 12, _ => exact wires_i12
  | 13, _ => exact wires_i13
  | 14, _ => exact wires_i14
  | 15, _ => exact wires_i15
  | 16, _ => exact wires_i16
  | 17, _ => exact wires_i17
  | 18, _ => exact wires_i18
  | 19, _ => exact wires_i19
  | 20, _ => exact wires_i20
  | 21, _ => exact wires_i21
  | 22, _ => exact wires_i22
  | 23, _ => exact wires_i23
  | 24, _ => exact wires_i24
  | 25, _ => exact wires_i25
  | 26, _ => exact wires_i26
  | 27, _ => exact wires_i27
  | 28, _ => exact wires_i28
  | 29, _ => exact wires_i29
  | 30, _ => exact wires_i30
  | 31, _ => exact wires_i31
  | 32, _ => exact wires_i32
  | 33, _ => exact wires_i33
  | 34, _ => exact wires_i34
  | 35, _ => exact wires_i35
  | j + 36, hj => exact absurd hj (by omega)
