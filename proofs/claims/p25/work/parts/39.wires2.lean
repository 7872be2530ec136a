set_option maxHeartbeats 4000000 in
set_option maxRecDepth 100000 in
theorem c_L_wires (l : Launch) (G : GG) : Ma l yL_wires wsL_wires ({ frames := 9, cells := 50, slots := 691, locals := 215 } : Room) G [] 1 50 691 := by
  obtain ⟨j0, g0, j1, g1, j2, g2, j3, g3, j4, g4, j5, g5, g6, g7, g8, j6, g9, g10, j7, g11, j8, g12, j9, g13⟩ := wires_ev0
  obtain ⟨j10, g14, j11, g15, g16, g17, j12, g18, g19, g20, g21, g22, g23, g24, g25, g26, g27, g28, g29, g30, j13, g31, j14, g32⟩ := wires_ev1
  obtain ⟨g33, j15, g34, j16, g35, g36, g37, g38, g39, g40, g41, g42, g43, g44, j17, g45, j18, g46, g47, g48, g49, j19, g50, j20⟩ := wires_ev2
  obtain ⟨g51, j21, g52, g53, j22, g54, g55, g56, j23, g57, g58, g59, j24, g60, j25, g61, j26, g62, j27, g63, g64, g65, g66, g67⟩ := wires_ev3
  obtain ⟨g68, j28, g69, j29, g70, j30, g71, j31, g72, g73, j32, g74, g75, j33, g76, j34, g77, g78, j35, g79, g80⟩ := wires_ev4
  refine L_wires l G waw rfl (fun j hj => ?_) ((t_X3_undo _).trans (Prod.ext g0 rfl)) ((t_X3_restore _).trans (Prod.ext g1 rfl)) ((t_X3_changeTool _).trans (Prod.ext g2 rfl)) ((t_X3_thread _).trans (Prod.ext g3 rfl)) ((t_X3_sample _ _ _).trans (Prod.ext g4 rfl)) ((t_X3_count _ _).trans g5) ((t_X3_lead _ _ _).trans g6) ((t_X3_laysLeft _ _).trans g7) ((t_X3_lay _ _ _ _).trans (Prod.ext g8 rfl)) ((t_X3_count _ _).trans g9) ((t_X3_lay _ _ _ _).trans (Prod.ext g10 rfl)) ((t_X3_lay _ _ _ _).trans (Prod.ext g11 rfl)) ((t_X3_lay _ _ _ _).trans (Prod.ext g12 rfl)) ((t_X3_lay _ _ _ _).trans (Prod.ext g13 rfl)) ((t_X3_lay _ _ _ _).trans (Prod.ext g14 rfl)) ((t_X3_count _ _).trans g15) ((t_X3_crossing _ _ _ _).trans g16) ((t_X3_lay _ _ _ _).trans (Prod.ext g17 rfl)) ((t_X3_count _ _).trans g18) ((t_X3_crossing _ _ _ _).trans g19) ((t_X3_crossing _ _ _ _).trans g20) ((t_X3_crossing _ _ _ _).trans g21) ((t_X3_count _ _).trans g22) ((t_X3_count _ _).trans g23) ((t_X3_heightAt _ _ _).trans g24) ((t_X3_heightAt _ _ _).trans g25) ((t_X3_heightAt _ _ _).trans g26) ((t_X3_count _ _).trans g27) ((t_X3_count _ _).trans g28) ((t_X3_wire _ _ _).trans g29) ((t_X3_setWidth _ _).trans (Prod.ext g30 rfl)) ((t_X3_setWidth _ _).trans (Prod.ext g31 rfl)) ((t_X3_count _ _).trans g32) ((t_X3_bend _ _ _).trans (Prod.ext g33 rfl)) ((t_X3_bend _ _ _).trans (Prod.ext g34 rfl)) ((t_X3_crossing _ _ _ _).trans g35) ((t_X3_crossing _ _ _ _).trans g36) ((t_X3_count _ _).trans g37) ((t_X3_wire _ _ _).trans g38) ((t_X3_wire _ _ _).trans g39) ((t_X3_wire _ _ _).trans g40) ((t_X3_bestHeight _ _ _).trans g41) ((t_X3_bestHeight _ _ _).trans g42) ((t_X3_bestHeight _ _ _).trans g43) ((t_X3_pull _ _ _).trans (Prod.ext g44 rfl)) ((t_X3_pull _ _ _).trans (Prod.ext g45 rfl)) ((t_X3_count _ _).trans g46) ((t_X3_wire _ _ _).trans g47) ((t_X3_lead _ _ _).trans g48) ((t_X3_moveLead _ _ _).trans (Prod.ext g49 rfl)) ((t_X3_moveLead _ _ _).trans (Prod.ext g50 rfl)) ((t_X3_moveLead _ _ _).trans (Prod.ext g51 rfl)) ((t_X3_count _ _).trans g52) ((t_X3_sample _ _ _).trans (Prod.ext g53 rfl)) ((t_X3_wire _ _ _).trans g54) ((t_X3_wire _ _ _).trans g55) ((t_X3_sample _ _ _).trans (Prod.ext g56 rfl)) ((t_X3_wire _ _ _).trans g57) ((t_X3_laysLeft _ _).trans g58) ((t_X3_lay _ _ _ _).trans (Prod.ext g59 rfl)) ((t_X3_lay _ _ _ _).trans (Prod.ext g60 rfl)) ((t_X3_lay _ _ _ _).trans (Prod.ext g61 rfl)) ((t_X3_lay _ _ _ _).trans (Prod.ext g62 rfl)) ((t_X3_count _ _).trans g63) ((t_X3_count _ _).trans g64) ((t_X3_count _ _).trans g65) ((t_X3_wire _ _ _).trans g66) ((t_X3_laysLeft _ _).trans g67) ((t_X3_lay _ _ _ _).trans (Prod.ext g68 rfl)) ((t_X3_lay _ _ _ _).trans (Prod.ext g69 rfl)) ((t_X3_thread _).trans (Prod.ext g70 rfl)) ((t_X3_thread _).trans (Prod.ext g71 rfl)) ((t_X3_laysLeft _ _).trans g72) ((t_X3_takeOff _ _).trans (Prod.ext g73 rfl)) ((t_X3_count _ _).trans g74) ((t_X3_undo _).trans (Prod.ext g75 rfl)) ((t_X3_undo _).trans (Prod.ext g76 rfl)) ((t_X3_count _ _).trans g77) ((t_X3_undo _).trans (Prod.ext g78 rfl)) ((t_X3_count _ _).trans g79) ((t_X3_count _ _).trans g80)
  match j, hj with
  | 0, _ => exact ivb_ok j0
  | 1, _ => exact ivb_ok j1
  | 2, _ => exact ivb_ok j2
  | 3, _ => exact ivb_ok j3
  | 4, _ => exact ivb_ok j4
  | 5, _ => exact ivb_ok j5
  | 6, _ => exact ivb_ok j6
  | 7, _ => exact ivb_ok j7
  | 8, _ => exact ivb_ok j8
  | 9, _ => exact ivb_ok j9
  | 10, _ => exact ivb_ok j10
  | 11, _ => exact ivb_ok j11
  | 12, _ => exact ivb_ok j12
  | 13, _ => exact ivb_ok j13
  | 14, _ => exact ivb_ok j14
  | 15, _ => exact ivb_ok j15
  | 16, _ => exact ivb_ok j16
  | 17, _ => exact ivb_ok j17
  | 18, _ => exact ivb_ok j18
  | 19, _ => exact ivb_ok j19
  | 20, _ => exact ivb_ok j20
  | 21, _ => exact ivb_ok j21
  | 22, _ => exact ivb_ok j22
  | 23, _ => exact ivb_ok j23
  | 24, _ => exact ivb_ok j24
  | 25, _ => exact ivb_ok j25
  | 26, _ => exact ivb_ok j26
  | 27, _ => exact ivb_ok j27
  | 28, _ => exact ivb_ok j28
  | 29, _ => exact ivb_ok j29
  | 30, _ => exact ivb_ok j30
  | 31, _ => exact ivb_ok j31
  | 32, _ => exact ivb_ok j32
  | 33, _ => exact ivb_ok j33
  | 34, _ => exact ivb_ok j34
  | 35, _ => exact ivb_ok j35
  | j + 36, hj => exact absurd hj (by omega)
