set_option maxHeartbeats 4000000 in
set_option maxRecDepth 100000 in
theorem c_L_tool (l : Launch) (G : GG) : Ma l yL_tool wsL_tool ({ frames := 9, cells := 50, slots := 691, locals := 215 } : Room) G [] 1 50 691 := by
  obtain ⟨j0, g0, j1, g1, g2, g3, j2, g4, j3, g5, g6, g7, j4, g8, g9, j5, g10, g11, j6, g12, j7, g13, j8, g14⟩ := tool2_ev0
  obtain ⟨j9, g15, j10, g16, j11, g17, g18, j12, g19⟩ := tool2_ev1
  refine L_tool l G tlw (fun k => tlu (tlw k)) (fun k => tlx (tlw k)) tbw rfl (fun k hk => ?_) (fun k hk => ivb_ok (tool_ev k hk).2.1) (fun k hk => ivb_ok (tool_ev k hk).2.2.1) (fun k hk => (t_X3_laysLeft _ _).trans (tool_ev k hk).2.2.2.1) (fun k hk => (t_X3_lay _ _ _ _).trans (Prod.ext (tool_ev k hk).2.2.2.2.1 rfl)) (fun k hk => (t_X3_takeOff _ _).trans (Prod.ext (tool_ev k hk).2.2.2.2.2.1 rfl)) (fun k hk h6 => (t_X3_thread _).trans (Prod.ext ((tool_ev k hk).2.2.2.2.2.2 h6) (if_pos h6).symm)) (fun k hk h6 => (if_neg h6).symm) rfl (fun j hj => ?_) ((t_X3_lay _ _ _ _).trans (Prod.ext g0 rfl)) ((t_X3_laysLeft _ _).trans g1) ((t_X3_count _ _).trans g2) ((t_X3_changeTool _).trans (Prod.ext g3 rfl)) ((t_X3_changeTool _).trans (Prod.ext g4 rfl)) ((t_X3_count _ _).trans g5) ((t_X3_laysLeft _ _).trans g6) ((t_X3_lay _ _ _ _).trans (Prod.ext g7 rfl)) ((t_X3_count _ _).trans g8) ((t_X3_lay _ _ _ _).trans (Prod.ext g9 rfl)) ((t_X3_count _ _).trans g10) ((t_X3_thread _).trans (Prod.ext g11 rfl)) ((t_X3_lay _ _ _ _).trans (Prod.ext g12 rfl)) ((t_X3_keep _).trans (Prod.ext g13 rfl)) ((t_X3_takeOff _ _).trans (Prod.ext g14 rfl)) ((t_X3_pull _ _ _).trans (Prod.ext g15 rfl)) ((t_X3_pull _ _ _).trans (Prod.ext g16 rfl)) ((t_X3_count _ _).trans g17) ((t_X3_restore _).trans (Prod.ext g18 rfl)) ((t_X3_wire _ _ _).trans g19)
  · rcases Nat.lt_or_ge k 34 with h | h
    · exact ivb_ok (tool_ev k h).1
    · have e : k = 34 := by omega
      subst e
      exact ivb_ok j0
  · match j, hj with
    | 0, _ => exact ivb_ok j0
    | 1, _ => exact ivb_ok j1
    | 2, _ => exact ivb_ok j2
    | 3, _ => exact ivb_ok j3
    | 4, _ => exact ivb_ok j4
    | 5, _ => exact ivb_ok j5
    | 6, _ => exact ivb_ok j6
    | 7, _ => exact ivb_ok j7
    | 8, _ => exact ivb_ok j8
    | 9, _ => exact ivb_ok j9
    | 10, _ => exact ivb_ok j10
    | 11, _ => exact ivb_ok j11
    | 12, _ => exact ivb_ok j12
    | j + 13, hj => exact absurd hj (by omega)
