theorem tool_a2 (k : Nat) (hk : k < 34) : f_X3_lay (tlw k) 0 0 200 = ((95 - 6 * nI k / 4), tlu (tlw k)) := by rw [t_X3_lay, tlu]; exact pr_of (tool_ev k hk).2.2.2.2.1
theorem tool_a3 (k : Nat) (hk : k < 34) : f_X3_takeOff (tlu (tlw k)) 0 = ((95 - 6 * nI k / 4), tlx (tlw k)) := by rw [t_X3_takeOff, tlx]; exact pr_of (tool_ev k hk).2.2.2.2.2.1
theorem tw_y (k : Nat) (h6 : nI k - nI k / 7 * 7 = 6) : tlw (k + 1) = (m_X3_thread (tlx (tlw k))).2 := by rw [tlw, if_pos h6]
theorem tool_a5 (k : Nat) (_ : k < 34) (h6 : ¬ nI k - nI k / 7 * 7 = 6) : tlx (tlw k) = tlw (k + 1) := by rw [tlw, if_neg h6]
theorem tool_a4 (k : Nat) (hk : k < 34) (h6 : nI k - nI k / 7 * 7 = 6) : f_X3_thread (tlx (tlw k)) = (nI k / 7 + 1, tlw (k + 1)) := by rw [t_X3_thread, tw_y k h6]; exact pr_of ((tool_ev k hk).2.2.2.2.2.2 h6)
theorem tb_e : tb0 = tlw 34 := by rw [tb0]
theorem tool2_i0 : Iv tb0 := ivb_ok tool2_ev0.1
theorem tool2_s0 : f_X3_lay tb0 0 0 200 = ((-7), tb1) := by rw [t_X3_lay, tb1]; exact pr_of tool2_ev0.2.1
theorem tool2_i1 : Iv tb1 := ivb_ok tool2_ev0.2.2.1
theorem tool2_s1 : f_X3_laysLeft tb1 10 = 0 := (t_X3_laysLeft tb1 10).trans tool2_ev0.2.2.2.1
theorem tool2_s2 : f_X3_count tb1 4 = 204 := (t_X3_count tb1 4).trans tool2_ev0.2.2.2.2.1
theorem tool2_s3 : f_X3_changeTool tb1 = (204, tb2) := by rw [t_X3_changeTool, tb2]; exact pr_of tool2_ev0.2.2.2.2.2.1
theorem tool2_i2 : Iv tb2 := ivb_ok tool2_ev0.2.2.2.2.2.2.1
theorem tool2_s4 : f_X3_changeTool tb2 = ((-5), tb3) := by rw [t_X3_changeTool, tb3]; exact pr_of tool2_ev0.2.2.2.2.2.2.2.1
theorem tool2_i3 : Iv tb3 := ivb_ok tool2_ev0.2.2.2.2.2.2.2.2.1
theorem tool2_s5 : f_X3_count tb3 11 = 1 := (t_X3_count tb3 11).trans tool2_ev0.2.2.2.2.2.2.2.2.2.1
theorem tool2_s6 : f_X3_laysLeft tb3 10 = 1 := (t_X3_laysLeft tb3 10).trans tool2_ev0.2.2.2.2.2.2.2.2.2.2.1
theorem tool2_s7 : f_X3_lay tb3 11 0 49 = (84, tb4) := by rw [t_X3_lay, tb4]; exact pr_of tool2_ev0.2.2.2.2.2.2.2.2.2.2.2.1
theorem tool2_i4 : Iv tb4 := ivb_ok tool2_ev0.2.2.2.2.2.2.2.2.2.2.2.2.1
theorem tool2_s8 : f_X3_count tb4 4 = 2 := (t_X3_count tb4 4).trans tool2_ev0.2.2.2.2.2.2.2.2.2.2.2.2.2.1
theorem tool2_s9 : f_X3_lay tb4 10 1 50 = ((-6), tb5) := by rw [t_X3_lay, tb5]; exact pr_of tool2_ev0.2.2.2.2.2.2.2.2.2.2.2.2.2.2.1
theorem tool2_i5 : Iv tb5 := ivb_ok tool2_ev0.2.2.2.2.2.2.2.2.2.2.2.2.2.2.2.1
theorem tool2_s10 : f_X3_count tb5 6 = 5 := (t_X3_count tb5 6).trans tool2_ev0.2.2.2.2.2.2.2.2.2.2.2.2.2.2.2.2.1
theorem tool2_s11 : f_X3_thread tb5 = (5, tb6) := by rw [t_X3_thread, tb6]; exact pr_of tool2_ev0.2.2.2.2.2.2.2.2.2.2.2.2.2.2.2.2.2.1
theorem tool2_i6 : Iv tb6 := ivb_ok tool2_ev0.2.2.2.2.2.2.2.2.2.2.2.2.2.2.2.2.2.2.1
theorem tool2_s12 : f_X3_lay tb6 0 15 50 = (75, tb7) := by rw [t_X3_lay, tb7]; exact pr_of tool2_ev0.2.2.2.2.2.2.2.2.2.2.2.2.2.2.2.2.2.2.2.1
theorem tool2_i7 : Iv tb7 := ivb_ok tool2_ev0.2.2.2.2.2.2.2.2.2.2.2.2.2.2.2.2.2.2.2.2.1
theorem tool2_s13 : f_X3_keep tb7 = (2, tb8) := by rw [t_X3_keep, tb8]; exact pr_of tool2_ev0.2.2.2.2.2.2.2.2.2.2.2.2.2.2.2.2.2.2.2.2.2.1
theorem tool2_i8 : Iv tb8 := ivb_ok tool2_ev0.2.2.2.2.2.2.2.2.2.2.2.2.2.2.2.2.2.2.2.2.2.2.1
theorem tool2_s14 : f_X3_takeOff tb8 0 = (75, tb9) := by rw [t_X3_takeOff, tb9]; exact pr_of tool2_ev0.2.2.2.2.2.2.2.2.2.2.2.2.2.2.2.2.2.2.2.2.2.2.2
theorem tool2_i9 : Iv tb9 := ivb_ok tool2_ev1.1
theorem tool2_s15 : f_X3_pull tb9 11 84 = (76, tb10) := by rw [t_X3_pull, tb10]; exact pr_of tool2_ev1.2.1
theorem tool2_i10 : Iv tb10 := ivb_ok tool2_ev1.2.2.1
theorem tool2_s16 : f_X3_pull tb10 11 77 = (1000, tb11) := by rw [t_X3_pull, tb11]; exact pr_of tool2_ev1.2.2.2.1
theorem tool2_i11 : Iv tb11 := ivb_ok tool2_ev1.2.2.2.2.1
theorem tool2_s17 : f_X3_count tb11 0 = 0 := (t_X3_count tb11 0).trans tool2_ev1.2.2.2.2.2.1
theorem tool2_s18 : f_X3_restore tb11 = (2, tb12) := by rw [t_X3_restore, tb12]; exact pr_of tool2_ev1.2.2.2.2.2.2.1
theorem tool2_i12 : Iv tb12 := ivb_ok tool2_ev1.2.2.2.2.2.2.2.1
theorem tool2_s19 : f_X3_wire tb12 11 2 = 84 := (t_X3_wire tb12 11 2).trans tool2_ev1.2.2.2.2.2.2.2.2
set_option maxHeartbeats 4000000 in
set_option maxRecDepth 100000 in
theorem c_L_tool (l : Launch) (G : GG) : Ma l yL_tool wsL_tool ({ frames := 9, cells := 50, slots := 691, locals := 215 } : Room) G [] 1 50 691 := by
  refine L_tool l G tlw (fun k => tlu (tlw k)) (fun k => tlx (tlw k)) tb0 tb1 tb2 tb3 tb4 tb5 tb6 tb7 tb8 tb9 tb10 tb11 tb12 rfl (fun k hk => ?_) (fun k hk => ivb_ok (tool_ev k hk).2.1) (fun k hk => ivb_ok (tool_ev k hk).2.2.1) (fun k hk => (t_X3_laysLeft _ _).trans (tool_ev k hk).2.2.2.1) tool_a2 tool_a3 tool_a4 tool_a5 tb_e tool2_i0 tool2_i1 tool2_i2 tool2_i3 tool2_i4 tool2_i5 tool2_i6 tool2_i7 tool2_i8 tool2_i9 tool2_i10 tool2_i11 tool2_i12 tool2_s0 tool2_s1 tool2_s2 tool2_s3 tool2_s4 tool2_s5 tool2_s6 tool2_s7 tool2_s8 tool2_s9 tool2_s10 tool2_s11 tool2_s12 tool2_s13 tool2_s14 tool2_s15 tool2_s16 tool2_s17 tool2_s18 tool2_s19
  · rcases Nat.lt_or_ge k 34 with h | h
    · exact ivb_ok (tool_ev k h).1
    · have e : k = 34 := by omega
      subst e
      show Iv (tlw 34)
      rw [← tb_e]; exact tool2_i0
