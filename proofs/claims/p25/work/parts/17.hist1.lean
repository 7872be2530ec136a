noncomputable def f_X1_states (S : XS) : Int32 := opq (S 7 0 1)
theorem e_X1_states (S : XS) : f_X1_states S = (S 7 0 1) := opq_eq _
set_option maxHeartbeats 4000000 in
set_option maxRecDepth 100000 in
theorem c_X1_states (l : Launch) (G : GG) (A : Nat → Nat) (S : XS) (r : Nat)  : Mp l yX1_states wsX1_states ({ frames := 0, cells := 0, slots := 0, locals := 0 } : Room) G [.ref (A 43)] (wX G A S r) (f_X1_states S) := by
  refine Mp.of (cc := cX1_states) (maxL := 1) (ret := (some .int)) (by decide) rfl (Nat.le_of_ble_eq_true rfl) ?_
  intro p e s m args below meth c E hr hlocks hP hK ls hl
  have E : CallFix p m c cX1_states 1 s args wsX1_states RX1 := E
  have hx := E.1
  have hb := E.2.1
  have hml := E.2.2.1
  have hown := E.2.2.2.1
  have hts := E.2.2.2.2
  have hl : lv_has ls 1 [(0, .ref (A 43))] := hl
  have hinX1 : ∀ w ∈ u_ws RX1 TX1 2, w ∈ wsX1_states := fun _ h => List.mem_cons_of_mem _ (List.mem_append_right _ h)
  refine lv_aload_n hx hb dX1_states_0 rfl (lv_at hl 0 rfl) ?_
  refine va_get (D := G.1) (ci := 1) (v := .int (S 7 0 1)) (C := RX1) (T := TX1) (N := 2) hx hb hts hinX1 hown hK.1 hP 43 (wX_43 G A S r) rfl 1 (by decide) (hts (.fieldLink RX1 18 "WireLoops$History" "states" "I") (List.mem_of_getElem? (i := 1) rfl)) (fun _ h9 => h9) rfl dX1_states_1 ?_
  exact endP hx hb hr hlocks rfl (Eq.symm ((e_X1_states S))) dX1_states_4
theorem wi3 (k : Nat) (hk : k < 4) : ¬ f_X3_isWithin (nI k) 0 3 = 0 := by
  rw [e_X3_isWithin, if_neg (nI_pos (by omega)), if_neg (show ¬ (3 : Int32) < nI k from nI_nlt (a := 3) (b := k) (by omega) (by omega))]
  decide
set_option maxHeartbeats 4000000 in
set_option maxRecDepth 100000 in
theorem c_X1_placeAt_0_0 (l : Launch) (G : GG) (A : Nat → Nat) (S : XS)  : Mr l yX1_placeAt wsX1_placeAt ({ frames := 1, cells := 0, slots := 0, locals := 22 } : Room) G [.ref (A 43), .int 0] (wX G A S 0) (.ref (A (6 * 3))) := by
  refine Mr.of (cc := cX1_placeAt) (maxL := 2) (ret := (some (.object "WireLoops$Chip"))) (by decide) rfl (Nat.le_of_ble_eq_true rfl) ?_
  intro p e s m args below meth c E hr hlocks hP hK ls hl
  have E : CallFix p m c cX1_placeAt 2 s args wsX1_placeAt RX1 := E
  have hx := E.1
  have hb := E.2.1
  have hml := E.2.2.1
  have hown := E.2.2.2.1
  have hts := E.2.2.2.2
  have hl : lv_has ls 2 [(0, .ref (A 43)), (1, .int 0)] := hl
  have hinX1 : ∀ w ∈ u_ws RX1 TX1 2, w ∈ wsX1_placeAt := fun _ h => List.mem_cons_of_mem _ (List.mem_append_right _ h)
  refine lv_iload_n hx hb dX1_placeAt_0 rfl (lv_at hl 1 rfl) ?_
  refine lv_iconst (v := 0) hx hb dX1_placeAt_1 (by decide) ?_
  refine lv_iconst (v := 3) hx hb dX1_placeAt_2 (by decide) ?_
  refine cpN (host := RX3) (rest := []) (As := [.int 0, .int 0, .int 3]) E (c_X3_isWithin l G A S 0 0 0 3) (va_cnB 3 hts gX1_placeAt_X3_isWithin_n33 rfl rfl rfl (hK.2 (.methodLinkNest RX1 33 yX3_isWithin RX3) (by decide +kernel)) (hts (.initialized RX3) (List.mem_of_getElem? (i := 3) rfl)) (by decide +kernel) ⟨Nat.le_of_ble_eq_true rfl, Nat.le_of_ble_eq_true rfl⟩) (hts (.static yX3_isWithin) (List.mem_of_getElem? (i := 2) rfl)) hK hP rfl hl.1 rfl (Nat.le_of_ble_eq_true rfl) dX1_placeAt_3 ⟨Nat.zero_le _, Nat.zero_le _⟩ ?_
  refine lv_if_eq (tgt := 18) hx hb dX1_placeAt_6 (by decide) (fun c1 => absurd c1 ((wi3 0 (by decide)))) (fun c1 => ?_)
  refine lv_aload_n hx hb dX1_placeAt_9 rfl (lv_at hl 0 rfl) ?_
  refine va_get (D := G.1) (ci := 1) (v := .ref (A 44)) (C := RX1) (T := TX1) (N := 2) hx hb hts hinX1 hown hK.1 hP 43 (wX_43 G A S 0) rfl 0 (by decide) (hts (.fieldLink RX1 11 "WireLoops$History" "kept" "[LWireLoops$Chip;") (List.mem_of_getElem? (i := 1) rfl)) (fun _ h9 => h9) rfl dX1_placeAt_10 ?_
  refine lv_iload_n hx hb dX1_placeAt_13 rfl (lv_at hl 1 rfl) ?_
  refine va_aldq (D := G.1) (C := "WireLoops$Chip") (f := (kfX A 0)) hx hb hK.1 hP 44 2 (wX_44 G A S 0) rfl (vp_in_nI (n := 0) (by decide) (by decide)) dX1_placeAt_14 ?_
  refine W.eq (g2 := F0 m 15 ls [.ref (A (6 * 3))]) rfl ?_
  refine lv_goto (tgt := 19) hx hb dX1_placeAt_15 (by decide) ?_
  exact endR hx hb hr hlocks dX1_placeAt_19
set_option maxHeartbeats 4000000 in
set_option maxRecDepth 100000 in
theorem c_X1_placeAt_1_0 (l : Launch) (G : GG) (A : Nat → Nat) (S : XS)  : Mr l yX1_placeAt wsX1_placeAt ({ frames := 1, cells := 0, slots := 0, locals := 22 } : Room) G [.ref (A 43), .int 1] (wX G A S 0) (.ref (A (6 * 4))) := by
  refine Mr.of (cc := cX1_placeAt) (maxL := 2) (ret := (some (.object "WireLoops$Chip"))) (by decide) rfl (Nat.le_of_ble_eq_true rfl) ?_
  intro p e s m args below meth c E hr hlocks hP hK ls hl
  have E : CallFix p m c cX1_placeAt 2 s args wsX1_placeAt RX1 := E
  have hx := E.1
  have hb := E.2.1
  have hml := E.2.2.1
  have hown := E.2.2.2.1
  have hts := E.2.2.2.2
  have hl : lv_has ls 2 [(0, .ref (A 43)), (1, .int 1)] := hl
  have hinX1 : ∀ w ∈ u_ws RX1 TX1 2, w ∈ wsX1_placeAt := fun _ h => List.mem_cons_of_mem _ (List.mem_append_right _ h)
  refine lv_iload_n hx hb dX1_placeAt_0 rfl (lv_at hl 1 rfl) ?_
  refine lv_iconst (v := 0) hx hb dX1_placeAt_1 (by decide) ?_
  refine lv_iconst (v := 3) hx hb dX1_placeAt_2 (by decide) ?_
  refine cpN (host := RX3) (rest := []) (As := [.int 1, .int 0, .int 3]) E (c_X3_isWithin l G A S 0 1 0 3) (va_cnB 3 hts gX1_placeAt_X3_isWithin_n33 rfl rfl rfl (hK.2 (.methodLinkNest RX1 33 yX3_isWithin RX3) (by decide +kernel)) (hts (.initialized RX3) (List.mem_of_getElem? (i := 3) rfl)) (by decide +kernel) ⟨Nat.le_of_ble_eq_true rfl, Nat.le_of_ble_eq_true rfl⟩) (hts (.static yX3_isWithin) (List.mem_of_getElem? (i := 2) rfl)) hK hP rfl hl.1 rfl (Nat.le_of_ble_eq_true rfl) dX1_placeAt_3 ⟨Nat.zero_le _, Nat.zero_le _⟩ ?_
  refine lv_if_eq (tgt := 18) hx hb dX1_placeAt_6 (by decide) (fun c1 => absurd c1 ((wi3 1 (by decide)))) (fun c1 => ?_)
  refine lv_aload_n hx hb dX1_placeAt_9 rfl (lv_at hl 0 rfl) ?_
  refine va_get (D := G.1) (ci := 1) (v := .ref (A 44)) (C := RX1) (T := TX1) (N := 2) hx hb hts hinX1 hown hK.1 hP 43 (wX_43 G A S 0) rfl 0 (by decide) (hts (.fieldLink RX1 11 "WireLoops$History" "kept" "[LWireLoops$Chip;") (List.mem_of_getElem? (i := 1) rfl)) (fun _ h9 => h9) rfl dX1_placeAt_10 ?_
  refine lv_iload_n hx hb dX1_placeAt_13 rfl (lv_at hl 1 rfl) ?_
  refine va_aldq (D := G.1) (C := "WireLoops$Chip") (f := (kfX A 0)) hx hb hK.1 hP 44 2 (wX_44 G A S 0) rfl (vp_in_nI (n := 1) (by decide) (by decide)) dX1_placeAt_14 ?_
  refine W.eq (g2 := F0 m 15 ls [.ref (A (6 * 4))]) rfl ?_
  refine lv_goto (tgt := 19) hx hb dX1_placeAt_15 (by decide) ?_
  exact endR hx hb hr hlocks dX1_placeAt_19
set_option maxHeartbeats 4000000 in
set_option maxRecDepth 100000 in
theorem c_X1_placeAt_2_0 (l : Launch) (G : GG) (A : Nat → Nat) (S : XS)  : Mr l yX1_placeAt wsX1_placeAt ({ frames := 1, cells := 0, slots := 0, locals := 22 } : Room) G [.ref (A 43), .int 2] (wX G A S 0) (.ref (A (6 * 5))) := by
  refine Mr.of (cc := cX1_placeAt) (maxL := 2) (ret := (some (.object "WireLoops$Chip"))) (by decide) rfl (Nat.le_of_ble_eq_true rfl) ?_
  intro p e s m args below meth c E hr hlocks hP hK ls hl
  have E : CallFix p m c cX1_placeAt 2 s args wsX1_placeAt RX1 := E
  have hx := E.1
  have hb := E.2.1
  have hml := E.2.2.1
  have hown := E.2.2.2.1
  have hts := E.2.2.2.2
  have hl : lv_has ls 2 [(0, .ref (A 43)), (1, .int 2)] := hl
  have hinX1 : ∀ w ∈ u_ws RX1 TX1 2, w ∈ wsX1_placeAt := fun _ h => List.mem_cons_of_mem _ (List.mem_append_right _ h)
  refine lv_iload_n hx hb dX1_placeAt_0 rfl (lv_at hl 1 rfl) ?_
  refine lv_iconst (v := 0) hx hb dX1_placeAt_1 (by decide) ?_
  refine lv_iconst (v := 3) hx hb dX1_placeAt_2 (by decide) ?_
  refine cpN (host := RX3) (rest := []) (As := [.int 2, .int 0, .int 3]) E (c_X3_isWithin l G A S 0 2 0 3) (va_cnB 3 hts gX1_placeAt_X3_isWithin_n33 rfl rfl rfl (hK.2 (.methodLinkNest RX1 33 yX3_isWithin RX3) (by decide +kernel)) (hts (.initialized RX3) (List.mem_of_getElem? (i := 3) rfl)) (by decide +kernel) ⟨Nat.le_of_ble_eq_true rfl, Nat.le_of_ble_eq_true rfl⟩) (hts (.static yX3_isWithin) (List.mem_of_getElem? (i := 2) rfl)) hK hP rfl hl.1 rfl (Nat.le_of_ble_eq_true rfl) dX1_placeAt_3 ⟨Nat.zero_le _, Nat.zero_le _⟩ ?_
  refine lv_if_eq (tgt := 18) hx hb dX1_placeAt_6 (by decide) (fun c1 => absurd c1 ((wi3 2 (by decide)))) (fun c1 => ?_)
  refine lv_aload_n hx hb dX1_placeAt_9 rfl (lv_at hl 0 rfl) ?_
  refine va_get (D := G.1) (ci := 1) (v := .ref (A 44)) (C := RX1) (T := TX1) (N := 2) hx hb hts hinX1 hown hK.1 hP 43 (wX_43 G A S 0) rfl 0 (by decide) (hts (.fieldLink RX1 11 "WireLoops$History" "kept" "[LWireLoops$Chip;") (List.mem_of_getElem? (i := 1) rfl)) (fun _ h9 => h9) rfl dX1_placeAt_10 ?_
  refine lv_iload_n hx hb dX1_placeAt_13 rfl (lv_at hl 1 rfl) ?_
  refine va_aldq (D := G.1) (C := "WireLoops$Chip") (f := (kfX A 0)) hx hb hK.1 hP 44 2 (wX_44 G A S 0) rfl (vp_in_nI (n := 2) (by decide) (by decide)) dX1_placeAt_14 ?_
  refine W.eq (g2 := F0 m 15 ls [.ref (A (6 * 5))]) rfl ?_
  refine lv_goto (tgt := 19) hx hb dX1_placeAt_15 (by decide) ?_
  exact endR hx hb hr hlocks dX1_placeAt_19
set_option maxHeartbeats 4000000 in
set_option maxRecDepth 100000 in
theorem c_X1_placeAt_3_0 (l : Launch) (G : GG) (A : Nat → Nat) (S : XS)  : Mr l yX1_placeAt wsX1_placeAt ({ frames := 1, cells := 0, slots := 0, locals := 22 } : Room) G [.ref (A 43), .int 3] (wX G A S 0) (.ref (A (6 * 6))) := by
  refine Mr.of (cc := cX1_placeAt) (maxL := 2) (ret := (some (.object "WireLoops$Chip"))) (by decide) rfl (Nat.le_of_ble_eq_true rfl) ?_
  intro p e s m args below meth c E hr hlocks hP hK ls hl
  have E : CallFix p m c cX1_placeAt 2 s args wsX1_placeAt RX1 := E
  have hx := E.1
  have hb := E.2.1
  have hml := E.2.2.1
  have hown := E.2.2.2.1
  have hts := E.2.2.2.2
  have hl : lv_has ls 2 [(0, .ref (A 43)), (1, .int 3)] := hl
  have hinX1 : ∀ w ∈ u_ws RX1 TX1 2, w ∈ wsX1_placeAt := fun _ h => List.mem_cons_of_mem _ (List.mem_append_right _ h)
  refine lv_iload_n hx hb dX1_placeAt_0 rfl (lv_at hl 1 rfl) ?_
  refine lv_iconst (v := 0) hx hb dX1_placeAt_1 (by decide) ?_
  refine lv_iconst (v := 3) hx hb dX1_placeAt_2 (by decide) ?_
  refine cpN (host := RX3) (rest := []) (As := [.int 3, .int 0, .int 3]) E (c_X3_isWithin l G A S 0 3 0 3) (va_cnB 3 hts gX1_placeAt_X3_isWithin_n33 rfl rfl rfl (hK.2 (.methodLinkNest RX1 33 yX3_isWithin RX3) (by decide +kernel)) (hts (.initialized RX3) (List.mem_of_getElem? (i := 3) rfl)) (by decide +kernel) ⟨Nat.le_of_ble_eq_true rfl, Nat.le_of_ble_eq_true rfl⟩) (hts (.static yX3_isWithin) (List.mem_of_getElem? (i := 2) rfl)) hK hP rfl hl.1 rfl (Nat.le_of_ble_eq_true rfl) dX1_placeAt_3 ⟨Nat.zero_le _, Nat.zero_le _⟩ ?_
  refine lv_if_eq (tgt := 18) hx hb dX1_placeAt_6 (by decide) (fun c1 => absurd c1 ((wi3 3 (by decide)))) (fun c1 => ?_)
  refine lv_aload_n hx hb dX1_placeAt_9 rfl (lv_at hl 0 rfl) ?_
  refine va_get (D := G.1) (ci := 1) (v := .ref (A 44)) (C := RX1) (T := TX1) (N := 2) hx hb hts hinX1 hown hK.1 hP 43 (wX_43 G A S 0) rfl 0 (by decide) (hts (.fieldLink RX1 11 "WireLoops$History" "kept" "[LWireLoops$Chip;") (List.mem_of_getElem? (i := 1) rfl)) (fun _ h9 => h9) rfl dX1_placeAt_10 ?_
  refine lv_iload_n hx hb dX1_placeAt_13 rfl (lv_at hl 1 rfl) ?_
  refine va_aldq (D := G.1) (C := "WireLoops$Chip") (f := (kfX A 0)) hx hb hK.1 hP 44 2 (wX_44 G A S 0) rfl (vp_in_nI (n := 3) (by decide) (by decide)) dX1_placeAt_14 ?_
  refine W.eq (g2 := F0 m 15 ls [.ref (A (6 * 6))]) rfl ?_
  refine lv_goto (tgt := 19) hx hb dX1_placeAt_15 (by decide) ?_
  exact endR hx hb hr hlocks dX1_placeAt_19
set_option maxHeartbeats 4000000 in
set_option maxRecDepth 100000 in
theorem c_X1_placeAt_0_1 (l : Launch) (G : GG) (A : Nat → Nat) (S : XS)  : Mr l yX1_placeAt wsX1_placeAt ({ frames := 1, cells := 0, slots := 0, locals := 22 } : Room) G [.ref (A 43), .int 0] (wX G A S 1) (.ref (A (6 * 4))) := by
  refine Mr.of (cc := cX1_placeAt) (maxL := 2) (ret := (some (.object "WireLoops$Chip"))) (by decide) rfl (Nat.le_of_ble_eq_true rfl) ?_
  intro p e s m args below meth c E hr hlocks hP hK ls hl
  have E : CallFix p m c cX1_placeAt 2 s args wsX1_placeAt RX1 := E
  have hx := E.1
  have hb := E.2.1
  have hml := E.2.2.1
  have hown := E.2.2.2.1
  have hts := E.2.2.2.2
  have hl : lv_has ls 2 [(0, .ref (A 43)), (1, .int 0)] := hl
  have hinX1 : ∀ w ∈ u_ws RX1 TX1 2, w ∈ wsX1_placeAt := fun _ h => List.mem_cons_of_mem _ (List.mem_append_right _ h)
  refine lv_iload_n hx hb dX1_placeAt_0 rfl (lv_at hl 1 rfl) ?_
  refine lv_iconst (v := 0) hx hb dX1_placeAt_1 (by decide) ?_
  refine lv_iconst (v := 3) hx hb dX1_placeAt_2 (by decide) ?_
  refine cpN (host := RX3) (rest := []) (As := [.int 0, .int 0, .int 3]) E (c_X3_isWithin l G A S 1 0 0 3) (va_cnB 3 hts gX1_placeAt_X3_isWithin_n33 rfl rfl rfl (hK.2 (.methodLinkNest RX1 33 yX3_isWithin RX3) (by decide +kernel)) (hts (.initialized RX3) (List.mem_of_getElem? (i := 3) rfl)) (by decide +kernel) ⟨Nat.le_of_ble_eq_true rfl, Nat.le_of_ble_eq_true rfl⟩) (hts (.static yX3_isWithin) (List.mem_of_getElem? (i := 2) rfl)) hK hP rfl hl.1 rfl (Nat.le_of_ble_eq_true rfl) dX1_placeAt_3 ⟨Nat.zero_le _, Nat.zero_le _⟩ ?_
  refine lv_if_eq (tgt := 18) hx hb dX1_placeAt_6 (by decide) (fun c1 => absurd c1 ((wi3 0 (by decide)))) (fun c1 => ?_)
  refine lv_aload_n hx hb dX1_placeAt_9 rfl (lv_at hl 0 rfl) ?_
  refine va_get (D := G.1) (ci := 1) (v := .ref (A 44)) (C := RX1) (T := TX1) (N := 2) hx hb hts hinX1 hown hK.1 hP 43 (wX_43 G A S 1) rfl 0 (by decide) (hts (.fieldLink RX1 11 "WireLoops$History" "kept" "[LWireLoops$Chip;") (List.mem_of_getElem? (i := 1) rfl)) (fun _ h9 => h9) rfl dX1_placeAt_10 ?_
  refine lv_iload_n hx hb dX1_placeAt_13 rfl (lv_at hl 1 rfl) ?_
  refine va_aldq (D := G.1) (C := "WireLoops$Chip") (f := (kfX A 1)) hx hb hK.1 hP 44 2 (wX_44 G A S 1) rfl (vp_in_nI (n := 0) (by decide) (by decide)) dX1_placeAt_14 ?_
  refine W.eq (g2 := F0 m 15 ls [.ref (A (6 * 4))]) rfl ?_
  refine lv_goto (tgt := 19) hx hb dX1_placeAt_15 (by decide) ?_
  exact endR hx hb hr hlocks dX1_placeAt_19
set_option maxHeartbeats 4000000 in
set_option maxRecDepth 100000 in
theorem c_X1_placeAt_1_1 (l : Launch) (G : GG) (A : Nat → Nat) (S : XS)  : Mr l yX1_placeAt wsX1_placeAt ({ frames := 1, cells := 0, slots := 0, locals := 22 } : Room) G [.ref (A 43), .int 1] (wX G A S 1) (.ref (A (6 * 5))) := by
  refine Mr.of (cc := cX1_placeAt) (maxL := 2) (ret := (some (.object "WireLoops$Chip"))) (by decide) rfl (Nat.le_of_ble_eq_true rfl) ?_
  intro p e s m args below meth c E hr hlocks hP hK ls hl
  have E : CallFix p m c cX1_placeAt 2 s args wsX1_placeAt RX1 := E
  have hx := E.1
  have hb := E.2.1
  have hml := E.2.2.1
  have hown := E.2.2.2.1
  have hts := E.2.2.2.2
  have hl : lv_has ls 2 [(0, .ref (A 43)), (1, .int 1)] := hl
  have hinX1 : ∀ w ∈ u_ws RX1 TX1 2, w ∈ wsX1_placeAt := fun _ h => List.mem_cons_of_mem _ (List.mem_append_right _ h)
  refine lv_iload_n hx hb dX1_placeAt_0 rfl (lv_at hl 1 rfl) ?_
  refine lv_iconst (v := 0) hx hb dX1_placeAt_1 (by decide) ?_
  refine lv_iconst (v := 3) hx hb dX1_placeAt_2 (by decide) ?_
  refine cpN (host := RX3) (rest := []) (As := [.int 1, .int 0, .int 3]) E (c_X3_isWithin l G A S 1 1 0 3) (va_cnB 3 hts gX1_placeAt_X3_isWithin_n33 rfl rfl rfl (hK.2 (.methodLinkNest RX1 33 yX3_isWithin RX3) (by decide +kernel)) (hts (.initialized RX3) (List.mem_of_getElem? (i := 3) rfl)) (by decide +kernel) ⟨Nat.le_of_ble_eq_true rfl, Nat.le_of_ble_eq_true rfl⟩) (hts (.static yX3_isWithin) (List.mem_of_getElem? (i := 2) rfl)) hK hP rfl hl.1 rfl (Nat.le_of_ble_eq_true rfl) dX1_placeAt_3 ⟨Nat.zero_le _, Nat.zero_le _⟩ ?_
  refine lv_if_eq (tgt := 18) hx hb dX1_placeAt_6 (by decide) (fun c1 => absurd c1 ((wi3 1 (by decide)))) (fun c1 => ?_)
  refine lv_aload_n hx hb dX1_placeAt_9 rfl (lv_at hl 0 rfl) ?_
  refine va_get (D := G.1) (ci := 1) (v := .ref (A 44)) (C := RX1) (T := TX1) (N := 2) hx hb hts hinX1 hown hK.1 hP 43 (wX_43 G A S 1) rfl 0 (by decide) (hts (.fieldLink RX1 11 "WireLoops$History" "kept" "[LWireLoops$Chip;") (List.mem_of_getElem? (i := 1) rfl)) (fun _ h9 => h9) rfl dX1_placeAt_10 ?_
  refine lv_iload_n hx hb dX1_placeAt_13 rfl (lv_at hl 1 rfl) ?_
  refine va_aldq (D := G.1) (C := "WireLoops$Chip") (f := (kfX A 1)) hx hb hK.1 hP 44 2 (wX_44 G A S 1) rfl (vp_in_nI (n := 1) (by decide) (by decide)) dX1_placeAt_14 ?_
  refine W.eq (g2 := F0 m 15 ls [.ref (A (6 * 5))]) rfl ?_
  refine lv_goto (tgt := 19) hx hb dX1_placeAt_15 (by decide) ?_
  exact endR hx hb hr hlocks dX1_placeAt_19
set_option maxHeartbeats 4000000 in
set_option maxRecDepth 100000 in
theorem c_X1_placeAt_2_1 (l : Launch) (G : GG) (A : Nat → Nat) (S : XS)  : Mr l yX1_placeAt wsX1_placeAt ({ frames := 1, cells := 0, slots := 0, locals := 22 } : Room) G [.ref (A 43), .int 2] (wX G A S 1) (.ref (A (6 * 6))) := by
  refine Mr.of (cc := cX1_placeAt) (maxL := 2) (ret := (some (.object "WireLoops$Chip"))) (by decide) rfl (Nat.le_of_ble_eq_true rfl) ?_
  intro p e s m args below meth c E hr hlocks hP hK ls hl
  have E : CallFix p m c cX1_placeAt 2 s args wsX1_placeAt RX1 := E
  have hx := E.1
  have hb := E.2.1
  have hml := E.2.2.1
  have hown := E.2.2.2.1
  have hts := E.2.2.2.2
  have hl : lv_has ls 2 [(0, .ref (A 43)), (1, .int 2)] := hl
  have hinX1 : ∀ w ∈ u_ws RX1 TX1 2, w ∈ wsX1_placeAt := fun _ h => List.mem_cons_of_mem _ (List.mem_append_right _ h)
  refine lv_iload_n hx hb dX1_placeAt_0 rfl (lv_at hl 1 rfl) ?_
  refine lv_iconst (v := 0) hx hb dX1_placeAt_1 (by decide) ?_
  refine lv_iconst (v := 3) hx hb dX1_placeAt_2 (by decide) ?_
  refine cpN (host := RX3) (rest := []) (As := [.int 2, .int 0, .int 3]) E (c_X3_isWithin l G A S 1 2 0 3) (va_cnB 3 hts gX1_placeAt_X3_isWithin_n33 rfl rfl rfl (hK.2 (.methodLinkNest RX1 33 yX3_isWithin RX3) (by decide +kernel)) (hts (.initialized RX3) (List.mem_of_getElem? (i := 3) rfl)) (by decide +kernel) ⟨Nat.le_of_ble_eq_true rfl, Nat.le_of_ble_eq_true rfl⟩) (hts (.static yX3_isWithin) (List.mem_of_getElem? (i := 2) rfl)) hK hP rfl hl.1 rfl (Nat.le_of_ble_eq_true rfl) dX1_placeAt_3 ⟨Nat.zero_le _, Nat.zero_le _⟩ ?_
  refine lv_if_eq (tgt := 18) hx hb dX1_placeAt_6 (by decide) (fun c1 => absurd c1 ((wi3 2 (by decide)))) (fun c1 => ?_)
  refine lv_aload_n hx hb dX1_placeAt_9 rfl (lv_at hl 0 rfl) ?_
  refine va_get (D := G.1) (ci := 1) (v := .ref (A 44)) (C := RX1) (T := TX1) (N := 2) hx hb hts hinX1 hown hK.1 hP 43 (wX_43 G A S 1) rfl 0 (by decide) (hts (.fieldLink RX1 11 "WireLoops$History" "kept" "[LWireLoops$Chip;") (List.mem_of_getElem? (i := 1) rfl)) (fun _ h9 => h9) rfl dX1_placeAt_10 ?_
  refine lv_iload_n hx hb dX1_placeAt_13 rfl (lv_at hl 1 rfl) ?_
  refine va_aldq (D := G.1) (C := "WireLoops$Chip") (f := (kfX A 1)) hx hb hK.1 hP 44 2 (wX_44 G A S 1) rfl (vp_in_nI (n := 2) (by decide) (by decide)) dX1_placeAt_14 ?_
  refine W.eq (g2 := F0 m 15 ls [.ref (A (6 * 6))]) rfl ?_
  refine lv_goto (tgt := 19) hx hb dX1_placeAt_15 (by decide) ?_
  exact endR hx hb hr hlocks dX1_placeAt_19
set_option maxHeartbeats 4000000 in
set_option maxRecDepth 100000 in
theorem c_X1_placeAt_3_1 (l : Launch) (G : GG) (A : Nat → Nat) (S : XS)  : Mr l yX1_placeAt wsX1_placeAt ({ frames := 1, cells := 0, slots := 0, locals := 22 } : Room) G [.ref (A 43), .int 3] (wX G A S 1) (.ref (A (6 * 3))) := by
  refine Mr.of (cc := cX1_placeAt) (maxL := 2) (ret := (some (.object "WireLoops$Chip"))) (by decide) rfl (Nat.le_of_ble_eq_true rfl) ?_
  intro p e s m args below meth c E hr hlocks hP hK ls hl
  have E : CallFix p m c cX1_placeAt 2 s args wsX1_placeAt RX1 := E
  have hx := E.1
  have hb := E.2.1
  have hml := E.2.2.1
  have hown := E.2.2.2.1
  have hts := E.2.2.2.2
  have hl : lv_has ls 2 [(0, .ref (A 43)), (1, .int 3)] := hl
  have hinX1 : ∀ w ∈ u_ws RX1 TX1 2, w ∈ wsX1_placeAt := fun _ h => List.mem_cons_of_mem _ (List.mem_append_right _ h)
  refine lv_iload_n hx hb dX1_placeAt_0 rfl (lv_at hl 1 rfl) ?_
  refine lv_iconst (v := 0) hx hb dX1_placeAt_1 (by decide) ?_
  refine lv_iconst (v := 3) hx hb dX1_placeAt_2 (by decide) ?_
  refine cpN (host := RX3) (rest := []) (As := [.int 3, .int 0, .int 3]) E (c_X3_isWithin l G A S 1 3 0 3) (va_cnB 3 hts gX1_placeAt_X3_isWithin_n33 rfl rfl rfl (hK.2 (.methodLinkNest RX1 33 yX3_isWithin RX3) (by decide +kernel)) (hts (.initialized RX3) (List.mem_of_getElem? (i := 3) rfl)) (by decide +kernel) ⟨Nat.le_of_ble_eq_true rfl, Nat.le_of_ble_eq_true rfl⟩) (hts (.static yX3_isWithin) (List.mem_of_getElem? (i := 2) rfl)) hK hP rfl hl.1 rfl (Nat.le_of_ble_eq_true rfl) dX1_placeAt_3 ⟨Nat.zero_le _, Nat.zero_le _⟩ ?_
  refine lv_if_eq (tgt := 18) hx hb dX1_placeAt_6 (by decide) (fun c1 => absurd c1 ((wi3 3 (by decide)))) (fun c1 => ?_)
  refine lv_aload_n hx hb dX1_placeAt_9 rfl (lv_at hl 0 rfl) ?_
  refine va_get (D := G.1) (ci := 1) (v := .ref (A 44)) (C := RX1) (T := TX1) (N := 2) hx hb hts hinX1 hown hK.1 hP 43 (wX_43 G A S 1) rfl 0 (by decide) (hts (.fieldLink RX1 11 "WireLoops$History" "kept" "[LWireLoops$Chip;") (List.mem_of_getElem? (i := 1) rfl)) (fun _ h9 => h9) rfl dX1_placeAt_10 ?_
  refine lv_iload_n hx hb dX1_placeAt_13 rfl (lv_at hl 1 rfl) ?_
  refine va_aldq (D := G.1) (C := "WireLoops$Chip") (f := (kfX A 1)) hx hb hK.1 hP 44 2 (wX_44 G A S 1) rfl (vp_in_nI (n := 3) (by decide) (by decide)) dX1_placeAt_14 ?_
  refine W.eq (g2 := F0 m 15 ls [.ref (A (6 * 3))]) rfl ?_
  refine lv_goto (tgt := 19) hx hb dX1_placeAt_15 (by decide) ?_
  exact endR hx hb hr hlocks dX1_placeAt_19
set_option maxHeartbeats 4000000 in
set_option maxRecDepth 100000 in
theorem c_X1_placeAt_0_2 (l : Launch) (G : GG) (A : Nat → Nat) (S : XS)  : Mr l yX1_placeAt wsX1_placeAt ({ frames := 1, cells := 0, slots := 0, locals := 22 } : Room) G [.ref (A 43), .int 0] (wX G A S 2) (.ref (A (6 * 5))) := by
  refine Mr.of (cc := cX1_placeAt) (maxL := 2) (ret := (some (.object "WireLoops$Chip"))) (by decide) rfl (Nat.le_of_ble_eq_true rfl) ?_
  intro p e s m args below meth c E hr hlocks hP hK ls hl
  have E : CallFix p m c cX1_placeAt 2 s args wsX1_placeAt RX1 := E
  have hx := E.1
  have hb := E.2.1
  have hml := E.2.2.1
  have hown := E.2.2.2.1
  have hts := E.2.2.2.2
  have hl : lv_has ls 2 [(0, .ref (A 43)), (1, .int 0)] := hl
  have hinX1 : ∀ w ∈ u_ws RX1 TX1 2, w ∈ wsX1_placeAt := fun _ h => List.mem_cons_of_mem _ (List.mem_append_right _ h)
  refine lv_iload_n hx hb dX1_placeAt_0 rfl (lv_at hl 1 rfl) ?_
  refine lv_iconst (v := 0) hx hb dX1_placeAt_1 (by decide) ?_
  refine lv_iconst (v := 3) hx hb dX1_placeAt_2 (by decide) ?_
  refine cpN (host := RX3) (rest := []) (As := [.int 0, .int 0, .int 3]) E (c_X3_isWithin l G A S 2 0 0 3) (va_cnB 3 hts gX1_placeAt_X3_isWithin_n33 rfl rfl rfl (hK.2 (.methodLinkNest RX1 33 yX3_isWithin RX3) (by decide +kernel)) (hts (.initialized RX3) (List.mem_of_getElem? (i := 3) rfl)) (by decide +kernel) ⟨Nat.le_of_ble_eq_true rfl, Nat.le_of_ble_eq_true rfl⟩) (hts (.static yX3_isWithin) (List.mem_of_getElem? (i := 2) rfl)) hK hP rfl hl.1 rfl (Nat.le_of_ble_eq_true rfl) dX1_placeAt_3 ⟨Nat.zero_le _, Nat.zero_le _⟩ ?_
  refine lv_if_eq (tgt := 18) hx hb dX1_placeAt_6 (by decide) (fun c1 => absurd c1 ((wi3 0 (by decide)))) (fun c1 => ?_)
  refine lv_aload_n hx hb dX1_placeAt_9 rfl (lv_at hl 0 rfl) ?_
  refine va_get (D := G.1) (ci := 1) (v := .ref (A 44)) (C := RX1) (T := TX1) (N := 2) hx hb hts hinX1 hown hK.1 hP 43 (wX_43 G A S 2) rfl 0 (by decide) (hts (.fieldLink RX1 11 "WireLoops$History" "kept" "[LWireLoops$Chip;") (List.mem_of_getElem? (i := 1) rfl)) (fun _ h9 => h9) rfl dX1_placeAt_10 ?_
  refine lv_iload_n hx hb dX1_placeAt_13 rfl (lv_at hl 1 rfl) ?_
  refine va_aldq (D := G.1) (C := "WireLoops$Chip") (f := (kfX A 2)) hx hb hK.1 hP 44 2 (wX_44 G A S 2) rfl (vp_in_nI (n := 0) (by decide) (by decide)) dX1_placeAt_14 ?_
  refine W.eq (g2 := F0 m 15 ls [.ref (A (6 * 5))]) rfl ?_
  refine lv_goto (tgt := 19) hx hb dX1_placeAt_15 (by decide) ?_
  exact endR hx hb hr hlocks dX1_placeAt_19
set_option maxHeartbeats 4000000 in
set_option maxRecDepth 100000 in
theorem c_X1_placeAt_1_2 (l : Launch) (G : GG) (A : Nat → Nat) (S : XS)  : Mr l yX1_placeAt wsX1_placeAt ({ frames := 1, cells := 0, slots := 0, locals := 22 } : Room) G [.ref (A 43), .int 1] (wX G A S 2) (.ref (A (6 * 6))) := by
  refine Mr.of (cc := cX1_placeAt) (maxL := 2) (ret := (some (.object "WireLoops$Chip"))) (by decide) rfl (Nat.le_of_ble_eq_true rfl) ?_
  intro p e s m args below meth c E hr hlocks hP hK ls hl
  have E : CallFix p m c cX1_placeAt 2 s args wsX1_placeAt RX1 := E
  have hx := E.1
  have hb := E.2.1
  have hml := E.2.2.1
  have hown := E.2.2.2.1
  have hts := E.2.2.2.2
  have hl : lv_has ls 2 [(0, .ref (A 43)), (1, .int 1)] := hl
  have hinX1 : ∀ w ∈ u_ws RX1 TX1 2, w ∈ wsX1_placeAt := fun _ h => List.mem_cons_of_mem _ (List.mem_append_right _ h)
  refine lv_iload_n hx hb dX1_placeAt_0 rfl (lv_at hl 1 rfl) ?_
  refine lv_iconst (v := 0) hx hb dX1_placeAt_1 (by decide) ?_
  refine lv_iconst (v := 3) hx hb dX1_placeAt_2 (by decide) ?_
  refine cpN (host := RX3) (rest := []) (As := [.int 1, .int 0, .int 3]) E (c_X3_isWithin l G A S 2 1 0 3) (va_cnB 3 hts gX1_placeAt_X3_isWithin_n33 rfl rfl rfl (hK.2 (.methodLinkNest RX1 33 yX3_isWithin RX3) (by decide +kernel)) (hts (.initialized RX3) (List.mem_of_getElem? (i := 3) rfl)) (by decide +kernel) ⟨Nat.le_of_ble_eq_true rfl, Nat.le_of_ble_eq_true rfl⟩) (hts (.static yX3_isWithin) (List.mem_of_getElem? (i := 2) rfl)) hK hP rfl hl.1 rfl (Nat.le_of_ble_eq_true rfl) dX1_placeAt_3 ⟨Nat.zero_le _, Nat.zero_le _⟩ ?_
  refine lv_if_eq (tgt := 18) hx hb dX1_placeAt_6 (by decide) (fun c1 => absurd c1 ((wi3 1 (by decide)))) (fun c1 => ?_)
  refine lv_aload_n hx hb dX1_placeAt_9 rfl (lv_at hl 0 rfl) ?_
  refine va_get (D := G.1) (ci := 1) (v := .ref (A 44)) (C := RX1) (T := TX1) (N := 2) hx hb hts hinX1 hown hK.1 hP 43 (wX_43 G A S 2) rfl 0 (by decide) (hts (.fieldLink RX1 11 "WireLoops$History" "kept" "[LWireLoops$Chip;") (List.mem_of_getElem? (i := 1) rfl)) (fun _ h9 => h9) rfl dX1_placeAt_10 ?_
  refine lv_iload_n hx hb dX1_placeAt_13 rfl (lv_at hl 1 rfl) ?_
  refine va_aldq (D := G.1) (C := "WireLoops$Chip") (f := (kfX A 2)) hx hb hK.1 hP 44 2 (wX_44 G A S 2) rfl (vp_in_nI (n := 1) (by decide) (by decide)) dX1_placeAt_14 ?_
  refine W.eq (g2 := F0 m 15 ls [.ref (A (6 * 6))]) rfl ?_
  refine lv_goto (tgt := 19) hx hb dX1_placeAt_15 (by decide) ?_
  exact endR hx hb hr hlocks dX1_placeAt_19
set_option maxHeartbeats 4000000 in
set_option maxRecDepth 100000 in
theorem c_X1_placeAt_2_2 (l : Launch) (G : GG) (A : Nat → Nat) (S : XS)  : Mr l yX1_placeAt wsX1_placeAt ({ frames := 1, cells := 0, slots := 0, locals := 22 } : Room) G [.ref (A 43), .int 2] (wX G A S 2) (.ref (A (6 * 3))) := by
  refine Mr.of (cc := cX1_placeAt) (maxL := 2) (ret := (some (.object "WireLoops$Chip"))) (by decide) rfl (Nat.le_of_ble_eq_true rfl) ?_
  intro p e s m args below meth c E hr hlocks hP hK ls hl
  have E : CallFix p m c cX1_placeAt 2 s args wsX1_placeAt RX1 := E
  have hx := E.1
  have hb := E.2.1
  have hml := E.2.2.1
  have hown := E.2.2.2.1
  have hts := E.2.2.2.2
  have hl : lv_has ls 2 [(0, .ref (A 43)), (1, .int 2)] := hl
  have hinX1 : ∀ w ∈ u_ws RX1 TX1 2, w ∈ wsX1_placeAt := fun _ h => List.mem_cons_of_mem _ (List.mem_append_right _ h)
  refine lv_iload_n hx hb dX1_placeAt_0 rfl (lv_at hl 1 rfl) ?_
  refine lv_iconst (v := 0) hx hb dX1_placeAt_1 (by decide) ?_
  refine lv_iconst (v := 3) hx hb dX1_placeAt_2 (by decide) ?_
  refine cpN (host := RX3) (rest := []) (As := [.int 2, .int 0, .int 3]) E (c_X3_isWithin l G A S 2 2 0 3) (va_cnB 3 hts gX1_placeAt_X3_isWithin_n33 rfl rfl rfl (hK.2 (.methodLinkNest RX1 33 yX3_isWithin RX3) (by decide +kernel)) (hts (.initialized RX3) (List.mem_of_getElem? (i := 3) rfl)) (by decide +kernel) ⟨Nat.le_of_ble_eq_true rfl, Nat.le_of_ble_eq_true rfl⟩) (hts (.static yX3_isWithin) (List.mem_of_getElem? (i := 2) rfl)) hK hP rfl hl.1 rfl (Nat.le_of_ble_eq_true rfl) dX1_placeAt_3 ⟨Nat.zero_le _, Nat.zero_le _⟩ ?_
  refine lv_if_eq (tgt := 18) hx hb dX1_placeAt_6 (by decide) (fun c1 => absurd c1 ((wi3 2 (by decide)))) (fun c1 => ?_)
  refine lv_aload_n hx hb dX1_placeAt_9 rfl (lv_at hl 0 rfl) ?_
  refine va_get (D := G.1) (ci := 1) (v := .ref (A 44)) (C := RX1) (T := TX1) (N := 2) hx hb hts hinX1 hown hK.1 hP 43 (wX_43 G A S 2) rfl 0 (by decide) (hts (.fieldLink RX1 11 "WireLoops$History" "kept" "[LWireLoops$Chip;") (List.mem_of_getElem? (i := 1) rfl)) (fun _ h9 => h9) rfl dX1_placeAt_10 ?_
  refine lv_iload_n hx hb dX1_placeAt_13 rfl (lv_at hl 1 rfl) ?_
  refine va_aldq (D := G.1) (C := "WireLoops$Chip") (f := (kfX A 2)) hx hb hK.1 hP 44 2 (wX_44 G A S 2) rfl (vp_in_nI (n := 2) (by decide) (by decide)) dX1_placeAt_14 ?_
  refine W.eq (g2 := F0 m 15 ls [.ref (A (6 * 3))]) rfl ?_
  refine lv_goto (tgt := 19) hx hb dX1_placeAt_15 (by decide) ?_
  exact endR hx hb hr hlocks dX1_placeAt_19
set_option maxHeartbeats 4000000 in
set_option maxRecDepth 100000 in
theorem c_X1_placeAt_3_2 (l : Launch) (G : GG) (A : Nat → Nat) (S : XS)  : Mr l yX1_placeAt wsX1_placeAt ({ frames := 1, cells := 0, slots := 0, locals := 22 } : Room) G [.ref (A 43), .int 3] (wX G A S 2) (.ref (A (6 * 4))) := by
  refine Mr.of (cc := cX1_placeAt) (maxL := 2) (ret := (some (.object "WireLoops$Chip"))) (by decide) rfl (Nat.le_of_ble_eq_true rfl) ?_
  intro p e s m args below meth c E hr hlocks hP hK ls hl
  have E : CallFix p m c cX1_placeAt 2 s args wsX1_placeAt RX1 := E
  have hx := E.1
  have hb := E.2.1
  have hml := E.2.2.1
  have hown := E.2.2.2.1
  have hts := E.2.2.2.2
  have hl : lv_has ls 2 [(0, .ref (A 43)), (1, .int 3)] := hl
  have hinX1 : ∀ w ∈ u_ws RX1 TX1 2, w ∈ wsX1_placeAt := fun _ h => List.mem_cons_of_mem _ (List.mem_append_right _ h)
  refine lv_iload_n hx hb dX1_placeAt_0 rfl (lv_at hl 1 rfl) ?_
  refine lv_iconst (v := 0) hx hb dX1_placeAt_1 (by decide) ?_
  refine lv_iconst (v := 3) hx hb dX1_placeAt_2 (by decide) ?_
  refine cpN (host := RX3) (rest := []) (As := [.int 3, .int 0, .int 3]) E (c_X3_isWithin l G A S 2 3 0 3) (va_cnB 3 hts gX1_placeAt_X3_isWithin_n33 rfl rfl rfl (hK.2 (.methodLinkNest RX1 33 yX3_isWithin RX3) (by decide +kernel)) (hts (.initialized RX3) (List.mem_of_getElem? (i := 3) rfl)) (by decide +kernel) ⟨Nat.le_of_ble_eq_true rfl, Nat.le_of_ble_eq_true rfl⟩) (hts (.static yX3_isWithin) (List.mem_of_getElem? (i := 2) rfl)) hK hP rfl hl.1 rfl (Nat.le_of_ble_eq_true rfl) dX1_placeAt_3 ⟨Nat.zero_le _, Nat.zero_le _⟩ ?_
  refine lv_if_eq (tgt := 18) hx hb dX1_placeAt_6 (by decide) (fun c1 => absurd c1 ((wi3 3 (by decide)))) (fun c1 => ?_)
  refine lv_aload_n hx hb dX1_placeAt_9 rfl (lv_at hl 0 rfl) ?_
  refine va_get (D := G.1) (ci := 1) (v := .ref (A 44)) (C := RX1) (T := TX1) (N := 2) hx hb hts hinX1 hown hK.1 hP 43 (wX_43 G A S 2) rfl 0 (by decide) (hts (.fieldLink RX1 11 "WireLoops$History" "kept" "[LWireLoops$Chip;") (List.mem_of_getElem? (i := 1) rfl)) (fun _ h9 => h9) rfl dX1_placeAt_10 ?_
  refine lv_iload_n hx hb dX1_placeAt_13 rfl (lv_at hl 1 rfl) ?_
  refine va_aldq (D := G.1) (C := "WireLoops$Chip") (f := (kfX A 2)) hx hb hK.1 hP 44 2 (wX_44 G A S 2) rfl (vp_in_nI (n := 3) (by decide) (by decide)) dX1_placeAt_14 ?_
  refine W.eq (g2 := F0 m 15 ls [.ref (A (6 * 4))]) rfl ?_
  refine lv_goto (tgt := 19) hx hb dX1_placeAt_15 (by decide) ?_
  exact endR hx hb hr hlocks dX1_placeAt_19
set_option maxHeartbeats 4000000 in
set_option maxRecDepth 100000 in
theorem c_X1_placeAt_0_3 (l : Launch) (G : GG) (A : Nat → Nat) (S : XS)  : Mr l yX1_placeAt wsX1_placeAt ({ frames := 1, cells := 0, slots := 0, locals := 22 } : Room) G [.ref (A 43), .int 0] (wX G A S 3) (.ref (A (6 * 6))) := by
  refine Mr.of (cc := cX1_placeAt) (maxL := 2) (ret := (some (.object "WireLoops$Chip"))) (by decide) rfl (Nat.le_of_ble_eq_true rfl) ?_
  intro p e s m args below meth c E hr hlocks hP hK ls hl
  have E : CallFix p m c cX1_placeAt 2 s args wsX1_placeAt RX1 := E
  have hx := E.1
  have hb := E.2.1
  have hml := E.2.2.1
  have hown := E.2.2.2.1
  have hts := E.2.2.2.2
  have hl : lv_has ls 2 [(0, .ref (A 43)), (1, .int 0)] := hl
  have hinX1 : ∀ w ∈ u_ws RX1 TX1 2, w ∈ wsX1_placeAt := fun _ h => List.mem_cons_of_mem _ (List.mem_append_right _ h)
  refine lv_iload_n hx hb dX1_placeAt_0 rfl (lv_at hl 1 rfl) ?_
  refine lv_iconst (v := 0) hx hb dX1_placeAt_1 (by decide) ?_
  refine lv_iconst (v := 3) hx hb dX1_placeAt_2 (by decide) ?_
  refine cpN (host := RX3) (rest := []) (As := [.int 0, .int 0, .int 3]) E (c_X3_isWithin l G A S 3 0 0 3) (va_cnB 3 hts gX1_placeAt_X3_isWithin_n33 rfl rfl rfl (hK.2 (.methodLinkNest RX1 33 yX3_isWithin RX3) (by decide +kernel)) (hts (.initialized RX3) (List.mem_of_getElem? (i := 3) rfl)) (by decide +kernel) ⟨Nat.le_of_ble_eq_true rfl, Nat.le_of_ble_eq_true rfl⟩) (hts (.static yX3_isWithin) (List.mem_of_getElem? (i := 2) rfl)) hK hP rfl hl.1 rfl (Nat.le_of_ble_eq_true rfl) dX1_placeAt_3 ⟨Nat.zero_le _, Nat.zero_le _⟩ ?_
  refine lv_if_eq (tgt := 18) hx hb dX1_placeAt_6 (by decide) (fun c1 => absurd c1 ((wi3 0 (by decide)))) (fun c1 => ?_)
  refine lv_aload_n hx hb dX1_placeAt_9 rfl (lv_at hl 0 rfl) ?_
  refine va_get (D := G.1) (ci := 1) (v := .ref (A 44)) (C := RX1) (T := TX1) (N := 2) hx hb hts hinX1 hown hK.1 hP 43 (wX_43 G A S 3) rfl 0 (by decide) (hts (.fieldLink RX1 11 "WireLoops$History" "kept" "[LWireLoops$Chip;") (List.mem_of_getElem? (i := 1) rfl)) (fun _ h9 => h9) rfl dX1_placeAt_10 ?_
  refine lv_iload_n hx hb dX1_placeAt_13 rfl (lv_at hl 1 rfl) ?_
  refine va_aldq (D := G.1) (C := "WireLoops$Chip") (f := (kfX A 3)) hx hb hK.1 hP 44 2 (wX_44 G A S 3) rfl (vp_in_nI (n := 0) (by decide) (by decide)) dX1_placeAt_14 ?_
  refine W.eq (g2 := F0 m 15 ls [.ref (A (6 * 6))]) rfl ?_
  refine lv_goto (tgt := 19) hx hb dX1_placeAt_15 (by decide) ?_
  exact endR hx hb hr hlocks dX1_placeAt_19
set_option maxHeartbeats 4000000 in
set_option maxRecDepth 100000 in
theorem c_X1_placeAt_1_3 (l : Launch) (G : GG) (A : Nat → Nat) (S : XS)  : Mr l yX1_placeAt wsX1_placeAt ({ frames := 1, cells := 0, slots := 0, locals := 22 } : Room) G [.ref (A 43), .int 1] (wX G A S 3) (.ref (A (6 * 3))) := by
  refine Mr.of (cc := cX1_placeAt) (maxL := 2) (ret := (some (.object "WireLoops$Chip"))) (by decide) rfl (Nat.le_of_ble_eq_true rfl) ?_
  intro p e s m args below meth c E hr hlocks hP hK ls hl
  have E : CallFix p m c cX1_placeAt 2 s args wsX1_placeAt RX1 := E
  have hx := E.1
  have hb := E.2.1
  have hml := E.2.2.1
  have hown := E.2.2.2.1
  have hts := E.2.2.2.2
  have hl : lv_has ls 2 [(0, .ref (A 43)), (1, .int 1)] := hl
  have hinX1 : ∀ w ∈ u_ws RX1 TX1 2, w ∈ wsX1_placeAt := fun _ h => List.mem_cons_of_mem _ (List.mem_append_right _ h)
  refine lv_iload_n hx hb dX1_placeAt_0 rfl (lv_at hl 1 rfl) ?_
  refine lv_iconst (v := 0) hx hb dX1_placeAt_1 (by decide) ?_
  refine lv_iconst (v := 3) hx hb dX1_placeAt_2 (by decide) ?_
  refine cpN (host := RX3) (rest := []) (As := [.int 1, .int 0, .int 3]) E (c_X3_isWithin l G A S 3 1 0 3) (va_cnB 3 hts gX1_placeAt_X3_isWithin_n33 rfl rfl rfl (hK.2 (.methodLinkNest RX1 33 yX3_isWithin RX3) (by decide +kernel)) (hts (.initialized RX3) (List.mem_of_getElem? (i := 3) rfl)) (by decide +kernel) ⟨Nat.le_of_ble_eq_true rfl, Nat.le_of_ble_eq_true rfl⟩) (hts (.static yX3_isWithin) (List.mem_of_getElem? (i := 2) rfl)) hK hP rfl hl.1 rfl (Nat.le_of_ble_eq_true rfl) dX1_placeAt_3 ⟨Nat.zero_le _, Nat.zero_le _⟩ ?_
  refine lv_if_eq (tgt := 18) hx hb dX1_placeAt_6 (by decide) (fun c1 => absurd c1 ((wi3 1 (by decide)))) (fun c1 => ?_)
  refine lv_aload_n hx hb dX1_placeAt_9 rfl (lv_at hl 0 rfl) ?_
  refine va_get (D := G.1) (ci := 1) (v := .ref (A 44)) (C := RX1) (T := TX1) (N := 2) hx hb hts hinX1 hown hK.1 hP 43 (wX_43 G A S 3) rfl 0 (by decide) (hts (.fieldLink RX1 11 "WireLoops$History" "kept" "[LWireLoops$Chip;") (List.mem_of_getElem? (i := 1) rfl)) (fun _ h9 => h9) rfl dX1_placeAt_10 ?_
  refine lv_iload_n hx hb dX1_placeAt_13 rfl (lv_at hl 1 rfl) ?_
  refine va_aldq (D := G.1) (C := "WireLoops$Chip") (f := (kfX A 3)) hx hb hK.1 hP 44 2 (wX_44 G A S 3) rfl (vp_in_nI (n := 1) (by decide) (by decide)) dX1_placeAt_14 ?_
  refine W.eq (g2 := F0 m 15 ls [.ref (A (6 * 3))]) rfl ?_
  refine lv_goto (tgt := 19) hx hb dX1_placeAt_15 (by decide) ?_
  exact endR hx hb hr hlocks dX1_placeAt_19
set_option maxHeartbeats 4000000 in
set_option maxRecDepth 100000 in
theorem c_X1_placeAt_2_3 (l : Launch) (G : GG) (A : Nat → Nat) (S : XS)  : Mr l yX1_placeAt wsX1_placeAt ({ frames := 1, cells := 0, slots := 0, locals := 22 } : Room) G [.ref (A 43), .int 2] (wX G A S 3) (.ref (A (6 * 4))) := by
  refine Mr.of (cc := cX1_placeAt) (maxL := 2) (ret := (some (.object "WireLoops$Chip"))) (by decide) rfl (Nat.le_of_ble_eq_true rfl) ?_
  intro p e s m args below meth c E hr hlocks hP hK ls hl
  have E : CallFix p m c cX1_placeAt 2 s args wsX1_placeAt RX1 := E
  have hx := E.1
  have hb := E.2.1
  have hml := E.2.2.1
  have hown := E.2.2.2.1
  have hts := E.2.2.2.2
  have hl : lv_has ls 2 [(0, .ref (A 43)), (1, .int 2)] := hl
  have hinX1 : ∀ w ∈ u_ws RX1 TX1 2, w ∈ wsX1_placeAt := fun _ h => List.mem_cons_of_mem _ (List.mem_append_right _ h)
  refine lv_iload_n hx hb dX1_placeAt_0 rfl (lv_at hl 1 rfl) ?_
  refine lv_iconst (v := 0) hx hb dX1_placeAt_1 (by decide) ?_
  refine lv_iconst (v := 3) hx hb dX1_placeAt_2 (by decide) ?_
  refine cpN (host := RX3) (rest := []) (As := [.int 2, .int 0, .int 3]) E (c_X3_isWithin l G A S 3 2 0 3) (va_cnB 3 hts gX1_placeAt_X3_isWithin_n33 rfl rfl rfl (hK.2 (.methodLinkNest RX1 33 yX3_isWithin RX3) (by decide +kernel)) (hts (.initialized RX3) (List.mem_of_getElem? (i := 3) rfl)) (by decide +kernel) ⟨Nat.le_of_ble_eq_true rfl, Nat.le_of_ble_eq_true rfl⟩) (hts (.static yX3_isWithin) (List.mem_of_getElem? (i := 2) rfl)) hK hP rfl hl.1 rfl (Nat.le_of_ble_eq_true rfl) dX1_placeAt_3 ⟨Nat.zero_le _, Nat.zero_le _⟩ ?_
  refine lv_if_eq (tgt := 18) hx hb dX1_placeAt_6 (by decide) (fun c1 => absurd c1 ((wi3 2 (by decide)))) (fun c1 => ?_)
  refine lv_aload_n hx hb dX1_placeAt_9 rfl (lv_at hl 0 rfl) ?_
  refine va_get (D := G.1) (ci := 1) (v := .ref (A 44)) (C := RX1) (T := TX1) (N := 2) hx hb hts hinX1 hown hK.1 hP 43 (wX_43 G A S 3) rfl 0 (by decide) (hts (.fieldLink RX1 11 "WireLoops$History" "kept" "[LWireLoops$Chip;") (List.mem_of_getElem? (i := 1) rfl)) (fun _ h9 => h9) rfl dX1_placeAt_10 ?_
  refine lv_iload_n hx hb dX1_placeAt_13 rfl (lv_at hl 1 rfl) ?_
  refine va_aldq (D := G.1) (C := "WireLoops$Chip") (f := (kfX A 3)) hx hb hK.1 hP 44 2 (wX_44 G A S 3) rfl (vp_in_nI (n := 2) (by decide) (by decide)) dX1_placeAt_14 ?_
  refine W.eq (g2 := F0 m 15 ls [.ref (A (6 * 4))]) rfl ?_
  refine lv_goto (tgt := 19) hx hb dX1_placeAt_15 (by decide) ?_
  exact endR hx hb hr hlocks dX1_placeAt_19
set_option maxHeartbeats 4000000 in
set_option maxRecDepth 100000 in
theorem c_X1_placeAt_3_3 (l : Launch) (G : GG) (A : Nat → Nat) (S : XS)  : Mr l yX1_placeAt wsX1_placeAt ({ frames := 1, cells := 0, slots := 0, locals := 22 } : Room) G [.ref (A 43), .int 3] (wX G A S 3) (.ref (A (6 * 5))) := by
  refine Mr.of (cc := cX1_placeAt) (maxL := 2) (ret := (some (.object "WireLoops$Chip"))) (by decide) rfl (Nat.le_of_ble_eq_true rfl) ?_
  intro p e s m args below meth c E hr hlocks hP hK ls hl
  have E : CallFix p m c cX1_placeAt 2 s args wsX1_placeAt RX1 := E
  have hx := E.1
  have hb := E.2.1
  have hml := E.2.2.1
  have hown := E.2.2.2.1
  have hts := E.2.2.2.2
  have hl : lv_has ls 2 [(0, .ref (A 43)), (1, .int 3)] := hl
  have hinX1 : ∀ w ∈ u_ws RX1 TX1 2, w ∈ wsX1_placeAt := fun _ h => List.mem_cons_of_mem _ (List.mem_append_right _ h)
  refine lv_iload_n hx hb dX1_placeAt_0 rfl (lv_at hl 1 rfl) ?_
  refine lv_iconst (v := 0) hx hb dX1_placeAt_1 (by decide) ?_
  refine lv_iconst (v := 3) hx hb dX1_placeAt_2 (by decide) ?_
  refine cpN (host := RX3) (rest := []) (As := [.int 3, .int 0, .int 3]) E (c_X3_isWithin l G A S 3 3 0 3) (va_cnB 3 hts gX1_placeAt_X3_isWithin_n33 rfl rfl rfl (hK.2 (.methodLinkNest RX1 33 yX3_isWithin RX3) (by decide +kernel)) (hts (.initialized RX3) (List.mem_of_getElem? (i := 3) rfl)) (by decide +kernel) ⟨Nat.le_of_ble_eq_true rfl, Nat.le_of_ble_eq_true rfl⟩) (hts (.static yX3_isWithin) (List.mem_of_getElem? (i := 2) rfl)) hK hP rfl hl.1 rfl (Nat.le_of_ble_eq_true rfl) dX1_placeAt_3 ⟨Nat.zero_le _, Nat.zero_le _⟩ ?_
  refine lv_if_eq (tgt := 18) hx hb dX1_placeAt_6 (by decide) (fun c1 => absurd c1 ((wi3 3 (by decide)))) (fun c1 => ?_)
  refine lv_aload_n hx hb dX1_placeAt_9 rfl (lv_at hl 0 rfl) ?_
  refine va_get (D := G.1) (ci := 1) (v := .ref (A 44)) (C := RX1) (T := TX1) (N := 2) hx hb hts hinX1 hown hK.1 hP 43 (wX_43 G A S 3) rfl 0 (by decide) (hts (.fieldLink RX1 11 "WireLoops$History" "kept" "[LWireLoops$Chip;") (List.mem_of_getElem? (i := 1) rfl)) (fun _ h9 => h9) rfl dX1_placeAt_10 ?_
  refine lv_iload_n hx hb dX1_placeAt_13 rfl (lv_at hl 1 rfl) ?_
  refine va_aldq (D := G.1) (C := "WireLoops$Chip") (f := (kfX A 3)) hx hb hK.1 hP 44 2 (wX_44 G A S 3) rfl (vp_in_nI (n := 3) (by decide) (by decide)) dX1_placeAt_14 ?_
  refine W.eq (g2 := F0 m 15 ls [.ref (A (6 * 5))]) rfl ?_
  refine lv_goto (tgt := 19) hx hb dX1_placeAt_15 (by decide) ?_
  exact endR hx hb hr hlocks dX1_placeAt_19
def f_X1_dropOldest_0 (S : XS) : XS := su S 7 0 (upd (S 7 0) 1 3)
theorem e_X1_dropOldest_0 (S : XS) : f_X1_dropOldest_0 S = su S 7 0 (upd (S 7 0) 1 3) := rfl
set_option maxHeartbeats 4000000 in
set_option maxRecDepth 100000 in
theorem c_X1_dropOldest_0 (l : Launch) (G : GG) (A : Nat → Nat) (S : XS)  : Mz l yX1_dropOldest wsX1_dropOldest ({ frames := 0, cells := 0, slots := 0, locals := 0 } : Room) G [.ref (A 43)] (wX G A S 0) (wX G A (f_X1_dropOldest_0 S) 1) := by
  refine Mz.of (cc := cX1_dropOldest) (maxL := 3) (ret := none) (by decide) rfl (Nat.le_of_ble_eq_true rfl) ?_
  intro p e s m args below meth c A0 hA0 E hr hlocks hP hK hD hA hS ls hl
  have E : CallFix p m c cX1_dropOldest 3 s args wsX1_dropOldest RX1 := E
  have hx := E.1
  have hb := E.2.1
  have hml := E.2.2.1
  have hown := E.2.2.2.1
  have hts := E.2.2.2.2
  have hl : lv_has ls 3 [(0, .ref (A 43))] := hl
  have hinX1 : ∀ w ∈ u_ws RX1 TX1 2, w ∈ wsX1_dropOldest := fun _ h => List.mem_cons_of_mem _ (List.mem_append_right _ h)
  refine lv_aload_n hx hb dX1_dropOldest_0 rfl (lv_at hl 0 rfl) ?_
  refine va_get (D := G.1) (ci := 1) (v := .ref (A 44)) (C := RX1) (T := TX1) (N := 2) hx hb hts hinX1 hown hK.1 hP 43 (wX_43 G A S 0) rfl 0 (by decide) (hts (.fieldLink RX1 11 "WireLoops$History" "kept" "[LWireLoops$Chip;") (List.mem_of_getElem? (i := 1) rfl)) (fun _ h9 => h9) rfl dX1_dropOldest_1 ?_
  refine lv_iconst (v := 0) hx hb dX1_dropOldest_4 (by decide) ?_
  refine va_aldq (D := G.1) (C := "WireLoops$Chip") (f := (kfX A 0)) hx hb hK.1 hP 44 2 (wX_44 G A S 0) rfl (vp_in_nI (n := 0) (by decide) (by decide)) dX1_dropOldest_5 ?_
  refine W.eq (g2 := F0 m 6 ls [.ref (A (6 * 3))]) rfl ?_
  refine lv_astore_n (lv' := [(1, .ref (A (6 * 3))), (0, .ref (A 43))]) hx hb dX1_dropOldest_6 rfl hl (by decide) rfl (fun ls hl => ?_)
  refine lv_iconst (v := 1) hx hb dX1_dropOldest_7 (by decide) ?_
  refine lv_istore_n (lv' := [(2, .int 1), (1, .ref (A (6 * 3))), (0, .ref (A 43))]) hx hb dX1_dropOldest_8 rfl hl (by decide) rfl (fun ls hl => ?_)
  refine lv_iload_n hx hb dX1_dropOldest_9 rfl (lv_at hl 0 rfl) ?_
  refine lv_iconst (v := 4) hx hb dX1_dropOldest_10 (by decide) ?_
  refine lv_icmp_ge (tgt := 34) hx hb dX1_dropOldest_11 (by decide) (fun c1 => absurd c1 (by decide)) (fun c1 => ?_)
  refine lv_aload_n hx hb dX1_dropOldest_14 rfl (lv_at hl 2 rfl) ?_
  refine va_get (D := G.1) (ci := 1) (v := .ref (A 44)) (C := RX1) (T := TX1) (N := 2) hx hb hts hinX1 hown hK.1 hP 43 (wX_43 G A S 0) rfl 0 (by decide) (hts (.fieldLink RX1 11 "WireLoops$History" "kept" "[LWireLoops$Chip;") (List.mem_of_getElem? (i := 1) rfl)) (fun _ h9 => h9) rfl dX1_dropOldest_15 ?_
  refine lv_iload_n hx hb dX1_dropOldest_18 rfl (lv_at hl 0 rfl) ?_
  refine lv_iconst (v := 1) hx hb dX1_dropOldest_19 (by decide) ?_
  refine lv_isub hx hb dX1_dropOldest_20 ?_
  refine W.eq (g2 := F0 m 21 ls [.int 0, .ref (A 44)]) (by rw [show (1 - 1) = (0 : Int32) from by decide] <;> rfl) ?_
  refine lv_aload_n hx hb dX1_dropOldest_21 rfl (lv_at hl 2 rfl) ?_
  refine va_get (D := G.1) (ci := 1) (v := .ref (A 44)) (C := RX1) (T := TX1) (N := 2) hx hb hts hinX1 hown hK.1 hP 43 (wX_43 G A S 0) rfl 0 (by decide) (hts (.fieldLink RX1 11 "WireLoops$History" "kept" "[LWireLoops$Chip;") (List.mem_of_getElem? (i := 1) rfl)) (fun _ h9 => h9) rfl dX1_dropOldest_22 ?_
  refine lv_iload_n hx hb dX1_dropOldest_25 rfl (lv_at hl 0 rfl) ?_
  refine va_aldq (D := G.1) (C := "WireLoops$Chip") (f := (kfX A 0)) hx hb hK.1 hP 44 2 (wX_44 G A S 0) rfl (vp_in_nI (n := 1) (by decide) (by decide)) dX1_dropOldest_26 ?_
  refine W.eq (g2 := F0 m 27 ls [.ref (A (6 * 4)), .int 0, .ref (A 44)]) rfl ?_
  refine va_astq (D := G.1) (r := (RX0, TX0, 12)) (f := (kfX A 0)) hx hb hK.1 hP hD hS 44 2 (6 * 4) 0 rfl rfl (show (wX G A S 0)[6 * 4]? = some (A (6 * 4), .inr (0, chF A S 4)) from rfl) rfl (vp_in_nI (n := 0) (by decide) (by decide)) dX1_dropOldest_27 (fun H locs hP hD hS => ?_)
  have hP : va_P G.1 vwCl ((wX G A S 0).set 44 (A 44, .inl (G.2.2.2, 4, .inr (.inr (.inr (.inr (va_up (kfX A 0) 0 (some (A (6 * 4)))))))))) H := hP
  have hD : va_D A0 ((wX G A S 0).set 44 (A 44, .inl (G.2.2.2, 4, .inr (.inr (.inr (.inr (va_up (kfX A 0) 0 (some (A (6 * 4)))))))))) := hD
  refine lv_iinc (v := 2) (lv' := [(2, .int 2), (1, .ref (A (6 * 3))), (0, .ref (A 43))]) hx hb dX1_dropOldest_28 hl (k := 0) rfl (by decide) (by decide) rfl (fun ls hl => ?_)
  refine lv_goto (tgt := 9) hx hb dX1_dropOldest_31 (by decide) ?_
  refine lv_iload_n hx hb dX1_dropOldest_9 rfl (lv_at hl 0 rfl) ?_
  refine lv_iconst (v := 4) hx hb dX1_dropOldest_10 (by decide) ?_
  refine lv_icmp_ge (tgt := 34) hx hb dX1_dropOldest_11 (by decide) (fun c2 => absurd c2 (by decide)) (fun c2 => ?_)
  refine lv_aload_n hx hb dX1_dropOldest_14 rfl (lv_at hl 2 rfl) ?_
  refine va_get (D := G.1) (ci := 1) (v := .ref (A 44)) (C := RX1) (T := TX1) (N := 2) hx hb hts hinX1 hown hK.1 hP 43 rfl rfl 0 (by decide) (hts (.fieldLink RX1 11 "WireLoops$History" "kept" "[LWireLoops$Chip;") (List.mem_of_getElem? (i := 1) rfl)) (fun _ h9 => h9) rfl dX1_dropOldest_15 ?_
  refine lv_iload_n hx hb dX1_dropOldest_18 rfl (lv_at hl 0 rfl) ?_
  refine lv_iconst (v := 1) hx hb dX1_dropOldest_19 (by decide) ?_
  refine lv_isub hx hb dX1_dropOldest_20 ?_
  refine W.eq (g2 := F0 m 21 ls [.int 1, .ref (A 44)]) (by rw [show (2 - 1) = (1 : Int32) from by decide] <;> rfl) ?_
  refine lv_aload_n hx hb dX1_dropOldest_21 rfl (lv_at hl 2 rfl) ?_
  refine va_get (D := G.1) (ci := 1) (v := .ref (A 44)) (C := RX1) (T := TX1) (N := 2) hx hb hts hinX1 hown hK.1 hP 43 rfl rfl 0 (by decide) (hts (.fieldLink RX1 11 "WireLoops$History" "kept" "[LWireLoops$Chip;") (List.mem_of_getElem? (i := 1) rfl)) (fun _ h9 => h9) rfl dX1_dropOldest_22 ?_
  refine lv_iload_n hx hb dX1_dropOldest_25 rfl (lv_at hl 0 rfl) ?_
  refine va_aldq (D := G.1) (C := "WireLoops$Chip") (f := (va_up (kfX A 0) 0 (some (A (6 * 4))))) hx hb hK.1 hP 44 2 rfl rfl (vp_in_nI (n := 2) (by decide) (by decide)) dX1_dropOldest_26 ?_
  refine W.eq (g2 := F0 m 27 ls [.ref (A (6 * 5)), .int 1, .ref (A 44)]) rfl ?_
  refine va_astq (D := G.1) (r := (RX0, TX0, 12)) (f := (va_up (kfX A 0) 0 (some (A (6 * 4))))) hx hb hK.1 hP hD hS 44 2 (6 * 5) 0 rfl rfl (show ((wX G A S 0).set 44 (A 44, .inl (G.2.2.2, 4, .inr (.inr (.inr (.inr (va_up (kfX A 0) 0 (some (A (6 * 4))))))))))[6 * 5]? = some (A (6 * 5), .inr (0, chF A S 5)) from rfl) rfl (vp_in_nI (n := 1) (by decide) (by decide)) dX1_dropOldest_27 (fun H locs hP hD hS => ?_)
  have hP : va_P G.1 vwCl ((wX G A S 0).set 44 (A 44, .inl (G.2.2.2, 4, .inr (.inr (.inr (.inr (va_up (va_up (kfX A 0) 0 (some (A (6 * 4)))) 1 (some (A (6 * 5)))))))))) H := hP
  have hD : va_D A0 ((wX G A S 0).set 44 (A 44, .inl (G.2.2.2, 4, .inr (.inr (.inr (.inr (va_up (va_up (kfX A 0) 0 (some (A (6 * 4)))) 1 (some (A (6 * 5)))))))))) := hD
  refine lv_iinc (v := 3) (lv' := [(2, .int 3), (1, .ref (A (6 * 3))), (0, .ref (A 43))]) hx hb dX1_dropOldest_28 hl (k := 0) rfl (by decide) (by decide) rfl (fun ls hl => ?_)
  refine lv_goto (tgt := 9) hx hb dX1_dropOldest_31 (by decide) ?_
  refine lv_iload_n hx hb dX1_dropOldest_9 rfl (lv_at hl 0 rfl) ?_
  refine lv_iconst (v := 4) hx hb dX1_dropOldest_10 (by decide) ?_
  refine lv_icmp_ge (tgt := 34) hx hb dX1_dropOldest_11 (by decide) (fun c3 => absurd c3 (by decide)) (fun c3 => ?_)
  refine lv_aload_n hx hb dX1_dropOldest_14 rfl (lv_at hl 2 rfl) ?_
  refine va_get (D := G.1) (ci := 1) (v := .ref (A 44)) (C := RX1) (T := TX1) (N := 2) hx hb hts hinX1 hown hK.1 hP 43 rfl rfl 0 (by decide) (hts (.fieldLink RX1 11 "WireLoops$History" "kept" "[LWireLoops$Chip;") (List.mem_of_getElem? (i := 1) rfl)) (fun _ h9 => h9) rfl dX1_dropOldest_15 ?_
  refine lv_iload_n hx hb dX1_dropOldest_18 rfl (lv_at hl 0 rfl) ?_
  refine lv_iconst (v := 1) hx hb dX1_dropOldest_19 (by decide) ?_
  refine lv_isub hx hb dX1_dropOldest_20 ?_
  refine W.eq (g2 := F0 m 21 ls [.int 2, .ref (A 44)]) (by rw [show (3 - 1) = (2 : Int32) from by decide] <;> rfl) ?_
  refine lv_aload_n hx hb dX1_dropOldest_21 rfl (lv_at hl 2 rfl) ?_
  refine va_get (D := G.1) (ci := 1) (v := .ref (A 44)) (C := RX1) (T := TX1) (N := 2) hx hb hts hinX1 hown hK.1 hP 43 rfl rfl 0 (by decide) (hts (.fieldLink RX1 11 "WireLoops$History" "kept" "[LWireLoops$Chip;") (List.mem_of_getElem? (i := 1) rfl)) (fun _ h9 => h9) rfl dX1_dropOldest_22 ?_
  refine lv_iload_n hx hb dX1_dropOldest_25 rfl (lv_at hl 0 rfl) ?_
  refine va_aldq (D := G.1) (C := "WireLoops$Chip") (f := (va_up (va_up (kfX A 0) 0 (some (A (6 * 4)))) 1 (some (A (6 * 5))))) hx hb hK.1 hP 44 2 rfl rfl (vp_in_nI (n := 3) (by decide) (by decide)) dX1_dropOldest_26 ?_
  refine W.eq (g2 := F0 m 27 ls [.ref (A (6 * 6)), .int 2, .ref (A 44)]) rfl ?_
  refine va_astq (D := G.1) (r := (RX0, TX0, 12)) (f := (va_up (va_up (kfX A 0) 0 (some (A (6 * 4)))) 1 (some (A (6 * 5))))) hx hb hK.1 hP hD hS 44 2 (6 * 6) 0 rfl rfl (show ((wX G A S 0).set 44 (A 44, .inl (G.2.2.2, 4, .inr (.inr (.inr (.inr (va_up (va_up (kfX A 0) 0 (some (A (6 * 4)))) 1 (some (A (6 * 5))))))))))[6 * 6]? = some (A (6 * 6), .inr (0, chF A S 6)) from rfl) rfl (vp_in_nI (n := 2) (by decide) (by decide)) dX1_dropOldest_27 (fun H locs hP hD hS => ?_)
  have hP : va_P G.1 vwCl ((wX G A S 0).set 44 (A 44, .inl (G.2.2.2, 4, .inr (.inr (.inr (.inr (va_up (va_up (va_up (kfX A 0) 0 (some (A (6 * 4)))) 1 (some (A (6 * 5)))) 2 (some (A (6 * 6)))))))))) H := hP
  have hD : va_D A0 ((wX G A S 0).set 44 (A 44, .inl (G.2.2.2, 4, .inr (.inr (.inr (.inr (va_up (va_up (va_up (kfX A 0) 0 (some (A (6 * 4)))) 1 (some (A (6 * 5)))) 2 (some (A (6 * 6)))))))))) := hD
  refine lv_iinc (v := 4) (lv' := [(2, .int 4), (1, .ref (A (6 * 3))), (0, .ref (A 43))]) hx hb dX1_dropOldest_28 hl (k := 0) rfl (by decide) (by decide) rfl (fun ls hl => ?_)
  refine lv_goto (tgt := 9) hx hb dX1_dropOldest_31 (by decide) ?_
  refine lv_iload_n hx hb dX1_dropOldest_9 rfl (lv_at hl 0 rfl) ?_
  refine lv_iconst (v := 4) hx hb dX1_dropOldest_10 (by decide) ?_
  refine lv_icmp_ge (tgt := 34) hx hb dX1_dropOldest_11 (by decide) (fun c4 => ?_) (fun c4 => absurd (by decide) c4)
  refine lv_aload_n hx hb dX1_dropOldest_34 rfl (lv_at hl 2 rfl) ?_
  refine va_get (D := G.1) (ci := 1) (v := .ref (A 44)) (C := RX1) (T := TX1) (N := 2) hx hb hts hinX1 hown hK.1 hP 43 rfl rfl 0 (by decide) (hts (.fieldLink RX1 11 "WireLoops$History" "kept" "[LWireLoops$Chip;") (List.mem_of_getElem? (i := 1) rfl)) (fun _ h9 => h9) rfl dX1_dropOldest_35 ?_
  refine lv_iconst (v := 3) hx hb dX1_dropOldest_38 (by decide) ?_
  refine lv_aload_n hx hb dX1_dropOldest_39 rfl (lv_at hl 1 rfl) ?_
  refine va_astq (D := G.1) (r := (RX0, TX0, 12)) (f := (va_up (va_up (va_up (kfX A 0) 0 (some (A (6 * 4)))) 1 (some (A (6 * 5)))) 2 (some (A (6 * 6))))) hx hb hK.1 hP hD hS 44 2 (6 * 3) 0 rfl rfl (show ((wX G A S 0).set 44 (A 44, .inl (G.2.2.2, 4, .inr (.inr (.inr (.inr (va_up (va_up (va_up (kfX A 0) 0 (some (A (6 * 4)))) 1 (some (A (6 * 5)))) 2 (some (A (6 * 6))))))))))[6 * 3]? = some (A (6 * 3), .inr (0, chF A S 3)) from rfl) rfl (vp_in_nI (n := 3) (by decide) (by decide)) dX1_dropOldest_40 (fun H locs hP hD hS => ?_)
  have hP : va_P G.1 vwCl ((wX G A S 0).set 44 (A 44, .inl (G.2.2.2, 4, .inr (.inr (.inr (.inr (va_up (va_up (va_up (va_up (kfX A 0) 0 (some (A (6 * 4)))) 1 (some (A (6 * 5)))) 2 (some (A (6 * 6)))) 3 (some (A (6 * 3)))))))))) H := hP
  have hD : va_D A0 ((wX G A S 0).set 44 (A 44, .inl (G.2.2.2, 4, .inr (.inr (.inr (.inr (va_up (va_up (va_up (va_up (kfX A 0) 0 (some (A (6 * 4)))) 1 (some (A (6 * 5)))) 2 (some (A (6 * 6)))) 3 (some (A (6 * 3)))))))))) := hD
  refine lv_aload_n hx hb dX1_dropOldest_41 rfl (lv_at hl 2 rfl) ?_
  refine lv_iconst (v := 3) hx hb dX1_dropOldest_42 (by decide) ?_
  refine va_put (D := G.1) (ci := 1) (v := .int 3) (ty := .int) (C := RX1) (T := TX1) (N := 2) hx hb hts hinX1 tyX1 tyX1_ok nmX1 hown hK.1 hP hD hS 43 rfl rfl 1 (by decide) (hts (.fieldLink RX1 18 "WireLoops$History" "states" "I") (List.mem_of_getElem? (i := 2) rfl)) (fun _ h9 => h9) rfl (by decide +kernel) rfl rfl (Nat.le_of_ble_eq_true rfl) dX1_dropOldest_43 (fun H locs hP hD hS => ?_)
  have hP : va_P G.1 vwCl ((wX G A (su S 7 0 (upd (S 7 0) 1 3)) 0).set 44 (A 44, .inl (G.2.2.2, 4, .inr (.inr (.inr (.inr (va_up (va_up (va_up (va_up (kfX A 0) 0 (some (A (6 * 4)))) 1 (some (A (6 * 5)))) 2 (some (A (6 * 6)))) 3 (some (A (6 * 3)))))))))) H := hP
  have hD : va_D A0 ((wX G A (su S 7 0 (upd (S 7 0) 1 3)) 0).set 44 (A 44, .inl (G.2.2.2, 4, .inr (.inr (.inr (.inr (va_up (va_up (va_up (va_up (kfX A 0) 0 (some (A (6 * 4)))) 1 (some (A (6 * 5)))) 2 (some (A (6 * 6)))) 3 (some (A (6 * 3)))))))))) := hD
  have hP : va_P G.1 vwCl (wX G A (su S 7 0 (upd (S 7 0) 1 3)) 1) H := wX_kept hP (by intro k hk; rcases (show k = 0 ∨ k = 1 ∨ k = 2 ∨ k = 3 by omega) with rfl | rfl | rfl | rfl <;> rfl)
  have hD : va_D A0 (wX G A (su S 7 0 (upd (S 7 0) 1 3)) 1) := wX_keptD hD
  exact endZ hx hb hr hlocks hP hD hS rfl dX1_dropOldest_46
def f_X1_dropOldest_1 (S : XS) : XS := su S 7 0 (upd (S 7 0) 1 3)
theorem e_X1_dropOldest_1 (S : XS) : f_X1_dropOldest_1 S = su S 7 0 (upd (S 7 0) 1 3) := rfl
set_option maxHeartbeats 4000000 in
set_option maxRecDepth 100000 in
theorem c_X1_dropOldest_1 (l : Launch) (G : GG) (A : Nat → Nat) (S : XS)  : Mz l yX1_dropOldest wsX1_dropOldest ({ frames := 0, cells := 0, slots := 0, locals := 0 } : Room) G [.ref (A 43)] (wX G A S 1) (wX G A (f_X1_dropOldest_1 S) 2) := by
  refine Mz.of (cc := cX1_dropOldest) (maxL := 3) (ret := none) (by decide) rfl (Nat.le_of_ble_eq_true rfl) ?_
  intro p e s m args below meth c A0 hA0 E hr hlocks hP hK hD hA hS ls hl
  have E : CallFix p m c cX1_dropOldest 3 s args wsX1_dropOldest RX1 := E
  have hx := E.1
  have hb := E.2.1
  have hml := E.2.2.1
  have hown := E.2.2.2.1
  have hts := E.2.2.2.2
  have hl : lv_has ls 3 [(0, .ref (A 43))] := hl
  have hinX1 : ∀ w ∈ u_ws RX1 TX1 2, w ∈ wsX1_dropOldest := fun _ h => List.mem_cons_of_mem _ (List.mem_append_right _ h)
  refine lv_aload_n hx hb dX1_dropOldest_0 rfl (lv_at hl 0 rfl) ?_
  refine va_get (D := G.1) (ci := 1) (v := .ref (A 44)) (C := RX1) (T := TX1) (N := 2) hx hb hts hinX1 hown hK.1 hP 43 (wX_43 G A S 1) rfl 0 (by decide) (hts (.fieldLink RX1 11 "WireLoops$History" "kept" "[LWireLoops$Chip;") (List.mem_of_getElem? (i := 1) rfl)) (fun _ h9 => h9) rfl dX1_dropOldest_1 ?_
  refine lv_iconst (v := 0) hx hb dX1_dropOldest_4 (by decide) ?_
  refine va_aldq (D := G.1) (C := "WireLoops$Chip") (f := (kfX A 1)) hx hb hK.1 hP 44 2 (wX_44 G A S 1) rfl (vp_in_nI (n := 0) (by decide) (by decide)) dX1_dropOldest_5 ?_
  refine W.eq (g2 := F0 m 6 ls [.ref (A (6 * 4))]) rfl ?_
  refine lv_astore_n (lv' := [(1, .ref (A (6 * 4))), (0, .ref (A 43))]) hx hb dX1_dropOldest_6 rfl hl (by decide) rfl (fun ls hl => ?_)
  refine lv_iconst (v := 1) hx hb dX1_dropOldest_7 (by decide) ?_
  refine lv_istore_n (lv' := [(2, .int 1), (1, .ref (A (6 * 4))), (0, .ref (A 43))]) hx hb dX1_dropOldest_8 rfl hl (by decide) rfl (fun ls hl => ?_)
  refine lv_iload_n hx hb dX1_dropOldest_9 rfl (lv_at hl 0 rfl) ?_
  refine lv_iconst (v := 4) hx hb dX1_dropOldest_10 (by decide) ?_
  refine lv_icmp_ge (tgt := 34) hx hb dX1_dropOldest_11 (by decide) (fun c1 => absurd c1 (by decide)) (fun c1 => ?_)
  refine lv_aload_n hx hb dX1_dropOldest_14 rfl (lv_at hl 2 rfl) ?_
  refine va_get (D := G.1) (ci := 1) (v := .ref (A 44)) (C := RX1) (T := TX1) (N := 2) hx hb hts hinX1 hown hK.1 hP 43 (wX_43 G A S 1) rfl 0 (by decide) (hts (.fieldLink RX1 11 "WireLoops$History" "kept" "[LWireLoops$Chip;") (List.mem_of_getElem? (i := 1) rfl)) (fun _ h9 => h9) rfl dX1_dropOldest_15 ?_
  refine lv_iload_n hx hb dX1_dropOldest_18 rfl (lv_at hl 0 rfl) ?_
  refine lv_iconst (v := 1) hx hb dX1_dropOldest_19 (by decide) ?_
  refine lv_isub hx hb dX1_dropOldest_20 ?_
  refine W.eq (g2 := F0 m 21 ls [.int 0, .ref (A 44)]) (by rw [show (1 - 1) = (0 : Int32) from by decide] <;> rfl) ?_
  refine lv_aload_n hx hb dX1_dropOldest_21 rfl (lv_at hl 2 rfl) ?_
  refine va_get (D := G.1) (ci := 1) (v := .ref (A 44)) (C := RX1) (T := TX1) (N := 2) hx hb hts hinX1 hown hK.1 hP 43 (wX_43 G A S 1) rfl 0 (by decide) (hts (.fieldLink RX1 11 "WireLoops$History" "kept" "[LWireLoops$Chip;") (List.mem_of_getElem? (i := 1) rfl)) (fun _ h9 => h9) rfl dX1_dropOldest_22 ?_
  refine lv_iload_n hx hb dX1_dropOldest_25 rfl (lv_at hl 0 rfl) ?_
  refine va_aldq (D := G.1) (C := "WireLoops$Chip") (f := (kfX A 1)) hx hb hK.1 hP 44 2 (wX_44 G A S 1) rfl (vp_in_nI (n := 1) (by decide) (by decide)) dX1_dropOldest_26 ?_
  refine W.eq (g2 := F0 m 27 ls [.ref (A (6 * 5)), .int 0, .ref (A 44)]) rfl ?_
  refine va_astq (D := G.1) (r := (RX0, TX0, 12)) (f := (kfX A 1)) hx hb hK.1 hP hD hS 44 2 (6 * 5) 0 rfl rfl (show (wX G A S 1)[6 * 5]? = some (A (6 * 5), .inr (0, chF A S 5)) from rfl) rfl (vp_in_nI (n := 0) (by decide) (by decide)) dX1_dropOldest_27 (fun H locs hP hD hS => ?_)
  have hP : va_P G.1 vwCl ((wX G A S 1).set 44 (A 44, .inl (G.2.2.2, 4, .inr (.inr (.inr (.inr (va_up (kfX A 1) 0 (some (A (6 * 5)))))))))) H := hP
  have hD : va_D A0 ((wX G A S 1).set 44 (A 44, .inl (G.2.2.2, 4, .inr (.inr (.inr (.inr (va_up (kfX A 1) 0 (some (A (6 * 5)))))))))) := hD
  refine lv_iinc (v := 2) (lv' := [(2, .int 2), (1, .ref (A (6 * 4))), (0, .ref (A 43))]) hx hb dX1_dropOldest_28 hl (k := 0) rfl (by decide) (by decide) rfl (fun ls hl => ?_)
  refine lv_goto (tgt := 9) hx hb dX1_dropOldest_31 (by decide) ?_
  refine lv_iload_n hx hb dX1_dropOldest_9 rfl (lv_at hl 0 rfl) ?_
  refine lv_iconst (v := 4) hx hb dX1_dropOldest_10 (by decide) ?_
  refine lv_icmp_ge (tgt := 34) hx hb dX1_dropOldest_11 (by decide) (fun c2 => absurd c2 (by decide)) (fun c2 => ?_)
  refine lv_aload_n hx hb dX1_dropOldest_14 rfl (lv_at hl 2 rfl) ?_
  refine va_get (D := G.1) (ci := 1) (v := .ref (A 44)) (C := RX1) (T := TX1) (N := 2) hx hb hts hinX1 hown hK.1 hP 43 rfl rfl 0 (by decide) (hts (.fieldLink RX1 11 "WireLoops$History" "kept" "[LWireLoops$Chip;") (List.mem_of_getElem? (i := 1) rfl)) (fun _ h9 => h9) rfl dX1_dropOldest_15 ?_
  refine lv_iload_n hx hb dX1_dropOldest_18 rfl (lv_at hl 0 rfl) ?_
  refine lv_iconst (v := 1) hx hb dX1_dropOldest_19 (by decide) ?_
  refine lv_isub hx hb dX1_dropOldest_20 ?_
  refine W.eq (g2 := F0 m 21 ls [.int 1, .ref (A 44)]) (by rw [show (2 - 1) = (1 : Int32) from by decide] <;> rfl) ?_
  refine lv_aload_n hx hb dX1_dropOldest_21 rfl (lv_at hl 2 rfl) ?_
  refine va_get (D := G.1) (ci := 1) (v := .ref (A 44)) (C := RX1) (T := TX1) (N := 2) hx hb hts hinX1 hown hK.1 hP 43 rfl rfl 0 (by decide) (hts (.fieldLink RX1 11 "WireLoops$History" "kept" "[LWireLoops$Chip;") (List.mem_of_getElem? (i := 1) rfl)) (fun _ h9 => h9) rfl dX1_dropOldest_22 ?_
  refine lv_iload_n hx hb dX1_dropOldest_25 rfl (lv_at hl 0 rfl) ?_
  refine va_aldq (D := G.1) (C := "WireLoops$Chip") (f := (va_up (kfX A 1) 0 (some (A (6 * 5))))) hx hb hK.1 hP 44 2 rfl rfl (vp_in_nI (n := 2) (by decide) (by decide)) dX1_dropOldest_26 ?_
  refine W.eq (g2 := F0 m 27 ls [.ref (A (6 * 6)), .int 1, .ref (A 44)]) rfl ?_
  refine va_astq (D := G.1) (r := (RX0, TX0, 12)) (f := (va_up (kfX A 1) 0 (some (A (6 * 5))))) hx hb hK.1 hP hD hS 44 2 (6 * 6) 0 rfl rfl (show ((wX G A S 1).set 44 (A 44, .inl (G.2.2.2, 4, .inr (.inr (.inr (.inr (va_up (kfX A 1) 0 (some (A (6 * 5))))))))))[6 * 6]? = some (A (6 * 6), .inr (0, chF A S 6)) from rfl) rfl (vp_in_nI (n := 1) (by decide) (by decide)) dX1_dropOldest_27 (fun H locs hP hD hS => ?_)
  have hP : va_P G.1 vwCl ((wX G A S 1).set 44 (A 44, .inl (G.2.2.2, 4, .inr (.inr (.inr (.inr (va_up (va_up (kfX A 1) 0 (some (A (6 * 5)))) 1 (some (A (6 * 6)))))))))) H := hP
  have hD : va_D A0 ((wX G A S 1).set 44 (A 44, .inl (G.2.2.2, 4, .inr (.inr (.inr (.inr (va_up (va_up (kfX A 1) 0 (some (A (6 * 5)))) 1 (some (A (6 * 6)))))))))) := hD
  refine lv_iinc (v := 3) (lv' := [(2, .int 3), (1, .ref (A (6 * 4))), (0, .ref (A 43))]) hx hb dX1_dropOldest_28 hl (k := 0) rfl (by decide) (by decide) rfl (fun ls hl => ?_)
  refine lv_goto (tgt := 9) hx hb dX1_dropOldest_31 (by decide) ?_
  refine lv_iload_n hx hb dX1_dropOldest_9 rfl (lv_at hl 0 rfl) ?_
  refine lv_iconst (v := 4) hx hb dX1_dropOldest_10 (by decide) ?_
  refine lv_icmp_ge (tgt := 34) hx hb dX1_dropOldest_11 (by decide) (fun c3 => absurd c3 (by decide)) (fun c3 => ?_)
  refine lv_aload_n hx hb dX1_dropOldest_14 rfl (lv_at hl 2 rfl) ?_
  refine va_get (D := G.1) (ci := 1) (v := .ref (A 44)) (C := RX1) (T := TX1) (N := 2) hx hb hts hinX1 hown hK.1 hP 43 rfl rfl 0 (by decide) (hts (.fieldLink RX1 11 "WireLoops$History" "kept" "[LWireLoops$Chip;") (List.mem_of_getElem? (i := 1) rfl)) (fun _ h9 => h9) rfl dX1_dropOldest_15 ?_
  refine lv_iload_n hx hb dX1_dropOldest_18 rfl (lv_at hl 0 rfl) ?_
  refine lv_iconst (v := 1) hx hb dX1_dropOldest_19 (by decide) ?_
  refine lv_isub hx hb dX1_dropOldest_20 ?_
  refine W.eq (g2 := F0 m 21 ls [.int 2, .ref (A 44)]) (by rw [show (3 - 1) = (2 : Int32) from by decide] <;> rfl) ?_
  refine lv_aload_n hx hb dX1_dropOldest_21 rfl (lv_at hl 2 rfl) ?_
  refine va_get (D := G.1) (ci := 1) (v := .ref (A 44)) (C := RX1) (T := TX1) (N := 2) hx hb hts hinX1 hown hK.1 hP 43 rfl rfl 0 (by decide) (hts (.fieldLink RX1 11 "WireLoops$History" "kept" "[LWireLoops$Chip;") (List.mem_of_getElem? (i := 1) rfl)) (fun _ h9 => h9) rfl dX1_dropOldest_22 ?_
  refine lv_iload_n hx hb dX1_dropOldest_25 rfl (lv_at hl 0 rfl) ?_
  refine va_aldq (D := G.1) (C := "WireLoops$Chip") (f := (va_up (va_up (kfX A 1) 0 (some (A (6 * 5)))) 1 (some (A (6 * 6))))) hx hb hK.1 hP 44 2 rfl rfl (vp_in_nI (n := 3) (by decide) (by decide)) dX1_dropOldest_26 ?_
  refine W.eq (g2 := F0 m 27 ls [.ref (A (6 * 3)), .int 2, .ref (A 44)]) rfl ?_
  refine va_astq (D := G.1) (r := (RX0, TX0, 12)) (f := (va_up (va_up (kfX A 1) 0 (some (A (6 * 5)))) 1 (some (A (6 * 6))))) hx hb hK.1 hP hD hS 44 2 (6 * 3) 0 rfl rfl (show ((wX G A S 1).set 44 (A 44, .inl (G.2.2.2, 4, .inr (.inr (.inr (.inr (va_up (va_up (kfX A 1) 0 (some (A (6 * 5)))) 1 (some (A (6 * 6))))))))))[6 * 3]? = some (A (6 * 3), .inr (0, chF A S 3)) from rfl) rfl (vp_in_nI (n := 2) (by decide) (by decide)) dX1_dropOldest_27 (fun H locs hP hD hS => ?_)
  have hP : va_P G.1 vwCl ((wX G A S 1).set 44 (A 44, .inl (G.2.2.2, 4, .inr (.inr (.inr (.inr (va_up (va_up (va_up (kfX A 1) 0 (some (A (6 * 5)))) 1 (some (A (6 * 6)))) 2 (some (A (6 * 3)))))))))) H := hP
  have hD : va_D A0 ((wX G A S 1).set 44 (A 44, .inl (G.2.2.2, 4, .inr (.inr (.inr (.inr (va_up (va_up (va_up (kfX A 1) 0 (some (A (6 * 5)))) 1 (some (A (6 * 6)))) 2 (some (A (6 * 3)))))))))) := hD
  refine lv_iinc (v := 4) (lv' := [(2, .int 4), (1, .ref (A (6 * 4))), (0, .ref (A 43))]) hx hb dX1_dropOldest_28 hl (k := 0) rfl (by decide) (by decide) rfl (fun ls hl => ?_)
  refine lv_goto (tgt := 9) hx hb dX1_dropOldest_31 (by decide) ?_
  refine lv_iload_n hx hb dX1_dropOldest_9 rfl (lv_at hl 0 rfl) ?_
  refine lv_iconst (v := 4) hx hb dX1_dropOldest_10 (by decide) ?_
  refine lv_icmp_ge (tgt := 34) hx hb dX1_dropOldest_11 (by decide) (fun c4 => ?_) (fun c4 => absurd (by decide) c4)
  refine lv_aload_n hx hb dX1_dropOldest_34 rfl (lv_at hl 2 rfl) ?_
  refine va_get (D := G.1) (ci := 1) (v := .ref (A 44)) (C := RX1) (T := TX1) (N := 2) hx hb hts hinX1 hown hK.1 hP 43 rfl rfl 0 (by decide) (hts (.fieldLink RX1 11 "WireLoops$History" "kept" "[LWireLoops$Chip;") (List.mem_of_getElem? (i := 1) rfl)) (fun _ h9 => h9) rfl dX1_dropOldest_35 ?_
  refine lv_iconst (v := 3) hx hb dX1_dropOldest_38 (by decide) ?_
  refine lv_aload_n hx hb dX1_dropOldest_39 rfl (lv_at hl 1 rfl) ?_
  refine va_astq (D := G.1) (r := (RX0, TX0, 12)) (f := (va_up (va_up (va_up (kfX A 1) 0 (some (A (6 * 5)))) 1 (some (A (6 * 6)))) 2 (some (A (6 * 3))))) hx hb hK.1 hP hD hS 44 2 (6 * 4) 0 rfl rfl (show ((wX G A S 1).set 44 (A 44, .inl (G.2.2.2, 4, .inr (.inr (.inr (.inr (va_up (va_up (va_up (kfX A 1) 0 (some (A (6 * 5)))) 1 (some (A (6 * 6)))) 2 (some (A (6 * 3))))))))))[6 * 4]? = some (A (6 * 4), .inr (0, chF A S 4)) from rfl) rfl (vp_in_nI (n := 3) (by decide) (by decide)) dX1_dropOldest_40 (fun H locs hP hD hS => ?_)
  have hP : va_P G.1 vwCl ((wX G A S 1).set 44 (A 44, .inl (G.2.2.2, 4, .inr (.inr (.inr (.inr (va_up (va_up (va_up (va_up (kfX A 1) 0 (some (A (6 * 5)))) 1 (some (A (6 * 6)))) 2 (some (A (6 * 3)))) 3 (some (A (6 * 4)))))))))) H := hP
  have hD : va_D A0 ((wX G A S 1).set 44 (A 44, .inl (G.2.2.2, 4, .inr (.inr (.inr (.inr (va_up (va_up (va_up (va_up (kfX A 1) 0 (some (A (6 * 5)))) 1 (some (A (6 * 6)))) 2 (some (A (6 * 3)))) 3 (some (A (6 * 4)))))))))) := hD
  refine lv_aload_n hx hb dX1_dropOldest_41 rfl (lv_at hl 2 rfl) ?_
  refine lv_iconst (v := 3) hx hb dX1_dropOldest_42 (by decide) ?_
  refine va_put (D := G.1) (ci := 1) (v := .int 3) (ty := .int) (C := RX1) (T := TX1) (N := 2) hx hb hts hinX1 tyX1 tyX1_ok nmX1 hown hK.1 hP hD hS 43 rfl rfl 1 (by decide) (hts (.fieldLink RX1 18 "WireLoops$History" "states" "I") (List.mem_of_getElem? (i := 2) rfl)) (fun _ h9 => h9) rfl (by decide +kernel) rfl rfl (Nat.le_of_ble_eq_true rfl) dX1_dropOldest_43 (fun H locs hP hD hS => ?_)
  have hP : va_P G.1 vwCl ((wX G A (su S 7 0 (upd (S 7 0) 1 3)) 1).set 44 (A 44, .inl (G.2.2.2, 4, .inr (.inr (.inr (.inr (va_up (va_up (va_up (va_up (kfX A 1) 0 (some (A (6 * 5)))) 1 (some (A (6 * 6)))) 2 (some (A (6 * 3)))) 3 (some (A (6 * 4)))))))))) H := hP
  have hD : va_D A0 ((wX G A (su S 7 0 (upd (S 7 0) 1 3)) 1).set 44 (A 44, .inl (G.2.2.2, 4, .inr (.inr (.inr (.inr (va_up (va_up (va_up (va_up (kfX A 1) 0 (some (A (6 * 5)))) 1 (some (A (6 * 6)))) 2 (some (A (6 * 3)))) 3 (some (A (6 * 4)))))))))) := hD
  have hP : va_P G.1 vwCl (wX G A (su S 7 0 (upd (S 7 0) 1 3)) 2) H := wX_kept hP (by intro k hk; rcases (show k = 0 ∨ k = 1 ∨ k = 2 ∨ k = 3 by omega) with rfl | rfl | rfl | rfl <;> rfl)
  have hD : va_D A0 (wX G A (su S 7 0 (upd (S 7 0) 1 3)) 2) := wX_keptD hD
  exact endZ hx hb hr hlocks hP hD hS rfl dX1_dropOldest_46
def f_X1_dropOldest_2 (S : XS) : XS := su S 7 0 (upd (S 7 0) 1 3)
theorem e_X1_dropOldest_2 (S : XS) : f_X1_dropOldest_2 S = su S 7 0 (upd (S 7 0) 1 3) := rfl
set_option maxHeartbeats 4000000 in
set_option maxRecDepth 100000 in
theorem c_X1_dropOldest_2 (l : Launch) (G : GG) (A : Nat → Nat) (S : XS)  : Mz l yX1_dropOldest wsX1_dropOldest ({ frames := 0, cells := 0, slots := 0, locals := 0 } : Room) G [.ref (A 43)] (wX G A S 2) (wX G A (f_X1_dropOldest_2 S) 3) := by
  refine Mz.of (cc := cX1_dropOldest) (maxL := 3) (ret := none) (by decide) rfl (Nat.le_of_ble_eq_true rfl) ?_
  intro p e s m args below meth c A0 hA0 E hr hlocks hP hK hD hA hS ls hl
  have E : CallFix p m c cX1_dropOldest 3 s args wsX1_dropOldest RX1 := E
  have hx := E.1
  have hb := E.2.1
  have hml := E.2.2.1
  have hown := E.2.2.2.1
  have hts := E.2.2.2.2
  have hl : lv_has ls 3 [(0, .ref (A 43))] := hl
  have hinX1 : ∀ w ∈ u_ws RX1 TX1 2, w ∈ wsX1_dropOldest := fun _ h => List.mem_cons_of_mem _ (List.mem_append_right _ h)
  refine lv_aload_n hx hb dX1_dropOldest_0 rfl (lv_at hl 0 rfl) ?_
  refine va_get (D := G.1) (ci := 1) (v := .ref (A 44)) (C := RX1) (T := TX1) (N := 2) hx hb hts hinX1 hown hK.1 hP 43 (wX_43 G A S 2) rfl 0 (by decide) (hts (.fieldLink RX1 11 "WireLoops$History" "kept" "[LWireLoops$Chip;") (List.mem_of_getElem? (i := 1) rfl)) (fun _ h9 => h9) rfl dX1_dropOldest_1 ?_
  refine lv_iconst (v := 0) hx hb dX1_dropOldest_4 (by decide) ?_
  refine va_aldq (D := G.1) (C := "WireLoops$Chip") (f := (kfX A 2)) hx hb hK.1 hP 44 2 (wX_44 G A S 2) rfl (vp_in_nI (n := 0) (by decide) (by decide)) dX1_dropOldest_5 ?_
  refine W.eq (g2 := F0 m 6 ls [.ref (A (6 * 5))]) rfl ?_
  refine lv_astore_n (lv' := [(1, .ref (A (6 * 5))), (0, .ref (A 43))]) hx hb dX1_dropOldest_6 rfl hl (by decide) rfl (fun ls hl => ?_)
  refine lv_iconst (v := 1) hx hb dX1_dropOldest_7 (by decide) ?_
  refine lv_istore_n (lv' := [(2, .int 1), (1, .ref (A (6 * 5))), (0, .ref (A 43))]) hx hb dX1_dropOldest_8 rfl hl (by decide) rfl (fun ls hl => ?_)
  refine lv_iload_n hx hb dX1_dropOldest_9 rfl (lv_at hl 0 rfl) ?_
  refine lv_iconst (v := 4) hx hb dX1_dropOldest_10 (by decide) ?_
  refine lv_icmp_ge (tgt := 34) hx hb dX1_dropOldest_11 (by decide) (fun c1 => absurd c1 (by decide)) (fun c1 => ?_)
  refine lv_aload_n hx hb dX1_dropOldest_14 rfl (lv_at hl 2 rfl) ?_
  refine va_get (D := G.1) (ci := 1) (v := .ref (A 44)) (C := RX1) (T := TX1) (N := 2) hx hb hts hinX1 hown hK.1 hP 43 (wX_43 G A S 2) rfl 0 (by decide) (hts (.fieldLink RX1 11 "WireLoops$History" "kept" "[LWireLoops$Chip;") (List.mem_of_getElem? (i := 1) rfl)) (fun _ h9 => h9) rfl dX1_dropOldest_15 ?_
  refine lv_iload_n hx hb dX1_dropOldest_18 rfl (lv_at hl 0 rfl) ?_
  refine lv_iconst (v := 1) hx hb dX1_dropOldest_19 (by decide) ?_
  refine lv_isub hx hb dX1_dropOldest_20 ?_
  refine W.eq (g2 := F0 m 21 ls [.int 0, .ref (A 44)]) (by rw [show (1 - 1) = (0 : Int32) from by decide] <;> rfl) ?_
  refine lv_aload_n hx hb dX1_dropOldest_21 rfl (lv_at hl 2 rfl) ?_
  refine va_get (D := G.1) (ci := 1) (v := .ref (A 44)) (C := RX1) (T := TX1) (N := 2) hx hb hts hinX1 hown hK.1 hP 43 (wX_43 G A S 2) rfl 0 (by decide) (hts (.fieldLink RX1 11 "WireLoops$History" "kept" "[LWireLoops$Chip;") (List.mem_of_getElem? (i := 1) rfl)) (fun _ h9 => h9) rfl dX1_dropOldest_22 ?_
  refine lv_iload_n hx hb dX1_dropOldest_25 rfl (lv_at hl 0 rfl) ?_
  refine va_aldq (D := G.1) (C := "WireLoops$Chip") (f := (kfX A 2)) hx hb hK.1 hP 44 2 (wX_44 G A S 2) rfl (vp_in_nI (n := 1) (by decide) (by decide)) dX1_dropOldest_26 ?_
  refine W.eq (g2 := F0 m 27 ls [.ref (A (6 * 6)), .int 0, .ref (A 44)]) rfl ?_
  refine va_astq (D := G.1) (r := (RX0, TX0, 12)) (f := (kfX A 2)) hx hb hK.1 hP hD hS 44 2 (6 * 6) 0 rfl rfl (show (wX G A S 2)[6 * 6]? = some (A (6 * 6), .inr (0, chF A S 6)) from rfl) rfl (vp_in_nI (n := 0) (by decide) (by decide)) dX1_dropOldest_27 (fun H locs hP hD hS => ?_)
  have hP : va_P G.1 vwCl ((wX G A S 2).set 44 (A 44, .inl (G.2.2.2, 4, .inr (.inr (.inr (.inr (va_up (kfX A 2) 0 (some (A (6 * 6)))))))))) H := hP
  have hD : va_D A0 ((wX G A S 2).set 44 (A 44, .inl (G.2.2.2, 4, .inr (.inr (.inr (.inr (va_up (kfX A 2) 0 (some (A (6 * 6)))))))))) := hD
  refine lv_iinc (v := 2) (lv' := [(2, .int 2), (1, .ref (A (6 * 5))), (0, .ref (A 43))]) hx hb dX1_dropOldest_28 hl (k := 0) rfl (by decide) (by decide) rfl (fun ls hl => ?_)
  refine lv_goto (tgt := 9) hx hb dX1_dropOldest_31 (by decide) ?_
  refine lv_iload_n hx hb dX1_dropOldest_9 rfl (lv_at hl 0 rfl) ?_
  refine lv_iconst (v := 4) hx hb dX1_dropOldest_10 (by decide) ?_
  refine lv_icmp_ge (tgt := 34) hx hb dX1_dropOldest_11 (by decide) (fun c2 => absurd c2 (by decide)) (fun c2 => ?_)
  refine lv_aload_n hx hb dX1_dropOldest_14 rfl (lv_at hl 2 rfl) ?_
  refine va_get (D := G.1) (ci := 1) (v := .ref (A 44)) (C := RX1) (T := TX1) (N := 2) hx hb hts hinX1 hown hK.1 hP 43 rfl rfl 0 (by decide) (hts (.fieldLink RX1 11 "WireLoops$History" "kept" "[LWireLoops$Chip;") (List.mem_of_getElem? (i := 1) rfl)) (fun _ h9 => h9) rfl dX1_dropOldest_15 ?_
  refine lv_iload_n hx hb dX1_dropOldest_18 rfl (lv_at hl 0 rfl) ?_
  refine lv_iconst (v := 1) hx hb dX1_dropOldest_19 (by decide) ?_
  refine lv_isub hx hb dX1_dropOldest_20 ?_
  refine W.eq (g2 := F0 m 21 ls [.int 1, .ref (A 44)]) (by rw [show (2 - 1) = (1 : Int32) from by decide] <;> rfl) ?_
  refine lv_aload_n hx hb dX1_dropOldest_21 rfl (lv_at hl 2 rfl) ?_
  refine va_get (D := G.1) (ci := 1) (v := .ref (A 44)) (C := RX1) (T := TX1) (N := 2) hx hb hts hinX1 hown hK.1 hP 43 rfl rfl 0 (by decide) (hts (.fieldLink RX1 11 "WireLoops$History" "kept" "[LWireLoops$Chip;") (List.mem_of_getElem? (i := 1) rfl)) (fun _ h9 => h9) rfl dX1_dropOldest_22 ?_
  refine lv_iload_n hx hb dX1_dropOldest_25 rfl (lv_at hl 0 rfl) ?_
  refine va_aldq (D := G.1) (C := "WireLoops$Chip") (f := (va_up (kfX A 2) 0 (some (A (6 * 6))))) hx hb hK.1 hP 44 2 rfl rfl (vp_in_nI (n := 2) (by decide) (by decide)) dX1_dropOldest_26 ?_
  refine W.eq (g2 := F0 m 27 ls [.ref (A (6 * 3)), .int 1, .ref (A 44)]) rfl ?_
  refine va_astq (D := G.1) (r := (RX0, TX0, 12)) (f := (va_up (kfX A 2) 0 (some (A (6 * 6))))) hx hb hK.1 hP hD hS 44 2 (6 * 3) 0 rfl rfl (show ((wX G A S 2).set 44 (A 44, .inl (G.2.2.2, 4, .inr (.inr (.inr (.inr (va_up (kfX A 2) 0 (some (A (6 * 6))))))))))[6 * 3]? = some (A (6 * 3), .inr (0, chF A S 3)) from rfl) rfl (vp_in_nI (n := 1) (by decide) (by decide)) dX1_dropOldest_27 (fun H locs hP hD hS => ?_)
  have hP : va_P G.1 vwCl ((wX G A S 2).set 44 (A 44, .inl (G.2.2.2, 4, .inr (.inr (.inr (.inr (va_up (va_up (kfX A 2) 0 (some (A (6 * 6)))) 1 (some (A (6 * 3)))))))))) H := hP
  have hD : va_D A0 ((wX G A S 2).set 44 (A 44, .inl (G.2.2.2, 4, .inr (.inr (.inr (.inr (va_up (va_up (kfX A 2) 0 (some (A (6 * 6)))) 1 (some (A (6 * 3)))))))))) := hD
  refine lv_iinc (v := 3) (lv' := [(2, .int 3), (1, .ref (A (6 * 5))), (0, .ref (A 43))]) hx hb dX1_dropOldest_28 hl (k := 0) rfl (by decide) (by decide) rfl (fun ls hl => ?_)
  refine lv_goto (tgt := 9) hx hb dX1_dropOldest_31 (by decide) ?_
  refine lv_iload_n hx hb dX1_dropOldest_9 rfl (lv_at hl 0 rfl) ?_
  refine lv_iconst (v := 4) hx hb dX1_dropOldest_10 (by decide) ?_
  refine lv_icmp_ge (tgt := 34) hx hb dX1_dropOldest_11 (by decide) (fun c3 => absurd c3 (by decide)) (fun c3 => ?_)
  refine lv_aload_n hx hb dX1_dropOldest_14 rfl (lv_at hl 2 rfl) ?_
  refine va_get (D := G.1) (ci := 1) (v := .ref (A 44)) (C := RX1) (T := TX1) (N := 2) hx hb hts hinX1 hown hK.1 hP 43 rfl rfl 0 (by decide) (hts (.fieldLink RX1 11 "WireLoops$History" "kept" "[LWireLoops$Chip;") (List.mem_of_getElem? (i := 1) rfl)) (fun _ h9 => h9) rfl dX1_dropOldest_15 ?_
  refine lv_iload_n hx hb dX1_dropOldest_18 rfl (lv_at hl 0 rfl) ?_
  refine lv_iconst (v := 1) hx hb dX1_dropOldest_19 (by decide) ?_
  refine lv_isub hx hb dX1_dropOldest_20 ?_
  refine W.eq (g2 := F0 m 21 ls [.int 2, .ref (A 44)]) (by rw [show (3 - 1) = (2 : Int32) from by decide] <;> rfl) ?_
  refine lv_aload_n hx hb dX1_dropOldest_21 rfl (lv_at hl 2 rfl) ?_
  refine va_get (D := G.1) (ci := 1) (v := .ref (A 44)) (C := RX1) (T := TX1) (N := 2) hx hb hts hinX1 hown hK.1 hP 43 rfl rfl 0 (by decide) (hts (.fieldLink RX1 11 "WireLoops$History" "kept" "[LWireLoops$Chip;") (List.mem_of_getElem? (i := 1) rfl)) (fun _ h9 => h9) rfl dX1_dropOldest_22 ?_
  refine lv_iload_n hx hb dX1_dropOldest_25 rfl (lv_at hl 0 rfl) ?_
  refine va_aldq (D := G.1) (C := "WireLoops$Chip") (f := (va_up (va_up (kfX A 2) 0 (some (A (6 * 6)))) 1 (some (A (6 * 3))))) hx hb hK.1 hP 44 2 rfl rfl (vp_in_nI (n := 3) (by decide) (by decide)) dX1_dropOldest_26 ?_
  refine W.eq (g2 := F0 m 27 ls [.ref (A (6 * 4)), .int 2, .ref (A 44)]) rfl ?_
  refine va_astq (D := G.1) (r := (RX0, TX0, 12)) (f := (va_up (va_up (kfX A 2) 0 (some (A (6 * 6)))) 1 (some (A (6 * 3))))) hx hb hK.1 hP hD hS 44 2 (6 * 4) 0 rfl rfl (show ((wX G A S 2).set 44 (A 44, .inl (G.2.2.2, 4, .inr (.inr (.inr (.inr (va_up (va_up (kfX A 2) 0 (some (A (6 * 6)))) 1 (some (A (6 * 3))))))))))[6 * 4]? = some (A (6 * 4), .inr (0, chF A S 4)) from rfl) rfl (vp_in_nI (n := 2) (by decide) (by decide)) dX1_dropOldest_27 (fun H locs hP hD hS => ?_)
  have hP : va_P G.1 vwCl ((wX G A S 2).set 44 (A 44, .inl (G.2.2.2, 4, .inr (.inr (.inr (.inr (va_up (va_up (va_up (kfX A 2) 0 (some (A (6 * 6)))) 1 (some (A (6 * 3)))) 2 (some (A (6 * 4)))))))))) H := hP
  have hD : va_D A0 ((wX G A S 2).set 44 (A 44, .inl (G.2.2.2, 4, .inr (.inr (.inr (.inr (va_up (va_up (va_up (kfX A 2) 0 (some (A (6 * 6)))) 1 (some (A (6 * 3)))) 2 (some (A (6 * 4)))))))))) := hD
  refine lv_iinc (v := 4) (lv' := [(2, .int 4), (1, .ref (A (6 * 5))), (0, .ref (A 43))]) hx hb dX1_dropOldest_28 hl (k := 0) rfl (by decide) (by decide) rfl (fun ls hl => ?_)
  refine lv_goto (tgt := 9) hx hb dX1_dropOldest_31 (by decide) ?_
  refine lv_iload_n hx hb dX1_dropOldest_9 rfl (lv_at hl 0 rfl) ?_
  refine lv_iconst (v := 4) hx hb dX1_dropOldest_10 (by decide) ?_
  refine lv_icmp_ge (tgt := 34) hx hb dX1_dropOldest_11 (by decide) (fun c4 => ?_) (fun c4 => absurd (by decide) c4)
  refine lv_aload_n hx hb dX1_dropOldest_34 rfl (lv_at hl 2 rfl) ?_
  refine va_get (D := G.1) (ci := 1) (v := .ref (A 44)) (C := RX1) (T := TX1) (N := 2) hx hb hts hinX1 hown hK.1 hP 43 rfl rfl 0 (by decide) (hts (.fieldLink RX1 11 "WireLoops$History" "kept" "[LWireLoops$Chip;") (List.mem_of_getElem? (i := 1) rfl)) (fun _ h9 => h9) rfl dX1_dropOldest_35 ?_
  refine lv_iconst (v := 3) hx hb dX1_dropOldest_38 (by decide) ?_
  refine lv_aload_n hx hb dX1_dropOldest_39 rfl (lv_at hl 1 rfl) ?_
  refine va_astq (D := G.1) (r := (RX0, TX0, 12)) (f := (va_up (va_up (va_up (kfX A 2) 0 (some (A (6 * 6)))) 1 (some (A (6 * 3)))) 2 (some (A (6 * 4))))) hx hb hK.1 hP hD hS 44 2 (6 * 5) 0 rfl rfl (show ((wX G A S 2).set 44 (A 44, .inl (G.2.2.2, 4, .inr (.inr (.inr (.inr (va_up (va_up (va_up (kfX A 2) 0 (some (A (6 * 6)))) 1 (some (A (6 * 3)))) 2 (some (A (6 * 4))))))))))[6 * 5]? = some (A (6 * 5), .inr (0, chF A S 5)) from rfl) rfl (vp_in_nI (n := 3) (by decide) (by decide)) dX1_dropOldest_40 (fun H locs hP hD hS => ?_)
  have hP : va_P G.1 vwCl ((wX G A S 2).set 44 (A 44, .inl (G.2.2.2, 4, .inr (.inr (.inr (.inr (va_up (va_up (va_up (va_up (kfX A 2) 0 (some (A (6 * 6)))) 1 (some (A (6 * 3)))) 2 (some (A (6 * 4)))) 3 (some (A (6 * 5)))))))))) H := hP
  have hD : va_D A0 ((wX G A S 2).set 44 (A 44, .inl (G.2.2.2, 4, .inr (.inr (.inr (.inr (va_up (va_up (va_up (va_up (kfX A 2) 0 (some (A (6 * 6)))) 1 (some (A (6 * 3)))) 2 (some (A (6 * 4)))) 3 (some (A (6 * 5)))))))))) := hD
  refine lv_aload_n hx hb dX1_dropOldest_41 rfl (lv_at hl 2 rfl) ?_
  refine lv_iconst (v := 3) hx hb dX1_dropOldest_42 (by decide) ?_
  refine va_put (D := G.1) (ci := 1) (v := .int 3) (ty := .int) (C := RX1) (T := TX1) (N := 2) hx hb hts hinX1 tyX1 tyX1_ok nmX1 hown hK.1 hP hD hS 43 rfl rfl 1 (by decide) (hts (.fieldLink RX1 18 "WireLoops$History" "states" "I") (List.mem_of_getElem? (i := 2) rfl)) (fun _ h9 => h9) rfl (by decide +kernel) rfl rfl (Nat.le_of_ble_eq_true rfl) dX1_dropOldest_43 (fun H locs hP hD hS => ?_)
  have hP : va_P G.1 vwCl ((wX G A (su S 7 0 (upd (S 7 0) 1 3)) 2).set 44 (A 44, .inl (G.2.2.2, 4, .inr (.inr (.inr (.inr (va_up (va_up (va_up (va_up (kfX A 2) 0 (some (A (6 * 6)))) 1 (some (A (6 * 3)))) 2 (some (A (6 * 4)))) 3 (some (A (6 * 5)))))))))) H := hP
  have hD : va_D A0 ((wX G A (su S 7 0 (upd (S 7 0) 1 3)) 2).set 44 (A 44, .inl (G.2.2.2, 4, .inr (.inr (.inr (.inr (va_up (va_up (va_up (va_up (kfX A 2) 0 (some (A (6 * 6)))) 1 (some (A (6 * 3)))) 2 (some (A (6 * 4)))) 3 (some (A (6 * 5)))))))))) := hD
  have hP : va_P G.1 vwCl (wX G A (su S 7 0 (upd (S 7 0) 1 3)) 3) H := wX_kept hP (by intro k hk; rcases (show k = 0 ∨ k = 1 ∨ k = 2 ∨ k = 3 by omega) with rfl | rfl | rfl | rfl <;> rfl)
  have hD : va_D A0 (wX G A (su S 7 0 (upd (S 7 0) 1 3)) 3) := wX_keptD hD
  exact endZ hx hb hr hlocks hP hD hS rfl dX1_dropOldest_46
def f_X1_dropOldest_3 (S : XS) : XS := su S 7 0 (upd (S 7 0) 1 3)
theorem e_X1_dropOldest_3 (S : XS) : f_X1_dropOldest_3 S = su S 7 0 (upd (S 7 0) 1 3) := rfl
set_option maxHeartbeats 4000000 in
set_option maxRecDepth 100000 in
theorem c_X1_dropOldest_3 (l : Launch) (G : GG) (A : Nat → Nat) (S : XS)  : Mz l yX1_dropOldest wsX1_dropOldest ({ frames := 0, cells := 0, slots := 0, locals := 0 } : Room) G [.ref (A 43)] (wX G A S 3) (wX G A (f_X1_dropOldest_3 S) 0) := by
  refine Mz.of (cc := cX1_dropOldest) (maxL := 3) (ret := none) (by decide) rfl (Nat.le_of_ble_eq_true rfl) ?_
  intro p e s m args below meth c A0 hA0 E hr hlocks hP hK hD hA hS ls hl
  have E : CallFix p m c cX1_dropOldest 3 s args wsX1_dropOldest RX1 := E
  have hx := E.1
  have hb := E.2.1
  have hml := E.2.2.1
  have hown := E.2.2.2.1
  have hts := E.2.2.2.2
  have hl : lv_has ls 3 [(0, .ref (A 43))] := hl
  have hinX1 : ∀ w ∈ u_ws RX1 TX1 2, w ∈ wsX1_dropOldest := fun _ h => List.mem_cons_of_mem _ (List.mem_append_right _ h)
  refine lv_aload_n hx hb dX1_dropOldest_0 rfl (lv_at hl 0 rfl) ?_
  refine va_get (D := G.1) (ci := 1) (v := .ref (A 44)) (C := RX1) (T := TX1) (N := 2) hx hb hts hinX1 hown hK.1 hP 43 (wX_43 G A S 3) rfl 0 (by decide) (hts (.fieldLink RX1 11 "WireLoops$History" "kept" "[LWireLoops$Chip;") (List.mem_of_getElem? (i := 1) rfl)) (fun _ h9 => h9) rfl dX1_dropOldest_1 ?_
  refine lv_iconst (v := 0) hx hb dX1_dropOldest_4 (by decide) ?_
  refine va_aldq (D := G.1) (C := "WireLoops$Chip") (f := (kfX A 3)) hx hb hK.1 hP 44 2 (wX_44 G A S 3) rfl (vp_in_nI (n := 0) (by decide) (by decide)) dX1_dropOldest_5 ?_
  refine W.eq (g2 := F0 m 6 ls [.ref (A (6 * 6))]) rfl ?_
  refine lv_astore_n (lv' := [(1, .ref (A (6 * 6))), (0, .ref (A 43))]) hx hb dX1_dropOldest_6 rfl hl (by decide) rfl (fun ls hl => ?_)
  refine lv_iconst (v := 1) hx hb dX1_dropOldest_7 (by decide) ?_
  refine lv_istore_n (lv' := [(2, .int 1), (1, .ref (A (6 * 6))), (0, .ref (A 43))]) hx hb dX1_dropOldest_8 rfl hl (by decide) rfl (fun ls hl => ?_)
  refine lv_iload_n hx hb dX1_dropOldest_9 rfl (lv_at hl 0 rfl) ?_
  refine lv_iconst (v := 4) hx hb dX1_dropOldest_10 (by decide) ?_
  refine lv_icmp_ge (tgt := 34) hx hb dX1_dropOldest_11 (by decide) (fun c1 => absurd c1 (by decide)) (fun c1 => ?_)
  refine lv_aload_n hx hb dX1_dropOldest_14 rfl (lv_at hl 2 rfl) ?_
  refine va_get (D := G.1) (ci := 1) (v := .ref (A 44)) (C := RX1) (T := TX1) (N := 2) hx hb hts hinX1 hown hK.1 hP 43 (wX_43 G A S 3) rfl 0 (by decide) (hts (.fieldLink RX1 11 "WireLoops$History" "kept" "[LWireLoops$Chip;") (List.mem_of_getElem? (i := 1) rfl)) (fun _ h9 => h9) rfl dX1_dropOldest_15 ?_
  refine lv_iload_n hx hb dX1_dropOldest_18 rfl (lv_at hl 0 rfl) ?_
  refine lv_iconst (v := 1) hx hb dX1_dropOldest_19 (by decide) ?_
  refine lv_isub hx hb dX1_dropOldest_20 ?_
  refine W.eq (g2 := F0 m 21 ls [.int 0, .ref (A 44)]) (by rw [show (1 - 1) = (0 : Int32) from by decide] <;> rfl) ?_
  refine lv_aload_n hx hb dX1_dropOldest_21 rfl (lv_at hl 2 rfl) ?_
  refine va_get (D := G.1) (ci := 1) (v := .ref (A 44)) (C := RX1) (T := TX1) (N := 2) hx hb hts hinX1 hown hK.1 hP 43 (wX_43 G A S 3) rfl 0 (by decide) (hts (.fieldLink RX1 11 "WireLoops$History" "kept" "[LWireLoops$Chip;") (List.mem_of_getElem? (i := 1) rfl)) (fun _ h9 => h9) rfl dX1_dropOldest_22 ?_
  refine lv_iload_n hx hb dX1_dropOldest_25 rfl (lv_at hl 0 rfl) ?_
  refine va_aldq (D := G.1) (C := "WireLoops$Chip") (f := (kfX A 3)) hx hb hK.1 hP 44 2 (wX_44 G A S 3) rfl (vp_in_nI (n := 1) (by decide) (by decide)) dX1_dropOldest_26 ?_
  refine W.eq (g2 := F0 m 27 ls [.ref (A (6 * 3)), .int 0, .ref (A 44)]) rfl ?_
  refine va_astq (D := G.1) (r := (RX0, TX0, 12)) (f := (kfX A 3)) hx hb hK.1 hP hD hS 44 2 (6 * 3) 0 rfl rfl (show (wX G A S 3)[6 * 3]? = some (A (6 * 3), .inr (0, chF A S 3)) from rfl) rfl (vp_in_nI (n := 0) (by decide) (by decide)) dX1_dropOldest_27 (fun H locs hP hD hS => ?_)
  have hP : va_P G.1 vwCl ((wX G A S 3).set 44 (A 44, .inl (G.2.2.2, 4, .inr (.inr (.inr (.inr (va_up (kfX A 3) 0 (some (A (6 * 3)))))))))) H := hP
  have hD : va_D A0 ((wX G A S 3).set 44 (A 44, .inl (G.2.2.2, 4, .inr (.inr (.inr (.inr (va_up (kfX A 3) 0 (some (A (6 * 3)))))))))) := hD
  refine lv_iinc (v := 2) (lv' := [(2, .int 2), (1, .ref (A (6 * 6))), (0, .ref (A 43))]) hx hb dX1_dropOldest_28 hl (k := 0) rfl (by decide) (by decide) rfl (fun ls hl => ?_)
  refine lv_goto (tgt := 9) hx hb dX1_dropOldest_31 (by decide) ?_
  refine lv_iload_n hx hb dX1_dropOldest_9 rfl (lv_at hl 0 rfl) ?_
  refine lv_iconst (v := 4) hx hb dX1_dropOldest_10 (by decide) ?_
  refine lv_icmp_ge (tgt := 34) hx hb dX1_dropOldest_11 (by decide) (fun c2 => absurd c2 (by decide)) (fun c2 => ?_)
  refine lv_aload_n hx hb dX1_dropOldest_14 rfl (lv_at hl 2 rfl) ?_
  refine va_get (D := G.1) (ci := 1) (v := .ref (A 44)) (C := RX1) (T := TX1) (N := 2) hx hb hts hinX1 hown hK.1 hP 43 rfl rfl 0 (by decide) (hts (.fieldLink RX1 11 "WireLoops$History" "kept" "[LWireLoops$Chip;") (List.mem_of_getElem? (i := 1) rfl)) (fun _ h9 => h9) rfl dX1_dropOldest_15 ?_
  refine lv_iload_n hx hb dX1_dropOldest_18 rfl (lv_at hl 0 rfl) ?_
  refine lv_iconst (v := 1) hx hb dX1_dropOldest_19 (by decide) ?_
  refine lv_isub hx hb dX1_dropOldest_20 ?_
  refine W.eq (g2 := F0 m 21 ls [.int 1, .ref (A 44)]) (by rw [show (2 - 1) = (1 : Int32) from by decide] <;> rfl) ?_
  refine lv_aload_n hx hb dX1_dropOldest_21 rfl (lv_at hl 2 rfl) ?_
  refine va_get (D := G.1) (ci := 1) (v := .ref (A 44)) (C := RX1) (T := TX1) (N := 2) hx hb hts hinX1 hown hK.1 hP 43 rfl rfl 0 (by decide) (hts (.fieldLink RX1 11 "WireLoops$History" "kept" "[LWireLoops$Chip;") (List.mem_of_getElem? (i := 1) rfl)) (fun _ h9 => h9) rfl dX1_dropOldest_22 ?_
  refine lv_iload_n hx hb dX1_dropOldest_25 rfl (lv_at hl 0 rfl) ?_
  refine va_aldq (D := G.1) (C := "WireLoops$Chip") (f := (va_up (kfX A 3) 0 (some (A (6 * 3))))) hx hb hK.1 hP 44 2 rfl rfl (vp_in_nI (n := 2) (by decide) (by decide)) dX1_dropOldest_26 ?_
  refine W.eq (g2 := F0 m 27 ls [.ref (A (6 * 4)), .int 1, .ref (A 44)]) rfl ?_
  refine va_astq (D := G.1) (r := (RX0, TX0, 12)) (f := (va_up (kfX A 3) 0 (some (A (6 * 3))))) hx hb hK.1 hP hD hS 44 2 (6 * 4) 0 rfl rfl (show ((wX G A S 3).set 44 (A 44, .inl (G.2.2.2, 4, .inr (.inr (.inr (.inr (va_up (kfX A 3) 0 (some (A (6 * 3))))))))))[6 * 4]? = some (A (6 * 4), .inr (0, chF A S 4)) from rfl) rfl (vp_in_nI (n := 1) (by decide) (by decide)) dX1_dropOldest_27 (fun H locs hP hD hS => ?_)
  have hP : va_P G.1 vwCl ((wX G A S 3).set 44 (A 44, .inl (G.2.2.2, 4, .inr (.inr (.inr (.inr (va_up (va_up (kfX A 3) 0 (some (A (6 * 3)))) 1 (some (A (6 * 4)))))))))) H := hP
  have hD : va_D A0 ((wX G A S 3).set 44 (A 44, .inl (G.2.2.2, 4, .inr (.inr (.inr (.inr (va_up (va_up (kfX A 3) 0 (some (A (6 * 3)))) 1 (some (A (6 * 4)))))))))) := hD
  refine lv_iinc (v := 3) (lv' := [(2, .int 3), (1, .ref (A (6 * 6))), (0, .ref (A 43))]) hx hb dX1_dropOldest_28 hl (k := 0) rfl (by decide) (by decide) rfl (fun ls hl => ?_)
  refine lv_goto (tgt := 9) hx hb dX1_dropOldest_31 (by decide) ?_
  refine lv_iload_n hx hb dX1_dropOldest_9 rfl (lv_at hl 0 rfl) ?_
  refine lv_iconst (v := 4) hx hb dX1_dropOldest_10 (by decide) ?_
  refine lv_icmp_ge (tgt := 34) hx hb dX1_dropOldest_11 (by decide) (fun c3 => absurd c3 (by decide)) (fun c3 => ?_)
  refine lv_aload_n hx hb dX1_dropOldest_14 rfl (lv_at hl 2 rfl) ?_
  refine va_get (D := G.1) (ci := 1) (v := .ref (A 44)) (C := RX1) (T := TX1) (N := 2) hx hb hts hinX1 hown hK.1 hP 43 rfl rfl 0 (by decide) (hts (.fieldLink RX1 11 "WireLoops$History" "kept" "[LWireLoops$Chip;") (List.mem_of_getElem? (i := 1) rfl)) (fun _ h9 => h9) rfl dX1_dropOldest_15 ?_
  refine lv_iload_n hx hb dX1_dropOldest_18 rfl (lv_at hl 0 rfl) ?_
  refine lv_iconst (v := 1) hx hb dX1_dropOldest_19 (by decide) ?_
  refine lv_isub hx hb dX1_dropOldest_20 ?_
  refine W.eq (g2 := F0 m 21 ls [.int 2, .ref (A 44)]) (by rw [show (3 - 1) = (2 : Int32) from by decide] <;> rfl) ?_
  refine lv_aload_n hx hb dX1_dropOldest_21 rfl (lv_at hl 2 rfl) ?_
  refine va_get (D := G.1) (ci := 1) (v := .ref (A 44)) (C := RX1) (T := TX1) (N := 2) hx hb hts hinX1 hown hK.1 hP 43 rfl rfl 0 (by decide) (hts (.fieldLink RX1 11 "WireLoops$History" "kept" "[LWireLoops$Chip;") (List.mem_of_getElem? (i := 1) rfl)) (fun _ h9 => h9) rfl dX1_dropOldest_22 ?_
  refine lv_iload_n hx hb dX1_dropOldest_25 rfl (lv_at hl 0 rfl) ?_
  refine va_aldq (D := G.1) (C := "WireLoops$Chip") (f := (va_up (va_up (kfX A 3) 0 (some (A (6 * 3)))) 1 (some (A (6 * 4))))) hx hb hK.1 hP 44 2 rfl rfl (vp_in_nI (n := 3) (by decide) (by decide)) dX1_dropOldest_26 ?_
  refine W.eq (g2 := F0 m 27 ls [.ref (A (6 * 5)), .int 2, .ref (A 44)]) rfl ?_
  refine va_astq (D := G.1) (r := (RX0, TX0, 12)) (f := (va_up (va_up (kfX A 3) 0 (some (A (6 * 3)))) 1 (some (A (6 * 4))))) hx hb hK.1 hP hD hS 44 2 (6 * 5) 0 rfl rfl (show ((wX G A S 3).set 44 (A 44, .inl (G.2.2.2, 4, .inr (.inr (.inr (.inr (va_up (va_up (kfX A 3) 0 (some (A (6 * 3)))) 1 (some (A (6 * 4))))))))))[6 * 5]? = some (A (6 * 5), .inr (0, chF A S 5)) from rfl) rfl (vp_in_nI (n := 2) (by decide) (by decide)) dX1_dropOldest_27 (fun H locs hP hD hS => ?_)
  have hP : va_P G.1 vwCl ((wX G A S 3).set 44 (A 44, .inl (G.2.2.2, 4, .inr (.inr (.inr (.inr (va_up (va_up (va_up (kfX A 3) 0 (some (A (6 * 3)))) 1 (some (A (6 * 4)))) 2 (some (A (6 * 5)))))))))) H := hP
  have hD : va_D A0 ((wX G A S 3).set 44 (A 44, .inl (G.2.2.2, 4, .inr (.inr (.inr (.inr (va_up (va_up (va_up (kfX A 3) 0 (some (A (6 * 3)))) 1 (some (A (6 * 4)))) 2 (some (A (6 * 5)))))))))) := hD
  refine lv_iinc (v := 4) (lv' := [(2, .int 4), (1, .ref (A (6 * 6))), (0, .ref (A 43))]) hx hb dX1_dropOldest_28 hl (k := 0) rfl (by decide) (by decide) rfl (fun ls hl => ?_)
  refine lv_goto (tgt := 9) hx hb dX1_dropOldest_31 (by decide) ?_
  refine lv_iload_n hx hb dX1_dropOldest_9 rfl (lv_at hl 0 rfl) ?_
  refine lv_iconst (v := 4) hx hb dX1_dropOldest_10 (by decide) ?_
  refine lv_icmp_ge (tgt := 34) hx hb dX1_dropOldest_11 (by decide) (fun c4 => ?_) (fun c4 => absurd (by decide) c4)
  refine lv_aload_n hx hb dX1_dropOldest_34 rfl (lv_at hl 2 rfl) ?_
  refine va_get (D := G.1) (ci := 1) (v := .ref (A 44)) (C := RX1) (T := TX1) (N := 2) hx hb hts hinX1 hown hK.1 hP 43 rfl rfl 0 (by decide) (hts (.fieldLink RX1 11 "WireLoops$History" "kept" "[LWireLoops$Chip;") (List.mem_of_getElem? (i := 1) rfl)) (fun _ h9 => h9) rfl dX1_dropOldest_35 ?_
  refine lv_iconst (v := 3) hx hb dX1_dropOldest_38 (by decide) ?_
  refine lv_aload_n hx hb dX1_dropOldest_39 rfl (lv_at hl 1 rfl) ?_
  refine va_astq (D := G.1) (r := (RX0, TX0, 12)) (f := (va_up (va_up (va_up (kfX A 3) 0 (some (A (6 * 3)))) 1 (some (A (6 * 4)))) 2 (some (A (6 * 5))))) hx hb hK.1 hP hD hS 44 2 (6 * 6) 0 rfl rfl (show ((wX G A S 3).set 44 (A 44, .inl (G.2.2.2, 4, .inr (.inr (.inr (.inr (va_up (va_up (va_up (kfX A 3) 0 (some (A (6 * 3)))) 1 (some (A (6 * 4)))) 2 (some (A (6 * 5))))))))))[6 * 6]? = some (A (6 * 6), .inr (0, chF A S 6)) from rfl) rfl (vp_in_nI (n := 3) (by decide) (by decide)) dX1_dropOldest_40 (fun H locs hP hD hS => ?_)
  have hP : va_P G.1 vwCl ((wX G A S 3).set 44 (A 44, .inl (G.2.2.2, 4, .inr (.inr (.inr (.inr (va_up (va_up (va_up (va_up (kfX A 3) 0 (some (A (6 * 3)))) 1 (some (A (6 * 4)))) 2 (some (A (6 * 5)))) 3 (some (A (6 * 6)))))))))) H := hP
  have hD : va_D A0 ((wX G A S 3).set 44 (A 44, .inl (G.2.2.2, 4, .inr (.inr (.inr (.inr (va_up (va_up (va_up (va_up (kfX A 3) 0 (some (A (6 * 3)))) 1 (some (A (6 * 4)))) 2 (some (A (6 * 5)))) 3 (some (A (6 * 6)))))))))) := hD
  refine lv_aload_n hx hb dX1_dropOldest_41 rfl (lv_at hl 2 rfl) ?_
  refine lv_iconst (v := 3) hx hb dX1_dropOldest_42 (by decide) ?_
  refine va_put (D := G.1) (ci := 1) (v := .int 3) (ty := .int) (C := RX1) (T := TX1) (N := 2) hx hb hts hinX1 tyX1 tyX1_ok nmX1 hown hK.1 hP hD hS 43 rfl rfl 1 (by decide) (hts (.fieldLink RX1 18 "WireLoops$History" "states" "I") (List.mem_of_getElem? (i := 2) rfl)) (fun _ h9 => h9) rfl (by decide +kernel) rfl rfl (Nat.le_of_ble_eq_true rfl) dX1_dropOldest_43 (fun H locs hP hD hS => ?_)
  have hP : va_P G.1 vwCl ((wX G A (su S 7 0 (upd (S 7 0) 1 3)) 3).set 44 (A 44, .inl (G.2.2.2, 4, .inr (.inr (.inr (.inr (va_up (va_up (va_up (va_up (kfX A 3) 0 (some (A (6 * 3)))) 1 (some (A (6 * 4)))) 2 (some (A (6 * 5)))) 3 (some (A (6 * 6)))))))))) H := hP
  have hD : va_D A0 ((wX G A (su S 7 0 (upd (S 7 0) 1 3)) 3).set 44 (A 44, .inl (G.2.2.2, 4, .inr (.inr (.inr (.inr (va_up (va_up (va_up (va_up (kfX A 3) 0 (some (A (6 * 3)))) 1 (some (A (6 * 4)))) 2 (some (A (6 * 5)))) 3 (some (A (6 * 6)))))))))) := hD
  have hP : va_P G.1 vwCl (wX G A (su S 7 0 (upd (S 7 0) 1 3)) 0) H := wX_kept hP (by intro k hk; rcases (show k = 0 ∨ k = 1 ∨ k = 2 ∨ k = 3 by omega) with rfl | rfl | rfl | rfl <;> rfl)
  have hD : va_D A0 (wX G A (su S 7 0 (upd (S 7 0) 1 3)) 0) := wX_keptD hD
  exact endZ hx hb hr hlocks hP hD hS rfl dX1_dropOldest_46
