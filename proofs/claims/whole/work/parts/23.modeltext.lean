/-- the text, the spot and the list of the model: where they stand -/
def tx (T : MS) : Prop := ∃ L q t : Nat, T 0 2 = nI L ∧ L ≤ 80 ∧ T 0 3 = nI q ∧ q ≤ L ∧ T 0 4 = nI t ∧ t ≤ 20
theorem txt_in {T : MS} {L : Nat} (hL : T 0 2 = nI L) (h8 : L ≤ 80) (h : ¬ T 0 2 = 80) : vp_in (T 0 2) 80 := by
  have : L ≠ 80 := fun e => h (by rw [hL, e]; rfl)
  rw [hL]; exact vp_in_nI (by omega) (by decide)
theorem sees_in {T : MS} (h : tx T) (c : ¬ T 0 2 ≤ T 0 3) : vp_in (T 0 3) 80 := by
  obtain ⟨L, q, t, h2, hL, h3, hq, h4, ht⟩ := h
  rw [h3]
  rw [h2, h3, nI_leI (by omega) (by omega)] at c
  exact vp_in_nI (by omega) (by decide)
theorem tx_q {T : MS} (h : tx T) : (T 0 3).toNatClampNeg ≤ 80 := by
  obtain ⟨L, q, t, h2, hL, h3, hq, h4, ht⟩ := h
  rw [h3, nI_cl (by omega)]; omega
noncomputable def f_X4_type (T : MS) (p0 : Int32) : Int32 × MS := opq (if (T 0 2) = 80 then ((-3), T) else (((T 0 2) + 1), (tu (tu T 5 (upd (T 5) (T 0 2).toNatClampNeg (vp_nar .char p0))) 0 (upd (T 0) 2 ((T 0 2) + 1)))))
theorem e_X4_type (T : MS) (p0 : Int32) : f_X4_type T p0 = (if (T 0 2) = 80 then ((-3), T) else (((T 0 2) + 1), (tu (tu T 5 (upd (T 5) (T 0 2).toNatClampNeg (vp_nar .char p0))) 0 (upd (T 0) 2 ((T 0 2) + 1))))) := opq_eq _
set_option maxHeartbeats 4000000 in
set_option maxRecDepth 100000 in
theorem c_X4_type (l : Launch) (G : GG) (B : Nat → Nat) (T : MS) (p0 : Int32) (L : Nat) (hL : T 0 2 = nI L) (hL8 : L ≤ 80) : Mm l yX4_type wsX4_type ({ frames := 0, cells := 0, slots := 0, locals := 0 } : Room) G [.ref (B 0), .int p0] (wM G B T) (f_X4_type T p0).1 (wM G B (f_X4_type T p0).2) := by
  refine Mm.of (cc := cX4_type) (maxL := 2) (ret := (some .int)) (by decide) rfl (Nat.le_of_ble_eq_true rfl) ?_
  intro p e s m args below meth c A0 hA0 E hr hlocks hP hK hD hA hS ls hl
  have E : CallFix p m c cX4_type 2 s args wsX4_type RX4 := E
  have hx := E.1
  have hb := E.2.1
  have hml := E.2.2.1
  have hown := E.2.2.2.1
  have hts := E.2.2.2.2
  have hl : lv_has ls 2 [(0, .ref (B 0)), (1, .int p0)] := hl
  have hinX4 : ∀ w ∈ u_ws RX4 TX4 11, w ∈ wsX4_type := fun _ h => List.mem_cons_of_mem _ (List.mem_append_right _ h)
  refine lv_aload_n hx hb dX4_type_0 rfl (lv_at hl 0 rfl) ?_
  refine va_get (D := G.1) (ci := 4) (v := .int (T 0 2)) (C := RX4) (T := TX4) (N := 11) hx hb hts hinX4 hown hK.1 hP 0 (wM_o G B T) rfl 7 (by decide) (hts (.fieldLink RX4 118 "WireLoopsModel" "length" "I") (List.mem_of_getElem? (i := 1) rfl)) (fun _ h9 => h9) rfl dX4_type_1 ?_
  refine lv_bipush (v := 80) hx hb dX4_type_4 (by decide) ?_
  refine lv_icmp_ne (tgt := 12) hx hb dX4_type_6 (by decide) (fun c1 => ?_) (fun c1 => ?_)
  · skip
    refine lv_aload_n hx hb dX4_type_12 rfl (lv_at hl 0 rfl) ?_
    refine va_get (D := G.1) (ci := 4) (v := .ref (B 5)) (C := RX4) (T := TX4) (N := 11) hx hb hts hinX4 hown hK.1 hP 0 (wM_o G B T) rfl 6 (by decide) (hts (.fieldLink RX4 22 "WireLoopsModel" "text" "[C") (List.mem_of_getElem? (i := 2) rfl)) (fun _ h9 => h9) rfl dX4_type_13 ?_
    refine lv_aload_n hx hb dX4_type_16 rfl (lv_at hl 0 rfl) ?_
    refine va_get (D := G.1) (ci := 4) (v := .int (T 0 2)) (C := RX4) (T := TX4) (N := 11) hx hb hts hinX4 hown hK.1 hP 0 (wM_o G B T) rfl 7 (by decide) (hts (.fieldLink RX4 118 "WireLoopsModel" "length" "I") (List.mem_of_getElem? (i := 1) rfl)) (fun _ h9 => h9) rfl dX4_type_17 ?_
    refine lv_iload_n hx hb dX4_type_20 rfl (lv_at hl 1 rfl) ?_
    refine va_cast (D := G.1) hx hb hK.1 hP hD hS 5 1 (wM_5 G B T) rfl (txt_in hL hL8 c1) dX4_type_21 (fun H locs hP hD hS => ?_)
    rw [wM_s5 G B T _] at hP hD
    have hP : va_P G.1 vwCl (wM G B (tu T 5 (upd (T 5) (T 0 2).toNatClampNeg (vp_nar .char p0)))) H := hP
    have hD : va_D A0 (wM G B (tu T 5 (upd (T 5) (T 0 2).toNatClampNeg (vp_nar .char p0)))) := hD
    refine lv_aload_n hx hb dX4_type_22 rfl (lv_at hl 0 rfl) ?_
    refine lv_dup hx hb dX4_type_23 rfl ?_
    refine va_get (D := G.1) (ci := 4) (v := .int (T 0 2)) (C := RX4) (T := TX4) (N := 11) hx hb hts hinX4 hown hK.1 hP 0 (wM_o G B (tu T 5 (upd (T 5) (T 0 2).toNatClampNeg (vp_nar .char p0)))) rfl 7 (by decide) (hts (.fieldLink RX4 118 "WireLoopsModel" "length" "I") (List.mem_of_getElem? (i := 1) rfl)) (fun _ h9 => h9) rfl dX4_type_24 ?_
    refine lv_iconst (v := 1) hx hb dX4_type_27 (by decide) ?_
    refine lv_iadd hx hb dX4_type_28 ?_
    refine va_put (D := G.1) (ci := 4) (v := .int ((T 0 2) + 1)) (ty := .int) (C := RX4) (T := TX4) (N := 11) hx hb hts hinX4 tyX4 tyX4_ok nmX4 hown hK.1 hP hD hS 0 (wM_o G B (tu T 5 (upd (T 5) (T 0 2).toNatClampNeg (vp_nar .char p0)))) rfl 7 (by decide) (hts (.fieldLink RX4 118 "WireLoopsModel" "length" "I") (List.mem_of_getElem? (i := 1) rfl)) (fun _ h9 => h9) rfl (by decide +kernel) rfl rfl (Nat.le_of_ble_eq_true rfl) dX4_type_29 (fun H locs hP hD hS => ?_)
    rw [wM_so7 G B (tu T 5 (upd (T 5) (T 0 2).toNatClampNeg (vp_nar .char p0))) _] at hP hD
    have hP : va_P G.1 vwCl (wM G B (tu (tu T 5 (upd (T 5) (T 0 2).toNatClampNeg (vp_nar .char p0))) 0 (upd (T 0) 2 ((T 0 2) + 1)))) H := hP
    have hD : va_D A0 (wM G B (tu (tu T 5 (upd (T 5) (T 0 2).toNatClampNeg (vp_nar .char p0))) 0 (upd (T 0) 2 ((T 0 2) + 1)))) := hD
    refine lv_aload_n hx hb dX4_type_32 rfl (lv_at hl 0 rfl) ?_
    refine va_get (D := G.1) (ci := 4) (v := .int ((T 0 2) + 1)) (C := RX4) (T := TX4) (N := 11) hx hb hts hinX4 hown hK.1 hP 0 (wM_o G B (tu (tu T 5 (upd (T 5) (T 0 2).toNatClampNeg (vp_nar .char p0))) 0 (upd (T 0) 2 ((T 0 2) + 1)))) rfl 7 (by decide) (hts (.fieldLink RX4 118 "WireLoopsModel" "length" "I") (List.mem_of_getElem? (i := 1) rfl)) (fun _ h9 => h9) rfl dX4_type_33 ?_
    have hfin : (((T 0 2) + 1), (tu (tu T 5 (upd (T 5) (T 0 2).toNatClampNeg (vp_nar .char p0))) 0 (upd (T 0) 2 ((T 0 2) + 1)))) = (f_X4_type T p0) := Eq.symm (Eq.trans (e_X4_type T p0) ((if_neg c1)))
    exact endM hx hb hr hlocks rfl hP hD hS ⟨@congrArg (Int32 × MS) Int32 (((T 0 2) + 1), (tu (tu T 5 (upd (T 5) (T 0 2).toNatClampNeg (vp_nar .char p0))) 0 (upd (T 0) 2 ((T 0 2) + 1)))) (f_X4_type T p0) Prod.fst hfin, @congrArg (Int32 × MS) va_W (((T 0 2) + 1), (tu (tu T 5 (upd (T 5) (T 0 2).toNatClampNeg (vp_nar .char p0))) 0 (upd (T 0) 2 ((T 0 2) + 1)))) (f_X4_type T p0) (fun z => wM G B z.2) hfin⟩ dX4_type_36
  · skip
    refine lv_bipush (v := (-3)) hx hb dX4_type_9 (by decide) ?_
    have hfin : ((-3), T) = (f_X4_type T p0) := Eq.symm (Eq.trans (e_X4_type T p0) ((if_pos c1)))
    exact endM hx hb hr hlocks rfl hP hD hS ⟨@congrArg (Int32 × MS) Int32 ((-3), T) (f_X4_type T p0) Prod.fst hfin, @congrArg (Int32 × MS) va_W ((-3), T) (f_X4_type T p0) (fun z => wM G B z.2) hfin⟩ dX4_type_11
noncomputable def f_X4_clearText (T : MS) : Int32 × MS := opq ((T 0 2), (tu T 0 (upd (T 0) 2 0)))
theorem e_X4_clearText (T : MS) : f_X4_clearText T = ((T 0 2), (tu T 0 (upd (T 0) 2 0))) := opq_eq _
set_option maxHeartbeats 4000000 in
set_option maxRecDepth 100000 in
theorem c_X4_clearText (l : Launch) (G : GG) (B : Nat → Nat) (T : MS)  : Mm l yX4_clearText wsX4_clearText ({ frames := 0, cells := 0, slots := 0, locals := 0 } : Room) G [.ref (B 0)] (wM G B T) (f_X4_clearText T).1 (wM G B (f_X4_clearText T).2) := by
  refine Mm.of (cc := cX4_clearText) (maxL := 2) (ret := (some .int)) (by decide) rfl (Nat.le_of_ble_eq_true rfl) ?_
  intro p e s m args below meth c A0 hA0 E hr hlocks hP hK hD hA hS ls hl
  have E : CallFix p m c cX4_clearText 2 s args wsX4_clearText RX4 := E
  have hx := E.1
  have hb := E.2.1
  have hml := E.2.2.1
  have hown := E.2.2.2.1
  have hts := E.2.2.2.2
  have hl : lv_has ls 2 [(0, .ref (B 0))] := hl
  have hinX4 : ∀ w ∈ u_ws RX4 TX4 11, w ∈ wsX4_clearText := fun _ h => List.mem_cons_of_mem _ (List.mem_append_right _ h)
  refine lv_aload_n hx hb dX4_clearText_0 rfl (lv_at hl 0 rfl) ?_
  refine va_get (D := G.1) (ci := 4) (v := .int (T 0 2)) (C := RX4) (T := TX4) (N := 11) hx hb hts hinX4 hown hK.1 hP 0 (wM_o G B T) rfl 7 (by decide) (hts (.fieldLink RX4 118 "WireLoopsModel" "length" "I") (List.mem_of_getElem? (i := 1) rfl)) (fun _ h9 => h9) rfl dX4_clearText_1 ?_
  refine lv_istore_n (lv' := [(1, .int (T 0 2)), (0, .ref (B 0))]) hx hb dX4_clearText_4 rfl hl (by decide) rfl (fun ls hl => ?_)
  refine lv_aload_n hx hb dX4_clearText_5 rfl (lv_at hl 1 rfl) ?_
  refine lv_iconst (v := 0) hx hb dX4_clearText_6 (by decide) ?_
  refine va_put (D := G.1) (ci := 4) (v := .int 0) (ty := .int) (C := RX4) (T := TX4) (N := 11) hx hb hts hinX4 tyX4 tyX4_ok nmX4 hown hK.1 hP hD hS 0 (wM_o G B T) rfl 7 (by decide) (hts (.fieldLink RX4 118 "WireLoopsModel" "length" "I") (List.mem_of_getElem? (i := 1) rfl)) (fun _ h9 => h9) rfl (by decide +kernel) rfl rfl (Nat.le_of_ble_eq_true rfl) dX4_clearText_7 (fun H locs hP hD hS => ?_)
  rw [wM_so7 G B T _] at hP hD
  have hP : va_P G.1 vwCl (wM G B (tu T 0 (upd (T 0) 2 0))) H := hP
  have hD : va_D A0 (wM G B (tu T 0 (upd (T 0) 2 0))) := hD
  refine lv_iload_n hx hb dX4_clearText_10 rfl (lv_at hl 0 rfl) ?_
  have hfin : ((T 0 2), (tu T 0 (upd (T 0) 2 0))) = (f_X4_clearText T) := Eq.symm ((e_X4_clearText T))
  exact endM hx hb hr hlocks rfl hP hD hS ⟨@congrArg (Int32 × MS) Int32 ((T 0 2), (tu T 0 (upd (T 0) 2 0))) (f_X4_clearText T) Prod.fst hfin, @congrArg (Int32 × MS) va_W ((T 0 2), (tu T 0 (upd (T 0) 2 0))) (f_X4_clearText T) (fun z => wM G B z.2) hfin⟩ dX4_clearText_11
noncomputable def f_X4_sees (T : MS) (p0 p1 : Int32) : Int32 := opq (if (T 0 2) ≤ (T 0 3) then 0 else (if (f_X4_in ((T 5) (T 0 3).toNatClampNeg) p0 p1) = 0 then 0 else 1))
theorem e_X4_sees (T : MS) (p0 p1 : Int32) : f_X4_sees T p0 p1 = (if (T 0 2) ≤ (T 0 3) then 0 else (if (f_X4_in ((T 5) (T 0 3).toNatClampNeg) p0 p1) = 0 then 0 else 1)) := opq_eq _
set_option maxHeartbeats 4000000 in
set_option maxRecDepth 100000 in
theorem c_X4_sees (l : Launch) (G : GG) (B : Nat → Nat) (T : MS) (p0 p1 : Int32) (h : tx T) : Mp l yX4_sees wsX4_sees ({ frames := 1, cells := 0, slots := 0, locals := 22 } : Room) G [.ref (B 0), .int p0, .int p1] (wM G B T) (f_X4_sees T p0 p1) := by
  refine Mp.of (cc := cX4_sees) (maxL := 3) (ret := (some .boolean)) (by decide) rfl (Nat.le_of_ble_eq_true rfl) ?_
  intro p e s m args below meth c E hr hlocks hP hK ls hl
  have E : CallFix p m c cX4_sees 3 s args wsX4_sees RX4 := E
  have hx := E.1
  have hb := E.2.1
  have hml := E.2.2.1
  have hown := E.2.2.2.1
  have hts := E.2.2.2.2
  have hl : lv_has ls 3 [(0, .ref (B 0)), (1, .int p0), (2, .int p1)] := hl
  have hinX4 : ∀ w ∈ u_ws RX4 TX4 11, w ∈ wsX4_sees := fun _ h => List.mem_cons_of_mem _ (List.mem_append_right _ h)
  refine lv_aload_n hx hb dX4_sees_0 rfl (lv_at hl 0 rfl) ?_
  refine va_get (D := G.1) (ci := 4) (v := .int (T 0 3)) (C := RX4) (T := TX4) (N := 11) hx hb hts hinX4 hown hK.1 hP 0 (wM_o G B T) rfl 8 (by decide) (hts (.fieldLink RX4 121 "WireLoopsModel" "spot" "I") (List.mem_of_getElem? (i := 1) rfl)) (fun _ h9 => h9) rfl dX4_sees_1 ?_
  refine lv_aload_n hx hb dX4_sees_4 rfl (lv_at hl 0 rfl) ?_
  refine va_get (D := G.1) (ci := 4) (v := .int (T 0 2)) (C := RX4) (T := TX4) (N := 11) hx hb hts hinX4 hown hK.1 hP 0 (wM_o G B T) rfl 7 (by decide) (hts (.fieldLink RX4 118 "WireLoopsModel" "length" "I") (List.mem_of_getElem? (i := 2) rfl)) (fun _ h9 => h9) rfl dX4_sees_5 ?_
  refine lv_icmp_ge (tgt := 32) hx hb dX4_sees_8 (by decide) (fun c1 => ?_) (fun c1 => ?_)
  · skip
    refine lv_iconst (v := 0) hx hb dX4_sees_32 (by decide) ?_
    exact endP hx hb hr hlocks rfl (Eq.symm (Eq.trans (e_X4_sees T p0 p1) ((if_pos c1)))) dX4_sees_33
  · skip
    refine lv_aload_n hx hb dX4_sees_11 rfl (lv_at hl 0 rfl) ?_
    refine va_get (D := G.1) (ci := 4) (v := .ref (B 5)) (C := RX4) (T := TX4) (N := 11) hx hb hts hinX4 hown hK.1 hP 0 (wM_o G B T) rfl 6 (by decide) (hts (.fieldLink RX4 22 "WireLoopsModel" "text" "[C") (List.mem_of_getElem? (i := 3) rfl)) (fun _ h9 => h9) rfl dX4_sees_12 ?_
    refine lv_aload_n hx hb dX4_sees_15 rfl (lv_at hl 0 rfl) ?_
    refine va_get (D := G.1) (ci := 4) (v := .int (T 0 3)) (C := RX4) (T := TX4) (N := 11) hx hb hts hinX4 hown hK.1 hP 0 (wM_o G B T) rfl 8 (by decide) (hts (.fieldLink RX4 121 "WireLoopsModel" "spot" "I") (List.mem_of_getElem? (i := 1) rfl)) (fun _ h9 => h9) rfl dX4_sees_16 ?_
    refine va_cald (D := G.1) hx hb hK.1 hP 5 1 (wM_5 G B T) rfl (sees_in h c1) dX4_sees_19 ?_
    refine lv_iload_n hx hb dX4_sees_20 rfl (lv_at hl 1 rfl) ?_
    refine lv_iload_n hx hb dX4_sees_21 rfl (lv_at hl 2 rfl) ?_
    refine cpS (rest := []) (As := [.int ((T 5) (T 0 3).toNatClampNeg), .int p0, .int p1]) E (c_X4_in l G B T ((T 5) (T 0 3).toNatClampNeg) p0 p1) (va_cwS 3 hts gX4_sees_X4_in rfl rfl rfl (by decide +kernel) ⟨Nat.le_of_ble_eq_true rfl, Nat.le_of_ble_eq_true rfl⟩) hK hP rfl hl.1 rfl (Nat.le_of_ble_eq_true rfl) dX4_sees_22 ⟨Nat.zero_le _, Nat.zero_le _⟩ ?_
    refine lv_if_eq (tgt := 32) hx hb dX4_sees_25 (by decide) (fun c2 => ?_) (fun c2 => ?_)
    · skip
      refine lv_iconst (v := 0) hx hb dX4_sees_32 (by decide) ?_
      exact endP hx hb hr hlocks rfl (Eq.symm (Eq.trans (e_X4_sees T p0 p1) (Eq.trans (if_neg c1) ((if_pos c2))))) dX4_sees_33
    · skip
      refine lv_iconst (v := 1) hx hb dX4_sees_28 (by decide) ?_
      refine lv_goto (tgt := 33) hx hb dX4_sees_29 (by decide) ?_
      exact endP hx hb hr hlocks rfl (Eq.symm (Eq.trans (e_X4_sees T p0 p1) (Eq.trans (if_neg c1) ((if_neg c2))))) dX4_sees_33
theorem b01_sees (T : MS) (a b : Int32) : f_X4_sees T a b = 0 ∨ f_X4_sees T a b = 1 := by
  rw [e_X4_sees]
  repeat' split
  all_goals first | exact Or.inl rfl | exact Or.inr rfl
theorem sees_lt {T : MS} {a b : Int32} (c : ¬ f_X4_sees T a b = 0) : ¬ T 0 2 ≤ T 0 3 := by
  rw [e_X4_sees] at c
  intro h
  exact c (if_pos h)
theorem ss_in {T : MS} {a b : Int32} (h : tx T) (c : ¬ f_X4_sees T a b = 0) : vp_in (T 0 3) 80 := sees_in h (sees_lt c)
theorem tx_step {T : MS} {a b : Int32} (h : tx T) (c : ¬ f_X4_sees T a b = 0) : tx (tu T 0 (upd (T 0) 3 (T 0 3 + 1))) := by
  have c := sees_lt c
  obtain ⟨L, q, t, h2, hL, h3, hq, h4, ht⟩ := h
  rw [h2, h3, nI_leI (by omega) (by omega)] at c
  exact ⟨L, q + 1, t, h2, hL, (show T 0 3 + 1 = nI (q + 1) by rw [h3]; exact nI_1 q), by omega, h4, ht⟩
theorem tx_mes {T : MS} {a b : Int32} {n : Nat} (h : tx T) (c : ¬ f_X4_sees T a b = 0) (hn : 80 < (T 0 3).toNatClampNeg + (n + 1)) : 80 < ((tu T 0 (upd (T 0) 3 (T 0 3 + 1))) 0 3).toNatClampNeg + n := by
  have c := sees_lt c
  obtain ⟨L, q, t, h2, hL, h3, hq, h4, ht⟩ := h
  show 80 < (T 0 3 + 1).toNatClampNeg + n
  rw [h3, nI_1, nI_cl (by omega)]
  rw [h3, nI_cl (by omega)] at hn
  omega
theorem told_in {T : MS} {x : Int32} (h : tx T) (hx : vp_in x 3) : vp_in ((3 * (T 0 4)) + x) 63 := by
  obtain ⟨L, q, t, h2, hL, h3, hq, h4, ht⟩ := h
  obtain ⟨a, ha, rfl⟩ := vp_in_of hx (by decide)
  rw [h4, show (3 : Int32) = nI 3 from rfl, pk_mul, nI_add]
  exact vp_in_nI (by omega) (by decide)
noncomputable def f_X4_takes (T : MS) (p0 : Int32) : Int32 × MS := opq (if (f_X4_sees T p0 p0) = 0 then ((f_X4_sees T p0 p0), (tu T 0 (upd (T 0) 3 ((T 0 3) + 0)))) else ((f_X4_sees T p0 p0), (tu T 0 (upd (T 0) 3 ((T 0 3) + 1)))))
theorem e_X4_takes (T : MS) (p0 : Int32) : f_X4_takes T p0 = (if (f_X4_sees T p0 p0) = 0 then ((f_X4_sees T p0 p0), (tu T 0 (upd (T 0) 3 ((T 0 3) + 0)))) else ((f_X4_sees T p0 p0), (tu T 0 (upd (T 0) 3 ((T 0 3) + 1))))) := opq_eq _
set_option maxHeartbeats 4000000 in
set_option maxRecDepth 100000 in
theorem c_X4_takes (l : Launch) (G : GG) (B : Nat → Nat) (T : MS) (p0 : Int32) (h : tx T) : Mm l yX4_takes wsX4_takes ({ frames := 2, cells := 0, slots := 0, locals := 44 } : Room) G [.ref (B 0), .int p0] (wM G B T) (f_X4_takes T p0).1 (wM G B (f_X4_takes T p0).2) := by
  refine Mm.of (cc := cX4_takes) (maxL := 3) (ret := (some .boolean)) (by decide) rfl (Nat.le_of_ble_eq_true rfl) ?_
  intro p e s m args below meth c A0 hA0 E hr hlocks hP hK hD hA hS ls hl
  have E : CallFix p m c cX4_takes 3 s args wsX4_takes RX4 := E
  have hx := E.1
  have hb := E.2.1
  have hml := E.2.2.1
  have hown := E.2.2.2.1
  have hts := E.2.2.2.2
  have hl : lv_has ls 3 [(0, .ref (B 0)), (1, .int p0)] := hl
  have hinX4 : ∀ w ∈ u_ws RX4 TX4 11, w ∈ wsX4_takes := fun _ h => List.mem_cons_of_mem _ (List.mem_append_right _ h)
  refine lv_aload_n hx hb dX4_takes_0 rfl (lv_at hl 0 rfl) ?_
  refine lv_iload_n hx hb dX4_takes_1 rfl (lv_at hl 1 rfl) ?_
  refine lv_iload_n hx hb dX4_takes_2 rfl (lv_at hl 1 rfl) ?_
  refine cpV (rest := []) (As := [.int p0, .int p0]) E (c_X4_sees l G B T p0 p0 h) (cwV 2 hts gX4_takes_X4_sees rfl rfl rfl (by decide +kernel) ⟨Nat.le_of_ble_eq_true rfl, Nat.le_of_ble_eq_true rfl⟩) hK hP 0 (wM_o G B T) rfl rfl hl.1 rfl (Nat.le_of_ble_eq_true rfl) dX4_takes_3 ⟨Nat.zero_le _, Nat.zero_le _⟩ ?_
  refine lv_istore_n (lv' := [(2, .int (f_X4_sees T p0 p0)), (0, .ref (B 0)), (1, .int p0)]) hx hb dX4_takes_6 rfl hl (by decide) rfl (fun ls hl => ?_)
  refine lv_aload_n hx hb dX4_takes_7 rfl (lv_at hl 1 rfl) ?_
  refine lv_dup hx hb dX4_takes_8 rfl ?_
  refine va_get (D := G.1) (ci := 4) (v := .int (T 0 3)) (C := RX4) (T := TX4) (N := 11) hx hb hts hinX4 hown hK.1 hP 0 (wM_o G B T) rfl 8 (by decide) (hts (.fieldLink RX4 121 "WireLoopsModel" "spot" "I") (List.mem_of_getElem? (i := 1) rfl)) (fun _ h9 => h9) rfl dX4_takes_9 ?_
  refine lv_iload_n hx hb dX4_takes_12 rfl (lv_at hl 0 rfl) ?_
  refine lv_if_eq (tgt := 20) hx hb dX4_takes_13 (by decide) (fun c1 => ?_) (fun c1 => ?_)
  · skip
    refine lv_iconst (v := 0) hx hb dX4_takes_20 (by decide) ?_
    refine lv_iadd hx hb dX4_takes_21 ?_
    refine va_put (D := G.1) (ci := 4) (v := .int ((T 0 3) + 0)) (ty := .int) (C := RX4) (T := TX4) (N := 11) hx hb hts hinX4 tyX4 tyX4_ok nmX4 hown hK.1 hP hD hS 0 (wM_o G B T) rfl 8 (by decide) (hts (.fieldLink RX4 121 "WireLoopsModel" "spot" "I") (List.mem_of_getElem? (i := 1) rfl)) (fun _ h9 => h9) rfl (by decide +kernel) rfl rfl (Nat.le_of_ble_eq_true rfl) dX4_takes_22 (fun H locs hP hD hS => ?_)
    rw [wM_so8 G B T _] at hP hD
    have hP : va_P G.1 vwCl (wM G B (tu T 0 (upd (T 0) 3 ((T 0 3) + 0)))) H := hP
    have hD : va_D A0 (wM G B (tu T 0 (upd (T 0) 3 ((T 0 3) + 0)))) := hD
    refine lv_iload_n hx hb dX4_takes_25 rfl (lv_at hl 0 rfl) ?_
    have hfin : ((f_X4_sees T p0 p0), (tu T 0 (upd (T 0) 3 ((T 0 3) + 0)))) = (f_X4_takes T p0) := Eq.symm (Eq.trans (e_X4_takes T p0) ((if_pos c1)))
    exact endM hx hb hr hlocks (nb_of (b01_sees _ _ _)) hP hD hS ⟨@congrArg (Int32 × MS) Int32 ((f_X4_sees T p0 p0), (tu T 0 (upd (T 0) 3 ((T 0 3) + 0)))) (f_X4_takes T p0) Prod.fst hfin, @congrArg (Int32 × MS) va_W ((f_X4_sees T p0 p0), (tu T 0 (upd (T 0) 3 ((T 0 3) + 0)))) (f_X4_takes T p0) (fun z => wM G B z.2) hfin⟩ dX4_takes_26
  · skip
    refine lv_iconst (v := 1) hx hb dX4_takes_16 (by decide) ?_
    refine lv_goto (tgt := 21) hx hb dX4_takes_17 (by decide) ?_
    refine lv_iadd hx hb dX4_takes_21 ?_
    refine va_put (D := G.1) (ci := 4) (v := .int ((T 0 3) + 1)) (ty := .int) (C := RX4) (T := TX4) (N := 11) hx hb hts hinX4 tyX4 tyX4_ok nmX4 hown hK.1 hP hD hS 0 (wM_o G B T) rfl 8 (by decide) (hts (.fieldLink RX4 121 "WireLoopsModel" "spot" "I") (List.mem_of_getElem? (i := 1) rfl)) (fun _ h9 => h9) rfl (by decide +kernel) rfl rfl (Nat.le_of_ble_eq_true rfl) dX4_takes_22 (fun H locs hP hD hS => ?_)
    rw [wM_so8 G B T _] at hP hD
    have hP : va_P G.1 vwCl (wM G B (tu T 0 (upd (T 0) 3 ((T 0 3) + 1)))) H := hP
    have hD : va_D A0 (wM G B (tu T 0 (upd (T 0) 3 ((T 0 3) + 1)))) := hD
    refine lv_iload_n hx hb dX4_takes_25 rfl (lv_at hl 0 rfl) ?_
    have hfin : ((f_X4_sees T p0 p0), (tu T 0 (upd (T 0) 3 ((T 0 3) + 1)))) = (f_X4_takes T p0) := Eq.symm (Eq.trans (e_X4_takes T p0) ((if_neg c1)))
    exact endM hx hb hr hlocks (nb_of (b01_sees _ _ _)) hP hD hS ⟨@congrArg (Int32 × MS) Int32 ((f_X4_sees T p0 p0), (tu T 0 (upd (T 0) 3 ((T 0 3) + 1)))) (f_X4_takes T p0) Prod.fst hfin, @congrArg (Int32 × MS) va_W ((f_X4_sees T p0 p0), (tu T 0 (upd (T 0) 3 ((T 0 3) + 1)))) (f_X4_takes T p0) (fun z => wM G B z.2) hfin⟩ dX4_takes_26
theorem tx_takes {T : MS} (x : Int32) (h : tx T) : tx (f_X4_takes T x).2 := by
  rw [e_X4_takes]
  by_cases c : f_X4_sees T x x = 0
  · rw [if_pos c]
    obtain ⟨L, q, t, h2, hL, h3, hq, h4, ht⟩ := h
    exact ⟨L, q, t, h2, hL, (show T 0 3 + 0 = nI q by rw [h3]; exact nI_add q 0), hq, h4, ht⟩
  · rw [if_neg c]
    exact tx_step h c
noncomputable def g_X4_isNumber_46 (p0 p1 p2 : Int32) : Nat → Int32 → MS → Int32 × MS
  | 0, v, T1 => (v, T1)
  | n + 1, v, T1 => opq (if v ≤ 0 then (v, T1) else (if (f_X4_sees T1 48 57) = 0 then (v, T1) else (if p2 < (((10 * v) + ((T1 5) (T1 0 3).toNatClampNeg)) - 48) then (v, T1) else (g_X4_isNumber_46 p0 p1 p2 n (((10 * v) + ((T1 5) (T1 0 3).toNatClampNeg)) - 48) (tu T1 0 (upd (T1 0) 3 ((T1 0 3) + 1)))))))
theorem ge_X4_isNumber_46 (p0 p1 p2 : Int32) (n : Nat) (v : Int32) (T1 : MS) : g_X4_isNumber_46 p0 p1 p2 (n + 1) v T1 = (if v ≤ 0 then (v, T1) else (if (f_X4_sees T1 48 57) = 0 then (v, T1) else (if p2 < (((10 * v) + ((T1 5) (T1 0 3).toNatClampNeg)) - 48) then (v, T1) else (g_X4_isNumber_46 p0 p1 p2 n (((10 * v) + ((T1 5) (T1 0 3).toNatClampNeg)) - 48) (tu T1 0 (upd (T1 0) 3 ((T1 0 3) + 1))))))) := opq_eq _
theorem isn_tx (p0 p1 p2 : Int32) : ∀ (n : Nat) (v : Int32) (T1 : MS), tx T1 → tx (g_X4_isNumber_46 p0 p1 p2 n v T1).2 := by
  intro n
  induction n with
  | zero => intro v T1 h; exact h
  | succ n ih =>
    intro v T1 h
    rw [ge_X4_isNumber_46]
    by_cases c1 : v ≤ 0
    · rw [if_pos c1]; exact h
    rw [if_neg c1]
    by_cases c2 : f_X4_sees T1 48 57 = 0
    · rw [if_pos c2]; exact h
    rw [if_neg c2]
    split
    · exact h
    · exact ih _ _ (tx_step h c2)
noncomputable def f_X4_isNumber (T : MS) (p0 p1 p2 : Int32) : Int32 × MS := opq (if p1 ≤ 0 then (if (f_X4_sees T 48 57) = 0 then (0, T) else (if ((g_X4_isNumber_46 p0 p1 p2 81 (((T 5) (T 0 3).toNatClampNeg) - 48) (tu T 0 (upd (T 0) 3 ((T 0 3) + 1)))).1) < p1 then (0, (tu (g_X4_isNumber_46 p0 p1 p2 81 (((T 5) (T 0 3).toNatClampNeg) - 48) (tu T 0 (upd (T 0) 3 ((T 0 3) + 1)))).2 6 (upd ((g_X4_isNumber_46 p0 p1 p2 81 (((T 5) (T 0 3).toNatClampNeg) - 48) (tu T 0 (upd (T 0) 3 ((T 0 3) + 1)))).2 6) ((3 * (((g_X4_isNumber_46 p0 p1 p2 81 (((T 5) (T 0 3).toNatClampNeg) - 48) (tu T 0 (upd (T 0) 3 ((T 0 3) + 1)))).2 0) 4)) + p0).toNatClampNeg ((g_X4_isNumber_46 p0 p1 p2 81 (((T 5) (T 0 3).toNatClampNeg) - 48) (tu T 0 (upd (T 0) 3 ((T 0 3) + 1)))).1)))) else (1, (tu (g_X4_isNumber_46 p0 p1 p2 81 (((T 5) (T 0 3).toNatClampNeg) - 48) (tu T 0 (upd (T 0) 3 ((T 0 3) + 1)))).2 6 (upd ((g_X4_isNumber_46 p0 p1 p2 81 (((T 5) (T 0 3).toNatClampNeg) - 48) (tu T 0 (upd (T 0) 3 ((T 0 3) + 1)))).2 6) ((3 * (((g_X4_isNumber_46 p0 p1 p2 81 (((T 5) (T 0 3).toNatClampNeg) - 48) (tu T 0 (upd (T 0) 3 ((T 0 3) + 1)))).2 0) 4)) + p0).toNatClampNeg ((g_X4_isNumber_46 p0 p1 p2 81 (((T 5) (T 0 3).toNatClampNeg) - 48) (tu T 0 (upd (T 0) 3 ((T 0 3) + 1)))).1)))))) else (if (f_X4_sees T 49 57) = 0 then (0, T) else (if ((g_X4_isNumber_46 p0 p1 p2 81 (((T 5) (T 0 3).toNatClampNeg) - 48) (tu T 0 (upd (T 0) 3 ((T 0 3) + 1)))).1) < p1 then (0, (tu (g_X4_isNumber_46 p0 p1 p2 81 (((T 5) (T 0 3).toNatClampNeg) - 48) (tu T 0 (upd (T 0) 3 ((T 0 3) + 1)))).2 6 (upd ((g_X4_isNumber_46 p0 p1 p2 81 (((T 5) (T 0 3).toNatClampNeg) - 48) (tu T 0 (upd (T 0) 3 ((T 0 3) + 1)))).2 6) ((3 * (((g_X4_isNumber_46 p0 p1 p2 81 (((T 5) (T 0 3).toNatClampNeg) - 48) (tu T 0 (upd (T 0) 3 ((T 0 3) + 1)))).2 0) 4)) + p0).toNatClampNeg ((g_X4_isNumber_46 p0 p1 p2 81 (((T 5) (T 0 3).toNatClampNeg) - 48) (tu T 0 (upd (T 0) 3 ((T 0 3) + 1)))).1)))) else (1, (tu (g_X4_isNumber_46 p0 p1 p2 81 (((T 5) (T 0 3).toNatClampNeg) - 48) (tu T 0 (upd (T 0) 3 ((T 0 3) + 1)))).2 6 (upd ((g_X4_isNumber_46 p0 p1 p2 81 (((T 5) (T 0 3).toNatClampNeg) - 48) (tu T 0 (upd (T 0) 3 ((T 0 3) + 1)))).2 6) ((3 * (((g_X4_isNumber_46 p0 p1 p2 81 (((T 5) (T 0 3).toNatClampNeg) - 48) (tu T 0 (upd (T 0) 3 ((T 0 3) + 1)))).2 0) 4)) + p0).toNatClampNeg ((g_X4_isNumber_46 p0 p1 p2 81 (((T 5) (T 0 3).toNatClampNeg) - 48) (tu T 0 (upd (T 0) 3 ((T 0 3) + 1)))).1)))))))
theorem e_X4_isNumber (T : MS) (p0 p1 p2 : Int32) : f_X4_isNumber T p0 p1 p2 = (if p1 ≤ 0 then (if (f_X4_sees T 48 57) = 0 then (0, T) else (if ((g_X4_isNumber_46 p0 p1 p2 81 (((T 5) (T 0 3).toNatClampNeg) - 48) (tu T 0 (upd (T 0) 3 ((T 0 3) + 1)))).1) < p1 then (0, (tu (g_X4_isNumber_46 p0 p1 p2 81 (((T 5) (T 0 3).toNatClampNeg) - 48) (tu T 0 (upd (T 0) 3 ((T 0 3) + 1)))).2 6 (upd ((g_X4_isNumber_46 p0 p1 p2 81 (((T 5) (T 0 3).toNatClampNeg) - 48) (tu T 0 (upd (T 0) 3 ((T 0 3) + 1)))).2 6) ((3 * (((g_X4_isNumber_46 p0 p1 p2 81 (((T 5) (T 0 3).toNatClampNeg) - 48) (tu T 0 (upd (T 0) 3 ((T 0 3) + 1)))).2 0) 4)) + p0).toNatClampNeg ((g_X4_isNumber_46 p0 p1 p2 81 (((T 5) (T 0 3).toNatClampNeg) - 48) (tu T 0 (upd (T 0) 3 ((T 0 3) + 1)))).1)))) else (1, (tu (g_X4_isNumber_46 p0 p1 p2 81 (((T 5) (T 0 3).toNatClampNeg) - 48) (tu T 0 (upd (T 0) 3 ((T 0 3) + 1)))).2 6 (upd ((g_X4_isNumber_46 p0 p1 p2 81 (((T 5) (T 0 3).toNatClampNeg) - 48) (tu T 0 (upd (T 0) 3 ((T 0 3) + 1)))).2 6) ((3 * (((g_X4_isNumber_46 p0 p1 p2 81 (((T 5) (T 0 3).toNatClampNeg) - 48) (tu T 0 (upd (T 0) 3 ((T 0 3) + 1)))).2 0) 4)) + p0).toNatClampNeg ((g_X4_isNumber_46 p0 p1 p2 81 (((T 5) (T 0 3).toNatClampNeg) - 48) (tu T 0 (upd (T 0) 3 ((T 0 3) + 1)))).1)))))) else (if (f_X4_sees T 49 57) = 0 then (0, T) else (if ((g_X4_isNumber_46 p0 p1 p2 81 (((T 5) (T 0 3).toNatClampNeg) - 48) (tu T 0 (upd (T 0) 3 ((T 0 3) + 1)))).1) < p1 then (0, (tu (g_X4_isNumber_46 p0 p1 p2 81 (((T 5) (T 0 3).toNatClampNeg) - 48) (tu T 0 (upd (T 0) 3 ((T 0 3) + 1)))).2 6 (upd ((g_X4_isNumber_46 p0 p1 p2 81 (((T 5) (T 0 3).toNatClampNeg) - 48) (tu T 0 (upd (T 0) 3 ((T 0 3) + 1)))).2 6) ((3 * (((g_X4_isNumber_46 p0 p1 p2 81 (((T 5) (T 0 3).toNatClampNeg) - 48) (tu T 0 (upd (T 0) 3 ((T 0 3) + 1)))).2 0) 4)) + p0).toNatClampNeg ((g_X4_isNumber_46 p0 p1 p2 81 (((T 5) (T 0 3).toNatClampNeg) - 48) (tu T 0 (upd (T 0) 3 ((T 0 3) + 1)))).1)))) else (1, (tu (g_X4_isNumber_46 p0 p1 p2 81 (((T 5) (T 0 3).toNatClampNeg) - 48) (tu T 0 (upd (T 0) 3 ((T 0 3) + 1)))).2 6 (upd ((g_X4_isNumber_46 p0 p1 p2 81 (((T 5) (T 0 3).toNatClampNeg) - 48) (tu T 0 (upd (T 0) 3 ((T 0 3) + 1)))).2 6) ((3 * (((g_X4_isNumber_46 p0 p1 p2 81 (((T 5) (T 0 3).toNatClampNeg) - 48) (tu T 0 (upd (T 0) 3 ((T 0 3) + 1)))).2 0) 4)) + p0).toNatClampNeg ((g_X4_isNumber_46 p0 p1 p2 81 (((T 5) (T 0 3).toNatClampNeg) - 48) (tu T 0 (upd (T 0) 3 ((T 0 3) + 1)))).1))))))) := opq_eq _
set_option maxHeartbeats 4000000 in
set_option maxRecDepth 100000 in
theorem c_X4_isNumber (l : Launch) (G : GG) (B : Nat → Nat) (T : MS) (p0 p1 p2 : Int32) (h : tx T) (hpl : vp_in p0 3) : Mm l yX4_isNumber wsX4_isNumber ({ frames := 2, cells := 0, slots := 0, locals := 44 } : Room) G [.ref (B 0), .int p0, .int p1, .int p2] (wM G B T) (f_X4_isNumber T p0 p1 p2).1 (wM G B (f_X4_isNumber T p0 p1 p2).2) := by
  refine Mm.of (cc := cX4_isNumber) (maxL := 5) (ret := (some .boolean)) (by decide) rfl (Nat.le_of_ble_eq_true rfl) ?_
  intro p e s m args below meth c A0 hA0 E hr hlocks hP hK hD hA hS ls hl
  have E : CallFix p m c cX4_isNumber 5 s args wsX4_isNumber RX4 := E
  have hx := E.1
  have hb := E.2.1
  have hml := E.2.2.1
  have hown := E.2.2.2.1
  have hts := E.2.2.2.2
  have hl : lv_has ls 5 [(0, .ref (B 0)), (1, .int p0), (2, .int p1), (3, .int p2)] := hl
  have hinX4 : ∀ w ∈ u_ws RX4 TX4 11, w ∈ wsX4_isNumber := fun _ h => List.mem_cons_of_mem _ (List.mem_append_right _ h)
  have LOOP46 : ∀ (n : Nat) (v : Int32) (T1 : MS) (Q : State → Prop), (tx T1) → (80 < (T1 0 3).toNatClampNeg + n) → ∀ V : Int32 × MS, g_X4_isNumber_46 p0 p1 p2 n v T1 = V → (∀ (H : Heap) (locs : List Loc), va_P G.1 vwCl (wM G B V.2) H → va_D A0 (wM G B V.2) → va_S A0 s.heap H locs → ∀ ls : Array Slot, lv_has ls 5 [(0, .ref (B 0)), (1, .int p0), (2, .int p1), (4, .int V.1)] → W p l e ({ frames := 2, cells := 0, slots := 0, locals := 44 } : Room) s m args below meth c H locs 0 0 (Q) (F0 m 117 ls [])) → ∀ (H : Heap) (locs : List Loc), va_P G.1 vwCl (wM G B T1) H → va_D A0 (wM G B T1) → va_S A0 s.heap H locs → ∀ ls : Array Slot, lv_has ls 5 [(0, .ref (B 0)), (1, .int p0), (2, .int p1), (3, .int p2), (4, .int v)] → W p l e ({ frames := 2, cells := 0, slots := 0, locals := 44 } : Room) s m args below meth c H locs 0 0 (Q) (F0 m 46 ls []) := by
    intro n
    induction n with
    | zero =>
      intro v T1 Q ht hn
      exact absurd (tx_q ht) (by omega)
    | succ n ih =>
      intro v T1 Q ht hn V hres kk H locs hP hD hS ls hl
      have hl : lv_has ls 5 [(0, .ref (B 0)), (1, .int p0), (2, .int p1), (3, .int p2), (4, .int v)] := hl
      refine lv_iload hx hb dX4_isNumber_46 (lv_at hl 4 rfl) ?_
      refine lv_if_le (tgt := 117) hx hb dX4_isNumber_48 (by decide) (fun c1 => ?_) (fun c1 => ?_)
      · skip
        have hfin : (v, T1) = V := Eq.trans (Eq.symm (Eq.trans (ge_X4_isNumber_46 p0 p1 p2 n v T1) ((if_pos c1)))) hres
        subst hfin
        exact kk _ _ hP hD hS _ (lv_sub hl [0, 1, 2, 4] rfl)
      · skip
        refine lv_aload_n hx hb dX4_isNumber_51 rfl (lv_at hl 0 rfl) ?_
        refine lv_bipush (v := 48) hx hb dX4_isNumber_52 (by decide) ?_
        refine lv_bipush (v := 57) hx hb dX4_isNumber_54 (by decide) ?_
        refine cpV (rest := []) (As := [.int 48, .int 57]) E (c_X4_sees l G B T1 48 57 ht) (cwV 2 hts gX4_isNumber_X4_sees rfl rfl rfl (by decide +kernel) ⟨Nat.le_of_ble_eq_true rfl, Nat.le_of_ble_eq_true rfl⟩) hK hP 0 (wM_o G B T1) rfl rfl hl.1 rfl (Nat.le_of_ble_eq_true rfl) dX4_isNumber_56 ⟨Nat.zero_le _, Nat.zero_le _⟩ ?_
        refine lv_if_eq (tgt := 117) hx hb dX4_isNumber_59 (by decide) (fun c2 => ?_) (fun c2 => ?_)
        · skip
          have hfin : (v, T1) = V := Eq.trans (Eq.symm (Eq.trans (ge_X4_isNumber_46 p0 p1 p2 n v T1) (Eq.trans (if_neg c1) ((if_pos c2))))) hres
          subst hfin
          exact kk _ _ hP hD hS _ (lv_sub hl [0, 1, 2, 4] rfl)
        · skip
          refine lv_bipush (v := 10) hx hb dX4_isNumber_62 (by decide) ?_
          refine lv_iload hx hb dX4_isNumber_64 (lv_at hl 4 rfl) ?_
          refine lv_imul hx hb dX4_isNumber_66 ?_
          refine lv_aload_n hx hb dX4_isNumber_67 rfl (lv_at hl 0 rfl) ?_
          refine va_get (D := G.1) (ci := 4) (v := .ref (B 5)) (C := RX4) (T := TX4) (N := 11) hx hb hts hinX4 hown hK.1 hP 0 (wM_o G B T1) rfl 6 (by decide) (hts (.fieldLink RX4 22 "WireLoopsModel" "text" "[C") (List.mem_of_getElem? (i := 1) rfl)) (fun _ h9 => h9) rfl dX4_isNumber_68 ?_
          refine lv_aload_n hx hb dX4_isNumber_71 rfl (lv_at hl 0 rfl) ?_
          refine va_get (D := G.1) (ci := 4) (v := .int (T1 0 3)) (C := RX4) (T := TX4) (N := 11) hx hb hts hinX4 hown hK.1 hP 0 (wM_o G B T1) rfl 8 (by decide) (hts (.fieldLink RX4 121 "WireLoopsModel" "spot" "I") (List.mem_of_getElem? (i := 2) rfl)) (fun _ h9 => h9) rfl dX4_isNumber_72 ?_
          refine va_cald (D := G.1) hx hb hK.1 hP 5 1 (wM_5 G B T1) rfl (ss_in ht c2) dX4_isNumber_75 ?_
          refine lv_iadd hx hb dX4_isNumber_76 ?_
          refine lv_bipush (v := 48) hx hb dX4_isNumber_77 (by decide) ?_
          refine lv_isub hx hb dX4_isNumber_79 ?_
          refine lv_iload_n hx hb dX4_isNumber_80 rfl (lv_at hl 3 rfl) ?_
          refine lv_icmp_gt (tgt := 117) hx hb dX4_isNumber_81 (by decide) (fun c3 => ?_) (fun c3 => ?_)
          · skip
            have hfin : (v, T1) = V := Eq.trans (Eq.symm (Eq.trans (ge_X4_isNumber_46 p0 p1 p2 n v T1) (Eq.trans (if_neg c1) (Eq.trans (if_neg c2) ((if_pos c3)))))) hres
            subst hfin
            exact kk _ _ hP hD hS _ (lv_sub hl [0, 1, 2, 4] rfl)
          · skip
            refine lv_bipush (v := 10) hx hb dX4_isNumber_84 (by decide) ?_
            refine lv_iload hx hb dX4_isNumber_86 (lv_at hl 4 rfl) ?_
            refine lv_imul hx hb dX4_isNumber_88 ?_
            refine lv_aload_n hx hb dX4_isNumber_89 rfl (lv_at hl 0 rfl) ?_
            refine va_get (D := G.1) (ci := 4) (v := .ref (B 5)) (C := RX4) (T := TX4) (N := 11) hx hb hts hinX4 hown hK.1 hP 0 (wM_o G B T1) rfl 6 (by decide) (hts (.fieldLink RX4 22 "WireLoopsModel" "text" "[C") (List.mem_of_getElem? (i := 1) rfl)) (fun _ h9 => h9) rfl dX4_isNumber_90 ?_
            refine lv_aload_n hx hb dX4_isNumber_93 rfl (lv_at hl 0 rfl) ?_
            refine va_get (D := G.1) (ci := 4) (v := .int (T1 0 3)) (C := RX4) (T := TX4) (N := 11) hx hb hts hinX4 hown hK.1 hP 0 (wM_o G B T1) rfl 8 (by decide) (hts (.fieldLink RX4 121 "WireLoopsModel" "spot" "I") (List.mem_of_getElem? (i := 2) rfl)) (fun _ h9 => h9) rfl dX4_isNumber_94 ?_
            refine va_cald (D := G.1) hx hb hK.1 hP 5 1 (wM_5 G B T1) rfl (ss_in ht c2) dX4_isNumber_97 ?_
            refine lv_iadd hx hb dX4_isNumber_98 ?_
            refine lv_bipush (v := 48) hx hb dX4_isNumber_99 (by decide) ?_
            refine lv_isub hx hb dX4_isNumber_101 ?_
            refine lv_istore (lv' := [(4, .int (((10 * v) + ((T1 5) (T1 0 3).toNatClampNeg)) - 48)), (0, .ref (B 0)), (1, .int p0), (2, .int p1), (3, .int p2)]) hx hb dX4_isNumber_102 hl (by decide) rfl (fun ls hl => ?_)
            refine lv_aload_n hx hb dX4_isNumber_104 rfl (lv_at hl 1 rfl) ?_
            refine lv_dup hx hb dX4_isNumber_105 rfl ?_
            refine va_get (D := G.1) (ci := 4) (v := .int (T1 0 3)) (C := RX4) (T := TX4) (N := 11) hx hb hts hinX4 hown hK.1 hP 0 (wM_o G B T1) rfl 8 (by decide) (hts (.fieldLink RX4 121 "WireLoopsModel" "spot" "I") (List.mem_of_getElem? (i := 2) rfl)) (fun _ h9 => h9) rfl dX4_isNumber_106 ?_
            refine lv_iconst (v := 1) hx hb dX4_isNumber_109 (by decide) ?_
            refine lv_iadd hx hb dX4_isNumber_110 ?_
            refine va_put (D := G.1) (ci := 4) (v := .int ((T1 0 3) + 1)) (ty := .int) (C := RX4) (T := TX4) (N := 11) hx hb hts hinX4 tyX4 tyX4_ok nmX4 hown hK.1 hP hD hS 0 (wM_o G B T1) rfl 8 (by decide) (hts (.fieldLink RX4 121 "WireLoopsModel" "spot" "I") (List.mem_of_getElem? (i := 2) rfl)) (fun _ h9 => h9) rfl (by decide +kernel) rfl rfl (Nat.le_of_ble_eq_true rfl) dX4_isNumber_111 (fun H locs hP hD hS => ?_)
            rw [wM_so8 G B T1 _] at hP hD
            have hP : va_P G.1 vwCl (wM G B (tu T1 0 (upd (T1 0) 3 ((T1 0 3) + 1)))) H := hP
            have hD : va_D A0 (wM G B (tu T1 0 (upd (T1 0) 3 ((T1 0 3) + 1)))) := hD
            refine lv_goto (tgt := 46) hx hb dX4_isNumber_114 (by decide) ?_
            exact ih (((10 * v) + ((T1 5) (T1 0 3).toNatClampNeg)) - 48) (tu T1 0 (upd (T1 0) 3 ((T1 0 3) + 1))) Q (tx_step ht c2) (tx_mes ht c2 hn) V (Eq.trans (Eq.symm (Eq.trans (ge_X4_isNumber_46 p0 p1 p2 n v T1) (Eq.trans (if_neg c1) (Eq.trans (if_neg c2) ((if_neg c3)))))) hres) kk _ _ hP hD hS _ (lv_sub hl [1, 2, 3, 4, 0] rfl)
  refine lv_aload_n hx hb dX4_isNumber_0 rfl (lv_at hl 0 rfl) ?_
  refine lv_iload_n hx hb dX4_isNumber_1 rfl (lv_at hl 2 rfl) ?_
  refine lv_if_le (tgt := 10) hx hb dX4_isNumber_2 (by decide) (fun c4 => ?_) (fun c4 => ?_)
  · skip
    refine lv_bipush (v := 48) hx hb dX4_isNumber_10 (by decide) ?_
    refine lv_bipush (v := 57) hx hb dX4_isNumber_12 (by decide) ?_
    refine cpV (rest := []) (As := [.int 48, .int 57]) E (c_X4_sees l G B T 48 57 h) (cwV 2 hts gX4_isNumber_X4_sees rfl rfl rfl (by decide +kernel) ⟨Nat.le_of_ble_eq_true rfl, Nat.le_of_ble_eq_true rfl⟩) hK hP 0 (wM_o G B T) rfl rfl hl.1 rfl (Nat.le_of_ble_eq_true rfl) dX4_isNumber_14 ⟨Nat.zero_le _, Nat.zero_le _⟩ ?_
    refine lv_if_ne (tgt := 22) hx hb dX4_isNumber_17 (by decide) (fun c5 => ?_) (fun c5 => ?_)
    · skip
      refine lv_aload_n hx hb dX4_isNumber_22 rfl (lv_at hl 0 rfl) ?_
      refine va_get (D := G.1) (ci := 4) (v := .ref (B 5)) (C := RX4) (T := TX4) (N := 11) hx hb hts hinX4 hown hK.1 hP 0 (wM_o G B T) rfl 6 (by decide) (hts (.fieldLink RX4 22 "WireLoopsModel" "text" "[C") (List.mem_of_getElem? (i := 1) rfl)) (fun _ h9 => h9) rfl dX4_isNumber_23 ?_
      refine lv_aload_n hx hb dX4_isNumber_26 rfl (lv_at hl 0 rfl) ?_
      refine va_get (D := G.1) (ci := 4) (v := .int (T 0 3)) (C := RX4) (T := TX4) (N := 11) hx hb hts hinX4 hown hK.1 hP 0 (wM_o G B T) rfl 8 (by decide) (hts (.fieldLink RX4 121 "WireLoopsModel" "spot" "I") (List.mem_of_getElem? (i := 2) rfl)) (fun _ h9 => h9) rfl dX4_isNumber_27 ?_
      refine va_cald (D := G.1) hx hb hK.1 hP 5 1 (wM_5 G B T) rfl (ss_in h c5) dX4_isNumber_30 ?_
      refine lv_bipush (v := 48) hx hb dX4_isNumber_31 (by decide) ?_
      refine lv_isub hx hb dX4_isNumber_33 ?_
      refine lv_istore (lv' := [(4, .int (((T 5) (T 0 3).toNatClampNeg) - 48)), (0, .ref (B 0)), (1, .int p0), (2, .int p1), (3, .int p2)]) hx hb dX4_isNumber_34 hl (by decide) rfl (fun ls hl => ?_)
      refine lv_aload_n hx hb dX4_isNumber_36 rfl (lv_at hl 1 rfl) ?_
      refine lv_dup hx hb dX4_isNumber_37 rfl ?_
      refine va_get (D := G.1) (ci := 4) (v := .int (T 0 3)) (C := RX4) (T := TX4) (N := 11) hx hb hts hinX4 hown hK.1 hP 0 (wM_o G B T) rfl 8 (by decide) (hts (.fieldLink RX4 121 "WireLoopsModel" "spot" "I") (List.mem_of_getElem? (i := 2) rfl)) (fun _ h9 => h9) rfl dX4_isNumber_38 ?_
      refine lv_iconst (v := 1) hx hb dX4_isNumber_41 (by decide) ?_
      refine lv_iadd hx hb dX4_isNumber_42 ?_
      refine va_put (D := G.1) (ci := 4) (v := .int ((T 0 3) + 1)) (ty := .int) (C := RX4) (T := TX4) (N := 11) hx hb hts hinX4 tyX4 tyX4_ok nmX4 hown hK.1 hP hD hS 0 (wM_o G B T) rfl 8 (by decide) (hts (.fieldLink RX4 121 "WireLoopsModel" "spot" "I") (List.mem_of_getElem? (i := 2) rfl)) (fun _ h9 => h9) rfl (by decide +kernel) rfl rfl (Nat.le_of_ble_eq_true rfl) dX4_isNumber_43 (fun H locs hP hD hS => ?_)
      rw [wM_so8 G B T _] at hP hD
      have hP : va_P G.1 vwCl (wM G B (tu T 0 (upd (T 0) 3 ((T 0 3) + 1)))) H := hP
      have hD : va_D A0 (wM G B (tu T 0 (upd (T 0) 3 ((T 0 3) + 1)))) := hD
      refine LOOP46 81 (((T 5) (T 0 3).toNatClampNeg) - 48) (tu T 0 (upd (T 0) 3 ((T 0 3) + 1))) _ (tx_step h c5) (by omega) _ rfl (fun H locs hP hD hS ls hl => ?_) _ _ hP hD hS _ (lv_sub hl [1, 2, 3, 4, 0] rfl)
      have hl : lv_has ls 5 [(0, .ref (B 0)), (1, .int p0), (2, .int p1), (4, .int ((g_X4_isNumber_46 p0 p1 p2 81 (((T 5) (T 0 3).toNatClampNeg) - 48) (tu T 0 (upd (T 0) 3 ((T 0 3) + 1)))).1))] := hl
      have hP : va_P G.1 vwCl (wM G B (g_X4_isNumber_46 p0 p1 p2 81 (((T 5) (T 0 3).toNatClampNeg) - 48) (tu T 0 (upd (T 0) 3 ((T 0 3) + 1)))).2) H := hP
      have hD : va_D A0 (wM G B (g_X4_isNumber_46 p0 p1 p2 81 (((T 5) (T 0 3).toNatClampNeg) - 48) (tu T 0 (upd (T 0) 3 ((T 0 3) + 1)))).2) := hD
      refine lv_aload_n hx hb dX4_isNumber_117 rfl (lv_at hl 0 rfl) ?_
      refine va_get (D := G.1) (ci := 4) (v := .ref (B 6)) (C := RX4) (T := TX4) (N := 11) hx hb hts hinX4 hown hK.1 hP 0 (wM_o G B (g_X4_isNumber_46 p0 p1 p2 81 (((T 5) (T 0 3).toNatClampNeg) - 48) (tu T 0 (upd (T 0) 3 ((T 0 3) + 1)))).2) rfl 9 (by decide) (hts (.fieldLink RX4 26 "WireLoopsModel" "told" "[I") (List.mem_of_getElem? (i := 3) rfl)) (fun _ h9 => h9) rfl dX4_isNumber_118 ?_
      refine lv_iconst (v := 3) hx hb dX4_isNumber_121 (by decide) ?_
      refine lv_aload_n hx hb dX4_isNumber_122 rfl (lv_at hl 0 rfl) ?_
      refine va_get (D := G.1) (ci := 4) (v := .int (((g_X4_isNumber_46 p0 p1 p2 81 (((T 5) (T 0 3).toNatClampNeg) - 48) (tu T 0 (upd (T 0) 3 ((T 0 3) + 1)))).2 0) 4)) (C := RX4) (T := TX4) (N := 11) hx hb hts hinX4 hown hK.1 hP 0 (wM_o G B (g_X4_isNumber_46 p0 p1 p2 81 (((T 5) (T 0 3).toNatClampNeg) - 48) (tu T 0 (upd (T 0) 3 ((T 0 3) + 1)))).2) rfl 10 (by decide) (hts (.fieldLink RX4 87 "WireLoopsModel" "toldMany" "I") (List.mem_of_getElem? (i := 4) rfl)) (fun _ h9 => h9) rfl dX4_isNumber_123 ?_
      refine lv_imul hx hb dX4_isNumber_126 ?_
      refine lv_iload_n hx hb dX4_isNumber_127 rfl (lv_at hl 1 rfl) ?_
      refine lv_iadd hx hb dX4_isNumber_128 ?_
      refine lv_iload hx hb dX4_isNumber_129 (lv_at hl 3 rfl) ?_
      refine va_iast (D := G.1) hx hb hK.1 hP hD hS 6 0 (wM_6 G B (g_X4_isNumber_46 p0 p1 p2 81 (((T 5) (T 0 3).toNatClampNeg) - 48) (tu T 0 (upd (T 0) 3 ((T 0 3) + 1)))).2) rfl (told_in (isn_tx _ _ _ _ _ _ (tx_step h c5)) hpl) dX4_isNumber_131 (fun H locs hP hD hS => ?_)
      rw [wM_s6 G B (g_X4_isNumber_46 p0 p1 p2 81 (((T 5) (T 0 3).toNatClampNeg) - 48) (tu T 0 (upd (T 0) 3 ((T 0 3) + 1)))).2 _] at hP hD
      have hP : va_P G.1 vwCl (wM G B (tu (g_X4_isNumber_46 p0 p1 p2 81 (((T 5) (T 0 3).toNatClampNeg) - 48) (tu T 0 (upd (T 0) 3 ((T 0 3) + 1)))).2 6 (upd ((g_X4_isNumber_46 p0 p1 p2 81 (((T 5) (T 0 3).toNatClampNeg) - 48) (tu T 0 (upd (T 0) 3 ((T 0 3) + 1)))).2 6) ((3 * (((g_X4_isNumber_46 p0 p1 p2 81 (((T 5) (T 0 3).toNatClampNeg) - 48) (tu T 0 (upd (T 0) 3 ((T 0 3) + 1)))).2 0) 4)) + p0).toNatClampNeg ((g_X4_isNumber_46 p0 p1 p2 81 (((T 5) (T 0 3).toNatClampNeg) - 48) (tu T 0 (upd (T 0) 3 ((T 0 3) + 1)))).1)))) H := hP
      have hD : va_D A0 (wM G B (tu (g_X4_isNumber_46 p0 p1 p2 81 (((T 5) (T 0 3).toNatClampNeg) - 48) (tu T 0 (upd (T 0) 3 ((T 0 3) + 1)))).2 6 (upd ((g_X4_isNumber_46 p0 p1 p2 81 (((T 5) (T 0 3).toNatClampNeg) - 48) (tu T 0 (upd (T 0) 3 ((T 0 3) + 1)))).2 6) ((3 * (((g_X4_isNumber_46 p0 p1 p2 81 (((T 5) (T 0 3).toNatClampNeg) - 48) (tu T 0 (upd (T 0) 3 ((T 0 3) + 1)))).2 0) 4)) + p0).toNatClampNeg ((g_X4_isNumber_46 p0 p1 p2 81 (((T 5) (T 0 3).toNatClampNeg) - 48) (tu T 0 (upd (T 0) 3 ((T 0 3) + 1)))).1)))) := hD
      refine lv_iload hx hb dX4_isNumber_132 (lv_at hl 3 rfl) ?_
      refine lv_iload_n hx hb dX4_isNumber_134 rfl (lv_at hl 2 rfl) ?_
      refine lv_icmp_lt (tgt := 142) hx hb dX4_isNumber_135 (by decide) (fun c6 => ?_) (fun c6 => ?_)
      · skip
        refine lv_iconst (v := 0) hx hb dX4_isNumber_142 (by decide) ?_
        have hfin : (0, (tu (g_X4_isNumber_46 p0 p1 p2 81 (((T 5) (T 0 3).toNatClampNeg) - 48) (tu T 0 (upd (T 0) 3 ((T 0 3) + 1)))).2 6 (upd ((g_X4_isNumber_46 p0 p1 p2 81 (((T 5) (T 0 3).toNatClampNeg) - 48) (tu T 0 (upd (T 0) 3 ((T 0 3) + 1)))).2 6) ((3 * (((g_X4_isNumber_46 p0 p1 p2 81 (((T 5) (T 0 3).toNatClampNeg) - 48) (tu T 0 (upd (T 0) 3 ((T 0 3) + 1)))).2 0) 4)) + p0).toNatClampNeg ((g_X4_isNumber_46 p0 p1 p2 81 (((T 5) (T 0 3).toNatClampNeg) - 48) (tu T 0 (upd (T 0) 3 ((T 0 3) + 1)))).1)))) = (f_X4_isNumber T p0 p1 p2) := Eq.symm (Eq.trans (e_X4_isNumber T p0 p1 p2) (Eq.trans (if_pos c4) (Eq.trans (if_neg c5) ((if_pos c6)))))
        exact endM hx hb hr hlocks rfl hP hD hS ⟨@congrArg (Int32 × MS) Int32 (0, (tu (g_X4_isNumber_46 p0 p1 p2 81 (((T 5) (T 0 3).toNatClampNeg) - 48) (tu T 0 (upd (T 0) 3 ((T 0 3) + 1)))).2 6 (upd ((g_X4_isNumber_46 p0 p1 p2 81 (((T 5) (T 0 3).toNatClampNeg) - 48) (tu T 0 (upd (T 0) 3 ((T 0 3) + 1)))).2 6) ((3 * (((g_X4_isNumber_46 p0 p1 p2 81 (((T 5) (T 0 3).toNatClampNeg) - 48) (tu T 0 (upd (T 0) 3 ((T 0 3) + 1)))).2 0) 4)) + p0).toNatClampNeg ((g_X4_isNumber_46 p0 p1 p2 81 (((T 5) (T 0 3).toNatClampNeg) - 48) (tu T 0 (upd (T 0) 3 ((T 0 3) + 1)))).1)))) (f_X4_isNumber T p0 p1 p2) Prod.fst hfin, @congrArg (Int32 × MS) va_W (0, (tu (g_X4_isNumber_46 p0 p1 p2 81 (((T 5) (T 0 3).toNatClampNeg) - 48) (tu T 0 (upd (T 0) 3 ((T 0 3) + 1)))).2 6 (upd ((g_X4_isNumber_46 p0 p1 p2 81 (((T 5) (T 0 3).toNatClampNeg) - 48) (tu T 0 (upd (T 0) 3 ((T 0 3) + 1)))).2 6) ((3 * (((g_X4_isNumber_46 p0 p1 p2 81 (((T 5) (T 0 3).toNatClampNeg) - 48) (tu T 0 (upd (T 0) 3 ((T 0 3) + 1)))).2 0) 4)) + p0).toNatClampNeg ((g_X4_isNumber_46 p0 p1 p2 81 (((T 5) (T 0 3).toNatClampNeg) - 48) (tu T 0 (upd (T 0) 3 ((T 0 3) + 1)))).1)))) (f_X4_isNumber T p0 p1 p2) (fun z => wM G B z.2) hfin⟩ dX4_isNumber_143
      · skip
        refine lv_iconst (v := 1) hx hb dX4_isNumber_138 (by decide) ?_
        refine lv_goto (tgt := 143) hx hb dX4_isNumber_139 (by decide) ?_
        have hfin : (1, (tu (g_X4_isNumber_46 p0 p1 p2 81 (((T 5) (T 0 3).toNatClampNeg) - 48) (tu T 0 (upd (T 0) 3 ((T 0 3) + 1)))).2 6 (upd ((g_X4_isNumber_46 p0 p1 p2 81 (((T 5) (T 0 3).toNatClampNeg) - 48) (tu T 0 (upd (T 0) 3 ((T 0 3) + 1)))).2 6) ((3 * (((g_X4_isNumber_46 p0 p1 p2 81 (((T 5) (T 0 3).toNatClampNeg) - 48) (tu T 0 (upd (T 0) 3 ((T 0 3) + 1)))).2 0) 4)) + p0).toNatClampNeg ((g_X4_isNumber_46 p0 p1 p2 81 (((T 5) (T 0 3).toNatClampNeg) - 48) (tu T 0 (upd (T 0) 3 ((T 0 3) + 1)))).1)))) = (f_X4_isNumber T p0 p1 p2) := Eq.symm (Eq.trans (e_X4_isNumber T p0 p1 p2) (Eq.trans (if_pos c4) (Eq.trans (if_neg c5) ((if_neg c6)))))
        exact endM hx hb hr hlocks rfl hP hD hS ⟨@congrArg (Int32 × MS) Int32 (1, (tu (g_X4_isNumber_46 p0 p1 p2 81 (((T 5) (T 0 3).toNatClampNeg) - 48) (tu T 0 (upd (T 0) 3 ((T 0 3) + 1)))).2 6 (upd ((g_X4_isNumber_46 p0 p1 p2 81 (((T 5) (T 0 3).toNatClampNeg) - 48) (tu T 0 (upd (T 0) 3 ((T 0 3) + 1)))).2 6) ((3 * (((g_X4_isNumber_46 p0 p1 p2 81 (((T 5) (T 0 3).toNatClampNeg) - 48) (tu T 0 (upd (T 0) 3 ((T 0 3) + 1)))).2 0) 4)) + p0).toNatClampNeg ((g_X4_isNumber_46 p0 p1 p2 81 (((T 5) (T 0 3).toNatClampNeg) - 48) (tu T 0 (upd (T 0) 3 ((T 0 3) + 1)))).1)))) (f_X4_isNumber T p0 p1 p2) Prod.fst hfin, @congrArg (Int32 × MS) va_W (1, (tu (g_X4_isNumber_46 p0 p1 p2 81 (((T 5) (T 0 3).toNatClampNeg) - 48) (tu T 0 (upd (T 0) 3 ((T 0 3) + 1)))).2 6 (upd ((g_X4_isNumber_46 p0 p1 p2 81 (((T 5) (T 0 3).toNatClampNeg) - 48) (tu T 0 (upd (T 0) 3 ((T 0 3) + 1)))).2 6) ((3 * (((g_X4_isNumber_46 p0 p1 p2 81 (((T 5) (T 0 3).toNatClampNeg) - 48) (tu T 0 (upd (T 0) 3 ((T 0 3) + 1)))).2 0) 4)) + p0).toNatClampNeg ((g_X4_isNumber_46 p0 p1 p2 81 (((T 5) (T 0 3).toNatClampNeg) - 48) (tu T 0 (upd (T 0) 3 ((T 0 3) + 1)))).1)))) (f_X4_isNumber T p0 p1 p2) (fun z => wM G B z.2) hfin⟩ dX4_isNumber_143
    · skip
      refine lv_iconst (v := 0) hx hb dX4_isNumber_20 (by decide) ?_
      have hfin : (0, T) = (f_X4_isNumber T p0 p1 p2) := Eq.symm (Eq.trans (e_X4_isNumber T p0 p1 p2) (Eq.trans (if_pos c4) ((if_pos c5))))
      exact endM hx hb hr hlocks rfl hP hD hS ⟨@congrArg (Int32 × MS) Int32 (0, T) (f_X4_isNumber T p0 p1 p2) Prod.fst hfin, @congrArg (Int32 × MS) va_W (0, T) (f_X4_isNumber T p0 p1 p2) (fun z => wM G B z.2) hfin⟩ dX4_isNumber_21
  · skip
    refine lv_bipush (v := 49) hx hb dX4_isNumber_5 (by decide) ?_
    refine lv_goto (tgt := 12) hx hb dX4_isNumber_7 (by decide) ?_
    refine lv_bipush (v := 57) hx hb dX4_isNumber_12 (by decide) ?_
    refine cpV (rest := []) (As := [.int 49, .int 57]) E (c_X4_sees l G B T 49 57 h) (cwV 2 hts gX4_isNumber_X4_sees rfl rfl rfl (by decide +kernel) ⟨Nat.le_of_ble_eq_true rfl, Nat.le_of_ble_eq_true rfl⟩) hK hP 0 (wM_o G B T) rfl rfl hl.1 rfl (Nat.le_of_ble_eq_true rfl) dX4_isNumber_14 ⟨Nat.zero_le _, Nat.zero_le _⟩ ?_
    refine lv_if_ne (tgt := 22) hx hb dX4_isNumber_17 (by decide) (fun c7 => ?_) (fun c7 => ?_)
    · skip
      refine lv_aload_n hx hb dX4_isNumber_22 rfl (lv_at hl 0 rfl) ?_
      refine va_get (D := G.1) (ci := 4) (v := .ref (B 5)) (C := RX4) (T := TX4) (N := 11) hx hb hts hinX4 hown hK.1 hP 0 (wM_o G B T) rfl 6 (by decide) (hts (.fieldLink RX4 22 "WireLoopsModel" "text" "[C") (List.mem_of_getElem? (i := 1) rfl)) (fun _ h9 => h9) rfl dX4_isNumber_23 ?_
      refine lv_aload_n hx hb dX4_isNumber_26 rfl (lv_at hl 0 rfl) ?_
      refine va_get (D := G.1) (ci := 4) (v := .int (T 0 3)) (C := RX4) (T := TX4) (N := 11) hx hb hts hinX4 hown hK.1 hP 0 (wM_o G B T) rfl 8 (by decide) (hts (.fieldLink RX4 121 "WireLoopsModel" "spot" "I") (List.mem_of_getElem? (i := 2) rfl)) (fun _ h9 => h9) rfl dX4_isNumber_27 ?_
      refine va_cald (D := G.1) hx hb hK.1 hP 5 1 (wM_5 G B T) rfl (ss_in h c7) dX4_isNumber_30 ?_
      refine lv_bipush (v := 48) hx hb dX4_isNumber_31 (by decide) ?_
      refine lv_isub hx hb dX4_isNumber_33 ?_
      refine lv_istore (lv' := [(4, .int (((T 5) (T 0 3).toNatClampNeg) - 48)), (0, .ref (B 0)), (1, .int p0), (2, .int p1), (3, .int p2)]) hx hb dX4_isNumber_34 hl (by decide) rfl (fun ls hl => ?_)
      refine lv_aload_n hx hb dX4_isNumber_36 rfl (lv_at hl 1 rfl) ?_
      refine lv_dup hx hb dX4_isNumber_37 rfl ?_
      refine va_get (D := G.1) (ci := 4) (v := .int (T 0 3)) (C := RX4) (T := TX4) (N := 11) hx hb hts hinX4 hown hK.1 hP 0 (wM_o G B T) rfl 8 (by decide) (hts (.fieldLink RX4 121 "WireLoopsModel" "spot" "I") (List.mem_of_getElem? (i := 2) rfl)) (fun _ h9 => h9) rfl dX4_isNumber_38 ?_
      refine lv_iconst (v := 1) hx hb dX4_isNumber_41 (by decide) ?_
      refine lv_iadd hx hb dX4_isNumber_42 ?_
      refine va_put (D := G.1) (ci := 4) (v := .int ((T 0 3) + 1)) (ty := .int) (C := RX4) (T := TX4) (N := 11) hx hb hts hinX4 tyX4 tyX4_ok nmX4 hown hK.1 hP hD hS 0 (wM_o G B T) rfl 8 (by decide) (hts (.fieldLink RX4 121 "WireLoopsModel" "spot" "I") (List.mem_of_getElem? (i := 2) rfl)) (fun _ h9 => h9) rfl (by decide +kernel) rfl rfl (Nat.le_of_ble_eq_true rfl) dX4_isNumber_43 (fun H locs hP hD hS => ?_)
      rw [wM_so8 G B T _] at hP hD
      have hP : va_P G.1 vwCl (wM G B (tu T 0 (upd (T 0) 3 ((T 0 3) + 1)))) H := hP
      have hD : va_D A0 (wM G B (tu T 0 (upd (T 0) 3 ((T 0 3) + 1)))) := hD
      refine LOOP46 81 (((T 5) (T 0 3).toNatClampNeg) - 48) (tu T 0 (upd (T 0) 3 ((T 0 3) + 1))) _ (tx_step h c7) (by omega) _ rfl (fun H locs hP hD hS ls hl => ?_) _ _ hP hD hS _ (lv_sub hl [1, 2, 3, 4, 0] rfl)
      have hl : lv_has ls 5 [(0, .ref (B 0)), (1, .int p0), (2, .int p1), (4, .int ((g_X4_isNumber_46 p0 p1 p2 81 (((T 5) (T 0 3).toNatClampNeg) - 48) (tu T 0 (upd (T 0) 3 ((T 0 3) + 1)))).1))] := hl
      have hP : va_P G.1 vwCl (wM G B (g_X4_isNumber_46 p0 p1 p2 81 (((T 5) (T 0 3).toNatClampNeg) - 48) (tu T 0 (upd (T 0) 3 ((T 0 3) + 1)))).2) H := hP
      have hD : va_D A0 (wM G B (g_X4_isNumber_46 p0 p1 p2 81 (((T 5) (T 0 3).toNatClampNeg) - 48) (tu T 0 (upd (T 0) 3 ((T 0 3) + 1)))).2) := hD
      refine lv_aload_n hx hb dX4_isNumber_117 rfl (lv_at hl 0 rfl) ?_
      refine va_get (D := G.1) (ci := 4) (v := .ref (B 6)) (C := RX4) (T := TX4) (N := 11) hx hb hts hinX4 hown hK.1 hP 0 (wM_o G B (g_X4_isNumber_46 p0 p1 p2 81 (((T 5) (T 0 3).toNatClampNeg) - 48) (tu T 0 (upd (T 0) 3 ((T 0 3) + 1)))).2) rfl 9 (by decide) (hts (.fieldLink RX4 26 "WireLoopsModel" "told" "[I") (List.mem_of_getElem? (i := 3) rfl)) (fun _ h9 => h9) rfl dX4_isNumber_118 ?_
      refine lv_iconst (v := 3) hx hb dX4_isNumber_121 (by decide) ?_
      refine lv_aload_n hx hb dX4_isNumber_122 rfl (lv_at hl 0 rfl) ?_
      refine va_get (D := G.1) (ci := 4) (v := .int (((g_X4_isNumber_46 p0 p1 p2 81 (((T 5) (T 0 3).toNatClampNeg) - 48) (tu T 0 (upd (T 0) 3 ((T 0 3) + 1)))).2 0) 4)) (C := RX4) (T := TX4) (N := 11) hx hb hts hinX4 hown hK.1 hP 0 (wM_o G B (g_X4_isNumber_46 p0 p1 p2 81 (((T 5) (T 0 3).toNatClampNeg) - 48) (tu T 0 (upd (T 0) 3 ((T 0 3) + 1)))).2) rfl 10 (by decide) (hts (.fieldLink RX4 87 "WireLoopsModel" "toldMany" "I") (List.mem_of_getElem? (i := 4) rfl)) (fun _ h9 => h9) rfl dX4_isNumber_123 ?_
      refine lv_imul hx hb dX4_isNumber_126 ?_
      refine lv_iload_n hx hb dX4_isNumber_127 rfl (lv_at hl 1 rfl) ?_
      refine lv_iadd hx hb dX4_isNumber_128 ?_
      refine lv_iload hx hb dX4_isNumber_129 (lv_at hl 3 rfl) ?_
      refine va_iast (D := G.1) hx hb hK.1 hP hD hS 6 0 (wM_6 G B (g_X4_isNumber_46 p0 p1 p2 81 (((T 5) (T 0 3).toNatClampNeg) - 48) (tu T 0 (upd (T 0) 3 ((T 0 3) + 1)))).2) rfl (told_in (isn_tx _ _ _ _ _ _ (tx_step h c7)) hpl) dX4_isNumber_131 (fun H locs hP hD hS => ?_)
      rw [wM_s6 G B (g_X4_isNumber_46 p0 p1 p2 81 (((T 5) (T 0 3).toNatClampNeg) - 48) (tu T 0 (upd (T 0) 3 ((T 0 3) + 1)))).2 _] at hP hD
      have hP : va_P G.1 vwCl (wM G B (tu (g_X4_isNumber_46 p0 p1 p2 81 (((T 5) (T 0 3).toNatClampNeg) - 48) (tu T 0 (upd (T 0) 3 ((T 0 3) + 1)))).2 6 (upd ((g_X4_isNumber_46 p0 p1 p2 81 (((T 5) (T 0 3).toNatClampNeg) - 48) (tu T 0 (upd (T 0) 3 ((T 0 3) + 1)))).2 6) ((3 * (((g_X4_isNumber_46 p0 p1 p2 81 (((T 5) (T 0 3).toNatClampNeg) - 48) (tu T 0 (upd (T 0) 3 ((T 0 3) + 1)))).2 0) 4)) + p0).toNatClampNeg ((g_X4_isNumber_46 p0 p1 p2 81 (((T 5) (T 0 3).toNatClampNeg) - 48) (tu T 0 (upd (T 0) 3 ((T 0 3) + 1)))).1)))) H := hP
      have hD : va_D A0 (wM G B (tu (g_X4_isNumber_46 p0 p1 p2 81 (((T 5) (T 0 3).toNatClampNeg) - 48) (tu T 0 (upd (T 0) 3 ((T 0 3) + 1)))).2 6 (upd ((g_X4_isNumber_46 p0 p1 p2 81 (((T 5) (T 0 3).toNatClampNeg) - 48) (tu T 0 (upd (T 0) 3 ((T 0 3) + 1)))).2 6) ((3 * (((g_X4_isNumber_46 p0 p1 p2 81 (((T 5) (T 0 3).toNatClampNeg) - 48) (tu T 0 (upd (T 0) 3 ((T 0 3) + 1)))).2 0) 4)) + p0).toNatClampNeg ((g_X4_isNumber_46 p0 p1 p2 81 (((T 5) (T 0 3).toNatClampNeg) - 48) (tu T 0 (upd (T 0) 3 ((T 0 3) + 1)))).1)))) := hD
      refine lv_iload hx hb dX4_isNumber_132 (lv_at hl 3 rfl) ?_
      refine lv_iload_n hx hb dX4_isNumber_134 rfl (lv_at hl 2 rfl) ?_
      refine lv_icmp_lt (tgt := 142) hx hb dX4_isNumber_135 (by decide) (fun c8 => ?_) (fun c8 => ?_)
      · skip
        refine lv_iconst (v := 0) hx hb dX4_isNumber_142 (by decide) ?_
        have hfin : (0, (tu (g_X4_isNumber_46 p0 p1 p2 81 (((T 5) (T 0 3).toNatClampNeg) - 48) (tu T 0 (upd (T 0) 3 ((T 0 3) + 1)))).2 6 (upd ((g_X4_isNumber_46 p0 p1 p2 81 (((T 5) (T 0 3).toNatClampNeg) - 48) (tu T 0 (upd (T 0) 3 ((T 0 3) + 1)))).2 6) ((3 * (((g_X4_isNumber_46 p0 p1 p2 81 (((T 5) (T 0 3).toNatClampNeg) - 48) (tu T 0 (upd (T 0) 3 ((T 0 3) + 1)))).2 0) 4)) + p0).toNatClampNeg ((g_X4_isNumber_46 p0 p1 p2 81 (((T 5) (T 0 3).toNatClampNeg) - 48) (tu T 0 (upd (T 0) 3 ((T 0 3) + 1)))).1)))) = (f_X4_isNumber T p0 p1 p2) := Eq.symm (Eq.trans (e_X4_isNumber T p0 p1 p2) (Eq.trans (if_neg c4) (Eq.trans (if_neg c7) ((if_pos c8)))))
        exact endM hx hb hr hlocks rfl hP hD hS ⟨@congrArg (Int32 × MS) Int32 (0, (tu (g_X4_isNumber_46 p0 p1 p2 81 (((T 5) (T 0 3).toNatClampNeg) - 48) (tu T 0 (upd (T 0) 3 ((T 0 3) + 1)))).2 6 (upd ((g_X4_isNumber_46 p0 p1 p2 81 (((T 5) (T 0 3).toNatClampNeg) - 48) (tu T 0 (upd (T 0) 3 ((T 0 3) + 1)))).2 6) ((3 * (((g_X4_isNumber_46 p0 p1 p2 81 (((T 5) (T 0 3).toNatClampNeg) - 48) (tu T 0 (upd (T 0) 3 ((T 0 3) + 1)))).2 0) 4)) + p0).toNatClampNeg ((g_X4_isNumber_46 p0 p1 p2 81 (((T 5) (T 0 3).toNatClampNeg) - 48) (tu T 0 (upd (T 0) 3 ((T 0 3) + 1)))).1)))) (f_X4_isNumber T p0 p1 p2) Prod.fst hfin, @congrArg (Int32 × MS) va_W (0, (tu (g_X4_isNumber_46 p0 p1 p2 81 (((T 5) (T 0 3).toNatClampNeg) - 48) (tu T 0 (upd (T 0) 3 ((T 0 3) + 1)))).2 6 (upd ((g_X4_isNumber_46 p0 p1 p2 81 (((T 5) (T 0 3).toNatClampNeg) - 48) (tu T 0 (upd (T 0) 3 ((T 0 3) + 1)))).2 6) ((3 * (((g_X4_isNumber_46 p0 p1 p2 81 (((T 5) (T 0 3).toNatClampNeg) - 48) (tu T 0 (upd (T 0) 3 ((T 0 3) + 1)))).2 0) 4)) + p0).toNatClampNeg ((g_X4_isNumber_46 p0 p1 p2 81 (((T 5) (T 0 3).toNatClampNeg) - 48) (tu T 0 (upd (T 0) 3 ((T 0 3) + 1)))).1)))) (f_X4_isNumber T p0 p1 p2) (fun z => wM G B z.2) hfin⟩ dX4_isNumber_143
      · skip
        refine lv_iconst (v := 1) hx hb dX4_isNumber_138 (by decide) ?_
        refine lv_goto (tgt := 143) hx hb dX4_isNumber_139 (by decide) ?_
        have hfin : (1, (tu (g_X4_isNumber_46 p0 p1 p2 81 (((T 5) (T 0 3).toNatClampNeg) - 48) (tu T 0 (upd (T 0) 3 ((T 0 3) + 1)))).2 6 (upd ((g_X4_isNumber_46 p0 p1 p2 81 (((T 5) (T 0 3).toNatClampNeg) - 48) (tu T 0 (upd (T 0) 3 ((T 0 3) + 1)))).2 6) ((3 * (((g_X4_isNumber_46 p0 p1 p2 81 (((T 5) (T 0 3).toNatClampNeg) - 48) (tu T 0 (upd (T 0) 3 ((T 0 3) + 1)))).2 0) 4)) + p0).toNatClampNeg ((g_X4_isNumber_46 p0 p1 p2 81 (((T 5) (T 0 3).toNatClampNeg) - 48) (tu T 0 (upd (T 0) 3 ((T 0 3) + 1)))).1)))) = (f_X4_isNumber T p0 p1 p2) := Eq.symm (Eq.trans (e_X4_isNumber T p0 p1 p2) (Eq.trans (if_neg c4) (Eq.trans (if_neg c7) ((if_neg c8)))))
        exact endM hx hb hr hlocks rfl hP hD hS ⟨@congrArg (Int32 × MS) Int32 (1, (tu (g_X4_isNumber_46 p0 p1 p2 81 (((T 5) (T 0 3).toNatClampNeg) - 48) (tu T 0 (upd (T 0) 3 ((T 0 3) + 1)))).2 6 (upd ((g_X4_isNumber_46 p0 p1 p2 81 (((T 5) (T 0 3).toNatClampNeg) - 48) (tu T 0 (upd (T 0) 3 ((T 0 3) + 1)))).2 6) ((3 * (((g_X4_isNumber_46 p0 p1 p2 81 (((T 5) (T 0 3).toNatClampNeg) - 48) (tu T 0 (upd (T 0) 3 ((T 0 3) + 1)))).2 0) 4)) + p0).toNatClampNeg ((g_X4_isNumber_46 p0 p1 p2 81 (((T 5) (T 0 3).toNatClampNeg) - 48) (tu T 0 (upd (T 0) 3 ((T 0 3) + 1)))).1)))) (f_X4_isNumber T p0 p1 p2) Prod.fst hfin, @congrArg (Int32 × MS) va_W (1, (tu (g_X4_isNumber_46 p0 p1 p2 81 (((T 5) (T 0 3).toNatClampNeg) - 48) (tu T 0 (upd (T 0) 3 ((T 0 3) + 1)))).2 6 (upd ((g_X4_isNumber_46 p0 p1 p2 81 (((T 5) (T 0 3).toNatClampNeg) - 48) (tu T 0 (upd (T 0) 3 ((T 0 3) + 1)))).2 6) ((3 * (((g_X4_isNumber_46 p0 p1 p2 81 (((T 5) (T 0 3).toNatClampNeg) - 48) (tu T 0 (upd (T 0) 3 ((T 0 3) + 1)))).2 0) 4)) + p0).toNatClampNeg ((g_X4_isNumber_46 p0 p1 p2 81 (((T 5) (T 0 3).toNatClampNeg) - 48) (tu T 0 (upd (T 0) 3 ((T 0 3) + 1)))).1)))) (f_X4_isNumber T p0 p1 p2) (fun z => wM G B z.2) hfin⟩ dX4_isNumber_143
    · skip
      refine lv_iconst (v := 0) hx hb dX4_isNumber_20 (by decide) ?_
      have hfin : (0, T) = (f_X4_isNumber T p0 p1 p2) := Eq.symm (Eq.trans (e_X4_isNumber T p0 p1 p2) (Eq.trans (if_neg c4) ((if_pos c7))))
      exact endM hx hb hr hlocks rfl hP hD hS ⟨@congrArg (Int32 × MS) Int32 (0, T) (f_X4_isNumber T p0 p1 p2) Prod.fst hfin, @congrArg (Int32 × MS) va_W (0, T) (f_X4_isNumber T p0 p1 p2) (fun z => wM G B z.2) hfin⟩ dX4_isNumber_21
theorem tx_isNumber {T : MS} (x y z : Int32) (h : tx T) : tx (f_X4_isNumber T x y z).2 := by
  rw [e_X4_isNumber]
  by_cases c1 : y ≤ 0
  · rw [if_pos c1]
    by_cases c2 : f_X4_sees T 48 57 = 0
    · rw [if_pos c2]; exact h
    rw [if_neg c2]
    have h2 := isn_tx x y z 81 (T 5 (T 0 3).toNatClampNeg - 48) _ (tx_step h c2)
    split <;> exact h2
  · rw [if_neg c1]
    by_cases c2 : f_X4_sees T 49 57 = 0
    · rw [if_pos c2]; exact h
    rw [if_neg c2]
    have h2 := isn_tx x y z 81 (T 5 (T 0 3).toNatClampNeg - 48) _ (tx_step h c2)
    split <;> exact h2
noncomputable def f_X4_isWire_k2 (z2 : MS) (z1 : Int32 × MS) (T : MS) : Int32 × MS := opq (0, z2)
theorem e_X4_isWire_k2 (z2 : MS) (z1 : Int32 × MS) (T : MS) : f_X4_isWire_k2 z2 z1 T = (0, z2) := opq_eq _
noncomputable def f_X4_isWire_k4 (z4 : MS) (z1 : Int32 × MS) (z3 : Int32 × MS) (T : MS) : Int32 × MS := opq (0, z4)
theorem e_X4_isWire_k4 (z4 : MS) (z1 : Int32 × MS) (z3 : Int32 × MS) (T : MS) : f_X4_isWire_k4 z4 z1 z3 T = (0, z4) := opq_eq _
noncomputable def f_X4_isWire_k6 (z6 : MS) (z1 : Int32 × MS) (z3 : Int32 × MS) (z5 : Int32 × MS) (T : MS) : Int32 × MS := opq (0, z6)
theorem e_X4_isWire_k6 (z6 : MS) (z1 : Int32 × MS) (z3 : Int32 × MS) (z5 : Int32 × MS) (T : MS) : f_X4_isWire_k6 z6 z1 z3 z5 T = (0, z6) := opq_eq _
noncomputable def f_X4_isWire_k9 (z9 : Int32 × MS) (z1 : Int32 × MS) (z3 : Int32 × MS) (z5 : Int32 × MS) (z7 : MS) (z8 : Int32 × MS) (T : MS) : Int32 × MS := opq (if z9.1 = 0 then (0, z9.2) else (1, z9.2))
theorem e_X4_isWire_k9 (z9 : Int32 × MS) (z1 : Int32 × MS) (z3 : Int32 × MS) (z5 : Int32 × MS) (z7 : MS) (z8 : Int32 × MS) (T : MS) : f_X4_isWire_k9 z9 z1 z3 z5 z7 z8 T = (if z9.1 = 0 then (0, z9.2) else (1, z9.2)) := opq_eq _
noncomputable def f_X4_isWire_k8 (z8 : Int32 × MS) (z1 : Int32 × MS) (z3 : Int32 × MS) (z5 : Int32 × MS) (z7 : MS) (T : MS) : Int32 × MS := opq (if z8.1 = 0 then (1, z8.2) else (f_X4_isWire_k9 (f_X4_isNumber z8.2 2 10 200) z1 z3 z5 z7 z8 T))
theorem e_X4_isWire_k8 (z8 : Int32 × MS) (z1 : Int32 × MS) (z3 : Int32 × MS) (z5 : Int32 × MS) (z7 : MS) (T : MS) : f_X4_isWire_k8 z8 z1 z3 z5 z7 T = (if z8.1 = 0 then (1, z8.2) else (f_X4_isWire_k9 (f_X4_isNumber z8.2 2 10 200) z1 z3 z5 z7 z8 T)) := opq_eq _
noncomputable def f_X4_isWire_k7 (z7 : MS) (z1 : Int32 × MS) (z3 : Int32 × MS) (z5 : Int32 × MS) (T : MS) : Int32 × MS := opq (f_X4_isWire_k8 (f_X4_takes z7 58) z1 z3 z5 z7 T)
theorem e_X4_isWire_k7 (z7 : MS) (z1 : Int32 × MS) (z3 : Int32 × MS) (z5 : Int32 × MS) (T : MS) : f_X4_isWire_k7 z7 z1 z3 z5 T = (f_X4_isWire_k8 (f_X4_takes z7 58) z1 z3 z5 z7 T) := opq_eq _
noncomputable def f_X4_isWire_k5 (z5 : Int32 × MS) (z1 : Int32 × MS) (z3 : Int32 × MS) (T : MS) : Int32 × MS := opq (if z5.1 = 0 then (f_X4_isWire_k6 (tu z5.2 6 (upd (z5.2 6) ((3 * (z5.2 0 4)) + 2).toNatClampNeg 60)) z1 z3 z5 T) else (f_X4_isWire_k7 (tu z5.2 6 (upd (z5.2 6) ((3 * (z5.2 0 4)) + 2).toNatClampNeg 60)) z1 z3 z5 T))
theorem e_X4_isWire_k5 (z5 : Int32 × MS) (z1 : Int32 × MS) (z3 : Int32 × MS) (T : MS) : f_X4_isWire_k5 z5 z1 z3 T = (if z5.1 = 0 then (f_X4_isWire_k6 (tu z5.2 6 (upd (z5.2 6) ((3 * (z5.2 0 4)) + 2).toNatClampNeg 60)) z1 z3 z5 T) else (f_X4_isWire_k7 (tu z5.2 6 (upd (z5.2 6) ((3 * (z5.2 0 4)) + 2).toNatClampNeg 60)) z1 z3 z5 T)) := opq_eq _
noncomputable def f_X4_isWire_k3 (z3 : Int32 × MS) (z1 : Int32 × MS) (T : MS) : Int32 × MS := opq (if z3.1 = 0 then (f_X4_isWire_k4 (tu z3.2 6 (upd (z3.2 6) ((3 * (z3.2 0 4)) + 2).toNatClampNeg 60)) z1 z3 T) else (f_X4_isWire_k5 (f_X4_isNumber z3.2 1 0 15) z1 z3 T))
theorem e_X4_isWire_k3 (z3 : Int32 × MS) (z1 : Int32 × MS) (T : MS) : f_X4_isWire_k3 z3 z1 T = (if z3.1 = 0 then (f_X4_isWire_k4 (tu z3.2 6 (upd (z3.2 6) ((3 * (z3.2 0 4)) + 2).toNatClampNeg 60)) z1 z3 T) else (f_X4_isWire_k5 (f_X4_isNumber z3.2 1 0 15) z1 z3 T)) := opq_eq _
noncomputable def f_X4_isWire_k1 (z1 : Int32 × MS) (T : MS) : Int32 × MS := opq (if z1.1 = 0 then (f_X4_isWire_k2 (tu z1.2 6 (upd (z1.2 6) ((3 * (z1.2 0 4)) + 2).toNatClampNeg 60)) z1 T) else (f_X4_isWire_k3 (f_X4_takes z1.2 45) z1 T))
theorem e_X4_isWire_k1 (z1 : Int32 × MS) (T : MS) : f_X4_isWire_k1 z1 T = (if z1.1 = 0 then (f_X4_isWire_k2 (tu z1.2 6 (upd (z1.2 6) ((3 * (z1.2 0 4)) + 2).toNatClampNeg 60)) z1 T) else (f_X4_isWire_k3 (f_X4_takes z1.2 45) z1 T)) := opq_eq _
noncomputable def f_X4_isWire (T : MS) : Int32 × MS := opq (f_X4_isWire_k1 (f_X4_isNumber T 0 0 11) T)
theorem e_X4_isWire (T : MS) : f_X4_isWire T = (f_X4_isWire_k1 (f_X4_isNumber T 0 0 11) T) := opq_eq _
set_option maxHeartbeats 4000000 in
set_option maxRecDepth 100000 in
theorem c_X4_isWire (l : Launch) (G : GG) (B : Nat → Nat) (T : MS)  (h : tx T) : Mm l yX4_isWire wsX4_isWire ({ frames := 3, cells := 0, slots := 0, locals := 68 } : Room) G [.ref (B 0)] (wM G B T) (f_X4_isWire T).1 (wM G B (f_X4_isWire T).2) := by
  refine Mm.of (cc := cX4_isWire) (maxL := 2) (ret := (some .boolean)) (by decide) rfl (Nat.le_of_ble_eq_true rfl) ?_
  intro p e s m args below meth c A0 hA0 E hr hlocks hP hK hD hA hS ls hl
  have E : CallFix p m c cX4_isWire 2 s args wsX4_isWire RX4 := E
  have hx := E.1
  have hb := E.2.1
  have hml := E.2.2.1
  have hown := E.2.2.2.1
  have hts := E.2.2.2.2
  have hl : lv_has ls 2 [(0, .ref (B 0))] := hl
  have hinX4 : ∀ w ∈ u_ws RX4 TX4 11, w ∈ wsX4_isWire := fun _ h => List.mem_cons_of_mem _ (List.mem_append_right _ h)
  refine lv_aload_n hx hb dX4_isWire_0 rfl (lv_at hl 0 rfl) ?_
  refine lv_iconst (v := 0) hx hb dX4_isWire_1 (by decide) ?_
  refine lv_iconst (v := 0) hx hb dX4_isWire_2 (by decide) ?_
  refine lv_bipush (v := 11) hx hb dX4_isWire_3 (by decide) ?_
  refine cmV (rest := []) (As := [.int 0, .int 0, .int 11]) E (c_X4_isNumber l G B T 0 0 11 h (vp_in_nI (n := 0) (by decide) (by decide))) (cwV 3 hts gX4_isWire_X4_isNumber rfl rfl rfl (by decide +kernel) ⟨Nat.le_of_ble_eq_true rfl, Nat.le_of_ble_eq_true rfl⟩) hK hP hD hS hA 0 (wM_o G B T) rfl rfl hl.1 rfl (Nat.le_of_ble_eq_true rfl) dX4_isWire_5 ⟨Nat.zero_le _, Nat.zero_le _⟩ (fun H locs hP hD hS => ?_)
  have hres1 : f_X4_isWire_k1 (f_X4_isNumber T 0 0 11) T = (f_X4_isWire T) := Eq.symm ((e_X4_isWire T))
  generalize hz1 : (f_X4_isNumber T 0 0 11) = z1 at hres1 hP hD ⊢
  have hz1t : tx z1.2 := by rw [← hz1]; exact tx_isNumber _ _ _ h
  refine lv_if_eq (tgt := 35) hx hb dX4_isWire_8 (by decide) (fun c1 => ?_) (fun c1 => ?_)
  · skip
    refine lv_iconst (v := 0) hx hb dX4_isWire_35 (by decide) ?_
    refine lv_istore_n (lv' := [(1, .int 0), (0, .ref (B 0))]) hx hb dX4_isWire_36 rfl hl (by decide) rfl (fun ls hl => ?_)
    refine lv_aload_n hx hb dX4_isWire_37 rfl (lv_at hl 1 rfl) ?_
    refine va_get (D := G.1) (ci := 4) (v := .ref (B 6)) (C := RX4) (T := TX4) (N := 11) hx hb hts hinX4 hown hK.1 hP 0 (wM_o G B z1.2) rfl 9 (by decide) (hts (.fieldLink RX4 26 "WireLoopsModel" "told" "[I") (List.mem_of_getElem? (i := 1) rfl)) (fun _ h9 => h9) rfl dX4_isWire_38 ?_
    refine lv_iconst (v := 3) hx hb dX4_isWire_41 (by decide) ?_
    refine lv_aload_n hx hb dX4_isWire_42 rfl (lv_at hl 1 rfl) ?_
    refine va_get (D := G.1) (ci := 4) (v := .int (z1.2 0 4)) (C := RX4) (T := TX4) (N := 11) hx hb hts hinX4 hown hK.1 hP 0 (wM_o G B z1.2) rfl 10 (by decide) (hts (.fieldLink RX4 87 "WireLoopsModel" "toldMany" "I") (List.mem_of_getElem? (i := 2) rfl)) (fun _ h9 => h9) rfl dX4_isWire_43 ?_
    refine lv_imul hx hb dX4_isWire_46 ?_
    refine lv_iconst (v := 2) hx hb dX4_isWire_47 (by decide) ?_
    refine lv_iadd hx hb dX4_isWire_48 ?_
    refine lv_bipush (v := 60) hx hb dX4_isWire_49 (by decide) ?_
    refine va_iast (D := G.1) hx hb hK.1 hP hD hS 6 0 (wM_6 G B z1.2) rfl (told_in hz1t (vp_in_nI (n := 2) (by decide) (by decide))) dX4_isWire_51 (fun H locs hP hD hS => ?_)
    rw [wM_s6 G B z1.2 _] at hP hD
    have hP : va_P G.1 vwCl (wM G B (tu z1.2 6 (upd (z1.2 6) ((3 * (z1.2 0 4)) + 2).toNatClampNeg 60))) H := hP
    have hD : va_D A0 (wM G B (tu z1.2 6 (upd (z1.2 6) ((3 * (z1.2 0 4)) + 2).toNatClampNeg 60))) := hD
    have hres2 : f_X4_isWire_k2 (tu z1.2 6 (upd (z1.2 6) ((3 * (z1.2 0 4)) + 2).toNatClampNeg 60)) z1 T = (f_X4_isWire T) := Eq.trans (Eq.symm (Eq.trans (e_X4_isWire_k1 z1 T) ((if_pos c1)))) hres1
    generalize hz2 : (tu z1.2 6 (upd (z1.2 6) ((3 * (z1.2 0 4)) + 2).toNatClampNeg 60)) = z2 at hres2 hP hD ⊢
    have hz2t : tx z2 := by rw [← hz2]; exact hz1t
    refine lv_iload_n hx hb dX4_isWire_52 rfl (lv_at hl 0 rfl) ?_
    refine lv_if_eq (tgt := 82) hx hb dX4_isWire_53 (by decide) (fun c2 => ?_) (fun c2 => absurd (by decide) c2)
    refine lv_iconst (v := 0) hx hb dX4_isWire_82 (by decide) ?_
    have hfin : (0, z2) = (f_X4_isWire T) := Eq.trans (Eq.symm ((e_X4_isWire_k2 z2 z1 T))) hres2
    exact endM hx hb hr hlocks rfl hP hD hS ⟨@congrArg (Int32 × MS) Int32 (0, z2) (f_X4_isWire T) Prod.fst hfin, @congrArg (Int32 × MS) va_W (0, z2) (f_X4_isWire T) (fun z => wM G B z.2) hfin⟩ dX4_isWire_83
  · skip
    refine lv_aload_n hx hb dX4_isWire_11 rfl (lv_at hl 0 rfl) ?_
    refine lv_bipush (v := 45) hx hb dX4_isWire_12 (by decide) ?_
    refine cmV (rest := []) (As := [.int 45]) E (c_X4_takes l G B z1.2 45 hz1t) (cwV 1 hts gX4_isWire_X4_takes rfl rfl rfl (by decide +kernel) ⟨Nat.le_of_ble_eq_true rfl, Nat.le_of_ble_eq_true rfl⟩) hK hP hD hS hA 0 (wM_o G B z1.2) rfl rfl hl.1 rfl (Nat.le_of_ble_eq_true rfl) dX4_isWire_14 ⟨Nat.zero_le _, Nat.zero_le _⟩ (fun H locs hP hD hS => ?_)
    have hres3 : f_X4_isWire_k3 (f_X4_takes z1.2 45) z1 T = (f_X4_isWire T) := Eq.trans (Eq.symm (Eq.trans (e_X4_isWire_k1 z1 T) ((if_neg c1)))) hres1
    generalize hz3 : (f_X4_takes z1.2 45) = z3 at hres3 hP hD ⊢
    have hz3t : tx z3.2 := by rw [← hz3]; exact tx_takes _ hz1t
    refine lv_if_eq (tgt := 35) hx hb dX4_isWire_17 (by decide) (fun c3 => ?_) (fun c3 => ?_)
    · skip
      refine lv_iconst (v := 0) hx hb dX4_isWire_35 (by decide) ?_
      refine lv_istore_n (lv' := [(1, .int 0), (0, .ref (B 0))]) hx hb dX4_isWire_36 rfl hl (by decide) rfl (fun ls hl => ?_)
      refine lv_aload_n hx hb dX4_isWire_37 rfl (lv_at hl 1 rfl) ?_
      refine va_get (D := G.1) (ci := 4) (v := .ref (B 6)) (C := RX4) (T := TX4) (N := 11) hx hb hts hinX4 hown hK.1 hP 0 (wM_o G B z3.2) rfl 9 (by decide) (hts (.fieldLink RX4 26 "WireLoopsModel" "told" "[I") (List.mem_of_getElem? (i := 1) rfl)) (fun _ h9 => h9) rfl dX4_isWire_38 ?_
      refine lv_iconst (v := 3) hx hb dX4_isWire_41 (by decide) ?_
      refine lv_aload_n hx hb dX4_isWire_42 rfl (lv_at hl 1 rfl) ?_
      refine va_get (D := G.1) (ci := 4) (v := .int (z3.2 0 4)) (C := RX4) (T := TX4) (N := 11) hx hb hts hinX4 hown hK.1 hP 0 (wM_o G B z3.2) rfl 10 (by decide) (hts (.fieldLink RX4 87 "WireLoopsModel" "toldMany" "I") (List.mem_of_getElem? (i := 2) rfl)) (fun _ h9 => h9) rfl dX4_isWire_43 ?_
      refine lv_imul hx hb dX4_isWire_46 ?_
      refine lv_iconst (v := 2) hx hb dX4_isWire_47 (by decide) ?_
      refine lv_iadd hx hb dX4_isWire_48 ?_
      refine lv_bipush (v := 60) hx hb dX4_isWire_49 (by decide) ?_
      refine va_iast (D := G.1) hx hb hK.1 hP hD hS 6 0 (wM_6 G B z3.2) rfl (told_in hz3t (vp_in_nI (n := 2) (by decide) (by decide))) dX4_isWire_51 (fun H locs hP hD hS => ?_)
      rw [wM_s6 G B z3.2 _] at hP hD
      have hP : va_P G.1 vwCl (wM G B (tu z3.2 6 (upd (z3.2 6) ((3 * (z3.2 0 4)) + 2).toNatClampNeg 60))) H := hP
      have hD : va_D A0 (wM G B (tu z3.2 6 (upd (z3.2 6) ((3 * (z3.2 0 4)) + 2).toNatClampNeg 60))) := hD
      have hres4 : f_X4_isWire_k4 (tu z3.2 6 (upd (z3.2 6) ((3 * (z3.2 0 4)) + 2).toNatClampNeg 60)) z1 z3 T = (f_X4_isWire T) := Eq.trans (Eq.symm (Eq.trans (e_X4_isWire_k3 z3 z1 T) ((if_pos c3)))) hres3
      generalize hz4 : (tu z3.2 6 (upd (z3.2 6) ((3 * (z3.2 0 4)) + 2).toNatClampNeg 60)) = z4 at hres4 hP hD ⊢
      have hz4t : tx z4 := by rw [← hz4]; exact hz3t
      refine lv_iload_n hx hb dX4_isWire_52 rfl (lv_at hl 0 rfl) ?_
      refine lv_if_eq (tgt := 82) hx hb dX4_isWire_53 (by decide) (fun c4 => ?_) (fun c4 => absurd (by decide) c4)
      refine lv_iconst (v := 0) hx hb dX4_isWire_82 (by decide) ?_
      have hfin : (0, z4) = (f_X4_isWire T) := Eq.trans (Eq.symm ((e_X4_isWire_k4 z4 z1 z3 T))) hres4
      exact endM hx hb hr hlocks rfl hP hD hS ⟨@congrArg (Int32 × MS) Int32 (0, z4) (f_X4_isWire T) Prod.fst hfin, @congrArg (Int32 × MS) va_W (0, z4) (f_X4_isWire T) (fun z => wM G B z.2) hfin⟩ dX4_isWire_83
    · skip
      refine lv_aload_n hx hb dX4_isWire_20 rfl (lv_at hl 0 rfl) ?_
      refine lv_iconst (v := 1) hx hb dX4_isWire_21 (by decide) ?_
      refine lv_iconst (v := 0) hx hb dX4_isWire_22 (by decide) ?_
      refine lv_bipush (v := 15) hx hb dX4_isWire_23 (by decide) ?_
      refine cmV (rest := []) (As := [.int 1, .int 0, .int 15]) E (c_X4_isNumber l G B z3.2 1 0 15 hz3t (vp_in_nI (n := 1) (by decide) (by decide))) (cwV 3 hts gX4_isWire_X4_isNumber rfl rfl rfl (by decide +kernel) ⟨Nat.le_of_ble_eq_true rfl, Nat.le_of_ble_eq_true rfl⟩) hK hP hD hS hA 0 (wM_o G B z3.2) rfl rfl hl.1 rfl (Nat.le_of_ble_eq_true rfl) dX4_isWire_25 ⟨Nat.zero_le _, Nat.zero_le _⟩ (fun H locs hP hD hS => ?_)
      have hres5 : f_X4_isWire_k5 (f_X4_isNumber z3.2 1 0 15) z1 z3 T = (f_X4_isWire T) := Eq.trans (Eq.symm (Eq.trans (e_X4_isWire_k3 z3 z1 T) ((if_neg c3)))) hres3
      generalize hz5 : (f_X4_isNumber z3.2 1 0 15) = z5 at hres5 hP hD ⊢
      have hz5t : tx z5.2 := by rw [← hz5]; exact tx_isNumber _ _ _ hz3t
      refine lv_if_eq (tgt := 35) hx hb dX4_isWire_28 (by decide) (fun c5 => ?_) (fun c5 => ?_)
      · skip
        refine lv_iconst (v := 0) hx hb dX4_isWire_35 (by decide) ?_
        refine lv_istore_n (lv' := [(1, .int 0), (0, .ref (B 0))]) hx hb dX4_isWire_36 rfl hl (by decide) rfl (fun ls hl => ?_)
        refine lv_aload_n hx hb dX4_isWire_37 rfl (lv_at hl 1 rfl) ?_
        refine va_get (D := G.1) (ci := 4) (v := .ref (B 6)) (C := RX4) (T := TX4) (N := 11) hx hb hts hinX4 hown hK.1 hP 0 (wM_o G B z5.2) rfl 9 (by decide) (hts (.fieldLink RX4 26 "WireLoopsModel" "told" "[I") (List.mem_of_getElem? (i := 1) rfl)) (fun _ h9 => h9) rfl dX4_isWire_38 ?_
        refine lv_iconst (v := 3) hx hb dX4_isWire_41 (by decide) ?_
        refine lv_aload_n hx hb dX4_isWire_42 rfl (lv_at hl 1 rfl) ?_
        refine va_get (D := G.1) (ci := 4) (v := .int (z5.2 0 4)) (C := RX4) (T := TX4) (N := 11) hx hb hts hinX4 hown hK.1 hP 0 (wM_o G B z5.2) rfl 10 (by decide) (hts (.fieldLink RX4 87 "WireLoopsModel" "toldMany" "I") (List.mem_of_getElem? (i := 2) rfl)) (fun _ h9 => h9) rfl dX4_isWire_43 ?_
        refine lv_imul hx hb dX4_isWire_46 ?_
        refine lv_iconst (v := 2) hx hb dX4_isWire_47 (by decide) ?_
        refine lv_iadd hx hb dX4_isWire_48 ?_
        refine lv_bipush (v := 60) hx hb dX4_isWire_49 (by decide) ?_
        refine va_iast (D := G.1) hx hb hK.1 hP hD hS 6 0 (wM_6 G B z5.2) rfl (told_in hz5t (vp_in_nI (n := 2) (by decide) (by decide))) dX4_isWire_51 (fun H locs hP hD hS => ?_)
        rw [wM_s6 G B z5.2 _] at hP hD
        have hP : va_P G.1 vwCl (wM G B (tu z5.2 6 (upd (z5.2 6) ((3 * (z5.2 0 4)) + 2).toNatClampNeg 60))) H := hP
        have hD : va_D A0 (wM G B (tu z5.2 6 (upd (z5.2 6) ((3 * (z5.2 0 4)) + 2).toNatClampNeg 60))) := hD
        have hres6 : f_X4_isWire_k6 (tu z5.2 6 (upd (z5.2 6) ((3 * (z5.2 0 4)) + 2).toNatClampNeg 60)) z1 z3 z5 T = (f_X4_isWire T) := Eq.trans (Eq.symm (Eq.trans (e_X4_isWire_k5 z5 z1 z3 T) ((if_pos c5)))) hres5
        generalize hz6 : (tu z5.2 6 (upd (z5.2 6) ((3 * (z5.2 0 4)) + 2).toNatClampNeg 60)) = z6 at hres6 hP hD ⊢
        have hz6t : tx z6 := by rw [← hz6]; exact hz5t
        refine lv_iload_n hx hb dX4_isWire_52 rfl (lv_at hl 0 rfl) ?_
        refine lv_if_eq (tgt := 82) hx hb dX4_isWire_53 (by decide) (fun c6 => ?_) (fun c6 => absurd (by decide) c6)
        refine lv_iconst (v := 0) hx hb dX4_isWire_82 (by decide) ?_
        have hfin : (0, z6) = (f_X4_isWire T) := Eq.trans (Eq.symm ((e_X4_isWire_k6 z6 z1 z3 z5 T))) hres6
        exact endM hx hb hr hlocks rfl hP hD hS ⟨@congrArg (Int32 × MS) Int32 (0, z6) (f_X4_isWire T) Prod.fst hfin, @congrArg (Int32 × MS) va_W (0, z6) (f_X4_isWire T) (fun z => wM G B z.2) hfin⟩ dX4_isWire_83
      · skip
        refine lv_iconst (v := 1) hx hb dX4_isWire_31 (by decide) ?_
        refine lv_goto (tgt := 36) hx hb dX4_isWire_32 (by decide) ?_
        refine lv_istore_n (lv' := [(1, .int 1), (0, .ref (B 0))]) hx hb dX4_isWire_36 rfl hl (by decide) rfl (fun ls hl => ?_)
        refine lv_aload_n hx hb dX4_isWire_37 rfl (lv_at hl 1 rfl) ?_
        refine va_get (D := G.1) (ci := 4) (v := .ref (B 6)) (C := RX4) (T := TX4) (N := 11) hx hb hts hinX4 hown hK.1 hP 0 (wM_o G B z5.2) rfl 9 (by decide) (hts (.fieldLink RX4 26 "WireLoopsModel" "told" "[I") (List.mem_of_getElem? (i := 1) rfl)) (fun _ h9 => h9) rfl dX4_isWire_38 ?_
        refine lv_iconst (v := 3) hx hb dX4_isWire_41 (by decide) ?_
        refine lv_aload_n hx hb dX4_isWire_42 rfl (lv_at hl 1 rfl) ?_
        refine va_get (D := G.1) (ci := 4) (v := .int (z5.2 0 4)) (C := RX4) (T := TX4) (N := 11) hx hb hts hinX4 hown hK.1 hP 0 (wM_o G B z5.2) rfl 10 (by decide) (hts (.fieldLink RX4 87 "WireLoopsModel" "toldMany" "I") (List.mem_of_getElem? (i := 2) rfl)) (fun _ h9 => h9) rfl dX4_isWire_43 ?_
        refine lv_imul hx hb dX4_isWire_46 ?_
        refine lv_iconst (v := 2) hx hb dX4_isWire_47 (by decide) ?_
        refine lv_iadd hx hb dX4_isWire_48 ?_
        refine lv_bipush (v := 60) hx hb dX4_isWire_49 (by decide) ?_
        refine va_iast (D := G.1) hx hb hK.1 hP hD hS 6 0 (wM_6 G B z5.2) rfl (told_in hz5t (vp_in_nI (n := 2) (by decide) (by decide))) dX4_isWire_51 (fun H locs hP hD hS => ?_)
        rw [wM_s6 G B z5.2 _] at hP hD
        have hP : va_P G.1 vwCl (wM G B (tu z5.2 6 (upd (z5.2 6) ((3 * (z5.2 0 4)) + 2).toNatClampNeg 60))) H := hP
        have hD : va_D A0 (wM G B (tu z5.2 6 (upd (z5.2 6) ((3 * (z5.2 0 4)) + 2).toNatClampNeg 60))) := hD
        have hres7 : f_X4_isWire_k7 (tu z5.2 6 (upd (z5.2 6) ((3 * (z5.2 0 4)) + 2).toNatClampNeg 60)) z1 z3 z5 T = (f_X4_isWire T) := Eq.trans (Eq.symm (Eq.trans (e_X4_isWire_k5 z5 z1 z3 T) ((if_neg c5)))) hres5
        generalize hz7 : (tu z5.2 6 (upd (z5.2 6) ((3 * (z5.2 0 4)) + 2).toNatClampNeg 60)) = z7 at hres7 hP hD ⊢
        have hz7t : tx z7 := by rw [← hz7]; exact hz5t
        refine lv_iload_n hx hb dX4_isWire_52 rfl (lv_at hl 0 rfl) ?_
        refine lv_if_eq (tgt := 82) hx hb dX4_isWire_53 (by decide) (fun c7 => absurd c7 (by decide)) (fun c7 => ?_)
        refine lv_aload_n hx hb dX4_isWire_56 rfl (lv_at hl 1 rfl) ?_
        refine lv_bipush (v := 58) hx hb dX4_isWire_57 (by decide) ?_
        refine cmV (rest := []) (As := [.int 58]) E (c_X4_takes l G B z7 58 hz7t) (cwV 1 hts gX4_isWire_X4_takes rfl rfl rfl (by decide +kernel) ⟨Nat.le_of_ble_eq_true rfl, Nat.le_of_ble_eq_true rfl⟩) hK hP hD hS hA 0 (wM_o G B z7) rfl rfl hl.1 rfl (Nat.le_of_ble_eq_true rfl) dX4_isWire_59 ⟨Nat.zero_le _, Nat.zero_le _⟩ (fun H locs hP hD hS => ?_)
        have hres8 : f_X4_isWire_k8 (f_X4_takes z7 58) z1 z3 z5 z7 T = (f_X4_isWire T) := Eq.trans (Eq.symm ((e_X4_isWire_k7 z7 z1 z3 z5 T))) hres7
        generalize hz8 : (f_X4_takes z7 58) = z8 at hres8 hP hD ⊢
        have hz8t : tx z8.2 := by rw [← hz8]; exact tx_takes _ hz7t
        refine lv_if_eq (tgt := 78) hx hb dX4_isWire_62 (by decide) (fun c8 => ?_) (fun c8 => ?_)
        · skip
          refine lv_iconst (v := 1) hx hb dX4_isWire_78 (by decide) ?_
          refine lv_goto (tgt := 83) hx hb dX4_isWire_79 (by decide) ?_
          have hfin : (1, z8.2) = (f_X4_isWire T) := Eq.trans (Eq.symm (Eq.trans (e_X4_isWire_k8 z8 z1 z3 z5 z7 T) ((if_pos c8)))) hres8
          exact endM hx hb hr hlocks rfl hP hD hS ⟨@congrArg (Int32 × MS) Int32 (1, z8.2) (f_X4_isWire T) Prod.fst hfin, @congrArg (Int32 × MS) va_W (1, z8.2) (f_X4_isWire T) (fun z => wM G B z.2) hfin⟩ dX4_isWire_83
        · skip
          refine lv_aload_n hx hb dX4_isWire_65 rfl (lv_at hl 1 rfl) ?_
          refine lv_iconst (v := 2) hx hb dX4_isWire_66 (by decide) ?_
          refine lv_bipush (v := 10) hx hb dX4_isWire_67 (by decide) ?_
          refine lv_sipush (v := 200) hx hb dX4_isWire_69 (by decide) ?_
          refine cmV (rest := []) (As := [.int 2, .int 10, .int 200]) E (c_X4_isNumber l G B z8.2 2 10 200 hz8t (vp_in_nI (n := 2) (by decide) (by decide))) (cwV 3 hts gX4_isWire_X4_isNumber rfl rfl rfl (by decide +kernel) ⟨Nat.le_of_ble_eq_true rfl, Nat.le_of_ble_eq_true rfl⟩) hK hP hD hS hA 0 (wM_o G B z8.2) rfl rfl hl.1 rfl (Nat.le_of_ble_eq_true rfl) dX4_isWire_72 ⟨Nat.zero_le _, Nat.zero_le _⟩ (fun H locs hP hD hS => ?_)
          have hres9 : f_X4_isWire_k9 (f_X4_isNumber z8.2 2 10 200) z1 z3 z5 z7 z8 T = (f_X4_isWire T) := Eq.trans (Eq.symm (Eq.trans (e_X4_isWire_k8 z8 z1 z3 z5 z7 T) ((if_neg c8)))) hres8
          generalize hz9 : (f_X4_isNumber z8.2 2 10 200) = z9 at hres9 hP hD ⊢
          have hz9t : tx z9.2 := by rw [← hz9]; exact tx_isNumber _ _ _ hz8t
          refine lv_if_eq (tgt := 82) hx hb dX4_isWire_75 (by decide) (fun c9 => ?_) (fun c9 => ?_)
          · skip
            refine lv_iconst (v := 0) hx hb dX4_isWire_82 (by decide) ?_
            have hfin : (0, z9.2) = (f_X4_isWire T) := Eq.trans (Eq.symm (Eq.trans (e_X4_isWire_k9 z9 z1 z3 z5 z7 z8 T) ((if_pos c9)))) hres9
            exact endM hx hb hr hlocks rfl hP hD hS ⟨@congrArg (Int32 × MS) Int32 (0, z9.2) (f_X4_isWire T) Prod.fst hfin, @congrArg (Int32 × MS) va_W (0, z9.2) (f_X4_isWire T) (fun z => wM G B z.2) hfin⟩ dX4_isWire_83
          · skip
            refine lv_iconst (v := 1) hx hb dX4_isWire_78 (by decide) ?_
            refine lv_goto (tgt := 83) hx hb dX4_isWire_79 (by decide) ?_
            have hfin : (1, z9.2) = (f_X4_isWire T) := Eq.trans (Eq.symm (Eq.trans (e_X4_isWire_k9 z9 z1 z3 z5 z7 z8 T) ((if_neg c9)))) hres9
            exact endM hx hb hr hlocks rfl hP hD hS ⟨@congrArg (Int32 × MS) Int32 (1, z9.2) (f_X4_isWire T) Prod.fst hfin, @congrArg (Int32 × MS) va_W (1, z9.2) (f_X4_isWire T) (fun z => wM G B z.2) hfin⟩ dX4_isWire_83
