noncomputable def f_X0_hasWire (S : XS) (p0 : Int32) : Int32 := opq (if (f_X3_isPad p0) = 0 then 0 else (if ((S 0 2) (p0).toNatClampNeg) = (-1) then 0 else 1))
theorem e_X0_hasWire (S : XS) (p0 : Int32) : f_X0_hasWire S p0 = (if (f_X3_isPad p0) = 0 then 0 else (if ((S 0 2) (p0).toNatClampNeg) = (-1) then 0 else 1)) := opq_eq _
set_option maxHeartbeats 4000000 in
set_option maxRecDepth 100000 in
theorem c_X0_hasWire (l : Launch) (G : GG) (A : Nat → Nat) (S : XS) (r : Nat) (p0 : Int32) : Mp l yX0_hasWire wsX0_hasWire ({ frames := 1, cells := 0, slots := 0, locals := 20 } : Room) G [.ref (A (6 * 0)), .int p0] (wX G A S r) (f_X0_hasWire S p0) := by
  refine Mp.of (cc := cX0_hasWire) (maxL := 2) (ret := (some .boolean)) (by decide) rfl (Nat.le_of_ble_eq_true rfl) ?_
  intro p e s m args below meth c E hr hlocks hP hK ls hl
  have E : CallFix p m c cX0_hasWire 2 s args wsX0_hasWire RX0 := E
  have hx := E.1
  have hb := E.2.1
  have hml := E.2.2.1
  have hown := E.2.2.2.1
  have hts := E.2.2.2.2
  have hl : lv_has ls 2 [(0, .ref (A (6 * 0))), (1, .int p0)] := hl
  have hinX0 : ∀ w ∈ u_ws RX0 TX0 12, w ∈ wsX0_hasWire := fun _ h => List.mem_cons_of_mem _ (List.mem_append_right _ h)
  refine lv_iload_n hx hb dX0_hasWire_0 rfl (lv_at hl 1 rfl) ?_
  refine cpN (host := RX3) (rest := []) (As := [.int p0]) E (c_X3_isPad l G A S r p0) (va_cnB 1 hts gX0_hasWire_X3_isPad_n62 rfl rfl rfl (hK.2 (.methodLinkNest RX0 62 yX3_isPad RX3) (by decide +kernel)) (hts (.initialized RX3) (List.mem_of_getElem? (i := 3) rfl)) (by decide +kernel) ⟨Nat.le_of_ble_eq_true rfl, Nat.le_of_ble_eq_true rfl⟩) (hts (.static yX3_isPad) (List.mem_of_getElem? (i := 2) rfl)) hK hP rfl hl.1 rfl (Nat.le_of_ble_eq_true rfl) dX0_hasWire_1 ⟨Nat.zero_le _, Nat.zero_le _⟩ ?_
  refine lv_if_eq (tgt := 21) hx hb dX0_hasWire_4 (by decide) (fun c1 => ?_) (fun c1 => ?_)
  · skip
    refine lv_iconst (v := 0) hx hb dX0_hasWire_21 (by decide) ?_
    exact endP hx hb hr hlocks rfl (Eq.symm (Eq.trans (e_X0_hasWire S p0) ((if_pos c1)))) dX0_hasWire_22
  · skip
    refine lv_aload_n hx hb dX0_hasWire_7 rfl (lv_at hl 0 rfl) ?_
    refine va_get (D := G.1) (ci := 0) (v := .ref (A (6 * 0 + 2))) (C := RX0) (T := TX0) (N := 12) hx hb hts hinX0 hown hK.1 hP (6 * 0) (wX_o G A S r 0 (by decide)) rfl 1 (by decide) (hts (.fieldLink RX0 15 "WireLoops$Chip" "leadOf" "[I") (List.mem_of_getElem? (i := 1) rfl)) (fun _ h9 => h9) rfl dX0_hasWire_8 ?_
    refine lv_iload_n hx hb dX0_hasWire_11 rfl (lv_at hl 1 rfl) ?_
    refine va_iald (D := G.1) hx hb hK.1 hP (6 * 0 + 2) 0 (wX_c G A S r 0 2 (by decide) (by decide) (by decide)) rfl (in_pad (by assumption)) dX0_hasWire_12 ?_
    refine lv_iconst (v := (-1)) hx hb dX0_hasWire_13 (by decide) ?_
    refine lv_icmp_eq (tgt := 21) hx hb dX0_hasWire_14 (by decide) (fun c2 => ?_) (fun c2 => ?_)
    · skip
      refine lv_iconst (v := 0) hx hb dX0_hasWire_21 (by decide) ?_
      exact endP hx hb hr hlocks rfl (Eq.symm (Eq.trans (e_X0_hasWire S p0) (Eq.trans (if_neg c1) ((if_pos c2))))) dX0_hasWire_22
    · skip
      refine lv_iconst (v := 1) hx hb dX0_hasWire_17 (by decide) ?_
      refine lv_goto (tgt := 22) hx hb dX0_hasWire_18 (by decide) ?_
      exact endP hx hb hr hlocks rfl (Eq.symm (Eq.trans (e_X0_hasWire S p0) (Eq.trans (if_neg c1) ((if_neg c2))))) dX0_hasWire_22
theorem in_has {S : XS} {x : Int32} (h : ¬ f_X0_hasWire S x = 0) : vp_in x 12 := by
  by_cases hp : f_X3_isPad x = 0
  · exact absurd ((e_X0_hasWire S x).trans (if_pos hp)) h
  · exact in_pad hp
noncomputable def f_X0_leadAtPad (S : XS) (p0 : Int32) : Int32 := opq (if (f_X3_isPad p0) = 0 then (-1) else ((S 0 2) (p0).toNatClampNeg))
theorem e_X0_leadAtPad (S : XS) (p0 : Int32) : f_X0_leadAtPad S p0 = (if (f_X3_isPad p0) = 0 then (-1) else ((S 0 2) (p0).toNatClampNeg)) := opq_eq _
set_option maxHeartbeats 4000000 in
set_option maxRecDepth 100000 in
theorem c_X0_leadAtPad (l : Launch) (G : GG) (A : Nat → Nat) (S : XS) (r : Nat) (p0 : Int32) : Mp l yX0_leadAtPad wsX0_leadAtPad ({ frames := 1, cells := 0, slots := 0, locals := 20 } : Room) G [.ref (A (6 * 0)), .int p0] (wX G A S r) (f_X0_leadAtPad S p0) := by
  refine Mp.of (cc := cX0_leadAtPad) (maxL := 2) (ret := (some .int)) (by decide) rfl (Nat.le_of_ble_eq_true rfl) ?_
  intro p e s m args below meth c E hr hlocks hP hK ls hl
  have E : CallFix p m c cX0_leadAtPad 2 s args wsX0_leadAtPad RX0 := E
  have hx := E.1
  have hb := E.2.1
  have hml := E.2.2.1
  have hown := E.2.2.2.1
  have hts := E.2.2.2.2
  have hl : lv_has ls 2 [(0, .ref (A (6 * 0))), (1, .int p0)] := hl
  have hinX0 : ∀ w ∈ u_ws RX0 TX0 12, w ∈ wsX0_leadAtPad := fun _ h => List.mem_cons_of_mem _ (List.mem_append_right _ h)
  refine lv_iload_n hx hb dX0_leadAtPad_0 rfl (lv_at hl 1 rfl) ?_
  refine cpN (host := RX3) (rest := []) (As := [.int p0]) E (c_X3_isPad l G A S r p0) (va_cnB 1 hts gX0_leadAtPad_X3_isPad_n62 rfl rfl rfl (hK.2 (.methodLinkNest RX0 62 yX3_isPad RX3) (by decide +kernel)) (hts (.initialized RX3) (List.mem_of_getElem? (i := 3) rfl)) (by decide +kernel) ⟨Nat.le_of_ble_eq_true rfl, Nat.le_of_ble_eq_true rfl⟩) (hts (.static yX3_isPad) (List.mem_of_getElem? (i := 2) rfl)) hK hP rfl hl.1 rfl (Nat.le_of_ble_eq_true rfl) dX0_leadAtPad_1 ⟨Nat.zero_le _, Nat.zero_le _⟩ ?_
  refine lv_if_eq (tgt := 16) hx hb dX0_leadAtPad_4 (by decide) (fun c1 => ?_) (fun c1 => ?_)
  · skip
    refine lv_iconst (v := (-1)) hx hb dX0_leadAtPad_16 (by decide) ?_
    exact endP hx hb hr hlocks rfl (Eq.symm (Eq.trans (e_X0_leadAtPad S p0) ((if_pos c1)))) dX0_leadAtPad_17
  · skip
    refine lv_aload_n hx hb dX0_leadAtPad_7 rfl (lv_at hl 0 rfl) ?_
    refine va_get (D := G.1) (ci := 0) (v := .ref (A (6 * 0 + 2))) (C := RX0) (T := TX0) (N := 12) hx hb hts hinX0 hown hK.1 hP (6 * 0) (wX_o G A S r 0 (by decide)) rfl 1 (by decide) (hts (.fieldLink RX0 15 "WireLoops$Chip" "leadOf" "[I") (List.mem_of_getElem? (i := 1) rfl)) (fun _ h9 => h9) rfl dX0_leadAtPad_8 ?_
    refine lv_iload_n hx hb dX0_leadAtPad_11 rfl (lv_at hl 1 rfl) ?_
    refine va_iald (D := G.1) hx hb hK.1 hP (6 * 0 + 2) 0 (wX_c G A S r 0 2 (by decide) (by decide) (by decide)) rfl (in_pad (by assumption)) dX0_leadAtPad_12 ?_
    refine lv_goto (tgt := 17) hx hb dX0_leadAtPad_13 (by decide) ?_
    exact endP hx hb hr hlocks rfl (Eq.symm (Eq.trans (e_X0_leadAtPad S p0) ((if_neg c1)))) dX0_leadAtPad_17
noncomputable def f_X0_heightOf (S : XS) (p0 : Int32) : Int32 := opq (if (f_X3_isPad p0) = 0 then 0 else ((S 0 3) (p0).toNatClampNeg))
theorem e_X0_heightOf (S : XS) (p0 : Int32) : f_X0_heightOf S p0 = (if (f_X3_isPad p0) = 0 then 0 else ((S 0 3) (p0).toNatClampNeg)) := opq_eq _
set_option maxHeartbeats 4000000 in
set_option maxRecDepth 100000 in
theorem c_X0_heightOf (l : Launch) (G : GG) (A : Nat → Nat) (S : XS) (r : Nat) (p0 : Int32) : Mp l yX0_heightOf wsX0_heightOf ({ frames := 1, cells := 0, slots := 0, locals := 20 } : Room) G [.ref (A (6 * 0)), .int p0] (wX G A S r) (f_X0_heightOf S p0) := by
  refine Mp.of (cc := cX0_heightOf) (maxL := 2) (ret := (some .int)) (by decide) rfl (Nat.le_of_ble_eq_true rfl) ?_
  intro p e s m args below meth c E hr hlocks hP hK ls hl
  have E : CallFix p m c cX0_heightOf 2 s args wsX0_heightOf RX0 := E
  have hx := E.1
  have hb := E.2.1
  have hml := E.2.2.1
  have hown := E.2.2.2.1
  have hts := E.2.2.2.2
  have hl : lv_has ls 2 [(0, .ref (A (6 * 0))), (1, .int p0)] := hl
  have hinX0 : ∀ w ∈ u_ws RX0 TX0 12, w ∈ wsX0_heightOf := fun _ h => List.mem_cons_of_mem _ (List.mem_append_right _ h)
  refine lv_iload_n hx hb dX0_heightOf_0 rfl (lv_at hl 1 rfl) ?_
  refine cpN (host := RX3) (rest := []) (As := [.int p0]) E (c_X3_isPad l G A S r p0) (va_cnB 1 hts gX0_heightOf_X3_isPad_n62 rfl rfl rfl (hK.2 (.methodLinkNest RX0 62 yX3_isPad RX3) (by decide +kernel)) (hts (.initialized RX3) (List.mem_of_getElem? (i := 3) rfl)) (by decide +kernel) ⟨Nat.le_of_ble_eq_true rfl, Nat.le_of_ble_eq_true rfl⟩) (hts (.static yX3_isPad) (List.mem_of_getElem? (i := 2) rfl)) hK hP rfl hl.1 rfl (Nat.le_of_ble_eq_true rfl) dX0_heightOf_1 ⟨Nat.zero_le _, Nat.zero_le _⟩ ?_
  refine lv_if_eq (tgt := 16) hx hb dX0_heightOf_4 (by decide) (fun c1 => ?_) (fun c1 => ?_)
  · skip
    refine lv_iconst (v := 0) hx hb dX0_heightOf_16 (by decide) ?_
    exact endP hx hb hr hlocks rfl (Eq.symm (Eq.trans (e_X0_heightOf S p0) ((if_pos c1)))) dX0_heightOf_17
  · skip
    refine lv_aload_n hx hb dX0_heightOf_7 rfl (lv_at hl 0 rfl) ?_
    refine va_get (D := G.1) (ci := 0) (v := .ref (A (6 * 0 + 3))) (C := RX0) (T := TX0) (N := 12) hx hb hts hinX0 hown hK.1 hP (6 * 0) (wX_o G A S r 0 (by decide)) rfl 2 (by decide) (hts (.fieldLink RX0 18 "WireLoops$Chip" "height" "[I") (List.mem_of_getElem? (i := 1) rfl)) (fun _ h9 => h9) rfl dX0_heightOf_8 ?_
    refine lv_iload_n hx hb dX0_heightOf_11 rfl (lv_at hl 1 rfl) ?_
    refine va_iald (D := G.1) hx hb hK.1 hP (6 * 0 + 3) 0 (wX_c G A S r 0 3 (by decide) (by decide) (by decide)) rfl (in_pad (by assumption)) dX0_heightOf_12 ?_
    refine lv_goto (tgt := 17) hx hb dX0_heightOf_13 (by decide) ?_
    exact endP hx hb hr hlocks rfl (Eq.symm (Eq.trans (e_X0_heightOf S p0) ((if_neg c1)))) dX0_heightOf_17
noncomputable def f_X0_strengthOf (S : XS) (p0 : Int32) : Int32 := opq (if (f_X3_isPad p0) = 0 then 0 else ((S 0 4) (p0).toNatClampNeg))
theorem e_X0_strengthOf (S : XS) (p0 : Int32) : f_X0_strengthOf S p0 = (if (f_X3_isPad p0) = 0 then 0 else ((S 0 4) (p0).toNatClampNeg)) := opq_eq _
set_option maxHeartbeats 4000000 in
set_option maxRecDepth 100000 in
theorem c_X0_strengthOf (l : Launch) (G : GG) (A : Nat → Nat) (S : XS) (r : Nat) (p0 : Int32) : Mp l yX0_strengthOf wsX0_strengthOf ({ frames := 1, cells := 0, slots := 0, locals := 20 } : Room) G [.ref (A (6 * 0)), .int p0] (wX G A S r) (f_X0_strengthOf S p0) := by
  refine Mp.of (cc := cX0_strengthOf) (maxL := 2) (ret := (some .int)) (by decide) rfl (Nat.le_of_ble_eq_true rfl) ?_
  intro p e s m args below meth c E hr hlocks hP hK ls hl
  have E : CallFix p m c cX0_strengthOf 2 s args wsX0_strengthOf RX0 := E
  have hx := E.1
  have hb := E.2.1
  have hml := E.2.2.1
  have hown := E.2.2.2.1
  have hts := E.2.2.2.2
  have hl : lv_has ls 2 [(0, .ref (A (6 * 0))), (1, .int p0)] := hl
  have hinX0 : ∀ w ∈ u_ws RX0 TX0 12, w ∈ wsX0_strengthOf := fun _ h => List.mem_cons_of_mem _ (List.mem_append_right _ h)
  refine lv_iload_n hx hb dX0_strengthOf_0 rfl (lv_at hl 1 rfl) ?_
  refine cpN (host := RX3) (rest := []) (As := [.int p0]) E (c_X3_isPad l G A S r p0) (va_cnB 1 hts gX0_strengthOf_X3_isPad_n62 rfl rfl rfl (hK.2 (.methodLinkNest RX0 62 yX3_isPad RX3) (by decide +kernel)) (hts (.initialized RX3) (List.mem_of_getElem? (i := 3) rfl)) (by decide +kernel) ⟨Nat.le_of_ble_eq_true rfl, Nat.le_of_ble_eq_true rfl⟩) (hts (.static yX3_isPad) (List.mem_of_getElem? (i := 2) rfl)) hK hP rfl hl.1 rfl (Nat.le_of_ble_eq_true rfl) dX0_strengthOf_1 ⟨Nat.zero_le _, Nat.zero_le _⟩ ?_
  refine lv_if_eq (tgt := 16) hx hb dX0_strengthOf_4 (by decide) (fun c1 => ?_) (fun c1 => ?_)
  · skip
    refine lv_iconst (v := 0) hx hb dX0_strengthOf_16 (by decide) ?_
    exact endP hx hb hr hlocks rfl (Eq.symm (Eq.trans (e_X0_strengthOf S p0) ((if_pos c1)))) dX0_strengthOf_17
  · skip
    refine lv_aload_n hx hb dX0_strengthOf_7 rfl (lv_at hl 0 rfl) ?_
    refine va_get (D := G.1) (ci := 0) (v := .ref (A (6 * 0 + 4))) (C := RX0) (T := TX0) (N := 12) hx hb hts hinX0 hown hK.1 hP (6 * 0) (wX_o G A S r 0 (by decide)) rfl 3 (by decide) (hts (.fieldLink RX0 21 "WireLoops$Chip" "strength" "[I") (List.mem_of_getElem? (i := 1) rfl)) (fun _ h9 => h9) rfl dX0_strengthOf_8 ?_
    refine lv_iload_n hx hb dX0_strengthOf_11 rfl (lv_at hl 1 rfl) ?_
    refine va_iald (D := G.1) hx hb hK.1 hP (6 * 0 + 4) 0 (wX_c G A S r 0 4 (by decide) (by decide) (by decide)) rfl (in_pad (by assumption)) dX0_strengthOf_12 ?_
    refine lv_goto (tgt := 17) hx hb dX0_strengthOf_13 (by decide) ?_
    exact endP hx hb hr hlocks rfl (Eq.symm (Eq.trans (e_X0_strengthOf S p0) ((if_neg c1)))) dX0_strengthOf_17
noncomputable def f_X0_numberOf (S : XS) (p0 : Int32) : Int32 := opq (if (f_X3_isPad p0) = 0 then 0 else ((S 0 5) (p0).toNatClampNeg))
theorem e_X0_numberOf (S : XS) (p0 : Int32) : f_X0_numberOf S p0 = (if (f_X3_isPad p0) = 0 then 0 else ((S 0 5) (p0).toNatClampNeg)) := opq_eq _
set_option maxHeartbeats 4000000 in
set_option maxRecDepth 100000 in
theorem c_X0_numberOf (l : Launch) (G : GG) (A : Nat → Nat) (S : XS) (r : Nat) (p0 : Int32) : Mp l yX0_numberOf wsX0_numberOf ({ frames := 1, cells := 0, slots := 0, locals := 20 } : Room) G [.ref (A (6 * 0)), .int p0] (wX G A S r) (f_X0_numberOf S p0) := by
  refine Mp.of (cc := cX0_numberOf) (maxL := 2) (ret := (some .int)) (by decide) rfl (Nat.le_of_ble_eq_true rfl) ?_
  intro p e s m args below meth c E hr hlocks hP hK ls hl
  have E : CallFix p m c cX0_numberOf 2 s args wsX0_numberOf RX0 := E
  have hx := E.1
  have hb := E.2.1
  have hml := E.2.2.1
  have hown := E.2.2.2.1
  have hts := E.2.2.2.2
  have hl : lv_has ls 2 [(0, .ref (A (6 * 0))), (1, .int p0)] := hl
  have hinX0 : ∀ w ∈ u_ws RX0 TX0 12, w ∈ wsX0_numberOf := fun _ h => List.mem_cons_of_mem _ (List.mem_append_right _ h)
  refine lv_iload_n hx hb dX0_numberOf_0 rfl (lv_at hl 1 rfl) ?_
  refine cpN (host := RX3) (rest := []) (As := [.int p0]) E (c_X3_isPad l G A S r p0) (va_cnB 1 hts gX0_numberOf_X3_isPad_n62 rfl rfl rfl (hK.2 (.methodLinkNest RX0 62 yX3_isPad RX3) (by decide +kernel)) (hts (.initialized RX3) (List.mem_of_getElem? (i := 3) rfl)) (by decide +kernel) ⟨Nat.le_of_ble_eq_true rfl, Nat.le_of_ble_eq_true rfl⟩) (hts (.static yX3_isPad) (List.mem_of_getElem? (i := 2) rfl)) hK hP rfl hl.1 rfl (Nat.le_of_ble_eq_true rfl) dX0_numberOf_1 ⟨Nat.zero_le _, Nat.zero_le _⟩ ?_
  refine lv_if_eq (tgt := 16) hx hb dX0_numberOf_4 (by decide) (fun c1 => ?_) (fun c1 => ?_)
  · skip
    refine lv_iconst (v := 0) hx hb dX0_numberOf_16 (by decide) ?_
    exact endP hx hb hr hlocks rfl (Eq.symm (Eq.trans (e_X0_numberOf S p0) ((if_pos c1)))) dX0_numberOf_17
  · skip
    refine lv_aload_n hx hb dX0_numberOf_7 rfl (lv_at hl 0 rfl) ?_
    refine va_get (D := G.1) (ci := 0) (v := .ref (A (6 * 0 + 5))) (C := RX0) (T := TX0) (N := 12) hx hb hts hinX0 hown hK.1 hP (6 * 0) (wX_o G A S r 0 (by decide)) rfl 4 (by decide) (hts (.fieldLink RX0 24 "WireLoops$Chip" "number" "[I") (List.mem_of_getElem? (i := 1) rfl)) (fun _ h9 => h9) rfl dX0_numberOf_8 ?_
    refine lv_iload_n hx hb dX0_numberOf_11 rfl (lv_at hl 1 rfl) ?_
    refine va_iald (D := G.1) hx hb hK.1 hP (6 * 0 + 5) 0 (wX_c G A S r 0 5 (by decide) (by decide) (by decide)) rfl (in_pad (by assumption)) dX0_numberOf_12 ?_
    refine lv_goto (tgt := 17) hx hb dX0_numberOf_13 (by decide) ?_
    exact endP hx hb hr hlocks rfl (Eq.symm (Eq.trans (e_X0_numberOf S p0) ((if_neg c1)))) dX0_numberOf_17
noncomputable def f_X0_xOfLead (S : XS) (p0 : Int32) : Int32 := opq (if (f_X3_isLead p0) = 0 then 0 else ((S 0 1) (p0).toNatClampNeg))
theorem e_X0_xOfLead (S : XS) (p0 : Int32) : f_X0_xOfLead S p0 = (if (f_X3_isLead p0) = 0 then 0 else ((S 0 1) (p0).toNatClampNeg)) := opq_eq _
set_option maxHeartbeats 4000000 in
set_option maxRecDepth 100000 in
theorem c_X0_xOfLead (l : Launch) (G : GG) (A : Nat → Nat) (S : XS) (r : Nat) (p0 : Int32) : Mp l yX0_xOfLead wsX0_xOfLead ({ frames := 1, cells := 0, slots := 0, locals := 20 } : Room) G [.ref (A (6 * 0)), .int p0] (wX G A S r) (f_X0_xOfLead S p0) := by
  refine Mp.of (cc := cX0_xOfLead) (maxL := 2) (ret := (some .int)) (by decide) rfl (Nat.le_of_ble_eq_true rfl) ?_
  intro p e s m args below meth c E hr hlocks hP hK ls hl
  have E : CallFix p m c cX0_xOfLead 2 s args wsX0_xOfLead RX0 := E
  have hx := E.1
  have hb := E.2.1
  have hml := E.2.2.1
  have hown := E.2.2.2.1
  have hts := E.2.2.2.2
  have hl : lv_has ls 2 [(0, .ref (A (6 * 0))), (1, .int p0)] := hl
  have hinX0 : ∀ w ∈ u_ws RX0 TX0 12, w ∈ wsX0_xOfLead := fun _ h => List.mem_cons_of_mem _ (List.mem_append_right _ h)
  refine lv_iload_n hx hb dX0_xOfLead_0 rfl (lv_at hl 1 rfl) ?_
  refine cpN (host := RX3) (rest := []) (As := [.int p0]) E (c_X3_isLead l G A S r p0) (va_cnB 1 hts gX0_xOfLead_X3_isLead_n66 rfl rfl rfl (hK.2 (.methodLinkNest RX0 66 yX3_isLead RX3) (by decide +kernel)) (hts (.initialized RX3) (List.mem_of_getElem? (i := 3) rfl)) (by decide +kernel) ⟨Nat.le_of_ble_eq_true rfl, Nat.le_of_ble_eq_true rfl⟩) (hts (.static yX3_isLead) (List.mem_of_getElem? (i := 2) rfl)) hK hP rfl hl.1 rfl (Nat.le_of_ble_eq_true rfl) dX0_xOfLead_1 ⟨Nat.zero_le _, Nat.zero_le _⟩ ?_
  refine lv_if_eq (tgt := 16) hx hb dX0_xOfLead_4 (by decide) (fun c1 => ?_) (fun c1 => ?_)
  · skip
    refine lv_iconst (v := 0) hx hb dX0_xOfLead_16 (by decide) ?_
    exact endP hx hb hr hlocks rfl (Eq.symm (Eq.trans (e_X0_xOfLead S p0) ((if_pos c1)))) dX0_xOfLead_17
  · skip
    refine lv_aload_n hx hb dX0_xOfLead_7 rfl (lv_at hl 0 rfl) ?_
    refine va_get (D := G.1) (ci := 0) (v := .ref (A (6 * 0 + 1))) (C := RX0) (T := TX0) (N := 12) hx hb hts hinX0 hown hK.1 hP (6 * 0) (wX_o G A S r 0 (by decide)) rfl 0 (by decide) (hts (.fieldLink RX0 9 "WireLoops$Chip" "leadX" "[I") (List.mem_of_getElem? (i := 1) rfl)) (fun _ h9 => h9) rfl dX0_xOfLead_8 ?_
    refine lv_iload_n hx hb dX0_xOfLead_11 rfl (lv_at hl 1 rfl) ?_
    refine va_iald (D := G.1) hx hb hK.1 hP (6 * 0 + 1) 0 (wX_1 G A S r 0 (by decide)) rfl (in_lead (by assumption)) dX0_xOfLead_12 ?_
    refine lv_goto (tgt := 17) hx hb dX0_xOfLead_13 (by decide) ?_
    exact endP hx hb hr hlocks rfl (Eq.symm (Eq.trans (e_X0_xOfLead S p0) ((if_neg c1)))) dX0_xOfLead_17
noncomputable def g_X0_padAtLead_2 (S : XS) (p0 : Int32) : Nat → Nat → Int32
  | 0, k => 0
  | n + 1, k => opq (if 12 ≤ (nI k) then (-5) else (if (f_X0_hasWire S (nI k)) = 0 then (g_X0_padAtLead_2 S p0 n (k + 1)) else (if ((S 0 2) k) = p0 then nI k else (g_X0_padAtLead_2 S p0 n (k + 1)))))
theorem ge_X0_padAtLead_2 (S : XS) (p0 : Int32) (n : Nat) (k : Nat) : g_X0_padAtLead_2 S p0 (n + 1) k = (if 12 ≤ (nI k) then (-5) else (if (f_X0_hasWire S (nI k)) = 0 then (g_X0_padAtLead_2 S p0 n (k + 1)) else (if ((S 0 2) k) = p0 then nI k else (g_X0_padAtLead_2 S p0 n (k + 1))))) := opq_eq _
noncomputable def f_X0_padAtLead (S : XS) (p0 : Int32) : Int32 := opq (g_X0_padAtLead_2 S p0 13 0)
theorem e_X0_padAtLead (S : XS) (p0 : Int32) : f_X0_padAtLead S p0 = (g_X0_padAtLead_2 S p0 13 0) := opq_eq _
set_option maxHeartbeats 4000000 in
set_option maxRecDepth 100000 in
theorem c_X0_padAtLead (l : Launch) (G : GG) (A : Nat → Nat) (S : XS) (r : Nat) (p0 : Int32) : Mp l yX0_padAtLead wsX0_padAtLead ({ frames := 2, cells := 0, slots := 0, locals := 41 } : Room) G [.ref (A (6 * 0)), .int p0] (wX G A S r) (f_X0_padAtLead S p0) := by
  refine Mp.of (cc := cX0_padAtLead) (maxL := 3) (ret := (some .int)) (by decide) rfl (Nat.le_of_ble_eq_true rfl) ?_
  intro p e s m args below meth c E hr hlocks hP hK ls hl
  have E : CallFix p m c cX0_padAtLead 3 s args wsX0_padAtLead RX0 := E
  have hx := E.1
  have hb := E.2.1
  have hml := E.2.2.1
  have hown := E.2.2.2.1
  have hts := E.2.2.2.2
  have hl : lv_has ls 3 [(0, .ref (A (6 * 0))), (1, .int p0)] := hl
  have hinX0 : ∀ w ∈ u_ws RX0 TX0 12, w ∈ wsX0_padAtLead := fun _ h => List.mem_cons_of_mem _ (List.mem_append_right _ h)
  have LOOP2 : ∀ (n : Nat) (k : Nat), (k ≤ 12) → (12 < k + n) → g_X0_padAtLead_2 S p0 n k = (f_X0_padAtLead S p0) → ∀ ls : Array Slot, lv_has ls 3 [(0, .ref (A (6 * 0))), (1, .int p0), (2, .int (nI k))] → W p l e ({ frames := 2, cells := 0, slots := 0, locals := 41 } : Room) s m args below meth c s.heap [] 0 0 (MQ below (vp_Si (fun r => r = (f_X0_padAtLead S p0))) args s 0 0 (fun _ => False)) (F0 m 2 ls []) := by
    intro n
    induction n with
    | zero =>
      intro k hk hn
      exact absurd hn (by omega)
    | succ n ih =>
      intro k hk hn hres ls hl
      have hl : lv_has ls 3 [(0, .ref (A (6 * 0))), (1, .int p0), (2, .int (nI k))] := hl
      refine lv_iload_n hx hb dX0_padAtLead_2 rfl (lv_at hl 2 rfl) ?_
      refine lv_bipush (v := 12) hx hb dX0_padAtLead_3 (by decide) ?_
      refine lv_icmp_ge (tgt := 34) hx hb dX0_padAtLead_5 (by decide) (fun c1 => ?_) (fun c1 => ?_)
      · skip
        refine lv_bipush (v := (-5)) hx hb dX0_padAtLead_34 (by decide) ?_
        exact endP hx hb hr hlocks rfl (Eq.trans (Eq.symm (Eq.trans (ge_X0_padAtLead_2 S p0 n k) ((if_pos c1)))) hres) dX0_padAtLead_36
      · skip
        have hk2 : k < 12 := lt_of_nle (N := 12) rfl hk c1 (by decide)
        refine lv_aload_n hx hb dX0_padAtLead_8 rfl (lv_at hl 0 rfl) ?_
        refine lv_iload_n hx hb dX0_padAtLead_9 rfl (lv_at hl 2 rfl) ?_
        refine cpV (rest := []) (As := [.int (nI k)]) E (c_X0_hasWire l G A S r (nI k)) (cwV 1 hts gX0_padAtLead_X0_hasWire rfl rfl rfl (by decide +kernel) ⟨Nat.le_of_ble_eq_true rfl, Nat.le_of_ble_eq_true rfl⟩) hK hP (6 * 0) (wX_o G A S r 0 (by decide)) rfl rfl hl.1 rfl (Nat.le_of_ble_eq_true rfl) dX0_padAtLead_10 ⟨Nat.zero_le _, Nat.zero_le _⟩ ?_
        refine lv_if_eq (tgt := 28) hx hb dX0_padAtLead_13 (by decide) (fun c2 => ?_) (fun c2 => ?_)
        · skip
          refine lv_iinc (v := (nI (k + 1))) (lv' := [(2, .int (nI (k + 1))), (0, .ref (A (6 * 0))), (1, .int p0)]) hx hb dX0_padAtLead_28 hl (k := 2) rfl (nI_1 k) (by decide) rfl (fun ls hl => ?_)
          refine lv_goto (tgt := 2) hx hb dX0_padAtLead_31 (by decide) ?_
          exact ih (k + 1) (by omega) (by omega) (Eq.trans (Eq.symm (Eq.trans (ge_X0_padAtLead_2 S p0 n k) (Eq.trans (if_neg c1) ((if_pos c2))))) hres)  _ (lv_sub hl [1, 2, 0] rfl)
        · skip
          refine lv_aload_n hx hb dX0_padAtLead_16 rfl (lv_at hl 0 rfl) ?_
          refine va_get (D := G.1) (ci := 0) (v := .ref (A (6 * 0 + 2))) (C := RX0) (T := TX0) (N := 12) hx hb hts hinX0 hown hK.1 hP (6 * 0) (wX_o G A S r 0 (by decide)) rfl 1 (by decide) (hts (.fieldLink RX0 15 "WireLoops$Chip" "leadOf" "[I") (List.mem_of_getElem? (i := 1) rfl)) (fun _ h9 => h9) rfl dX0_padAtLead_17 ?_
          refine lv_iload_n hx hb dX0_padAtLead_20 rfl (lv_at hl 2 rfl) ?_
          refine va_iald (D := G.1) hx hb hK.1 hP (6 * 0 + 2) 0 (wX_c G A S r 0 2 (by decide) (by decide) (by decide)) rfl (vp_in_nI hk2 (by decide)) dX0_padAtLead_21 ?_
          refine W.eq (g2 := F0 m 22 ls [.int ((S 0 2) k)]) (by rw [nI_cl (n := k) (by omega)] <;> rfl) ?_
          refine lv_iload_n hx hb dX0_padAtLead_22 rfl (lv_at hl 1 rfl) ?_
          refine lv_icmp_ne (tgt := 28) hx hb dX0_padAtLead_23 (by decide) (fun c3 => ?_) (fun c3 => ?_)
          · skip
            refine lv_iinc (v := (nI (k + 1))) (lv' := [(2, .int (nI (k + 1))), (0, .ref (A (6 * 0))), (1, .int p0)]) hx hb dX0_padAtLead_28 hl (k := 2) rfl (nI_1 k) (by decide) rfl (fun ls hl => ?_)
            refine lv_goto (tgt := 2) hx hb dX0_padAtLead_31 (by decide) ?_
            exact ih (k + 1) (by omega) (by omega) (Eq.trans (Eq.symm (Eq.trans (ge_X0_padAtLead_2 S p0 n k) (Eq.trans (if_neg c1) (Eq.trans (if_neg c2) ((if_neg c3)))))) hres)  _ (lv_sub hl [1, 2, 0] rfl)
          · skip
            refine lv_iload_n hx hb dX0_padAtLead_26 rfl (lv_at hl 2 rfl) ?_
            exact endP hx hb hr hlocks rfl (Eq.trans (Eq.symm (Eq.trans (ge_X0_padAtLead_2 S p0 n k) (Eq.trans (if_neg c1) (Eq.trans (if_neg c2) ((if_pos c3)))))) hres) dX0_padAtLead_27
  refine lv_iconst (v := 0) hx hb dX0_padAtLead_0 (by decide) ?_
  refine lv_istore_n (lv' := [(2, .int 0), (0, .ref (A (6 * 0))), (1, .int p0)]) hx hb dX0_padAtLead_1 rfl hl (by decide) rfl (fun ls hl => ?_)
  exact LOOP2 13 0 (by omega) (by omega) (Eq.symm ((e_X0_padAtLead S p0)))  _ (lv_sub hl [1, 2, 0] rfl)
noncomputable def f_X0_endX (S : XS) (p0 : Int32) : Int32 := opq (if p0 < 0 then 0 else (if 12 ≤ p0 then 0 else (if ((S 0 2) (p0).toNatClampNeg) < 0 then 0 else (if 16 ≤ ((S 0 2) (p0).toNatClampNeg) then 0 else ((S 0 1) ((S 0 2) (p0).toNatClampNeg).toNatClampNeg)))))
theorem e_X0_endX (S : XS) (p0 : Int32) : f_X0_endX S p0 = (if p0 < 0 then 0 else (if 12 ≤ p0 then 0 else (if ((S 0 2) (p0).toNatClampNeg) < 0 then 0 else (if 16 ≤ ((S 0 2) (p0).toNatClampNeg) then 0 else ((S 0 1) ((S 0 2) (p0).toNatClampNeg).toNatClampNeg))))) := opq_eq _
set_option maxHeartbeats 4000000 in
set_option maxRecDepth 100000 in
theorem c_X0_endX (l : Launch) (G : GG) (A : Nat → Nat) (S : XS) (r : Nat) (p0 : Int32) : Mp l yX0_endX wsX0_endX ({ frames := 0, cells := 0, slots := 0, locals := 0 } : Room) G [.ref (A (6 * 0)), .int p0] (wX G A S r) (f_X0_endX S p0) := by
  refine Mp.of (cc := cX0_endX) (maxL := 3) (ret := (some .int)) (by decide) rfl (Nat.le_of_ble_eq_true rfl) ?_
  intro p e s m args below meth c E hr hlocks hP hK ls hl
  have E : CallFix p m c cX0_endX 3 s args wsX0_endX RX0 := E
  have hx := E.1
  have hb := E.2.1
  have hml := E.2.2.1
  have hown := E.2.2.2.1
  have hts := E.2.2.2.2
  have hl : lv_has ls 3 [(0, .ref (A (6 * 0))), (1, .int p0)] := hl
  have hinX0 : ∀ w ∈ u_ws RX0 TX0 12, w ∈ wsX0_endX := fun _ h => List.mem_cons_of_mem _ (List.mem_append_right _ h)
  refine lv_iload_n hx hb dX0_endX_0 rfl (lv_at hl 1 rfl) ?_
  refine lv_if_lt (tgt := 19) hx hb dX0_endX_1 (by decide) (fun c1 => ?_) (fun c1 => ?_)
  · skip
    refine lv_iconst (v := (-1)) hx hb dX0_endX_19 (by decide) ?_
    refine lv_istore_n (lv' := [(2, .int (-1)), (0, .ref (A (6 * 0))), (1, .int p0)]) hx hb dX0_endX_20 rfl hl (by decide) rfl (fun ls hl => ?_)
    refine lv_iload_n hx hb dX0_endX_21 rfl (lv_at hl 0 rfl) ?_
    refine lv_if_lt (tgt := 40) hx hb dX0_endX_22 (by decide) (fun c2 => ?_) (fun c2 => absurd (by decide) c2)
    refine lv_iconst (v := 0) hx hb dX0_endX_40 (by decide) ?_
    exact endP hx hb hr hlocks rfl (Eq.symm (Eq.trans (e_X0_endX S p0) ((if_pos c1)))) dX0_endX_41
  · skip
    refine lv_iload_n hx hb dX0_endX_4 rfl (lv_at hl 1 rfl) ?_
    refine lv_bipush (v := 12) hx hb dX0_endX_5 (by decide) ?_
    refine lv_icmp_ge (tgt := 19) hx hb dX0_endX_7 (by decide) (fun c3 => ?_) (fun c3 => ?_)
    · skip
      refine lv_iconst (v := (-1)) hx hb dX0_endX_19 (by decide) ?_
      refine lv_istore_n (lv' := [(2, .int (-1)), (0, .ref (A (6 * 0))), (1, .int p0)]) hx hb dX0_endX_20 rfl hl (by decide) rfl (fun ls hl => ?_)
      refine lv_iload_n hx hb dX0_endX_21 rfl (lv_at hl 0 rfl) ?_
      refine lv_if_lt (tgt := 40) hx hb dX0_endX_22 (by decide) (fun c4 => ?_) (fun c4 => absurd (by decide) c4)
      refine lv_iconst (v := 0) hx hb dX0_endX_40 (by decide) ?_
      exact endP hx hb hr hlocks rfl (Eq.symm (Eq.trans (e_X0_endX S p0) (Eq.trans (if_neg c1) ((if_pos c3))))) dX0_endX_41
    · skip
      refine lv_aload_n hx hb dX0_endX_10 rfl (lv_at hl 0 rfl) ?_
      refine va_get (D := G.1) (ci := 0) (v := .ref (A (6 * 0 + 2))) (C := RX0) (T := TX0) (N := 12) hx hb hts hinX0 hown hK.1 hP (6 * 0) (wX_o G A S r 0 (by decide)) rfl 1 (by decide) (hts (.fieldLink RX0 15 "WireLoops$Chip" "leadOf" "[I") (List.mem_of_getElem? (i := 1) rfl)) (fun _ h9 => h9) rfl dX0_endX_11 ?_
      refine lv_iload_n hx hb dX0_endX_14 rfl (lv_at hl 1 rfl) ?_
      refine va_iald (D := G.1) hx hb hK.1 hP (6 * 0 + 2) 0 (wX_c G A S r 0 2 (by decide) (by decide) (by decide)) rfl (in_rng (y := 12) rfl (by decide) (by assumption) (by assumption)) dX0_endX_15 ?_
      refine lv_goto (tgt := 20) hx hb dX0_endX_16 (by decide) ?_
      refine lv_istore_n (lv' := [(2, .int ((S 0 2) (p0).toNatClampNeg)), (0, .ref (A (6 * 0))), (1, .int p0)]) hx hb dX0_endX_20 rfl hl (by decide) rfl (fun ls hl => ?_)
      refine lv_iload_n hx hb dX0_endX_21 rfl (lv_at hl 0 rfl) ?_
      refine lv_if_lt (tgt := 40) hx hb dX0_endX_22 (by decide) (fun c5 => ?_) (fun c5 => ?_)
      · skip
        refine lv_iconst (v := 0) hx hb dX0_endX_40 (by decide) ?_
        exact endP hx hb hr hlocks rfl (Eq.symm (Eq.trans (e_X0_endX S p0) (Eq.trans (if_neg c1) (Eq.trans (if_neg c3) ((if_pos c5)))))) dX0_endX_41
      · skip
        refine lv_iload_n hx hb dX0_endX_25 rfl (lv_at hl 0 rfl) ?_
        refine lv_bipush (v := 16) hx hb dX0_endX_26 (by decide) ?_
        refine lv_icmp_ge (tgt := 40) hx hb dX0_endX_28 (by decide) (fun c6 => ?_) (fun c6 => ?_)
        · skip
          refine lv_iconst (v := 0) hx hb dX0_endX_40 (by decide) ?_
          exact endP hx hb hr hlocks rfl (Eq.symm (Eq.trans (e_X0_endX S p0) (Eq.trans (if_neg c1) (Eq.trans (if_neg c3) (Eq.trans (if_neg c5) ((if_pos c6))))))) dX0_endX_41
        · skip
          refine lv_aload_n hx hb dX0_endX_31 rfl (lv_at hl 1 rfl) ?_
          refine va_get (D := G.1) (ci := 0) (v := .ref (A (6 * 0 + 1))) (C := RX0) (T := TX0) (N := 12) hx hb hts hinX0 hown hK.1 hP (6 * 0) (wX_o G A S r 0 (by decide)) rfl 0 (by decide) (hts (.fieldLink RX0 9 "WireLoops$Chip" "leadX" "[I") (List.mem_of_getElem? (i := 2) rfl)) (fun _ h9 => h9) rfl dX0_endX_32 ?_
          refine lv_iload_n hx hb dX0_endX_35 rfl (lv_at hl 0 rfl) ?_
          refine va_iald (D := G.1) hx hb hK.1 hP (6 * 0 + 1) 0 (wX_1 G A S r 0 (by decide)) rfl (in_rng (y := 16) rfl (by decide) (by assumption) (by assumption)) dX0_endX_36 ?_
          refine lv_goto (tgt := 41) hx hb dX0_endX_37 (by decide) ?_
          exact endP hx hb hr hlocks rfl (Eq.symm (Eq.trans (e_X0_endX S p0) (Eq.trans (if_neg c1) (Eq.trans (if_neg c3) (Eq.trans (if_neg c5) ((if_neg c6))))))) dX0_endX_41
noncomputable def f_X0_changeHeight (S : XS) (p0 p1 : Int32) : XS := opq (if (f_X3_isPad p0) = 0 then S else (su S 0 3 (upd (S 0 3) p0.toNatClampNeg p1)))
theorem e_X0_changeHeight (S : XS) (p0 p1 : Int32) : f_X0_changeHeight S p0 p1 = (if (f_X3_isPad p0) = 0 then S else (su S 0 3 (upd (S 0 3) p0.toNatClampNeg p1))) := opq_eq _
set_option maxHeartbeats 4000000 in
set_option maxRecDepth 100000 in
theorem c_X0_changeHeight (l : Launch) (G : GG) (A : Nat → Nat) (S : XS) (r : Nat) (p0 p1 : Int32) : Mz l yX0_changeHeight wsX0_changeHeight ({ frames := 1, cells := 0, slots := 0, locals := 20 } : Room) G [.ref (A (6 * 0)), .int p0, .int p1] (wX G A S r) (wX G A (f_X0_changeHeight S p0 p1) r) := by
  refine Mz.of (cc := cX0_changeHeight) (maxL := 3) (ret := none) (by decide) rfl (Nat.le_of_ble_eq_true rfl) ?_
  intro p e s m args below meth c A0 hA0 E hr hlocks hP hK hD hA hS ls hl
  have E : CallFix p m c cX0_changeHeight 3 s args wsX0_changeHeight RX0 := E
  have hx := E.1
  have hb := E.2.1
  have hml := E.2.2.1
  have hown := E.2.2.2.1
  have hts := E.2.2.2.2
  have hl : lv_has ls 3 [(0, .ref (A (6 * 0))), (1, .int p0), (2, .int p1)] := hl
  have hinX0 : ∀ w ∈ u_ws RX0 TX0 12, w ∈ wsX0_changeHeight := fun _ h => List.mem_cons_of_mem _ (List.mem_append_right _ h)
  refine lv_iload_n hx hb dX0_changeHeight_0 rfl (lv_at hl 1 rfl) ?_
  refine cpN (host := RX3) (rest := []) (As := [.int p0]) E (c_X3_isPad l G A S r p0) (va_cnB 1 hts gX0_changeHeight_X3_isPad_n62 rfl rfl rfl (hK.2 (.methodLinkNest RX0 62 yX3_isPad RX3) (by decide +kernel)) (hts (.initialized RX3) (List.mem_of_getElem? (i := 3) rfl)) (by decide +kernel) ⟨Nat.le_of_ble_eq_true rfl, Nat.le_of_ble_eq_true rfl⟩) (hts (.static yX3_isPad) (List.mem_of_getElem? (i := 2) rfl)) hK hP rfl hl.1 rfl (Nat.le_of_ble_eq_true rfl) dX0_changeHeight_1 ⟨Nat.zero_le _, Nat.zero_le _⟩ ?_
  refine lv_if_eq (tgt := 14) hx hb dX0_changeHeight_4 (by decide) (fun c1 => ?_) (fun c1 => ?_)
  · skip
    have hfin : S = (f_X0_changeHeight S p0 p1) := Eq.symm (Eq.trans (e_X0_changeHeight S p0 p1) ((if_pos c1)))
    exact endZ hx hb hr hlocks hP hD hS (@congrArg XS va_W S (f_X0_changeHeight S p0 p1) (fun z => wX G A z r) hfin) dX0_changeHeight_14
  · skip
    refine lv_aload_n hx hb dX0_changeHeight_7 rfl (lv_at hl 0 rfl) ?_
    refine va_get (D := G.1) (ci := 0) (v := .ref (A (6 * 0 + 3))) (C := RX0) (T := TX0) (N := 12) hx hb hts hinX0 hown hK.1 hP (6 * 0) (wX_o G A S r 0 (by decide)) rfl 2 (by decide) (hts (.fieldLink RX0 18 "WireLoops$Chip" "height" "[I") (List.mem_of_getElem? (i := 1) rfl)) (fun _ h9 => h9) rfl dX0_changeHeight_8 ?_
    refine lv_iload_n hx hb dX0_changeHeight_11 rfl (lv_at hl 1 rfl) ?_
    refine lv_iload_n hx hb dX0_changeHeight_12 rfl (lv_at hl 2 rfl) ?_
    refine va_iast (D := G.1) hx hb hK.1 hP hD hS (6 * 0 + 3) 0 (wX_c G A S r 0 3 (by decide) (by decide) (by decide)) rfl (in_pad (by assumption)) dX0_changeHeight_13 (fun H locs hP hD hS => ?_)
    rw [wX_sc G A S r 0 3 (by decide) (by decide) (by decide) _] at hP hD
    have hP : va_P G.1 vwCl (wX G A (su S 0 3 (upd (S 0 3) p0.toNatClampNeg p1)) r) H := hP
    have hD : va_D A0 (wX G A (su S 0 3 (upd (S 0 3) p0.toNatClampNeg p1)) r) := hD
    have hfin : (su S 0 3 (upd (S 0 3) p0.toNatClampNeg p1)) = (f_X0_changeHeight S p0 p1) := Eq.symm (Eq.trans (e_X0_changeHeight S p0 p1) ((if_neg c1)))
    exact endZ hx hb hr hlocks hP hD hS (@congrArg XS va_W (su S 0 3 (upd (S 0 3) p0.toNatClampNeg p1)) (f_X0_changeHeight S p0 p1) (fun z => wX G A z r) hfin) dX0_changeHeight_14
noncomputable def f_X0_placeLead (S : XS) (p0 p1 : Int32) : XS := opq (if (f_X3_isLead p0) = 0 then S else (su S 0 1 (upd (S 0 1) p0.toNatClampNeg p1)))
theorem e_X0_placeLead (S : XS) (p0 p1 : Int32) : f_X0_placeLead S p0 p1 = (if (f_X3_isLead p0) = 0 then S else (su S 0 1 (upd (S 0 1) p0.toNatClampNeg p1))) := opq_eq _
set_option maxHeartbeats 4000000 in
set_option maxRecDepth 100000 in
theorem c_X0_placeLead (l : Launch) (G : GG) (A : Nat → Nat) (S : XS) (r : Nat) (p0 p1 : Int32) : Mz l yX0_placeLead wsX0_placeLead ({ frames := 1, cells := 0, slots := 0, locals := 20 } : Room) G [.ref (A (6 * 0)), .int p0, .int p1] (wX G A S r) (wX G A (f_X0_placeLead S p0 p1) r) := by
  refine Mz.of (cc := cX0_placeLead) (maxL := 3) (ret := none) (by decide) rfl (Nat.le_of_ble_eq_true rfl) ?_
  intro p e s m args below meth c A0 hA0 E hr hlocks hP hK hD hA hS ls hl
  have E : CallFix p m c cX0_placeLead 3 s args wsX0_placeLead RX0 := E
  have hx := E.1
  have hb := E.2.1
  have hml := E.2.2.1
  have hown := E.2.2.2.1
  have hts := E.2.2.2.2
  have hl : lv_has ls 3 [(0, .ref (A (6 * 0))), (1, .int p0), (2, .int p1)] := hl
  have hinX0 : ∀ w ∈ u_ws RX0 TX0 12, w ∈ wsX0_placeLead := fun _ h => List.mem_cons_of_mem _ (List.mem_append_right _ h)
  refine lv_iload_n hx hb dX0_placeLead_0 rfl (lv_at hl 1 rfl) ?_
  refine cpN (host := RX3) (rest := []) (As := [.int p0]) E (c_X3_isLead l G A S r p0) (va_cnB 1 hts gX0_placeLead_X3_isLead_n66 rfl rfl rfl (hK.2 (.methodLinkNest RX0 66 yX3_isLead RX3) (by decide +kernel)) (hts (.initialized RX3) (List.mem_of_getElem? (i := 3) rfl)) (by decide +kernel) ⟨Nat.le_of_ble_eq_true rfl, Nat.le_of_ble_eq_true rfl⟩) (hts (.static yX3_isLead) (List.mem_of_getElem? (i := 2) rfl)) hK hP rfl hl.1 rfl (Nat.le_of_ble_eq_true rfl) dX0_placeLead_1 ⟨Nat.zero_le _, Nat.zero_le _⟩ ?_
  refine lv_if_eq (tgt := 14) hx hb dX0_placeLead_4 (by decide) (fun c1 => ?_) (fun c1 => ?_)
  · skip
    have hfin : S = (f_X0_placeLead S p0 p1) := Eq.symm (Eq.trans (e_X0_placeLead S p0 p1) ((if_pos c1)))
    exact endZ hx hb hr hlocks hP hD hS (@congrArg XS va_W S (f_X0_placeLead S p0 p1) (fun z => wX G A z r) hfin) dX0_placeLead_14
  · skip
    refine lv_aload_n hx hb dX0_placeLead_7 rfl (lv_at hl 0 rfl) ?_
    refine va_get (D := G.1) (ci := 0) (v := .ref (A (6 * 0 + 1))) (C := RX0) (T := TX0) (N := 12) hx hb hts hinX0 hown hK.1 hP (6 * 0) (wX_o G A S r 0 (by decide)) rfl 0 (by decide) (hts (.fieldLink RX0 9 "WireLoops$Chip" "leadX" "[I") (List.mem_of_getElem? (i := 1) rfl)) (fun _ h9 => h9) rfl dX0_placeLead_8 ?_
    refine lv_iload_n hx hb dX0_placeLead_11 rfl (lv_at hl 1 rfl) ?_
    refine lv_iload_n hx hb dX0_placeLead_12 rfl (lv_at hl 2 rfl) ?_
    refine va_iast (D := G.1) hx hb hK.1 hP hD hS (6 * 0 + 1) 0 (wX_1 G A S r 0 (by decide)) rfl (in_lead (by assumption)) dX0_placeLead_13 (fun H locs hP hD hS => ?_)
    rw [wX_s1 G A S r 0 (by decide) _] at hP hD
    have hP : va_P G.1 vwCl (wX G A (su S 0 1 (upd (S 0 1) p0.toNatClampNeg p1)) r) H := hP
    have hD : va_D A0 (wX G A (su S 0 1 (upd (S 0 1) p0.toNatClampNeg p1)) r) := hD
    have hfin : (su S 0 1 (upd (S 0 1) p0.toNatClampNeg p1)) = (f_X0_placeLead S p0 p1) := Eq.symm (Eq.trans (e_X0_placeLead S p0 p1) ((if_neg c1)))
    exact endZ hx hb hr hlocks hP hD hS (@congrArg XS va_W (su S 0 1 (upd (S 0 1) p0.toNatClampNeg p1)) (f_X0_placeLead S p0 p1) (fun z => wX G A z r) hfin) dX0_placeLead_14
noncomputable def f_X0_errorOfLaying (S : XS) (p0 p1 : Int32) : Int32 := opq (if (f_X0_hasWire S p0) = 0 then (if (f_X0_padAtLead S p1) = (-5) then (if (S 0 0 4) = 0 then (if (S 0 0 2) < 200 then 0 else (-7)) else (-6)) else (-4)) else (-4))
theorem e_X0_errorOfLaying (S : XS) (p0 p1 : Int32) : f_X0_errorOfLaying S p0 p1 = (if (f_X0_hasWire S p0) = 0 then (if (f_X0_padAtLead S p1) = (-5) then (if (S 0 0 4) = 0 then (if (S 0 0 2) < 200 then 0 else (-7)) else (-6)) else (-4)) else (-4)) := opq_eq _
set_option maxHeartbeats 4000000 in
set_option maxRecDepth 100000 in
theorem c_X0_errorOfLaying (l : Launch) (G : GG) (A : Nat → Nat) (S : XS) (r : Nat) (p0 p1 : Int32) : Mp l yX0_errorOfLaying wsX0_errorOfLaying ({ frames := 3, cells := 0, slots := 0, locals := 63 } : Room) G [.ref (A (6 * 0)), .int p0, .int p1] (wX G A S r) (f_X0_errorOfLaying S p0 p1) := by
  refine Mp.of (cc := cX0_errorOfLaying) (maxL := 3) (ret := (some .int)) (by decide) rfl (Nat.le_of_ble_eq_true rfl) ?_
  intro p e s m args below meth c E hr hlocks hP hK ls hl
  have E : CallFix p m c cX0_errorOfLaying 3 s args wsX0_errorOfLaying RX0 := E
  have hx := E.1
  have hb := E.2.1
  have hml := E.2.2.1
  have hown := E.2.2.2.1
  have hts := E.2.2.2.2
  have hl : lv_has ls 3 [(0, .ref (A (6 * 0))), (1, .int p0), (2, .int p1)] := hl
  have hinX0 : ∀ w ∈ u_ws RX0 TX0 12, w ∈ wsX0_errorOfLaying := fun _ h => List.mem_cons_of_mem _ (List.mem_append_right _ h)
  refine lv_aload_n hx hb dX0_errorOfLaying_0 rfl (lv_at hl 0 rfl) ?_
  refine lv_iload_n hx hb dX0_errorOfLaying_1 rfl (lv_at hl 1 rfl) ?_
  refine cpV (rest := []) (As := [.int p0]) E (c_X0_hasWire l G A S r p0) (cwV 1 hts gX0_errorOfLaying_X0_hasWire rfl rfl rfl (by decide +kernel) ⟨Nat.le_of_ble_eq_true rfl, Nat.le_of_ble_eq_true rfl⟩) hK hP (6 * 0) (wX_o G A S r 0 (by decide)) rfl rfl hl.1 rfl (Nat.le_of_ble_eq_true rfl) dX0_errorOfLaying_2 ⟨Nat.zero_le _, Nat.zero_le _⟩ ?_
  refine lv_if_ne (tgt := 18) hx hb dX0_errorOfLaying_5 (by decide) (fun c1 => ?_) (fun c1 => ?_)
  · skip
    refine lv_bipush (v := (-4)) hx hb dX0_errorOfLaying_18 (by decide) ?_
    exact endP hx hb hr hlocks rfl (Eq.symm (Eq.trans (e_X0_errorOfLaying S p0 p1) ((if_neg c1)))) dX0_errorOfLaying_20
  · skip
    refine lv_aload_n hx hb dX0_errorOfLaying_8 rfl (lv_at hl 0 rfl) ?_
    refine lv_iload_n hx hb dX0_errorOfLaying_9 rfl (lv_at hl 2 rfl) ?_
    refine cpV (rest := []) (As := [.int p1]) E (c_X0_padAtLead l G A S r p1) (cwV 1 hts gX0_errorOfLaying_X0_padAtLead rfl rfl rfl (by decide +kernel) ⟨Nat.le_of_ble_eq_true rfl, Nat.le_of_ble_eq_true rfl⟩) hK hP (6 * 0) (wX_o G A S r 0 (by decide)) rfl rfl hl.1 rfl (Nat.le_of_ble_eq_true rfl) dX0_errorOfLaying_10 ⟨Nat.zero_le _, Nat.zero_le _⟩ ?_
    refine lv_bipush (v := (-5)) hx hb dX0_errorOfLaying_13 (by decide) ?_
    refine lv_icmp_eq (tgt := 21) hx hb dX0_errorOfLaying_15 (by decide) (fun c2 => ?_) (fun c2 => ?_)
    · skip
      refine lv_aload_n hx hb dX0_errorOfLaying_21 rfl (lv_at hl 0 rfl) ?_
      refine va_get (D := G.1) (ci := 0) (v := .int (S 0 0 4)) (C := RX0) (T := TX0) (N := 12) hx hb hts hinX0 hown hK.1 hP (6 * 0) (wX_o G A S r 0 (by decide)) rfl 9 (by decide) (hts (.fieldLink RX0 52 "WireLoops$Chip" "tailLost" "Z") (List.mem_of_getElem? (i := 1) rfl)) (fun _ h9 => h9) rfl dX0_errorOfLaying_22 ?_
      refine lv_if_eq (tgt := 31) hx hb dX0_errorOfLaying_25 (by decide) (fun c3 => ?_) (fun c3 => ?_)
      · skip
        refine lv_aload_n hx hb dX0_errorOfLaying_31 rfl (lv_at hl 0 rfl) ?_
        refine va_get (D := G.1) (ci := 0) (v := .int (S 0 0 2)) (C := RX0) (T := TX0) (N := 12) hx hb hts hinX0 hown hK.1 hP (6 * 0) (wX_o G A S r 0 (by decide)) rfl 7 (by decide) (hts (.fieldLink RX0 46 "WireLoops$Chip" "wear" "I") (List.mem_of_getElem? (i := 2) rfl)) (fun _ h9 => h9) rfl dX0_errorOfLaying_32 ?_
        refine lv_sipush (v := 200) hx hb dX0_errorOfLaying_35 (by decide) ?_
        refine lv_icmp_lt (tgt := 46) hx hb dX0_errorOfLaying_38 (by decide) (fun c4 => ?_) (fun c4 => ?_)
        · skip
          refine lv_iconst (v := 0) hx hb dX0_errorOfLaying_46 (by decide) ?_
          exact endP hx hb hr hlocks rfl (Eq.symm (Eq.trans (e_X0_errorOfLaying S p0 p1) (Eq.trans (if_pos c1) (Eq.trans (if_pos c2) (Eq.trans (if_pos c3) ((if_pos c4))))))) dX0_errorOfLaying_47
        · skip
          refine lv_bipush (v := (-7)) hx hb dX0_errorOfLaying_41 (by decide) ?_
          refine lv_goto (tgt := 47) hx hb dX0_errorOfLaying_43 (by decide) ?_
          exact endP hx hb hr hlocks rfl (Eq.symm (Eq.trans (e_X0_errorOfLaying S p0 p1) (Eq.trans (if_pos c1) (Eq.trans (if_pos c2) (Eq.trans (if_pos c3) ((if_neg c4))))))) dX0_errorOfLaying_47
      · skip
        refine lv_bipush (v := (-6)) hx hb dX0_errorOfLaying_28 (by decide) ?_
        exact endP hx hb hr hlocks rfl (Eq.symm (Eq.trans (e_X0_errorOfLaying S p0 p1) (Eq.trans (if_pos c1) (Eq.trans (if_pos c2) ((if_neg c3)))))) dX0_errorOfLaying_30
    · skip
      refine lv_bipush (v := (-4)) hx hb dX0_errorOfLaying_18 (by decide) ?_
      exact endP hx hb hr hlocks rfl (Eq.symm (Eq.trans (e_X0_errorOfLaying S p0 p1) (Eq.trans (if_pos c1) ((if_neg c2))))) dX0_errorOfLaying_20
noncomputable def f_X0_wearOfLaying (p0 : Int32) : Int32 := opq (2 + (p0 / 50))
theorem e_X0_wearOfLaying (p0 : Int32) : f_X0_wearOfLaying p0 = (2 + (p0 / 50)) := opq_eq _
set_option maxHeartbeats 4000000 in
set_option maxRecDepth 100000 in
theorem c_X0_wearOfLaying (l : Launch) (G : GG) (A : Nat → Nat) (S : XS) (r : Nat) (p0 : Int32) : Mp l yX0_wearOfLaying wsX0_wearOfLaying ({ frames := 0, cells := 0, slots := 0, locals := 0 } : Room) G [.int p0] (wX G A S r) (f_X0_wearOfLaying p0) := by
  refine Mp.of (cc := cX0_wearOfLaying) (maxL := 1) (ret := (some .int)) (by decide) rfl (Nat.le_of_ble_eq_true rfl) ?_
  intro p e s m args below meth c E hr hlocks hP hK ls hl
  have E : CallFix p m c cX0_wearOfLaying 1 s args wsX0_wearOfLaying RX0 := E
  have hx := E.1
  have hb := E.2.1
  have hml := E.2.2.1
  have hown := E.2.2.2.1
  have hts := E.2.2.2.2
  have hl : lv_has ls 1 [(0, .int p0)] := hl
  refine lv_iconst (v := 2) hx hb dX0_wearOfLaying_0 (by decide) ?_
  refine lv_iload_n hx hb dX0_wearOfLaying_1 rfl (lv_at hl 0 rfl) ?_
  refine lv_bipush (v := 50) hx hb dX0_wearOfLaying_2 (by decide) ?_
  refine lv_idiv hx hb dX0_wearOfLaying_4 (by decide) ?_
  refine lv_iadd hx hb dX0_wearOfLaying_5 ?_
  exact endP hx hb hr hlocks rfl (Eq.symm ((e_X0_wearOfLaying p0))) dX0_wearOfLaying_6
noncomputable def f_X0_losesTail (p0 : Int32) : Int32 := opq (if (p0 - p0 / 7 * 7) = 0 then 1 else 0)
theorem e_X0_losesTail (p0 : Int32) : f_X0_losesTail p0 = (if (p0 - p0 / 7 * 7) = 0 then 1 else 0) := opq_eq _
set_option maxHeartbeats 4000000 in
set_option maxRecDepth 100000 in
theorem c_X0_losesTail (l : Launch) (G : GG) (A : Nat → Nat) (S : XS) (r : Nat) (p0 : Int32) : Mp l yX0_losesTail wsX0_losesTail ({ frames := 0, cells := 0, slots := 0, locals := 0 } : Room) G [.int p0] (wX G A S r) (f_X0_losesTail p0) := by
  refine Mp.of (cc := cX0_losesTail) (maxL := 1) (ret := (some .boolean)) (by decide) rfl (Nat.le_of_ble_eq_true rfl) ?_
  intro p e s m args below meth c E hr hlocks hP hK ls hl
  have E : CallFix p m c cX0_losesTail 1 s args wsX0_losesTail RX0 := E
  have hx := E.1
  have hb := E.2.1
  have hml := E.2.2.1
  have hown := E.2.2.2.1
  have hts := E.2.2.2.2
  have hl : lv_has ls 1 [(0, .int p0)] := hl
  refine lv_iload_n hx hb dX0_losesTail_0 rfl (lv_at hl 0 rfl) ?_
  refine lv_bipush (v := 7) hx hb dX0_losesTail_1 (by decide) ?_
  refine lv_irem hx hb dX0_losesTail_3 (by decide) ?_
  refine lv_if_ne (tgt := 11) hx hb dX0_losesTail_4 (by decide) (fun c1 => ?_) (fun c1 => ?_)
  · skip
    refine lv_iconst (v := 0) hx hb dX0_losesTail_11 (by decide) ?_
    exact endP hx hb hr hlocks rfl (Eq.symm (Eq.trans (e_X0_losesTail p0) ((if_neg c1)))) dX0_losesTail_12
  · skip
    refine lv_iconst (v := 1) hx hb dX0_losesTail_7 (by decide) ?_
    refine lv_goto (tgt := 12) hx hb dX0_losesTail_8 (by decide) ?_
    exact endP hx hb hr hlocks rfl (Eq.symm (Eq.trans (e_X0_losesTail p0) ((if_pos c1)))) dX0_losesTail_12
noncomputable def f_X0_newStrength (S : XS) (p0 p1 : Int32) : Int32 := opq (if 0 < ((if 0 < (100 - ((S 0 0 2) / 4)) then (100 - ((S 0 0 2) / 4)) else 0) - ((if 0 ≤ ((f_X3_padX p0) - (f_X0_xOfLead S p1)) then ((f_X3_padX p0) - (f_X0_xOfLead S p1)) else 0 - ((f_X3_padX p0) - (f_X0_xOfLead S p1))) / 20)) then ((if 0 < (100 - ((S 0 0 2) / 4)) then (100 - ((S 0 0 2) / 4)) else 0) - ((if 0 ≤ ((f_X3_padX p0) - (f_X0_xOfLead S p1)) then ((f_X3_padX p0) - (f_X0_xOfLead S p1)) else 0 - ((f_X3_padX p0) - (f_X0_xOfLead S p1))) / 20)) else 0)
theorem e_X0_newStrength (S : XS) (p0 p1 : Int32) : f_X0_newStrength S p0 p1 = (if 0 < ((if 0 < (100 - ((S 0 0 2) / 4)) then (100 - ((S 0 0 2) / 4)) else 0) - ((if 0 ≤ ((f_X3_padX p0) - (f_X0_xOfLead S p1)) then ((f_X3_padX p0) - (f_X0_xOfLead S p1)) else 0 - ((f_X3_padX p0) - (f_X0_xOfLead S p1))) / 20)) then ((if 0 < (100 - ((S 0 0 2) / 4)) then (100 - ((S 0 0 2) / 4)) else 0) - ((if 0 ≤ ((f_X3_padX p0) - (f_X0_xOfLead S p1)) then ((f_X3_padX p0) - (f_X0_xOfLead S p1)) else 0 - ((f_X3_padX p0) - (f_X0_xOfLead S p1))) / 20)) else 0) := opq_eq _
set_option maxHeartbeats 4000000 in
set_option maxRecDepth 100000 in
theorem c_X0_newStrength (l : Launch) (G : GG) (A : Nat → Nat) (S : XS) (r : Nat) (p0 p1 : Int32) : Mp l yX0_newStrength wsX0_newStrength ({ frames := 2, cells := 0, slots := 0, locals := 41 } : Room) G [.ref (A (6 * 0)), .int p0, .int p1] (wX G A S r) (f_X0_newStrength S p0 p1) := by
  refine Mp.of (cc := cX0_newStrength) (maxL := 5) (ret := (some .int)) (by decide) rfl (Nat.le_of_ble_eq_true rfl) ?_
  intro p e s m args below meth c E hr hlocks hP hK ls hl
  have E : CallFix p m c cX0_newStrength 5 s args wsX0_newStrength RX0 := E
  have hx := E.1
  have hb := E.2.1
  have hml := E.2.2.1
  have hown := E.2.2.2.1
  have hts := E.2.2.2.2
  have hl : lv_has ls 5 [(0, .ref (A (6 * 0))), (1, .int p0), (2, .int p1)] := hl
  have hinX0 : ∀ w ∈ u_ws RX0 TX0 12, w ∈ wsX0_newStrength := fun _ h => List.mem_cons_of_mem _ (List.mem_append_right _ h)
  refine lv_iconst (v := 0) hx hb dX0_newStrength_0 (by decide) ?_
  refine lv_bipush (v := 100) hx hb dX0_newStrength_1 (by decide) ?_
  refine lv_aload_n hx hb dX0_newStrength_3 rfl (lv_at hl 0 rfl) ?_
  refine va_get (D := G.1) (ci := 0) (v := .int (S 0 0 2)) (C := RX0) (T := TX0) (N := 12) hx hb hts hinX0 hown hK.1 hP (6 * 0) (wX_o G A S r 0 (by decide)) rfl 7 (by decide) (hts (.fieldLink RX0 46 "WireLoops$Chip" "wear" "I") (List.mem_of_getElem? (i := 1) rfl)) (fun _ h9 => h9) rfl dX0_newStrength_4 ?_
  refine lv_iconst (v := 4) hx hb dX0_newStrength_7 (by decide) ?_
  refine lv_idiv hx hb dX0_newStrength_8 (by decide) ?_
  refine lv_isub hx hb dX0_newStrength_9 ?_
  refine va_mmax hx hb (by rw [hml]; exact hl.1.symm) hown (hts (.methodLink RX0 108 Lib.Math.max.name) (List.mem_of_getElem? (i := 2) rfl)) (hts (.static Lib.Math.max.name) (List.mem_of_getElem? (i := 3) rfl)) (hts (.initialized "java/lang/Math") (List.mem_of_getElem? (i := 4) rfl)) (hts (.code Lib.Math.max.name Lib.Math.max.code 2 (some .int)) (List.mem_of_getElem? (i := 5) rfl)) (Nat.le_of_ble_eq_true rfl) (Nat.le_of_ble_eq_true rfl) (Nat.zero_le _) (Nat.zero_le _) dX0_newStrength_10 ?_
  refine lv_istore_n (lv' := [(3, .int (if 0 < (100 - ((S 0 0 2) / 4)) then (100 - ((S 0 0 2) / 4)) else 0)), (0, .ref (A (6 * 0))), (1, .int p0), (2, .int p1)]) hx hb dX0_newStrength_13 rfl hl (by decide) rfl (fun ls hl => ?_)
  refine lv_iload_n hx hb dX0_newStrength_14 rfl (lv_at hl 2 rfl) ?_
  refine cpN (host := RX3) (rest := []) (As := [.int p0]) E (c_X3_padX l G A S r p0) (va_cnB 1 hts gX0_newStrength_X3_padX_n113 rfl rfl rfl (hK.2 (.methodLinkNest RX0 113 yX3_padX RX3) (by decide +kernel)) (hts (.initialized RX3) (List.mem_of_getElem? (i := 10) rfl)) (by decide +kernel) ⟨Nat.le_of_ble_eq_true rfl, Nat.le_of_ble_eq_true rfl⟩) (hts (.static yX3_padX) (List.mem_of_getElem? (i := 9) rfl)) hK hP rfl hl.1 rfl (Nat.le_of_ble_eq_true rfl) dX0_newStrength_15 ⟨Nat.zero_le _, Nat.zero_le _⟩ ?_
  refine lv_aload_n hx hb dX0_newStrength_18 rfl (lv_at hl 1 rfl) ?_
  refine lv_iload_n hx hb dX0_newStrength_19 rfl (lv_at hl 3 rfl) ?_
  refine cpV (rest := [.int (f_X3_padX p0)]) (As := [.int p1]) E (c_X0_xOfLead l G A S r p1) (cwV 1 hts gX0_newStrength_X0_xOfLead rfl rfl rfl (by decide +kernel) ⟨Nat.le_of_ble_eq_true rfl, Nat.le_of_ble_eq_true rfl⟩) hK hP (6 * 0) (wX_o G A S r 0 (by decide)) rfl rfl hl.1 rfl (Nat.le_of_ble_eq_true rfl) dX0_newStrength_20 ⟨Nat.zero_le _, Nat.zero_le _⟩ ?_
  refine lv_isub hx hb dX0_newStrength_23 ?_
  refine va_mabs hx hb (by rw [hml]; exact hl.1.symm) hown (hts (.methodLink RX0 119 Lib.Math.abs.name) (List.mem_of_getElem? (i := 6) rfl)) (hts (.static Lib.Math.abs.name) (List.mem_of_getElem? (i := 7) rfl)) (hts (.initialized "java/lang/Math") (List.mem_of_getElem? (i := 4) rfl)) (hts (.code Lib.Math.abs.name Lib.Math.abs.code 1 (some .int)) (List.mem_of_getElem? (i := 8) rfl)) (Nat.le_of_ble_eq_true rfl) (Nat.le_of_ble_eq_true rfl) (Nat.zero_le _) (Nat.zero_le _) dX0_newStrength_24 ?_
  refine lv_istore (lv' := [(4, .int (if 0 ≤ ((f_X3_padX p0) - (f_X0_xOfLead S p1)) then ((f_X3_padX p0) - (f_X0_xOfLead S p1)) else 0 - ((f_X3_padX p0) - (f_X0_xOfLead S p1)))), (3, .int (if 0 < (100 - ((S 0 0 2) / 4)) then (100 - ((S 0 0 2) / 4)) else 0)), (0, .ref (A (6 * 0))), (1, .int p0), (2, .int p1)]) hx hb dX0_newStrength_27 hl (by decide) rfl (fun ls hl => ?_)
  refine lv_iconst (v := 0) hx hb dX0_newStrength_29 (by decide) ?_
  refine lv_iload_n hx hb dX0_newStrength_30 rfl (lv_at hl 1 rfl) ?_
  refine lv_iload hx hb dX0_newStrength_31 (lv_at hl 0 rfl) ?_
  refine lv_bipush (v := 20) hx hb dX0_newStrength_33 (by decide) ?_
  refine lv_idiv hx hb dX0_newStrength_35 (by decide) ?_
  refine lv_isub hx hb dX0_newStrength_36 ?_
  refine va_mmax hx hb (by rw [hml]; exact hl.1.symm) hown (hts (.methodLink RX0 108 Lib.Math.max.name) (List.mem_of_getElem? (i := 2) rfl)) (hts (.static Lib.Math.max.name) (List.mem_of_getElem? (i := 3) rfl)) (hts (.initialized "java/lang/Math") (List.mem_of_getElem? (i := 4) rfl)) (hts (.code Lib.Math.max.name Lib.Math.max.code 2 (some .int)) (List.mem_of_getElem? (i := 5) rfl)) (Nat.le_of_ble_eq_true rfl) (Nat.le_of_ble_eq_true rfl) (Nat.zero_le _) (Nat.zero_le _) dX0_newStrength_37 ?_
  exact endP hx hb hr hlocks rfl (Eq.symm ((e_X0_newStrength S p0 p1))) dX0_newStrength_40
noncomputable def f_X0_addWire (S : XS) (p0 p1 p2 : Int32) : XS := opq (if (f_X3_isPad p0) = 0 then S else (if (f_X3_isLead p1) = 0 then S else (if (f_X0_losesTail ((S 0 0 0) + 1)) = 0 then (su (su (su (su (su (su S 0 2 (upd (S 0 2) p0.toNatClampNeg p1)) 0 3 (upd (S 0 3) p0.toNatClampNeg p2)) 0 4 (upd (S 0 4) p0.toNatClampNeg (f_X0_newStrength (su (su S 0 2 (upd (S 0 2) p0.toNatClampNeg p1)) 0 3 (upd (S 0 3) p0.toNatClampNeg p2)) p0 p1))) 0 5 (upd (S 0 5) p0.toNatClampNeg (S 0 0 0))) 0 0 (upd (S 0 0) 2 ((S 0 0 2) + (f_X0_wearOfLaying p2)))) 0 0 (upd (upd (S 0 0) 2 ((S 0 0 2) + (f_X0_wearOfLaying p2))) 0 ((S 0 0 0) + 1))) else (su (su (su (su (su (su (su (su S 0 2 (upd (S 0 2) p0.toNatClampNeg p1)) 0 3 (upd (S 0 3) p0.toNatClampNeg p2)) 0 4 (upd (S 0 4) p0.toNatClampNeg (f_X0_newStrength (su (su S 0 2 (upd (S 0 2) p0.toNatClampNeg p1)) 0 3 (upd (S 0 3) p0.toNatClampNeg p2)) p0 p1))) 0 5 (upd (S 0 5) p0.toNatClampNeg (S 0 0 0))) 0 0 (upd (S 0 0) 2 ((S 0 0 2) + (f_X0_wearOfLaying p2)))) 0 0 (upd (upd (S 0 0) 2 ((S 0 0 2) + (f_X0_wearOfLaying p2))) 0 ((S 0 0 0) + 1))) 0 0 (upd (upd (upd (S 0 0) 2 ((S 0 0 2) + (f_X0_wearOfLaying p2))) 0 ((S 0 0 0) + 1)) 4 1)) 0 0 (upd (upd (upd (upd (S 0 0) 2 ((S 0 0 2) + (f_X0_wearOfLaying p2))) 0 ((S 0 0 0) + 1)) 4 1) 5 ((S 0 0 5) + 1))))))
theorem e_X0_addWire (S : XS) (p0 p1 p2 : Int32) : f_X0_addWire S p0 p1 p2 = (if (f_X3_isPad p0) = 0 then S else (if (f_X3_isLead p1) = 0 then S else (if (f_X0_losesTail ((S 0 0 0) + 1)) = 0 then (su (su (su (su (su (su S 0 2 (upd (S 0 2) p0.toNatClampNeg p1)) 0 3 (upd (S 0 3) p0.toNatClampNeg p2)) 0 4 (upd (S 0 4) p0.toNatClampNeg (f_X0_newStrength (su (su S 0 2 (upd (S 0 2) p0.toNatClampNeg p1)) 0 3 (upd (S 0 3) p0.toNatClampNeg p2)) p0 p1))) 0 5 (upd (S 0 5) p0.toNatClampNeg (S 0 0 0))) 0 0 (upd (S 0 0) 2 ((S 0 0 2) + (f_X0_wearOfLaying p2)))) 0 0 (upd (upd (S 0 0) 2 ((S 0 0 2) + (f_X0_wearOfLaying p2))) 0 ((S 0 0 0) + 1))) else (su (su (su (su (su (su (su (su S 0 2 (upd (S 0 2) p0.toNatClampNeg p1)) 0 3 (upd (S 0 3) p0.toNatClampNeg p2)) 0 4 (upd (S 0 4) p0.toNatClampNeg (f_X0_newStrength (su (su S 0 2 (upd (S 0 2) p0.toNatClampNeg p1)) 0 3 (upd (S 0 3) p0.toNatClampNeg p2)) p0 p1))) 0 5 (upd (S 0 5) p0.toNatClampNeg (S 0 0 0))) 0 0 (upd (S 0 0) 2 ((S 0 0 2) + (f_X0_wearOfLaying p2)))) 0 0 (upd (upd (S 0 0) 2 ((S 0 0 2) + (f_X0_wearOfLaying p2))) 0 ((S 0 0 0) + 1))) 0 0 (upd (upd (upd (S 0 0) 2 ((S 0 0 2) + (f_X0_wearOfLaying p2))) 0 ((S 0 0 0) + 1)) 4 1)) 0 0 (upd (upd (upd (upd (S 0 0) 2 ((S 0 0 2) + (f_X0_wearOfLaying p2))) 0 ((S 0 0 0) + 1)) 4 1) 5 ((S 0 0 5) + 1)))))) := opq_eq _
set_option maxHeartbeats 4000000 in
set_option maxRecDepth 100000 in
theorem c_X0_addWire (l : Launch) (G : GG) (A : Nat → Nat) (S : XS) (r : Nat) (p0 p1 p2 : Int32) : Mz l yX0_addWire wsX0_addWire ({ frames := 3, cells := 0, slots := 0, locals := 65 } : Room) G [.ref (A (6 * 0)), .int p0, .int p1, .int p2] (wX G A S r) (wX G A (f_X0_addWire S p0 p1 p2) r) := by
  refine Mz.of (cc := cX0_addWire) (maxL := 4) (ret := none) (by decide) rfl (Nat.le_of_ble_eq_true rfl) ?_
  intro p e s m args below meth c A0 hA0 E hr hlocks hP hK hD hA hS ls hl
  have E : CallFix p m c cX0_addWire 4 s args wsX0_addWire RX0 := E
  have hx := E.1
  have hb := E.2.1
  have hml := E.2.2.1
  have hown := E.2.2.2.1
  have hts := E.2.2.2.2
  have hl : lv_has ls 4 [(0, .ref (A (6 * 0))), (1, .int p0), (2, .int p1), (3, .int p2)] := hl
  have hinX0 : ∀ w ∈ u_ws RX0 TX0 12, w ∈ wsX0_addWire := fun _ h => List.mem_cons_of_mem _ (List.mem_append_right _ h)
  refine lv_iload_n hx hb dX0_addWire_0 rfl (lv_at hl 1 rfl) ?_
  refine cpN (host := RX3) (rest := []) (As := [.int p0]) E (c_X3_isPad l G A S r p0) (va_cnB 1 hts gX0_addWire_X3_isPad_n62 rfl rfl rfl (hK.2 (.methodLinkNest RX0 62 yX3_isPad RX3) (by decide +kernel)) (hts (.initialized RX3) (List.mem_of_getElem? (i := 10) rfl)) (by decide +kernel) ⟨Nat.le_of_ble_eq_true rfl, Nat.le_of_ble_eq_true rfl⟩) (hts (.static yX3_isPad) (List.mem_of_getElem? (i := 9) rfl)) hK hP rfl hl.1 rfl (Nat.le_of_ble_eq_true rfl) dX0_addWire_1 ⟨Nat.zero_le _, Nat.zero_le _⟩ ?_
  refine lv_if_eq (tgt := 14) hx hb dX0_addWire_4 (by decide) (fun c1 => ?_) (fun c1 => ?_)
  · skip
    have hfin : S = (f_X0_addWire S p0 p1 p2) := Eq.symm (Eq.trans (e_X0_addWire S p0 p1 p2) ((if_pos c1)))
    exact endZ hx hb hr hlocks hP hD hS (@congrArg XS va_W S (f_X0_addWire S p0 p1 p2) (fun z => wX G A z r) hfin) dX0_addWire_14
  · skip
    refine lv_iload_n hx hb dX0_addWire_7 rfl (lv_at hl 2 rfl) ?_
    refine cpN (host := RX3) (rest := []) (As := [.int p1]) E (c_X3_isLead l G A S r p1) (va_cnB 1 hts gX0_addWire_X3_isLead_n66 rfl rfl rfl (hK.2 (.methodLinkNest RX0 66 yX3_isLead RX3) (by decide +kernel)) (hts (.initialized RX3) (List.mem_of_getElem? (i := 10) rfl)) (by decide +kernel) ⟨Nat.le_of_ble_eq_true rfl, Nat.le_of_ble_eq_true rfl⟩) (hts (.static yX3_isLead) (List.mem_of_getElem? (i := 12) rfl)) hK hP rfl hl.1 rfl (Nat.le_of_ble_eq_true rfl) dX0_addWire_8 ⟨Nat.zero_le _, Nat.zero_le _⟩ ?_
    refine lv_if_ne (tgt := 15) hx hb dX0_addWire_11 (by decide) (fun c2 => ?_) (fun c2 => ?_)
    · skip
      refine lv_aload_n hx hb dX0_addWire_15 rfl (lv_at hl 0 rfl) ?_
      refine va_get (D := G.1) (ci := 0) (v := .ref (A (6 * 0 + 2))) (C := RX0) (T := TX0) (N := 12) hx hb hts hinX0 hown hK.1 hP (6 * 0) (wX_o G A S r 0 (by decide)) rfl 1 (by decide) (hts (.fieldLink RX0 15 "WireLoops$Chip" "leadOf" "[I") (List.mem_of_getElem? (i := 1) rfl)) (fun _ h9 => h9) rfl dX0_addWire_16 ?_
      refine lv_iload_n hx hb dX0_addWire_19 rfl (lv_at hl 1 rfl) ?_
      refine lv_iload_n hx hb dX0_addWire_20 rfl (lv_at hl 2 rfl) ?_
      refine va_iast (D := G.1) hx hb hK.1 hP hD hS (6 * 0 + 2) 0 (wX_c G A S r 0 2 (by decide) (by decide) (by decide)) rfl (in_pad (by assumption)) dX0_addWire_21 (fun H locs hP hD hS => ?_)
      rw [wX_sc G A S r 0 2 (by decide) (by decide) (by decide) _] at hP hD
      have hP : va_P G.1 vwCl (wX G A (su S 0 2 (upd (S 0 2) p0.toNatClampNeg p1)) r) H := hP
      have hD : va_D A0 (wX G A (su S 0 2 (upd (S 0 2) p0.toNatClampNeg p1)) r) := hD
      refine lv_aload_n hx hb dX0_addWire_22 rfl (lv_at hl 0 rfl) ?_
      refine va_get (D := G.1) (ci := 0) (v := .ref (A (6 * 0 + 3))) (C := RX0) (T := TX0) (N := 12) hx hb hts hinX0 hown hK.1 hP (6 * 0) (wX_o G A (su S 0 2 (upd (S 0 2) p0.toNatClampNeg p1)) r 0 (by decide)) rfl 2 (by decide) (hts (.fieldLink RX0 18 "WireLoops$Chip" "height" "[I") (List.mem_of_getElem? (i := 2) rfl)) (fun _ h9 => h9) rfl dX0_addWire_23 ?_
      refine lv_iload_n hx hb dX0_addWire_26 rfl (lv_at hl 1 rfl) ?_
      refine lv_iload_n hx hb dX0_addWire_27 rfl (lv_at hl 3 rfl) ?_
      refine va_iast (D := G.1) hx hb hK.1 hP hD hS (6 * 0 + 3) 0 (wX_c G A (su S 0 2 (upd (S 0 2) p0.toNatClampNeg p1)) r 0 3 (by decide) (by decide) (by decide)) rfl (in_pad (by assumption)) dX0_addWire_28 (fun H locs hP hD hS => ?_)
      rw [wX_sc G A (su S 0 2 (upd (S 0 2) p0.toNatClampNeg p1)) r 0 3 (by decide) (by decide) (by decide) _] at hP hD
      have hP : va_P G.1 vwCl (wX G A (su (su S 0 2 (upd (S 0 2) p0.toNatClampNeg p1)) 0 3 (upd (S 0 3) p0.toNatClampNeg p2)) r) H := hP
      have hD : va_D A0 (wX G A (su (su S 0 2 (upd (S 0 2) p0.toNatClampNeg p1)) 0 3 (upd (S 0 3) p0.toNatClampNeg p2)) r) := hD
      refine lv_aload_n hx hb dX0_addWire_29 rfl (lv_at hl 0 rfl) ?_
      refine va_get (D := G.1) (ci := 0) (v := .ref (A (6 * 0 + 4))) (C := RX0) (T := TX0) (N := 12) hx hb hts hinX0 hown hK.1 hP (6 * 0) (wX_o G A (su (su S 0 2 (upd (S 0 2) p0.toNatClampNeg p1)) 0 3 (upd (S 0 3) p0.toNatClampNeg p2)) r 0 (by decide)) rfl 3 (by decide) (hts (.fieldLink RX0 21 "WireLoops$Chip" "strength" "[I") (List.mem_of_getElem? (i := 3) rfl)) (fun _ h9 => h9) rfl dX0_addWire_30 ?_
      refine lv_iload_n hx hb dX0_addWire_33 rfl (lv_at hl 1 rfl) ?_
      refine lv_aload_n hx hb dX0_addWire_34 rfl (lv_at hl 0 rfl) ?_
      refine lv_iload_n hx hb dX0_addWire_35 rfl (lv_at hl 1 rfl) ?_
      refine lv_iload_n hx hb dX0_addWire_36 rfl (lv_at hl 2 rfl) ?_
      refine cpV (rest := [.int p0, .ref (A (6 * 0 + 4))]) (As := [.int p0, .int p1]) E (c_X0_newStrength l G A (su (su S 0 2 (upd (S 0 2) p0.toNatClampNeg p1)) 0 3 (upd (S 0 3) p0.toNatClampNeg p2)) r p0 p1) (cwV 2 hts gX0_addWire_X0_newStrength rfl rfl rfl (by decide +kernel) ⟨Nat.le_of_ble_eq_true rfl, Nat.le_of_ble_eq_true rfl⟩) hK hP (6 * 0) (wX_o G A (su (su S 0 2 (upd (S 0 2) p0.toNatClampNeg p1)) 0 3 (upd (S 0 3) p0.toNatClampNeg p2)) r 0 (by decide)) rfl rfl hl.1 rfl (Nat.le_of_ble_eq_true rfl) dX0_addWire_37 ⟨Nat.zero_le _, Nat.zero_le _⟩ ?_
      refine va_iast (D := G.1) hx hb hK.1 hP hD hS (6 * 0 + 4) 0 (wX_c G A (su (su S 0 2 (upd (S 0 2) p0.toNatClampNeg p1)) 0 3 (upd (S 0 3) p0.toNatClampNeg p2)) r 0 4 (by decide) (by decide) (by decide)) rfl (in_pad (by assumption)) dX0_addWire_40 (fun H locs hP hD hS => ?_)
      rw [wX_sc G A (su (su S 0 2 (upd (S 0 2) p0.toNatClampNeg p1)) 0 3 (upd (S 0 3) p0.toNatClampNeg p2)) r 0 4 (by decide) (by decide) (by decide) _] at hP hD
      have hP : va_P G.1 vwCl (wX G A (su (su (su S 0 2 (upd (S 0 2) p0.toNatClampNeg p1)) 0 3 (upd (S 0 3) p0.toNatClampNeg p2)) 0 4 (upd (S 0 4) p0.toNatClampNeg (f_X0_newStrength (su (su S 0 2 (upd (S 0 2) p0.toNatClampNeg p1)) 0 3 (upd (S 0 3) p0.toNatClampNeg p2)) p0 p1))) r) H := hP
      have hD : va_D A0 (wX G A (su (su (su S 0 2 (upd (S 0 2) p0.toNatClampNeg p1)) 0 3 (upd (S 0 3) p0.toNatClampNeg p2)) 0 4 (upd (S 0 4) p0.toNatClampNeg (f_X0_newStrength (su (su S 0 2 (upd (S 0 2) p0.toNatClampNeg p1)) 0 3 (upd (S 0 3) p0.toNatClampNeg p2)) p0 p1))) r) := hD
      refine lv_aload_n hx hb dX0_addWire_41 rfl (lv_at hl 0 rfl) ?_
      refine va_get (D := G.1) (ci := 0) (v := .ref (A (6 * 0 + 5))) (C := RX0) (T := TX0) (N := 12) hx hb hts hinX0 hown hK.1 hP (6 * 0) (wX_o G A (su (su (su S 0 2 (upd (S 0 2) p0.toNatClampNeg p1)) 0 3 (upd (S 0 3) p0.toNatClampNeg p2)) 0 4 (upd (S 0 4) p0.toNatClampNeg (f_X0_newStrength (su (su S 0 2 (upd (S 0 2) p0.toNatClampNeg p1)) 0 3 (upd (S 0 3) p0.toNatClampNeg p2)) p0 p1))) r 0 (by decide)) rfl 4 (by decide) (hts (.fieldLink RX0 24 "WireLoops$Chip" "number" "[I") (List.mem_of_getElem? (i := 4) rfl)) (fun _ h9 => h9) rfl dX0_addWire_42 ?_
      refine lv_iload_n hx hb dX0_addWire_45 rfl (lv_at hl 1 rfl) ?_
      refine lv_aload_n hx hb dX0_addWire_46 rfl (lv_at hl 0 rfl) ?_
      refine va_get (D := G.1) (ci := 0) (v := .int (S 0 0 0)) (C := RX0) (T := TX0) (N := 12) hx hb hts hinX0 hown hK.1 hP (6 * 0) (wX_o G A (su (su (su S 0 2 (upd (S 0 2) p0.toNatClampNeg p1)) 0 3 (upd (S 0 3) p0.toNatClampNeg p2)) 0 4 (upd (S 0 4) p0.toNatClampNeg (f_X0_newStrength (su (su S 0 2 (upd (S 0 2) p0.toNatClampNeg p1)) 0 3 (upd (S 0 3) p0.toNatClampNeg p2)) p0 p1))) r 0 (by decide)) rfl 5 (by decide) (hts (.fieldLink RX0 43 "WireLoops$Chip" "laid" "I") (List.mem_of_getElem? (i := 5) rfl)) (fun _ h9 => h9) rfl dX0_addWire_47 ?_
      refine va_iast (D := G.1) hx hb hK.1 hP hD hS (6 * 0 + 5) 0 (wX_c G A (su (su (su S 0 2 (upd (S 0 2) p0.toNatClampNeg p1)) 0 3 (upd (S 0 3) p0.toNatClampNeg p2)) 0 4 (upd (S 0 4) p0.toNatClampNeg (f_X0_newStrength (su (su S 0 2 (upd (S 0 2) p0.toNatClampNeg p1)) 0 3 (upd (S 0 3) p0.toNatClampNeg p2)) p0 p1))) r 0 5 (by decide) (by decide) (by decide)) rfl (in_pad (by assumption)) dX0_addWire_50 (fun H locs hP hD hS => ?_)
      rw [wX_sc G A (su (su (su S 0 2 (upd (S 0 2) p0.toNatClampNeg p1)) 0 3 (upd (S 0 3) p0.toNatClampNeg p2)) 0 4 (upd (S 0 4) p0.toNatClampNeg (f_X0_newStrength (su (su S 0 2 (upd (S 0 2) p0.toNatClampNeg p1)) 0 3 (upd (S 0 3) p0.toNatClampNeg p2)) p0 p1))) r 0 5 (by decide) (by decide) (by decide) _] at hP hD
      have hP : va_P G.1 vwCl (wX G A (su (su (su (su S 0 2 (upd (S 0 2) p0.toNatClampNeg p1)) 0 3 (upd (S 0 3) p0.toNatClampNeg p2)) 0 4 (upd (S 0 4) p0.toNatClampNeg (f_X0_newStrength (su (su S 0 2 (upd (S 0 2) p0.toNatClampNeg p1)) 0 3 (upd (S 0 3) p0.toNatClampNeg p2)) p0 p1))) 0 5 (upd (S 0 5) p0.toNatClampNeg (S 0 0 0))) r) H := hP
      have hD : va_D A0 (wX G A (su (su (su (su S 0 2 (upd (S 0 2) p0.toNatClampNeg p1)) 0 3 (upd (S 0 3) p0.toNatClampNeg p2)) 0 4 (upd (S 0 4) p0.toNatClampNeg (f_X0_newStrength (su (su S 0 2 (upd (S 0 2) p0.toNatClampNeg p1)) 0 3 (upd (S 0 3) p0.toNatClampNeg p2)) p0 p1))) 0 5 (upd (S 0 5) p0.toNatClampNeg (S 0 0 0))) r) := hD
      refine lv_aload_n hx hb dX0_addWire_51 rfl (lv_at hl 0 rfl) ?_
      refine lv_dup hx hb dX0_addWire_52 rfl ?_
      refine va_get (D := G.1) (ci := 0) (v := .int (S 0 0 2)) (C := RX0) (T := TX0) (N := 12) hx hb hts hinX0 hown hK.1 hP (6 * 0) (wX_o G A (su (su (su (su S 0 2 (upd (S 0 2) p0.toNatClampNeg p1)) 0 3 (upd (S 0 3) p0.toNatClampNeg p2)) 0 4 (upd (S 0 4) p0.toNatClampNeg (f_X0_newStrength (su (su S 0 2 (upd (S 0 2) p0.toNatClampNeg p1)) 0 3 (upd (S 0 3) p0.toNatClampNeg p2)) p0 p1))) 0 5 (upd (S 0 5) p0.toNatClampNeg (S 0 0 0))) r 0 (by decide)) rfl 7 (by decide) (hts (.fieldLink RX0 46 "WireLoops$Chip" "wear" "I") (List.mem_of_getElem? (i := 6) rfl)) (fun _ h9 => h9) rfl dX0_addWire_53 ?_
      refine lv_iload_n hx hb dX0_addWire_56 rfl (lv_at hl 3 rfl) ?_
      refine cpS (rest := [.int (S 0 0 2), .ref (A (6 * 0))]) (As := [.int p2]) E (c_X0_wearOfLaying l G A (su (su (su (su S 0 2 (upd (S 0 2) p0.toNatClampNeg p1)) 0 3 (upd (S 0 3) p0.toNatClampNeg p2)) 0 4 (upd (S 0 4) p0.toNatClampNeg (f_X0_newStrength (su (su S 0 2 (upd (S 0 2) p0.toNatClampNeg p1)) 0 3 (upd (S 0 3) p0.toNatClampNeg p2)) p0 p1))) 0 5 (upd (S 0 5) p0.toNatClampNeg (S 0 0 0))) r p2) (va_cwS 1 hts gX0_addWire_X0_wearOfLaying rfl rfl rfl (by decide +kernel) ⟨Nat.le_of_ble_eq_true rfl, Nat.le_of_ble_eq_true rfl⟩) hK hP rfl hl.1 rfl (Nat.le_of_ble_eq_true rfl) dX0_addWire_57 ⟨Nat.zero_le _, Nat.zero_le _⟩ ?_
      refine lv_iadd hx hb dX0_addWire_60 ?_
      refine va_put (D := G.1) (ci := 0) (v := .int ((S 0 0 2) + (f_X0_wearOfLaying p2))) (ty := .int) (C := RX0) (T := TX0) (N := 12) hx hb hts hinX0 tyX0 tyX0_ok nmX0 hown hK.1 hP hD hS (6 * 0) (wX_o G A (su (su (su (su S 0 2 (upd (S 0 2) p0.toNatClampNeg p1)) 0 3 (upd (S 0 3) p0.toNatClampNeg p2)) 0 4 (upd (S 0 4) p0.toNatClampNeg (f_X0_newStrength (su (su S 0 2 (upd (S 0 2) p0.toNatClampNeg p1)) 0 3 (upd (S 0 3) p0.toNatClampNeg p2)) p0 p1))) 0 5 (upd (S 0 5) p0.toNatClampNeg (S 0 0 0))) r 0 (by decide)) rfl (5 + 2) (by decide) (hts (.fieldLink RX0 46 "WireLoops$Chip" "wear" "I") (List.mem_of_getElem? (i := 6) rfl)) (fun _ h9 => h9) rfl (by decide +kernel) rfl rfl (Nat.le_of_ble_eq_true rfl) dX0_addWire_61 (fun H locs hP hD hS => ?_)
      rw [wX_so G A (su (su (su (su S 0 2 (upd (S 0 2) p0.toNatClampNeg p1)) 0 3 (upd (S 0 3) p0.toNatClampNeg p2)) 0 4 (upd (S 0 4) p0.toNatClampNeg (f_X0_newStrength (su (su S 0 2 (upd (S 0 2) p0.toNatClampNeg p1)) 0 3 (upd (S 0 3) p0.toNatClampNeg p2)) p0 p1))) 0 5 (upd (S 0 5) p0.toNatClampNeg (S 0 0 0))) r 0 2 (by decide) (by decide) _] at hP hD
      have hP : va_P G.1 vwCl (wX G A (su (su (su (su (su S 0 2 (upd (S 0 2) p0.toNatClampNeg p1)) 0 3 (upd (S 0 3) p0.toNatClampNeg p2)) 0 4 (upd (S 0 4) p0.toNatClampNeg (f_X0_newStrength (su (su S 0 2 (upd (S 0 2) p0.toNatClampNeg p1)) 0 3 (upd (S 0 3) p0.toNatClampNeg p2)) p0 p1))) 0 5 (upd (S 0 5) p0.toNatClampNeg (S 0 0 0))) 0 0 (upd (S 0 0) 2 ((S 0 0 2) + (f_X0_wearOfLaying p2)))) r) H := hP
      have hD : va_D A0 (wX G A (su (su (su (su (su S 0 2 (upd (S 0 2) p0.toNatClampNeg p1)) 0 3 (upd (S 0 3) p0.toNatClampNeg p2)) 0 4 (upd (S 0 4) p0.toNatClampNeg (f_X0_newStrength (su (su S 0 2 (upd (S 0 2) p0.toNatClampNeg p1)) 0 3 (upd (S 0 3) p0.toNatClampNeg p2)) p0 p1))) 0 5 (upd (S 0 5) p0.toNatClampNeg (S 0 0 0))) 0 0 (upd (S 0 0) 2 ((S 0 0 2) + (f_X0_wearOfLaying p2)))) r) := hD
      refine lv_aload_n hx hb dX0_addWire_64 rfl (lv_at hl 0 rfl) ?_
      refine lv_dup hx hb dX0_addWire_65 rfl ?_
      refine va_get (D := G.1) (ci := 0) (v := .int (S 0 0 0)) (C := RX0) (T := TX0) (N := 12) hx hb hts hinX0 hown hK.1 hP (6 * 0) (wX_o G A (su (su (su (su (su S 0 2 (upd (S 0 2) p0.toNatClampNeg p1)) 0 3 (upd (S 0 3) p0.toNatClampNeg p2)) 0 4 (upd (S 0 4) p0.toNatClampNeg (f_X0_newStrength (su (su S 0 2 (upd (S 0 2) p0.toNatClampNeg p1)) 0 3 (upd (S 0 3) p0.toNatClampNeg p2)) p0 p1))) 0 5 (upd (S 0 5) p0.toNatClampNeg (S 0 0 0))) 0 0 (upd (S 0 0) 2 ((S 0 0 2) + (f_X0_wearOfLaying p2)))) r 0 (by decide)) rfl 5 (by decide) (hts (.fieldLink RX0 43 "WireLoops$Chip" "laid" "I") (List.mem_of_getElem? (i := 5) rfl)) (fun _ h9 => h9) rfl dX0_addWire_66 ?_
      refine lv_iconst (v := 1) hx hb dX0_addWire_69 (by decide) ?_
      refine lv_iadd hx hb dX0_addWire_70 ?_
      refine va_put (D := G.1) (ci := 0) (v := .int ((S 0 0 0) + 1)) (ty := .int) (C := RX0) (T := TX0) (N := 12) hx hb hts hinX0 tyX0 tyX0_ok nmX0 hown hK.1 hP hD hS (6 * 0) (wX_o G A (su (su (su (su (su S 0 2 (upd (S 0 2) p0.toNatClampNeg p1)) 0 3 (upd (S 0 3) p0.toNatClampNeg p2)) 0 4 (upd (S 0 4) p0.toNatClampNeg (f_X0_newStrength (su (su S 0 2 (upd (S 0 2) p0.toNatClampNeg p1)) 0 3 (upd (S 0 3) p0.toNatClampNeg p2)) p0 p1))) 0 5 (upd (S 0 5) p0.toNatClampNeg (S 0 0 0))) 0 0 (upd (S 0 0) 2 ((S 0 0 2) + (f_X0_wearOfLaying p2)))) r 0 (by decide)) rfl (5 + 0) (by decide) (hts (.fieldLink RX0 43 "WireLoops$Chip" "laid" "I") (List.mem_of_getElem? (i := 5) rfl)) (fun _ h9 => h9) rfl (by decide +kernel) rfl rfl (Nat.le_of_ble_eq_true rfl) dX0_addWire_71 (fun H locs hP hD hS => ?_)
      rw [wX_so G A (su (su (su (su (su S 0 2 (upd (S 0 2) p0.toNatClampNeg p1)) 0 3 (upd (S 0 3) p0.toNatClampNeg p2)) 0 4 (upd (S 0 4) p0.toNatClampNeg (f_X0_newStrength (su (su S 0 2 (upd (S 0 2) p0.toNatClampNeg p1)) 0 3 (upd (S 0 3) p0.toNatClampNeg p2)) p0 p1))) 0 5 (upd (S 0 5) p0.toNatClampNeg (S 0 0 0))) 0 0 (upd (S 0 0) 2 ((S 0 0 2) + (f_X0_wearOfLaying p2)))) r 0 0 (by decide) (by decide) _] at hP hD
      have hP : va_P G.1 vwCl (wX G A (su (su (su (su (su (su S 0 2 (upd (S 0 2) p0.toNatClampNeg p1)) 0 3 (upd (S 0 3) p0.toNatClampNeg p2)) 0 4 (upd (S 0 4) p0.toNatClampNeg (f_X0_newStrength (su (su S 0 2 (upd (S 0 2) p0.toNatClampNeg p1)) 0 3 (upd (S 0 3) p0.toNatClampNeg p2)) p0 p1))) 0 5 (upd (S 0 5) p0.toNatClampNeg (S 0 0 0))) 0 0 (upd (S 0 0) 2 ((S 0 0 2) + (f_X0_wearOfLaying p2)))) 0 0 (upd (upd (S 0 0) 2 ((S 0 0 2) + (f_X0_wearOfLaying p2))) 0 ((S 0 0 0) + 1))) r) H := hP
      have hD : va_D A0 (wX G A (su (su (su (su (su (su S 0 2 (upd (S 0 2) p0.toNatClampNeg p1)) 0 3 (upd (S 0 3) p0.toNatClampNeg p2)) 0 4 (upd (S 0 4) p0.toNatClampNeg (f_X0_newStrength (su (su S 0 2 (upd (S 0 2) p0.toNatClampNeg p1)) 0 3 (upd (S 0 3) p0.toNatClampNeg p2)) p0 p1))) 0 5 (upd (S 0 5) p0.toNatClampNeg (S 0 0 0))) 0 0 (upd (S 0 0) 2 ((S 0 0 2) + (f_X0_wearOfLaying p2)))) 0 0 (upd (upd (S 0 0) 2 ((S 0 0 2) + (f_X0_wearOfLaying p2))) 0 ((S 0 0 0) + 1))) r) := hD
      refine lv_aload_n hx hb dX0_addWire_74 rfl (lv_at hl 0 rfl) ?_
      refine va_get (D := G.1) (ci := 0) (v := .int ((S 0 0 0) + 1)) (C := RX0) (T := TX0) (N := 12) hx hb hts hinX0 hown hK.1 hP (6 * 0) (wX_o G A (su (su (su (su (su (su S 0 2 (upd (S 0 2) p0.toNatClampNeg p1)) 0 3 (upd (S 0 3) p0.toNatClampNeg p2)) 0 4 (upd (S 0 4) p0.toNatClampNeg (f_X0_newStrength (su (su S 0 2 (upd (S 0 2) p0.toNatClampNeg p1)) 0 3 (upd (S 0 3) p0.toNatClampNeg p2)) p0 p1))) 0 5 (upd (S 0 5) p0.toNatClampNeg (S 0 0 0))) 0 0 (upd (S 0 0) 2 ((S 0 0 2) + (f_X0_wearOfLaying p2)))) 0 0 (upd (upd (S 0 0) 2 ((S 0 0 2) + (f_X0_wearOfLaying p2))) 0 ((S 0 0 0) + 1))) r 0 (by decide)) rfl 5 (by decide) (hts (.fieldLink RX0 43 "WireLoops$Chip" "laid" "I") (List.mem_of_getElem? (i := 5) rfl)) (fun _ h9 => h9) rfl dX0_addWire_75 ?_
      refine cpS (rest := []) (As := [.int ((S 0 0 0) + 1)]) E (c_X0_losesTail l G A (su (su (su (su (su (su S 0 2 (upd (S 0 2) p0.toNatClampNeg p1)) 0 3 (upd (S 0 3) p0.toNatClampNeg p2)) 0 4 (upd (S 0 4) p0.toNatClampNeg (f_X0_newStrength (su (su S 0 2 (upd (S 0 2) p0.toNatClampNeg p1)) 0 3 (upd (S 0 3) p0.toNatClampNeg p2)) p0 p1))) 0 5 (upd (S 0 5) p0.toNatClampNeg (S 0 0 0))) 0 0 (upd (S 0 0) 2 ((S 0 0 2) + (f_X0_wearOfLaying p2)))) 0 0 (upd (upd (S 0 0) 2 ((S 0 0 2) + (f_X0_wearOfLaying p2))) 0 ((S 0 0 0) + 1))) r ((S 0 0 0) + 1)) (va_cwS 1 hts gX0_addWire_X0_losesTail rfl rfl rfl (by decide +kernel) ⟨Nat.le_of_ble_eq_true rfl, Nat.le_of_ble_eq_true rfl⟩) hK hP rfl hl.1 rfl (Nat.le_of_ble_eq_true rfl) dX0_addWire_78 ⟨Nat.zero_le _, Nat.zero_le _⟩ ?_
      refine lv_if_eq (tgt := 99) hx hb dX0_addWire_81 (by decide) (fun c3 => ?_) (fun c3 => ?_)
      · skip
        have hfin : (su (su (su (su (su (su S 0 2 (upd (S 0 2) p0.toNatClampNeg p1)) 0 3 (upd (S 0 3) p0.toNatClampNeg p2)) 0 4 (upd (S 0 4) p0.toNatClampNeg (f_X0_newStrength (su (su S 0 2 (upd (S 0 2) p0.toNatClampNeg p1)) 0 3 (upd (S 0 3) p0.toNatClampNeg p2)) p0 p1))) 0 5 (upd (S 0 5) p0.toNatClampNeg (S 0 0 0))) 0 0 (upd (S 0 0) 2 ((S 0 0 2) + (f_X0_wearOfLaying p2)))) 0 0 (upd (upd (S 0 0) 2 ((S 0 0 2) + (f_X0_wearOfLaying p2))) 0 ((S 0 0 0) + 1))) = (f_X0_addWire S p0 p1 p2) := Eq.symm (Eq.trans (e_X0_addWire S p0 p1 p2) (Eq.trans (if_neg c1) (Eq.trans (if_neg c2) ((if_pos c3)))))
        exact endZ hx hb hr hlocks hP hD hS (@congrArg XS va_W (su (su (su (su (su (su S 0 2 (upd (S 0 2) p0.toNatClampNeg p1)) 0 3 (upd (S 0 3) p0.toNatClampNeg p2)) 0 4 (upd (S 0 4) p0.toNatClampNeg (f_X0_newStrength (su (su S 0 2 (upd (S 0 2) p0.toNatClampNeg p1)) 0 3 (upd (S 0 3) p0.toNatClampNeg p2)) p0 p1))) 0 5 (upd (S 0 5) p0.toNatClampNeg (S 0 0 0))) 0 0 (upd (S 0 0) 2 ((S 0 0 2) + (f_X0_wearOfLaying p2)))) 0 0 (upd (upd (S 0 0) 2 ((S 0 0 2) + (f_X0_wearOfLaying p2))) 0 ((S 0 0 0) + 1))) (f_X0_addWire S p0 p1 p2) (fun z => wX G A z r) hfin) dX0_addWire_99
      · skip
        refine lv_aload_n hx hb dX0_addWire_84 rfl (lv_at hl 0 rfl) ?_
        refine lv_iconst (v := 1) hx hb dX0_addWire_85 (by decide) ?_
        refine va_put (D := G.1) (ci := 0) (v := .int 1) (ty := .boolean) (C := RX0) (T := TX0) (N := 12) hx hb hts hinX0 tyX0 tyX0_ok nmX0 hown hK.1 hP hD hS (6 * 0) (wX_o G A (su (su (su (su (su (su S 0 2 (upd (S 0 2) p0.toNatClampNeg p1)) 0 3 (upd (S 0 3) p0.toNatClampNeg p2)) 0 4 (upd (S 0 4) p0.toNatClampNeg (f_X0_newStrength (su (su S 0 2 (upd (S 0 2) p0.toNatClampNeg p1)) 0 3 (upd (S 0 3) p0.toNatClampNeg p2)) p0 p1))) 0 5 (upd (S 0 5) p0.toNatClampNeg (S 0 0 0))) 0 0 (upd (S 0 0) 2 ((S 0 0 2) + (f_X0_wearOfLaying p2)))) 0 0 (upd (upd (S 0 0) 2 ((S 0 0 2) + (f_X0_wearOfLaying p2))) 0 ((S 0 0 0) + 1))) r 0 (by decide)) rfl (5 + 4) (by decide) (hts (.fieldLink RX0 52 "WireLoops$Chip" "tailLost" "Z") (List.mem_of_getElem? (i := 7) rfl)) (fun _ h9 => h9) rfl (by decide +kernel) rfl rfl (Nat.le_of_ble_eq_true rfl) dX0_addWire_86 (fun H locs hP hD hS => ?_)
        rw [wX_so G A (su (su (su (su (su (su S 0 2 (upd (S 0 2) p0.toNatClampNeg p1)) 0 3 (upd (S 0 3) p0.toNatClampNeg p2)) 0 4 (upd (S 0 4) p0.toNatClampNeg (f_X0_newStrength (su (su S 0 2 (upd (S 0 2) p0.toNatClampNeg p1)) 0 3 (upd (S 0 3) p0.toNatClampNeg p2)) p0 p1))) 0 5 (upd (S 0 5) p0.toNatClampNeg (S 0 0 0))) 0 0 (upd (S 0 0) 2 ((S 0 0 2) + (f_X0_wearOfLaying p2)))) 0 0 (upd (upd (S 0 0) 2 ((S 0 0 2) + (f_X0_wearOfLaying p2))) 0 ((S 0 0 0) + 1))) r 0 4 (by decide) (by decide) _] at hP hD
        have hP : va_P G.1 vwCl (wX G A (su (su (su (su (su (su (su S 0 2 (upd (S 0 2) p0.toNatClampNeg p1)) 0 3 (upd (S 0 3) p0.toNatClampNeg p2)) 0 4 (upd (S 0 4) p0.toNatClampNeg (f_X0_newStrength (su (su S 0 2 (upd (S 0 2) p0.toNatClampNeg p1)) 0 3 (upd (S 0 3) p0.toNatClampNeg p2)) p0 p1))) 0 5 (upd (S 0 5) p0.toNatClampNeg (S 0 0 0))) 0 0 (upd (S 0 0) 2 ((S 0 0 2) + (f_X0_wearOfLaying p2)))) 0 0 (upd (upd (S 0 0) 2 ((S 0 0 2) + (f_X0_wearOfLaying p2))) 0 ((S 0 0 0) + 1))) 0 0 (upd (upd (upd (S 0 0) 2 ((S 0 0 2) + (f_X0_wearOfLaying p2))) 0 ((S 0 0 0) + 1)) 4 1)) r) H := hP
        have hD : va_D A0 (wX G A (su (su (su (su (su (su (su S 0 2 (upd (S 0 2) p0.toNatClampNeg p1)) 0 3 (upd (S 0 3) p0.toNatClampNeg p2)) 0 4 (upd (S 0 4) p0.toNatClampNeg (f_X0_newStrength (su (su S 0 2 (upd (S 0 2) p0.toNatClampNeg p1)) 0 3 (upd (S 0 3) p0.toNatClampNeg p2)) p0 p1))) 0 5 (upd (S 0 5) p0.toNatClampNeg (S 0 0 0))) 0 0 (upd (S 0 0) 2 ((S 0 0 2) + (f_X0_wearOfLaying p2)))) 0 0 (upd (upd (S 0 0) 2 ((S 0 0 2) + (f_X0_wearOfLaying p2))) 0 ((S 0 0 0) + 1))) 0 0 (upd (upd (upd (S 0 0) 2 ((S 0 0 2) + (f_X0_wearOfLaying p2))) 0 ((S 0 0 0) + 1)) 4 1)) r) := hD
        refine lv_aload_n hx hb dX0_addWire_89 rfl (lv_at hl 0 rfl) ?_
        refine lv_dup hx hb dX0_addWire_90 rfl ?_
        refine va_get (D := G.1) (ci := 0) (v := .int (S 0 0 5)) (C := RX0) (T := TX0) (N := 12) hx hb hts hinX0 hown hK.1 hP (6 * 0) (wX_o G A (su (su (su (su (su (su (su S 0 2 (upd (S 0 2) p0.toNatClampNeg p1)) 0 3 (upd (S 0 3) p0.toNatClampNeg p2)) 0 4 (upd (S 0 4) p0.toNatClampNeg (f_X0_newStrength (su (su S 0 2 (upd (S 0 2) p0.toNatClampNeg p1)) 0 3 (upd (S 0 3) p0.toNatClampNeg p2)) p0 p1))) 0 5 (upd (S 0 5) p0.toNatClampNeg (S 0 0 0))) 0 0 (upd (S 0 0) 2 ((S 0 0 2) + (f_X0_wearOfLaying p2)))) 0 0 (upd (upd (S 0 0) 2 ((S 0 0 2) + (f_X0_wearOfLaying p2))) 0 ((S 0 0 0) + 1))) 0 0 (upd (upd (upd (S 0 0) 2 ((S 0 0 2) + (f_X0_wearOfLaying p2))) 0 ((S 0 0 0) + 1)) 4 1)) r 0 (by decide)) rfl 10 (by decide) (hts (.fieldLink RX0 56 "WireLoops$Chip" "tailsLost" "I") (List.mem_of_getElem? (i := 8) rfl)) (fun _ h9 => h9) rfl dX0_addWire_91 ?_
        refine lv_iconst (v := 1) hx hb dX0_addWire_94 (by decide) ?_
        refine lv_iadd hx hb dX0_addWire_95 ?_
        refine va_put (D := G.1) (ci := 0) (v := .int ((S 0 0 5) + 1)) (ty := .int) (C := RX0) (T := TX0) (N := 12) hx hb hts hinX0 tyX0 tyX0_ok nmX0 hown hK.1 hP hD hS (6 * 0) (wX_o G A (su (su (su (su (su (su (su S 0 2 (upd (S 0 2) p0.toNatClampNeg p1)) 0 3 (upd (S 0 3) p0.toNatClampNeg p2)) 0 4 (upd (S 0 4) p0.toNatClampNeg (f_X0_newStrength (su (su S 0 2 (upd (S 0 2) p0.toNatClampNeg p1)) 0 3 (upd (S 0 3) p0.toNatClampNeg p2)) p0 p1))) 0 5 (upd (S 0 5) p0.toNatClampNeg (S 0 0 0))) 0 0 (upd (S 0 0) 2 ((S 0 0 2) + (f_X0_wearOfLaying p2)))) 0 0 (upd (upd (S 0 0) 2 ((S 0 0 2) + (f_X0_wearOfLaying p2))) 0 ((S 0 0 0) + 1))) 0 0 (upd (upd (upd (S 0 0) 2 ((S 0 0 2) + (f_X0_wearOfLaying p2))) 0 ((S 0 0 0) + 1)) 4 1)) r 0 (by decide)) rfl (5 + 5) (by decide) (hts (.fieldLink RX0 56 "WireLoops$Chip" "tailsLost" "I") (List.mem_of_getElem? (i := 8) rfl)) (fun _ h9 => h9) rfl (by decide +kernel) rfl rfl (Nat.le_of_ble_eq_true rfl) dX0_addWire_96 (fun H locs hP hD hS => ?_)
        rw [wX_so G A (su (su (su (su (su (su (su S 0 2 (upd (S 0 2) p0.toNatClampNeg p1)) 0 3 (upd (S 0 3) p0.toNatClampNeg p2)) 0 4 (upd (S 0 4) p0.toNatClampNeg (f_X0_newStrength (su (su S 0 2 (upd (S 0 2) p0.toNatClampNeg p1)) 0 3 (upd (S 0 3) p0.toNatClampNeg p2)) p0 p1))) 0 5 (upd (S 0 5) p0.toNatClampNeg (S 0 0 0))) 0 0 (upd (S 0 0) 2 ((S 0 0 2) + (f_X0_wearOfLaying p2)))) 0 0 (upd (upd (S 0 0) 2 ((S 0 0 2) + (f_X0_wearOfLaying p2))) 0 ((S 0 0 0) + 1))) 0 0 (upd (upd (upd (S 0 0) 2 ((S 0 0 2) + (f_X0_wearOfLaying p2))) 0 ((S 0 0 0) + 1)) 4 1)) r 0 5 (by decide) (by decide) _] at hP hD
        have hP : va_P G.1 vwCl (wX G A (su (su (su (su (su (su (su (su S 0 2 (upd (S 0 2) p0.toNatClampNeg p1)) 0 3 (upd (S 0 3) p0.toNatClampNeg p2)) 0 4 (upd (S 0 4) p0.toNatClampNeg (f_X0_newStrength (su (su S 0 2 (upd (S 0 2) p0.toNatClampNeg p1)) 0 3 (upd (S 0 3) p0.toNatClampNeg p2)) p0 p1))) 0 5 (upd (S 0 5) p0.toNatClampNeg (S 0 0 0))) 0 0 (upd (S 0 0) 2 ((S 0 0 2) + (f_X0_wearOfLaying p2)))) 0 0 (upd (upd (S 0 0) 2 ((S 0 0 2) + (f_X0_wearOfLaying p2))) 0 ((S 0 0 0) + 1))) 0 0 (upd (upd (upd (S 0 0) 2 ((S 0 0 2) + (f_X0_wearOfLaying p2))) 0 ((S 0 0 0) + 1)) 4 1)) 0 0 (upd (upd (upd (upd (S 0 0) 2 ((S 0 0 2) + (f_X0_wearOfLaying p2))) 0 ((S 0 0 0) + 1)) 4 1) 5 ((S 0 0 5) + 1))) r) H := hP
        have hD : va_D A0 (wX G A (su (su (su (su (su (su (su (su S 0 2 (upd (S 0 2) p0.toNatClampNeg p1)) 0 3 (upd (S 0 3) p0.toNatClampNeg p2)) 0 4 (upd (S 0 4) p0.toNatClampNeg (f_X0_newStrength (su (su S 0 2 (upd (S 0 2) p0.toNatClampNeg p1)) 0 3 (upd (S 0 3) p0.toNatClampNeg p2)) p0 p1))) 0 5 (upd (S 0 5) p0.toNatClampNeg (S 0 0 0))) 0 0 (upd (S 0 0) 2 ((S 0 0 2) + (f_X0_wearOfLaying p2)))) 0 0 (upd (upd (S 0 0) 2 ((S 0 0 2) + (f_X0_wearOfLaying p2))) 0 ((S 0 0 0) + 1))) 0 0 (upd (upd (upd (S 0 0) 2 ((S 0 0 2) + (f_X0_wearOfLaying p2))) 0 ((S 0 0 0) + 1)) 4 1)) 0 0 (upd (upd (upd (upd (S 0 0) 2 ((S 0 0 2) + (f_X0_wearOfLaying p2))) 0 ((S 0 0 0) + 1)) 4 1) 5 ((S 0 0 5) + 1))) r) := hD
        have hfin : (su (su (su (su (su (su (su (su S 0 2 (upd (S 0 2) p0.toNatClampNeg p1)) 0 3 (upd (S 0 3) p0.toNatClampNeg p2)) 0 4 (upd (S 0 4) p0.toNatClampNeg (f_X0_newStrength (su (su S 0 2 (upd (S 0 2) p0.toNatClampNeg p1)) 0 3 (upd (S 0 3) p0.toNatClampNeg p2)) p0 p1))) 0 5 (upd (S 0 5) p0.toNatClampNeg (S 0 0 0))) 0 0 (upd (S 0 0) 2 ((S 0 0 2) + (f_X0_wearOfLaying p2)))) 0 0 (upd (upd (S 0 0) 2 ((S 0 0 2) + (f_X0_wearOfLaying p2))) 0 ((S 0 0 0) + 1))) 0 0 (upd (upd (upd (S 0 0) 2 ((S 0 0 2) + (f_X0_wearOfLaying p2))) 0 ((S 0 0 0) + 1)) 4 1)) 0 0 (upd (upd (upd (upd (S 0 0) 2 ((S 0 0 2) + (f_X0_wearOfLaying p2))) 0 ((S 0 0 0) + 1)) 4 1) 5 ((S 0 0 5) + 1))) = (f_X0_addWire S p0 p1 p2) := Eq.symm (Eq.trans (e_X0_addWire S p0 p1 p2) (Eq.trans (if_neg c1) (Eq.trans (if_neg c2) ((if_neg c3)))))
        exact endZ hx hb hr hlocks hP hD hS (@congrArg XS va_W (su (su (su (su (su (su (su (su S 0 2 (upd (S 0 2) p0.toNatClampNeg p1)) 0 3 (upd (S 0 3) p0.toNatClampNeg p2)) 0 4 (upd (S 0 4) p0.toNatClampNeg (f_X0_newStrength (su (su S 0 2 (upd (S 0 2) p0.toNatClampNeg p1)) 0 3 (upd (S 0 3) p0.toNatClampNeg p2)) p0 p1))) 0 5 (upd (S 0 5) p0.toNatClampNeg (S 0 0 0))) 0 0 (upd (S 0 0) 2 ((S 0 0 2) + (f_X0_wearOfLaying p2)))) 0 0 (upd (upd (S 0 0) 2 ((S 0 0 2) + (f_X0_wearOfLaying p2))) 0 ((S 0 0 0) + 1))) 0 0 (upd (upd (upd (S 0 0) 2 ((S 0 0 2) + (f_X0_wearOfLaying p2))) 0 ((S 0 0 0) + 1)) 4 1)) 0 0 (upd (upd (upd (upd (S 0 0) 2 ((S 0 0 2) + (f_X0_wearOfLaying p2))) 0 ((S 0 0 0) + 1)) 4 1) 5 ((S 0 0 5) + 1))) (f_X0_addWire S p0 p1 p2) (fun z => wX G A z r) hfin) dX0_addWire_99
    · skip
      have hfin : S = (f_X0_addWire S p0 p1 p2) := Eq.symm (Eq.trans (e_X0_addWire S p0 p1 p2) (Eq.trans (if_neg c1) ((if_pos c2))))
      exact endZ hx hb hr hlocks hP hD hS (@congrArg XS va_W S (f_X0_addWire S p0 p1 p2) (fun z => wX G A z r) hfin) dX0_addWire_14
noncomputable def f_X0_removeWire (S : XS) (p0 : Int32) : XS := opq (if (f_X3_isPad p0) = 0 then S else (su S 0 2 (upd (S 0 2) p0.toNatClampNeg (-1))))
theorem e_X0_removeWire (S : XS) (p0 : Int32) : f_X0_removeWire S p0 = (if (f_X3_isPad p0) = 0 then S else (su S 0 2 (upd (S 0 2) p0.toNatClampNeg (-1)))) := opq_eq _
set_option maxHeartbeats 4000000 in
set_option maxRecDepth 100000 in
theorem c_X0_removeWire (l : Launch) (G : GG) (A : Nat → Nat) (S : XS) (r : Nat) (p0 : Int32) : Mz l yX0_removeWire wsX0_removeWire ({ frames := 1, cells := 0, slots := 0, locals := 20 } : Room) G [.ref (A (6 * 0)), .int p0] (wX G A S r) (wX G A (f_X0_removeWire S p0) r) := by
  refine Mz.of (cc := cX0_removeWire) (maxL := 2) (ret := none) (by decide) rfl (Nat.le_of_ble_eq_true rfl) ?_
  intro p e s m args below meth c A0 hA0 E hr hlocks hP hK hD hA hS ls hl
  have E : CallFix p m c cX0_removeWire 2 s args wsX0_removeWire RX0 := E
  have hx := E.1
  have hb := E.2.1
  have hml := E.2.2.1
  have hown := E.2.2.2.1
  have hts := E.2.2.2.2
  have hl : lv_has ls 2 [(0, .ref (A (6 * 0))), (1, .int p0)] := hl
  have hinX0 : ∀ w ∈ u_ws RX0 TX0 12, w ∈ wsX0_removeWire := fun _ h => List.mem_cons_of_mem _ (List.mem_append_right _ h)
  refine lv_iload_n hx hb dX0_removeWire_0 rfl (lv_at hl 1 rfl) ?_
  refine cpN (host := RX3) (rest := []) (As := [.int p0]) E (c_X3_isPad l G A S r p0) (va_cnB 1 hts gX0_removeWire_X3_isPad_n62 rfl rfl rfl (hK.2 (.methodLinkNest RX0 62 yX3_isPad RX3) (by decide +kernel)) (hts (.initialized RX3) (List.mem_of_getElem? (i := 3) rfl)) (by decide +kernel) ⟨Nat.le_of_ble_eq_true rfl, Nat.le_of_ble_eq_true rfl⟩) (hts (.static yX3_isPad) (List.mem_of_getElem? (i := 2) rfl)) hK hP rfl hl.1 rfl (Nat.le_of_ble_eq_true rfl) dX0_removeWire_1 ⟨Nat.zero_le _, Nat.zero_le _⟩ ?_
  refine lv_if_eq (tgt := 14) hx hb dX0_removeWire_4 (by decide) (fun c1 => ?_) (fun c1 => ?_)
  · skip
    have hfin : S = (f_X0_removeWire S p0) := Eq.symm (Eq.trans (e_X0_removeWire S p0) ((if_pos c1)))
    exact endZ hx hb hr hlocks hP hD hS (@congrArg XS va_W S (f_X0_removeWire S p0) (fun z => wX G A z r) hfin) dX0_removeWire_14
  · skip
    refine lv_aload_n hx hb dX0_removeWire_7 rfl (lv_at hl 0 rfl) ?_
    refine va_get (D := G.1) (ci := 0) (v := .ref (A (6 * 0 + 2))) (C := RX0) (T := TX0) (N := 12) hx hb hts hinX0 hown hK.1 hP (6 * 0) (wX_o G A S r 0 (by decide)) rfl 1 (by decide) (hts (.fieldLink RX0 15 "WireLoops$Chip" "leadOf" "[I") (List.mem_of_getElem? (i := 1) rfl)) (fun _ h9 => h9) rfl dX0_removeWire_8 ?_
    refine lv_iload_n hx hb dX0_removeWire_11 rfl (lv_at hl 1 rfl) ?_
    refine lv_iconst (v := (-1)) hx hb dX0_removeWire_12 (by decide) ?_
    refine va_iast (D := G.1) hx hb hK.1 hP hD hS (6 * 0 + 2) 0 (wX_c G A S r 0 2 (by decide) (by decide) (by decide)) rfl (in_pad (by assumption)) dX0_removeWire_13 (fun H locs hP hD hS => ?_)
    rw [wX_sc G A S r 0 2 (by decide) (by decide) (by decide) _] at hP hD
    have hP : va_P G.1 vwCl (wX G A (su S 0 2 (upd (S 0 2) p0.toNatClampNeg (-1))) r) H := hP
    have hD : va_D A0 (wX G A (su S 0 2 (upd (S 0 2) p0.toNatClampNeg (-1))) r) := hD
    have hfin : (su S 0 2 (upd (S 0 2) p0.toNatClampNeg (-1))) = (f_X0_removeWire S p0) := Eq.symm (Eq.trans (e_X0_removeWire S p0) ((if_neg c1)))
    exact endZ hx hb hr hlocks hP hD hS (@congrArg XS va_W (su S 0 2 (upd (S 0 2) p0.toNatClampNeg (-1))) (f_X0_removeWire S p0) (fun z => wX G A z r) hfin) dX0_removeWire_14
noncomputable def f_X0_breaksUnder (S : XS) (p0 p1 : Int32) : Int32 × XS := opq (if (f_X0_hasWire S p0) = 0 then (0, S) else (if p1 ≤ ((S 0 4) (p0).toNatClampNeg) then (0, (su S 0 4 (upd (S 0 4) p0.toNatClampNeg (if 0 < (((S 0 4) (p0).toNatClampNeg) - (p1 / 10)) then (((S 0 4) (p0).toNatClampNeg) - (p1 / 10)) else 0)))) else (1, (su (f_X0_removeWire S p0) 0 0 (upd ((f_X0_removeWire S p0) 0 0) 6 ((((f_X0_removeWire S p0) 0 0) 6) + 1))))))
theorem e_X0_breaksUnder (S : XS) (p0 p1 : Int32) : f_X0_breaksUnder S p0 p1 = (if (f_X0_hasWire S p0) = 0 then (0, S) else (if p1 ≤ ((S 0 4) (p0).toNatClampNeg) then (0, (su S 0 4 (upd (S 0 4) p0.toNatClampNeg (if 0 < (((S 0 4) (p0).toNatClampNeg) - (p1 / 10)) then (((S 0 4) (p0).toNatClampNeg) - (p1 / 10)) else 0)))) else (1, (su (f_X0_removeWire S p0) 0 0 (upd ((f_X0_removeWire S p0) 0 0) 6 ((((f_X0_removeWire S p0) 0 0) 6) + 1)))))) := opq_eq _
set_option maxHeartbeats 4000000 in
set_option maxRecDepth 100000 in
theorem c_X0_breaksUnder (l : Launch) (G : GG) (A : Nat → Nat) (S : XS) (r : Nat) (p0 p1 : Int32) : Mm l yX0_breaksUnder wsX0_breaksUnder ({ frames := 2, cells := 0, slots := 0, locals := 41 } : Room) G [.ref (A (6 * 0)), .int p0, .int p1] (wX G A S r) (f_X0_breaksUnder S p0 p1).1 (wX G A (f_X0_breaksUnder S p0 p1).2 r) := by
  refine Mm.of (cc := cX0_breaksUnder) (maxL := 3) (ret := (some .boolean)) (by decide) rfl (Nat.le_of_ble_eq_true rfl) ?_
  intro p e s m args below meth c A0 hA0 E hr hlocks hP hK hD hA hS ls hl
  have E : CallFix p m c cX0_breaksUnder 3 s args wsX0_breaksUnder RX0 := E
  have hx := E.1
  have hb := E.2.1
  have hml := E.2.2.1
  have hown := E.2.2.2.1
  have hts := E.2.2.2.2
  have hl : lv_has ls 3 [(0, .ref (A (6 * 0))), (1, .int p0), (2, .int p1)] := hl
  have hinX0 : ∀ w ∈ u_ws RX0 TX0 12, w ∈ wsX0_breaksUnder := fun _ h => List.mem_cons_of_mem _ (List.mem_append_right _ h)
  refine lv_aload_n hx hb dX0_breaksUnder_0 rfl (lv_at hl 0 rfl) ?_
  refine lv_iload_n hx hb dX0_breaksUnder_1 rfl (lv_at hl 1 rfl) ?_
  refine cpV (rest := []) (As := [.int p0]) E (c_X0_hasWire l G A S r p0) (cwV 1 hts gX0_breaksUnder_X0_hasWire rfl rfl rfl (by decide +kernel) ⟨Nat.le_of_ble_eq_true rfl, Nat.le_of_ble_eq_true rfl⟩) hK hP (6 * 0) (wX_o G A S r 0 (by decide)) rfl rfl hl.1 rfl (Nat.le_of_ble_eq_true rfl) dX0_breaksUnder_2 ⟨Nat.zero_le _, Nat.zero_le _⟩ ?_
  refine lv_if_ne (tgt := 10) hx hb dX0_breaksUnder_5 (by decide) (fun c1 => ?_) (fun c1 => ?_)
  · skip
    refine lv_aload_n hx hb dX0_breaksUnder_10 rfl (lv_at hl 0 rfl) ?_
    refine va_get (D := G.1) (ci := 0) (v := .ref (A (6 * 0 + 4))) (C := RX0) (T := TX0) (N := 12) hx hb hts hinX0 hown hK.1 hP (6 * 0) (wX_o G A S r 0 (by decide)) rfl 3 (by decide) (hts (.fieldLink RX0 21 "WireLoops$Chip" "strength" "[I") (List.mem_of_getElem? (i := 1) rfl)) (fun _ h9 => h9) rfl dX0_breaksUnder_11 ?_
    refine lv_iload_n hx hb dX0_breaksUnder_14 rfl (lv_at hl 1 rfl) ?_
    refine va_iald (D := G.1) hx hb hK.1 hP (6 * 0 + 4) 0 (wX_c G A S r 0 4 (by decide) (by decide) (by decide)) rfl (in_has (by assumption)) dX0_breaksUnder_15 ?_
    refine lv_iload_n hx hb dX0_breaksUnder_16 rfl (lv_at hl 2 rfl) ?_
    refine lv_icmp_ge (tgt := 37) hx hb dX0_breaksUnder_17 (by decide) (fun c2 => ?_) (fun c2 => ?_)
    · skip
      refine lv_aload_n hx hb dX0_breaksUnder_37 rfl (lv_at hl 0 rfl) ?_
      refine va_get (D := G.1) (ci := 0) (v := .ref (A (6 * 0 + 4))) (C := RX0) (T := TX0) (N := 12) hx hb hts hinX0 hown hK.1 hP (6 * 0) (wX_o G A S r 0 (by decide)) rfl 3 (by decide) (hts (.fieldLink RX0 21 "WireLoops$Chip" "strength" "[I") (List.mem_of_getElem? (i := 1) rfl)) (fun _ h9 => h9) rfl dX0_breaksUnder_38 ?_
      refine lv_iload_n hx hb dX0_breaksUnder_41 rfl (lv_at hl 1 rfl) ?_
      refine lv_iconst (v := 0) hx hb dX0_breaksUnder_42 (by decide) ?_
      refine lv_aload_n hx hb dX0_breaksUnder_43 rfl (lv_at hl 0 rfl) ?_
      refine va_get (D := G.1) (ci := 0) (v := .ref (A (6 * 0 + 4))) (C := RX0) (T := TX0) (N := 12) hx hb hts hinX0 hown hK.1 hP (6 * 0) (wX_o G A S r 0 (by decide)) rfl 3 (by decide) (hts (.fieldLink RX0 21 "WireLoops$Chip" "strength" "[I") (List.mem_of_getElem? (i := 1) rfl)) (fun _ h9 => h9) rfl dX0_breaksUnder_44 ?_
      refine lv_iload_n hx hb dX0_breaksUnder_47 rfl (lv_at hl 1 rfl) ?_
      refine va_iald (D := G.1) hx hb hK.1 hP (6 * 0 + 4) 0 (wX_c G A S r 0 4 (by decide) (by decide) (by decide)) rfl (in_has (by assumption)) dX0_breaksUnder_48 ?_
      refine lv_iload_n hx hb dX0_breaksUnder_49 rfl (lv_at hl 2 rfl) ?_
      refine lv_bipush (v := 10) hx hb dX0_breaksUnder_50 (by decide) ?_
      refine lv_idiv hx hb dX0_breaksUnder_52 (by decide) ?_
      refine lv_isub hx hb dX0_breaksUnder_53 ?_
      refine va_mmax hx hb (by rw [hml]; exact hl.1.symm) hown (hts (.methodLink RX0 108 Lib.Math.max.name) (List.mem_of_getElem? (i := 3) rfl)) (hts (.static Lib.Math.max.name) (List.mem_of_getElem? (i := 4) rfl)) (hts (.initialized "java/lang/Math") (List.mem_of_getElem? (i := 5) rfl)) (hts (.code Lib.Math.max.name Lib.Math.max.code 2 (some .int)) (List.mem_of_getElem? (i := 6) rfl)) (Nat.le_of_ble_eq_true rfl) (Nat.le_of_ble_eq_true rfl) (Nat.zero_le _) (Nat.zero_le _) dX0_breaksUnder_54 ?_
      refine va_iast (D := G.1) hx hb hK.1 hP hD hS (6 * 0 + 4) 0 (wX_c G A S r 0 4 (by decide) (by decide) (by decide)) rfl (in_has (by assumption)) dX0_breaksUnder_57 (fun H locs hP hD hS => ?_)
      rw [wX_sc G A S r 0 4 (by decide) (by decide) (by decide) _] at hP hD
      have hP : va_P G.1 vwCl (wX G A (su S 0 4 (upd (S 0 4) p0.toNatClampNeg (if 0 < (((S 0 4) (p0).toNatClampNeg) - (p1 / 10)) then (((S 0 4) (p0).toNatClampNeg) - (p1 / 10)) else 0))) r) H := hP
      have hD : va_D A0 (wX G A (su S 0 4 (upd (S 0 4) p0.toNatClampNeg (if 0 < (((S 0 4) (p0).toNatClampNeg) - (p1 / 10)) then (((S 0 4) (p0).toNatClampNeg) - (p1 / 10)) else 0))) r) := hD
      refine lv_iconst (v := 0) hx hb dX0_breaksUnder_58 (by decide) ?_
      have hfin : (0, (su S 0 4 (upd (S 0 4) p0.toNatClampNeg (if 0 < (((S 0 4) (p0).toNatClampNeg) - (p1 / 10)) then (((S 0 4) (p0).toNatClampNeg) - (p1 / 10)) else 0)))) = (f_X0_breaksUnder S p0 p1) := Eq.symm (Eq.trans (e_X0_breaksUnder S p0 p1) (Eq.trans (if_neg c1) ((if_pos c2))))
      exact endM hx hb hr hlocks rfl hP hD hS ⟨@congrArg (Int32 × XS) Int32 (0, (su S 0 4 (upd (S 0 4) p0.toNatClampNeg (if 0 < (((S 0 4) (p0).toNatClampNeg) - (p1 / 10)) then (((S 0 4) (p0).toNatClampNeg) - (p1 / 10)) else 0)))) (f_X0_breaksUnder S p0 p1) Prod.fst hfin, @congrArg (Int32 × XS) va_W (0, (su S 0 4 (upd (S 0 4) p0.toNatClampNeg (if 0 < (((S 0 4) (p0).toNatClampNeg) - (p1 / 10)) then (((S 0 4) (p0).toNatClampNeg) - (p1 / 10)) else 0)))) (f_X0_breaksUnder S p0 p1) (fun z => wX G A z.2 r) hfin⟩ dX0_breaksUnder_59
    · skip
      refine lv_aload_n hx hb dX0_breaksUnder_20 rfl (lv_at hl 0 rfl) ?_
      refine lv_iload_n hx hb dX0_breaksUnder_21 rfl (lv_at hl 1 rfl) ?_
      refine czV (rest := []) (As := [.int p0]) E (c_X0_removeWire l G A S r p0) (cwV 1 hts gX0_breaksUnder_X0_removeWire rfl rfl rfl (by decide +kernel) ⟨Nat.le_of_ble_eq_true rfl, Nat.le_of_ble_eq_true rfl⟩) hK hP hD hS hA (6 * 0) (wX_o G A S r 0 (by decide)) rfl rfl hl.1 rfl (Nat.le_of_ble_eq_true rfl) dX0_breaksUnder_22 ⟨Nat.zero_le _, Nat.zero_le _⟩ (fun H locs hP hD hS => ?_)
      refine lv_aload_n hx hb dX0_breaksUnder_25 rfl (lv_at hl 0 rfl) ?_
      refine lv_dup hx hb dX0_breaksUnder_26 rfl ?_
      refine va_get (D := G.1) (ci := 0) (v := .int (((f_X0_removeWire S p0) 0 0) 6)) (C := RX0) (T := TX0) (N := 12) hx hb hts hinX0 hown hK.1 hP (6 * 0) (wX_o G A (f_X0_removeWire S p0) r 0 (by decide)) rfl 11 (by decide) (hts (.fieldLink RX0 59 "WireLoops$Chip" "broken" "I") (List.mem_of_getElem? (i := 2) rfl)) (fun _ h9 => h9) rfl dX0_breaksUnder_27 ?_
      refine lv_iconst (v := 1) hx hb dX0_breaksUnder_30 (by decide) ?_
      refine lv_iadd hx hb dX0_breaksUnder_31 ?_
      refine va_put (D := G.1) (ci := 0) (v := .int ((((f_X0_removeWire S p0) 0 0) 6) + 1)) (ty := .int) (C := RX0) (T := TX0) (N := 12) hx hb hts hinX0 tyX0 tyX0_ok nmX0 hown hK.1 hP hD hS (6 * 0) (wX_o G A (f_X0_removeWire S p0) r 0 (by decide)) rfl (5 + 6) (by decide) (hts (.fieldLink RX0 59 "WireLoops$Chip" "broken" "I") (List.mem_of_getElem? (i := 2) rfl)) (fun _ h9 => h9) rfl (by decide +kernel) rfl rfl (Nat.le_of_ble_eq_true rfl) dX0_breaksUnder_32 (fun H locs hP hD hS => ?_)
      rw [wX_so G A (f_X0_removeWire S p0) r 0 6 (by decide) (by decide) _] at hP hD
      have hP : va_P G.1 vwCl (wX G A (su (f_X0_removeWire S p0) 0 0 (upd ((f_X0_removeWire S p0) 0 0) 6 ((((f_X0_removeWire S p0) 0 0) 6) + 1))) r) H := hP
      have hD : va_D A0 (wX G A (su (f_X0_removeWire S p0) 0 0 (upd ((f_X0_removeWire S p0) 0 0) 6 ((((f_X0_removeWire S p0) 0 0) 6) + 1))) r) := hD
      refine lv_iconst (v := 1) hx hb dX0_breaksUnder_35 (by decide) ?_
      have hfin : (1, (su (f_X0_removeWire S p0) 0 0 (upd ((f_X0_removeWire S p0) 0 0) 6 ((((f_X0_removeWire S p0) 0 0) 6) + 1)))) = (f_X0_breaksUnder S p0 p1) := Eq.symm (Eq.trans (e_X0_breaksUnder S p0 p1) (Eq.trans (if_neg c1) ((if_neg c2))))
      exact endM hx hb hr hlocks rfl hP hD hS ⟨@congrArg (Int32 × XS) Int32 (1, (su (f_X0_removeWire S p0) 0 0 (upd ((f_X0_removeWire S p0) 0 0) 6 ((((f_X0_removeWire S p0) 0 0) 6) + 1)))) (f_X0_breaksUnder S p0 p1) Prod.fst hfin, @congrArg (Int32 × XS) va_W (1, (su (f_X0_removeWire S p0) 0 0 (upd ((f_X0_removeWire S p0) 0 0) 6 ((((f_X0_removeWire S p0) 0 0) 6) + 1)))) (f_X0_breaksUnder S p0 p1) (fun z => wX G A z.2 r) hfin⟩ dX0_breaksUnder_36
  · skip
    refine lv_iconst (v := 0) hx hb dX0_breaksUnder_8 (by decide) ?_
    have hfin : (0, S) = (f_X0_breaksUnder S p0 p1) := Eq.symm (Eq.trans (e_X0_breaksUnder S p0 p1) ((if_pos c1)))
    exact endM hx hb hr hlocks rfl hP hD hS ⟨@congrArg (Int32 × XS) Int32 (0, S) (f_X0_breaksUnder S p0 p1) Prod.fst hfin, @congrArg (Int32 × XS) va_W (0, S) (f_X0_breaksUnder S p0 p1) (fun z => wX G A z.2 r) hfin⟩ dX0_breaksUnder_9
noncomputable def g_X0_breakingOfSample_8 (p0 p1 : Int32) : Nat → Nat → Int32 → Int32 → XS → Int32 × XS
  | 0, k, v, u, S1 => (v, S1)
  | n + 1, k, v, u, S1 => opq (if 12 ≤ (nI k) then (v, S1) else (if (f_X0_hasWire S1 (nI k)) = 0 then (g_X0_breakingOfSample_8 p0 p1 n (k + 1) v u S1) else (if u = 0 then (if ((f_X0_breaksUnder S1 (nI k) p1).1) = 0 then (if (u + 1) = p0 then (g_X0_breakingOfSample_8 p0 p1 n (k + 1) v 0 ((f_X0_breaksUnder S1 (nI k) p1).2)) else (g_X0_breakingOfSample_8 p0 p1 n (k + 1) v (u + 1) ((f_X0_breaksUnder S1 (nI k) p1).2))) else (if (u + 1) = p0 then (g_X0_breakingOfSample_8 p0 p1 n (k + 1) (v + 1) 0 ((f_X0_breaksUnder S1 (nI k) p1).2)) else (g_X0_breakingOfSample_8 p0 p1 n (k + 1) (v + 1) (u + 1) ((f_X0_breaksUnder S1 (nI k) p1).2)))) else (if (u + 1) = p0 then (g_X0_breakingOfSample_8 p0 p1 n (k + 1) v 0 S1) else (g_X0_breakingOfSample_8 p0 p1 n (k + 1) v (u + 1) S1)))))
theorem ge_X0_breakingOfSample_8 (p0 p1 : Int32) (n : Nat) (k : Nat) (v : Int32) (u : Int32) (S1 : XS) : g_X0_breakingOfSample_8 p0 p1 (n + 1) k v u S1 = (if 12 ≤ (nI k) then (v, S1) else (if (f_X0_hasWire S1 (nI k)) = 0 then (g_X0_breakingOfSample_8 p0 p1 n (k + 1) v u S1) else (if u = 0 then (if ((f_X0_breaksUnder S1 (nI k) p1).1) = 0 then (if (u + 1) = p0 then (g_X0_breakingOfSample_8 p0 p1 n (k + 1) v 0 ((f_X0_breaksUnder S1 (nI k) p1).2)) else (g_X0_breakingOfSample_8 p0 p1 n (k + 1) v (u + 1) ((f_X0_breaksUnder S1 (nI k) p1).2))) else (if (u + 1) = p0 then (g_X0_breakingOfSample_8 p0 p1 n (k + 1) (v + 1) 0 ((f_X0_breaksUnder S1 (nI k) p1).2)) else (g_X0_breakingOfSample_8 p0 p1 n (k + 1) (v + 1) (u + 1) ((f_X0_breaksUnder S1 (nI k) p1).2)))) else (if (u + 1) = p0 then (g_X0_breakingOfSample_8 p0 p1 n (k + 1) v 0 S1) else (g_X0_breakingOfSample_8 p0 p1 n (k + 1) v (u + 1) S1))))) := opq_eq _
noncomputable def f_X0_breakingOfSample (S : XS) (p0 p1 : Int32) : Int32 × XS := opq ((g_X0_breakingOfSample_8 p0 p1 13 0 0 0 S).1, (g_X0_breakingOfSample_8 p0 p1 13 0 0 0 S).2)
theorem e_X0_breakingOfSample (S : XS) (p0 p1 : Int32) : f_X0_breakingOfSample S p0 p1 = ((g_X0_breakingOfSample_8 p0 p1 13 0 0 0 S).1, (g_X0_breakingOfSample_8 p0 p1 13 0 0 0 S).2) := opq_eq _
set_option maxHeartbeats 4000000 in
set_option maxRecDepth 100000 in
theorem c_X0_breakingOfSample (l : Launch) (G : GG) (A : Nat → Nat) (S : XS) (r : Nat) (p0 p1 : Int32) : Mm l yX0_breakingOfSample wsX0_breakingOfSample ({ frames := 3, cells := 0, slots := 0, locals := 63 } : Room) G [.ref (A (6 * 0)), .int p0, .int p1] (wX G A S r) (f_X0_breakingOfSample S p0 p1).1 (wX G A (f_X0_breakingOfSample S p0 p1).2 r) := by
  refine Mm.of (cc := cX0_breakingOfSample) (maxL := 6) (ret := (some .int)) (by decide) rfl (Nat.le_of_ble_eq_true rfl) ?_
  intro p e s m args below meth c A0 hA0 E hr hlocks hP hK hD hA hS ls hl
  have E : CallFix p m c cX0_breakingOfSample 6 s args wsX0_breakingOfSample RX0 := E
  have hx := E.1
  have hb := E.2.1
  have hml := E.2.2.1
  have hown := E.2.2.2.1
  have hts := E.2.2.2.2
  have hl : lv_has ls 6 [(0, .ref (A (6 * 0))), (1, .int p0), (2, .int p1)] := hl
  have LOOP8 : ∀ (n : Nat) (k : Nat) (v : Int32) (u : Int32) (S1 : XS) (Q : State → Prop), (k ≤ 12) → (12 < k + n) → ∀ V : Int32 × XS, g_X0_breakingOfSample_8 p0 p1 n k v u S1 = V → (∀ (H : Heap) (locs : List Loc), va_P G.1 vwCl (wX G A V.2 r) H → va_D A0 (wX G A V.2 r) → va_S A0 s.heap H locs → ∀ ls : Array Slot, lv_has ls 6 [(3, .int V.1)] → W p l e ({ frames := 3, cells := 0, slots := 0, locals := 63 } : Room) s m args below meth c H locs 0 0 (Q) (F0 m 63 ls [])) → ∀ (H : Heap) (locs : List Loc), va_P G.1 vwCl (wX G A S1 r) H → va_D A0 (wX G A S1 r) → va_S A0 s.heap H locs → ∀ ls : Array Slot, lv_has ls 6 [(0, .ref (A (6 * 0))), (1, .int p0), (2, .int p1), (3, .int v), (4, .int u), (5, .int (nI k))] → W p l e ({ frames := 3, cells := 0, slots := 0, locals := 63 } : Room) s m args below meth c H locs 0 0 (Q) (F0 m 8 ls []) := by
    intro n
    induction n with
    | zero =>
      intro k v u S1 Q hk hn
      exact absurd hn (by omega)
    | succ n ih =>
      intro k v u S1 Q hk hn V hres kk H locs hP hD hS ls hl
      have hl : lv_has ls 6 [(0, .ref (A (6 * 0))), (1, .int p0), (2, .int p1), (3, .int v), (4, .int u), (5, .int (nI k))] := hl
      refine lv_iload hx hb dX0_breakingOfSample_8 (lv_at hl 5 rfl) ?_
      refine lv_bipush (v := 12) hx hb dX0_breakingOfSample_10 (by decide) ?_
      refine lv_icmp_ge (tgt := 63) hx hb dX0_breakingOfSample_12 (by decide) (fun c1 => ?_) (fun c1 => ?_)
      · skip
        have hfin : (v, S1) = V := Eq.trans (Eq.symm (Eq.trans (ge_X0_breakingOfSample_8 p0 p1 n k v u S1) ((if_pos c1)))) hres
        subst hfin
        exact kk _ _ hP hD hS _ (lv_sub hl [3] rfl)
      · skip
        have hk2 : k < 12 := lt_of_nle (N := 12) rfl hk c1 (by decide)
        refine lv_aload_n hx hb dX0_breakingOfSample_15 rfl (lv_at hl 0 rfl) ?_
        refine lv_iload hx hb dX0_breakingOfSample_16 (lv_at hl 5 rfl) ?_
        refine cpV (rest := []) (As := [.int (nI k)]) E (c_X0_hasWire l G A S1 r (nI k)) (cwV 1 hts gX0_breakingOfSample_X0_hasWire rfl rfl rfl (by decide +kernel) ⟨Nat.le_of_ble_eq_true rfl, Nat.le_of_ble_eq_true rfl⟩) hK hP (6 * 0) (wX_o G A S1 r 0 (by decide)) rfl rfl hl.1 rfl (Nat.le_of_ble_eq_true rfl) dX0_breakingOfSample_18 ⟨Nat.zero_le _, Nat.zero_le _⟩ ?_
        refine lv_if_ne (tgt := 27) hx hb dX0_breakingOfSample_21 (by decide) (fun c2 => ?_) (fun c2 => ?_)
        · skip
          refine lv_iload hx hb dX0_breakingOfSample_27 (lv_at hl 4 rfl) ?_
          refine lv_if_ne (tgt := 45) hx hb dX0_breakingOfSample_29 (by decide) (fun c3 => ?_) (fun c3 => ?_)
          · skip
            refine lv_iinc (v := (u + 1)) (lv' := [(4, .int (u + 1)), (0, .ref (A (6 * 0))), (1, .int p0), (2, .int p1), (3, .int v), (5, .int (nI k))]) hx hb dX0_breakingOfSample_45 hl (k := 4) rfl (rfl) (by decide) rfl (fun ls hl => ?_)
            refine lv_iload hx hb dX0_breakingOfSample_48 (lv_at hl 0 rfl) ?_
            refine lv_iload_n hx hb dX0_breakingOfSample_50 rfl (lv_at hl 2 rfl) ?_
            refine lv_icmp_ne (tgt := 57) hx hb dX0_breakingOfSample_51 (by decide) (fun c4 => ?_) (fun c4 => ?_)
            · skip
              refine lv_iinc (v := (nI (k + 1))) (lv' := [(5, .int (nI (k + 1))), (4, .int (u + 1)), (0, .ref (A (6 * 0))), (1, .int p0), (2, .int p1), (3, .int v)]) hx hb dX0_breakingOfSample_57 hl (k := 5) rfl (nI_1 k) (by decide) rfl (fun ls hl => ?_)
              refine lv_goto (tgt := 8) hx hb dX0_breakingOfSample_60 (by decide) ?_
              exact ih (k + 1) v (u + 1) S1 Q (by omega) (by omega) V (Eq.trans (Eq.symm (Eq.trans (ge_X0_breakingOfSample_8 p0 p1 n k v u S1) (Eq.trans (if_neg c1) (Eq.trans (if_neg c2) (Eq.trans (if_neg c3) ((if_neg c4))))))) hres) kk _ _ hP hD hS _ (lv_sub hl [2, 3, 4, 5, 1, 0] rfl)
            · skip
              refine lv_iconst (v := 0) hx hb dX0_breakingOfSample_54 (by decide) ?_
              refine lv_istore (lv' := [(4, .int 0), (0, .ref (A (6 * 0))), (1, .int p0), (2, .int p1), (3, .int v), (5, .int (nI k))]) hx hb dX0_breakingOfSample_55 hl (by decide) rfl (fun ls hl => ?_)
              refine lv_iinc (v := (nI (k + 1))) (lv' := [(5, .int (nI (k + 1))), (4, .int 0), (0, .ref (A (6 * 0))), (1, .int p0), (2, .int p1), (3, .int v)]) hx hb dX0_breakingOfSample_57 hl (k := 5) rfl (nI_1 k) (by decide) rfl (fun ls hl => ?_)
              refine lv_goto (tgt := 8) hx hb dX0_breakingOfSample_60 (by decide) ?_
              exact ih (k + 1) v 0 S1 Q (by omega) (by omega) V (Eq.trans (Eq.symm (Eq.trans (ge_X0_breakingOfSample_8 p0 p1 n k v u S1) (Eq.trans (if_neg c1) (Eq.trans (if_neg c2) (Eq.trans (if_neg c3) ((if_pos c4))))))) hres) kk _ _ hP hD hS _ (lv_sub hl [2, 3, 4, 5, 1, 0] rfl)
          · skip
            refine lv_aload_n hx hb dX0_breakingOfSample_32 rfl (lv_at hl 0 rfl) ?_
            refine lv_iload hx hb dX0_breakingOfSample_33 (lv_at hl 5 rfl) ?_
            refine lv_iload_n hx hb dX0_breakingOfSample_35 rfl (lv_at hl 2 rfl) ?_
            refine cmV (rest := []) (As := [.int (nI k), .int p1]) E (c_X0_breaksUnder l G A S1 r (nI k) p1) (cwV 2 hts gX0_breakingOfSample_X0_breaksUnder rfl rfl rfl (by decide +kernel) ⟨Nat.le_of_ble_eq_true rfl, Nat.le_of_ble_eq_true rfl⟩) hK hP hD hS hA (6 * 0) (wX_o G A S1 r 0 (by decide)) rfl rfl hl.1 rfl (Nat.le_of_ble_eq_true rfl) dX0_breakingOfSample_36 ⟨Nat.zero_le _, Nat.zero_le _⟩ (fun H locs hP hD hS => ?_)
            refine lv_if_eq (tgt := 45) hx hb dX0_breakingOfSample_39 (by decide) (fun c5 => ?_) (fun c5 => ?_)
            · skip
              refine lv_iinc (v := (u + 1)) (lv' := [(4, .int (u + 1)), (0, .ref (A (6 * 0))), (1, .int p0), (2, .int p1), (3, .int v), (5, .int (nI k))]) hx hb dX0_breakingOfSample_45 hl (k := 4) rfl (rfl) (by decide) rfl (fun ls hl => ?_)
              refine lv_iload hx hb dX0_breakingOfSample_48 (lv_at hl 0 rfl) ?_
              refine lv_iload_n hx hb dX0_breakingOfSample_50 rfl (lv_at hl 2 rfl) ?_
              refine lv_icmp_ne (tgt := 57) hx hb dX0_breakingOfSample_51 (by decide) (fun c6 => ?_) (fun c6 => ?_)
              · skip
                refine lv_iinc (v := (nI (k + 1))) (lv' := [(5, .int (nI (k + 1))), (4, .int (u + 1)), (0, .ref (A (6 * 0))), (1, .int p0), (2, .int p1), (3, .int v)]) hx hb dX0_breakingOfSample_57 hl (k := 5) rfl (nI_1 k) (by decide) rfl (fun ls hl => ?_)
                refine lv_goto (tgt := 8) hx hb dX0_breakingOfSample_60 (by decide) ?_
                exact ih (k + 1) v (u + 1) ((f_X0_breaksUnder S1 (nI k) p1).2) Q (by omega) (by omega) V (Eq.trans (Eq.symm (Eq.trans (ge_X0_breakingOfSample_8 p0 p1 n k v u S1) (Eq.trans (if_neg c1) (Eq.trans (if_neg c2) (Eq.trans (if_pos c3) (Eq.trans (if_pos c5) ((if_neg c6)))))))) hres) kk _ _ hP hD hS _ (lv_sub hl [2, 3, 4, 5, 1, 0] rfl)
              · skip
                refine lv_iconst (v := 0) hx hb dX0_breakingOfSample_54 (by decide) ?_
                refine lv_istore (lv' := [(4, .int 0), (0, .ref (A (6 * 0))), (1, .int p0), (2, .int p1), (3, .int v), (5, .int (nI k))]) hx hb dX0_breakingOfSample_55 hl (by decide) rfl (fun ls hl => ?_)
                refine lv_iinc (v := (nI (k + 1))) (lv' := [(5, .int (nI (k + 1))), (4, .int 0), (0, .ref (A (6 * 0))), (1, .int p0), (2, .int p1), (3, .int v)]) hx hb dX0_breakingOfSample_57 hl (k := 5) rfl (nI_1 k) (by decide) rfl (fun ls hl => ?_)
                refine lv_goto (tgt := 8) hx hb dX0_breakingOfSample_60 (by decide) ?_
                exact ih (k + 1) v 0 ((f_X0_breaksUnder S1 (nI k) p1).2) Q (by omega) (by omega) V (Eq.trans (Eq.symm (Eq.trans (ge_X0_breakingOfSample_8 p0 p1 n k v u S1) (Eq.trans (if_neg c1) (Eq.trans (if_neg c2) (Eq.trans (if_pos c3) (Eq.trans (if_pos c5) ((if_pos c6)))))))) hres) kk _ _ hP hD hS _ (lv_sub hl [2, 3, 4, 5, 1, 0] rfl)
            · skip
              refine lv_iinc (v := (v + 1)) (lv' := [(3, .int (v + 1)), (0, .ref (A (6 * 0))), (1, .int p0), (2, .int p1), (4, .int u), (5, .int (nI k))]) hx hb dX0_breakingOfSample_42 hl (k := 3) rfl (rfl) (by decide) rfl (fun ls hl => ?_)
              refine lv_iinc (v := (u + 1)) (lv' := [(4, .int (u + 1)), (3, .int (v + 1)), (0, .ref (A (6 * 0))), (1, .int p0), (2, .int p1), (5, .int (nI k))]) hx hb dX0_breakingOfSample_45 hl (k := 4) rfl (rfl) (by decide) rfl (fun ls hl => ?_)
              refine lv_iload hx hb dX0_breakingOfSample_48 (lv_at hl 0 rfl) ?_
              refine lv_iload_n hx hb dX0_breakingOfSample_50 rfl (lv_at hl 3 rfl) ?_
              refine lv_icmp_ne (tgt := 57) hx hb dX0_breakingOfSample_51 (by decide) (fun c7 => ?_) (fun c7 => ?_)
              · skip
                refine lv_iinc (v := (nI (k + 1))) (lv' := [(5, .int (nI (k + 1))), (4, .int (u + 1)), (3, .int (v + 1)), (0, .ref (A (6 * 0))), (1, .int p0), (2, .int p1)]) hx hb dX0_breakingOfSample_57 hl (k := 5) rfl (nI_1 k) (by decide) rfl (fun ls hl => ?_)
                refine lv_goto (tgt := 8) hx hb dX0_breakingOfSample_60 (by decide) ?_
                exact ih (k + 1) (v + 1) (u + 1) ((f_X0_breaksUnder S1 (nI k) p1).2) Q (by omega) (by omega) V (Eq.trans (Eq.symm (Eq.trans (ge_X0_breakingOfSample_8 p0 p1 n k v u S1) (Eq.trans (if_neg c1) (Eq.trans (if_neg c2) (Eq.trans (if_pos c3) (Eq.trans (if_neg c5) ((if_neg c7)))))))) hres) kk _ _ hP hD hS _ (lv_sub hl [3, 4, 5, 2, 1, 0] rfl)
              · skip
                refine lv_iconst (v := 0) hx hb dX0_breakingOfSample_54 (by decide) ?_
                refine lv_istore (lv' := [(4, .int 0), (3, .int (v + 1)), (0, .ref (A (6 * 0))), (1, .int p0), (2, .int p1), (5, .int (nI k))]) hx hb dX0_breakingOfSample_55 hl (by decide) rfl (fun ls hl => ?_)
                refine lv_iinc (v := (nI (k + 1))) (lv' := [(5, .int (nI (k + 1))), (4, .int 0), (3, .int (v + 1)), (0, .ref (A (6 * 0))), (1, .int p0), (2, .int p1)]) hx hb dX0_breakingOfSample_57 hl (k := 5) rfl (nI_1 k) (by decide) rfl (fun ls hl => ?_)
                refine lv_goto (tgt := 8) hx hb dX0_breakingOfSample_60 (by decide) ?_
                exact ih (k + 1) (v + 1) 0 ((f_X0_breaksUnder S1 (nI k) p1).2) Q (by omega) (by omega) V (Eq.trans (Eq.symm (Eq.trans (ge_X0_breakingOfSample_8 p0 p1 n k v u S1) (Eq.trans (if_neg c1) (Eq.trans (if_neg c2) (Eq.trans (if_pos c3) (Eq.trans (if_neg c5) ((if_pos c7)))))))) hres) kk _ _ hP hD hS _ (lv_sub hl [3, 4, 5, 2, 1, 0] rfl)
        · skip
          refine lv_goto (tgt := 57) hx hb dX0_breakingOfSample_24 (by decide) ?_
          refine lv_iinc (v := (nI (k + 1))) (lv' := [(5, .int (nI (k + 1))), (0, .ref (A (6 * 0))), (1, .int p0), (2, .int p1), (3, .int v), (4, .int u)]) hx hb dX0_breakingOfSample_57 hl (k := 5) rfl (nI_1 k) (by decide) rfl (fun ls hl => ?_)
          refine lv_goto (tgt := 8) hx hb dX0_breakingOfSample_60 (by decide) ?_
          exact ih (k + 1) v u S1 Q (by omega) (by omega) V (Eq.trans (Eq.symm (Eq.trans (ge_X0_breakingOfSample_8 p0 p1 n k v u S1) (Eq.trans (if_neg c1) ((if_pos c2))))) hres) kk _ _ hP hD hS _ (lv_sub hl [1, 2, 3, 4, 5, 0] rfl)
  refine lv_iconst (v := 0) hx hb dX0_breakingOfSample_0 (by decide) ?_
  refine lv_istore_n (lv' := [(3, .int 0), (0, .ref (A (6 * 0))), (1, .int p0), (2, .int p1)]) hx hb dX0_breakingOfSample_1 rfl hl (by decide) rfl (fun ls hl => ?_)
  refine lv_iconst (v := 0) hx hb dX0_breakingOfSample_2 (by decide) ?_
  refine lv_istore (lv' := [(4, .int 0), (3, .int 0), (0, .ref (A (6 * 0))), (1, .int p0), (2, .int p1)]) hx hb dX0_breakingOfSample_3 hl (by decide) rfl (fun ls hl => ?_)
  refine lv_iconst (v := 0) hx hb dX0_breakingOfSample_5 (by decide) ?_
  refine lv_istore (lv' := [(5, .int 0), (4, .int 0), (3, .int 0), (0, .ref (A (6 * 0))), (1, .int p0), (2, .int p1)]) hx hb dX0_breakingOfSample_6 hl (by decide) rfl (fun ls hl => ?_)
  refine LOOP8 13 0 0 0 S _ (by omega) (by omega) _ rfl (fun H locs hP hD hS ls hl => ?_) _ _ hP hD hS _ (lv_sub hl [3, 4, 5, 2, 1, 0] rfl)
  have hl : lv_has ls 6 [(3, .int ((g_X0_breakingOfSample_8 p0 p1 13 0 0 0 S).1))] := hl
  have hP : va_P G.1 vwCl (wX G A (g_X0_breakingOfSample_8 p0 p1 13 0 0 0 S).2 r) H := hP
  have hD : va_D A0 (wX G A (g_X0_breakingOfSample_8 p0 p1 13 0 0 0 S).2 r) := hD
  refine lv_iload_n hx hb dX0_breakingOfSample_63 rfl (lv_at hl 0 rfl) ?_
  have hfin : ((g_X0_breakingOfSample_8 p0 p1 13 0 0 0 S).1, (g_X0_breakingOfSample_8 p0 p1 13 0 0 0 S).2) = (f_X0_breakingOfSample S p0 p1) := Eq.symm ((e_X0_breakingOfSample S p0 p1))
  exact endM hx hb hr hlocks rfl hP hD hS ⟨@congrArg (Int32 × XS) Int32 ((g_X0_breakingOfSample_8 p0 p1 13 0 0 0 S).1, (g_X0_breakingOfSample_8 p0 p1 13 0 0 0 S).2) (f_X0_breakingOfSample S p0 p1) Prod.fst hfin, @congrArg (Int32 × XS) va_W ((g_X0_breakingOfSample_8 p0 p1 13 0 0 0 S).1, (g_X0_breakingOfSample_8 p0 p1 13 0 0 0 S).2) (f_X0_breakingOfSample S p0 p1) (fun z => wX G A z.2 r) hfin⟩ dX0_breakingOfSample_64
