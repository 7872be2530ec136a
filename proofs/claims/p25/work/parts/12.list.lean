theorem in_rng2 {x y : Int32} {N : Nat} (hy : y = nI N) (hN : N < 2147483648) (h0 : ¬ x < 0) (h1 : x < y) : vp_in x N := in_rng hy hN h0 (Int32.not_le.mpr h1)
noncomputable def f_X2_length (S : XS) : Int32 := opq (S 7 0 2)
theorem e_X2_length (S : XS) : f_X2_length S = (S 7 0 2) := opq_eq _
set_option maxHeartbeats 4000000 in
set_option maxRecDepth 100000 in
theorem c_X2_length (l : Launch) (G : GG) (A : Nat → Nat) (S : XS) (r : Nat)  : Mp l yX2_length wsX2_length ({ frames := 0, cells := 0, slots := 0, locals := 0 } : Room) G [.ref (A 45)] (wX G A S r) (f_X2_length S) := by
  refine Mp.of (cc := cX2_length) (maxL := 1) (ret := (some .int)) (by decide) rfl (Nat.le_of_ble_eq_true rfl) ?_
  intro p e s m args below meth c E hr hlocks hP hK ls hl
  have E : CallFix p m c cX2_length 1 s args wsX2_length RX2 := E
  have hx := E.1
  have hb := E.2.1
  have hml := E.2.2.1
  have hown := E.2.2.2.1
  have hts := E.2.2.2.2
  have hl : lv_has ls 1 [(0, .ref (A 45))] := hl
  have hinX2 : ∀ w ∈ u_ws RX2 TX2 7, w ∈ wsX2_length := fun _ h => List.mem_cons_of_mem _ (List.mem_append_right _ h)
  refine lv_aload_n hx hb dX2_length_0 rfl (lv_at hl 0 rfl) ?_
  refine va_get (D := G.1) (ci := 2) (v := .int (S 7 0 2)) (C := RX2) (T := TX2) (N := 7) hx hb hts hinX2 hown hK.1 hP 45 (wX_45 G A S r) rfl 1 (by decide) (hts (.fieldLink RX2 25 "WireLoops$WireList" "length" "I") (List.mem_of_getElem? (i := 1) rfl)) (fun _ h9 => h9) rfl dX2_length_1 ?_
  exact endP hx hb hr hlocks rfl (Eq.symm ((e_X2_length S))) dX2_length_4
noncomputable def f_X2_listed (S : XS) : Int32 := opq (S 7 0 4)
theorem e_X2_listed (S : XS) : f_X2_listed S = (S 7 0 4) := opq_eq _
set_option maxHeartbeats 4000000 in
set_option maxRecDepth 100000 in
theorem c_X2_listed (l : Launch) (G : GG) (A : Nat → Nat) (S : XS) (r : Nat)  : Mp l yX2_listed wsX2_listed ({ frames := 0, cells := 0, slots := 0, locals := 0 } : Room) G [.ref (A 45)] (wX G A S r) (f_X2_listed S) := by
  refine Mp.of (cc := cX2_listed) (maxL := 1) (ret := (some .int)) (by decide) rfl (Nat.le_of_ble_eq_true rfl) ?_
  intro p e s m args below meth c E hr hlocks hP hK ls hl
  have E : CallFix p m c cX2_listed 1 s args wsX2_listed RX2 := E
  have hx := E.1
  have hb := E.2.1
  have hml := E.2.2.1
  have hown := E.2.2.2.1
  have hts := E.2.2.2.2
  have hl : lv_has ls 1 [(0, .ref (A 45))] := hl
  have hinX2 : ∀ w ∈ u_ws RX2 TX2 7, w ∈ wsX2_listed := fun _ h => List.mem_cons_of_mem _ (List.mem_append_right _ h)
  refine lv_aload_n hx hb dX2_listed_0 rfl (lv_at hl 0 rfl) ?_
  refine va_get (D := G.1) (ci := 2) (v := .int (S 7 0 4)) (C := RX2) (T := TX2) (N := 7) hx hb hts hinX2 hown hK.1 hP 45 (wX_45 G A S r) rfl 6 (by decide) (hts (.fieldLink RX2 29 "WireLoops$WireList" "listed" "I") (List.mem_of_getElem? (i := 1) rfl)) (fun _ h9 => h9) rfl dX2_listed_1 ?_
  exact endP hx hb hr hlocks rfl (Eq.symm ((e_X2_listed S))) dX2_listed_4
noncomputable def f_X2_empty (S : XS) : XS := opq (su S 7 0 (upd (S 7 0) 2 0))
theorem e_X2_empty (S : XS) : f_X2_empty S = (su S 7 0 (upd (S 7 0) 2 0)) := opq_eq _
set_option maxHeartbeats 4000000 in
set_option maxRecDepth 100000 in
theorem c_X2_empty (l : Launch) (G : GG) (A : Nat → Nat) (S : XS) (r : Nat)  : Mz l yX2_empty wsX2_empty ({ frames := 0, cells := 0, slots := 0, locals := 0 } : Room) G [.ref (A 45)] (wX G A S r) (wX G A (f_X2_empty S) r) := by
  refine Mz.of (cc := cX2_empty) (maxL := 1) (ret := none) (by decide) rfl (Nat.le_of_ble_eq_true rfl) ?_
  intro p e s m args below meth c A0 hA0 E hr hlocks hP hK hD hA hS ls hl
  have E : CallFix p m c cX2_empty 1 s args wsX2_empty RX2 := E
  have hx := E.1
  have hb := E.2.1
  have hml := E.2.2.1
  have hown := E.2.2.2.1
  have hts := E.2.2.2.2
  have hl : lv_has ls 1 [(0, .ref (A 45))] := hl
  have hinX2 : ∀ w ∈ u_ws RX2 TX2 7, w ∈ wsX2_empty := fun _ h => List.mem_cons_of_mem _ (List.mem_append_right _ h)
  refine lv_aload_n hx hb dX2_empty_0 rfl (lv_at hl 0 rfl) ?_
  refine lv_iconst (v := 0) hx hb dX2_empty_1 (by decide) ?_
  refine va_put (D := G.1) (ci := 2) (v := .int 0) (ty := .int) (C := RX2) (T := TX2) (N := 7) hx hb hts hinX2 tyX2 tyX2_ok nmX2 hown hK.1 hP hD hS 45 (wX_45 G A S r) rfl 1 (by decide) (hts (.fieldLink RX2 25 "WireLoops$WireList" "length" "I") (List.mem_of_getElem? (i := 1) rfl)) (fun _ h9 => h9) rfl (by decide +kernel) rfl rfl (Nat.le_of_ble_eq_true rfl) dX2_empty_2 (fun H locs hP hD hS => ?_)
  rw [wX_s45_1 G A S r _] at hP hD
  have hP : va_P G.1 vwCl (wX G A (su S 7 0 (upd (S 7 0) 2 0)) r) H := hP
  have hD : va_D A0 (wX G A (su S 7 0 (upd (S 7 0) 2 0)) r) := hD
  have hfin : (su S 7 0 (upd (S 7 0) 2 0)) = (f_X2_empty S) := Eq.symm ((e_X2_empty S))
  exact endZ hx hb hr hlocks hP hD hS (@congrArg XS va_W (su S 7 0 (upd (S 7 0) 2 0)) (f_X2_empty S) (fun z => wX G A z r) hfin) dX2_empty_5
noncomputable def f_X2_append (S : XS) (p0 : Int32) : Int32 × XS := opq (if (S 7 0 2) < 80 then (1, (su (su S 7 1 (upd (S 7 1) (S 7 0 2).toNatClampNeg (vp_nar .char p0))) 7 0 (upd (S 7 0) 2 ((S 7 0 2) + 1)))) else (0, S))
theorem e_X2_append (S : XS) (p0 : Int32) : f_X2_append S p0 = (if (S 7 0 2) < 80 then (1, (su (su S 7 1 (upd (S 7 1) (S 7 0 2).toNatClampNeg (vp_nar .char p0))) 7 0 (upd (S 7 0) 2 ((S 7 0 2) + 1)))) else (0, S)) := opq_eq _
set_option maxHeartbeats 4000000 in
set_option maxRecDepth 100000 in
theorem c_X2_append (l : Launch) (G : GG) (A : Nat → Nat) (S : XS) (r : Nat) (p0 : Int32) (h : ¬ S 7 0 2 < 0) : Mm l yX2_append wsX2_append ({ frames := 0, cells := 0, slots := 0, locals := 0 } : Room) G [.ref (A 45), .int p0] (wX G A S r) (f_X2_append S p0).1 (wX G A (f_X2_append S p0).2 r) := by
  refine Mm.of (cc := cX2_append) (maxL := 2) (ret := (some .boolean)) (by decide) rfl (Nat.le_of_ble_eq_true rfl) ?_
  intro p e s m args below meth c A0 hA0 E hr hlocks hP hK hD hA hS ls hl
  have E : CallFix p m c cX2_append 2 s args wsX2_append RX2 := E
  have hx := E.1
  have hb := E.2.1
  have hml := E.2.2.1
  have hown := E.2.2.2.1
  have hts := E.2.2.2.2
  have hl : lv_has ls 2 [(0, .ref (A 45)), (1, .int p0)] := hl
  have hinX2 : ∀ w ∈ u_ws RX2 TX2 7, w ∈ wsX2_append := fun _ h => List.mem_cons_of_mem _ (List.mem_append_right _ h)
  refine lv_aload_n hx hb dX2_append_0 rfl (lv_at hl 0 rfl) ?_
  refine va_get (D := G.1) (ci := 2) (v := .int (S 7 0 2)) (C := RX2) (T := TX2) (N := 7) hx hb hts hinX2 hown hK.1 hP 45 (wX_45 G A S r) rfl 1 (by decide) (hts (.fieldLink RX2 25 "WireLoops$WireList" "length" "I") (List.mem_of_getElem? (i := 1) rfl)) (fun _ h9 => h9) rfl dX2_append_1 ?_
  refine lv_bipush (v := 80) hx hb dX2_append_4 (by decide) ?_
  refine lv_icmp_lt (tgt := 11) hx hb dX2_append_6 (by decide) (fun c1 => ?_) (fun c1 => ?_)
  · skip
    refine lv_aload_n hx hb dX2_append_11 rfl (lv_at hl 0 rfl) ?_
    refine va_get (D := G.1) (ci := 2) (v := .ref (A 46)) (C := RX2) (T := TX2) (N := 7) hx hb hts hinX2 hown hK.1 hP 45 (wX_45 G A S r) rfl 0 (by decide) (hts (.fieldLink RX2 9 "WireLoops$WireList" "characters" "[C") (List.mem_of_getElem? (i := 2) rfl)) (fun _ h9 => h9) rfl dX2_append_12 ?_
    refine lv_aload_n hx hb dX2_append_15 rfl (lv_at hl 0 rfl) ?_
    refine va_get (D := G.1) (ci := 2) (v := .int (S 7 0 2)) (C := RX2) (T := TX2) (N := 7) hx hb hts hinX2 hown hK.1 hP 45 (wX_45 G A S r) rfl 1 (by decide) (hts (.fieldLink RX2 25 "WireLoops$WireList" "length" "I") (List.mem_of_getElem? (i := 1) rfl)) (fun _ h9 => h9) rfl dX2_append_16 ?_
    refine lv_iload_n hx hb dX2_append_19 rfl (lv_at hl 1 rfl) ?_
    refine va_cast (D := G.1) hx hb hK.1 hP hD hS 46 1 (wX_46 G A S r) rfl (in_rng2 (y := 80) rfl (by decide) h (by assumption)) dX2_append_20 (fun H locs hP hD hS => ?_)
    rw [wX_s46 G A S r _] at hP hD
    have hP : va_P G.1 vwCl (wX G A (su S 7 1 (upd (S 7 1) (S 7 0 2).toNatClampNeg (vp_nar .char p0))) r) H := hP
    have hD : va_D A0 (wX G A (su S 7 1 (upd (S 7 1) (S 7 0 2).toNatClampNeg (vp_nar .char p0))) r) := hD
    refine lv_aload_n hx hb dX2_append_21 rfl (lv_at hl 0 rfl) ?_
    refine lv_dup hx hb dX2_append_22 rfl ?_
    refine va_get (D := G.1) (ci := 2) (v := .int (S 7 0 2)) (C := RX2) (T := TX2) (N := 7) hx hb hts hinX2 hown hK.1 hP 45 (wX_45 G A (su S 7 1 (upd (S 7 1) (S 7 0 2).toNatClampNeg (vp_nar .char p0))) r) rfl 1 (by decide) (hts (.fieldLink RX2 25 "WireLoops$WireList" "length" "I") (List.mem_of_getElem? (i := 1) rfl)) (fun _ h9 => h9) rfl dX2_append_23 ?_
    refine lv_iconst (v := 1) hx hb dX2_append_26 (by decide) ?_
    refine lv_iadd hx hb dX2_append_27 ?_
    refine va_put (D := G.1) (ci := 2) (v := .int ((S 7 0 2) + 1)) (ty := .int) (C := RX2) (T := TX2) (N := 7) hx hb hts hinX2 tyX2 tyX2_ok nmX2 hown hK.1 hP hD hS 45 (wX_45 G A (su S 7 1 (upd (S 7 1) (S 7 0 2).toNatClampNeg (vp_nar .char p0))) r) rfl 1 (by decide) (hts (.fieldLink RX2 25 "WireLoops$WireList" "length" "I") (List.mem_of_getElem? (i := 1) rfl)) (fun _ h9 => h9) rfl (by decide +kernel) rfl rfl (Nat.le_of_ble_eq_true rfl) dX2_append_28 (fun H locs hP hD hS => ?_)
    rw [wX_s45_1 G A (su S 7 1 (upd (S 7 1) (S 7 0 2).toNatClampNeg (vp_nar .char p0))) r _] at hP hD
    have hP : va_P G.1 vwCl (wX G A (su (su S 7 1 (upd (S 7 1) (S 7 0 2).toNatClampNeg (vp_nar .char p0))) 7 0 (upd (S 7 0) 2 ((S 7 0 2) + 1))) r) H := hP
    have hD : va_D A0 (wX G A (su (su S 7 1 (upd (S 7 1) (S 7 0 2).toNatClampNeg (vp_nar .char p0))) 7 0 (upd (S 7 0) 2 ((S 7 0 2) + 1))) r) := hD
    refine lv_iconst (v := 1) hx hb dX2_append_31 (by decide) ?_
    have hfin : (1, (su (su S 7 1 (upd (S 7 1) (S 7 0 2).toNatClampNeg (vp_nar .char p0))) 7 0 (upd (S 7 0) 2 ((S 7 0 2) + 1)))) = (f_X2_append S p0) := Eq.symm (Eq.trans (e_X2_append S p0) ((if_pos c1)))
    exact endM hx hb hr hlocks rfl hP hD hS ⟨@congrArg (Int32 × XS) Int32 (1, (su (su S 7 1 (upd (S 7 1) (S 7 0 2).toNatClampNeg (vp_nar .char p0))) 7 0 (upd (S 7 0) 2 ((S 7 0 2) + 1)))) (f_X2_append S p0) Prod.fst hfin, @congrArg (Int32 × XS) va_W (1, (su (su S 7 1 (upd (S 7 1) (S 7 0 2).toNatClampNeg (vp_nar .char p0))) 7 0 (upd (S 7 0) 2 ((S 7 0 2) + 1)))) (f_X2_append S p0) (fun z => wX G A z.2 r) hfin⟩ dX2_append_32
  · skip
    refine lv_iconst (v := 0) hx hb dX2_append_9 (by decide) ?_
    have hfin : (0, S) = (f_X2_append S p0) := Eq.symm (Eq.trans (e_X2_append S p0) ((if_neg c1)))
    exact endM hx hb hr hlocks rfl hP hD hS ⟨@congrArg (Int32 × XS) Int32 (0, S) (f_X2_append S p0) Prod.fst hfin, @congrArg (Int32 × XS) va_W (0, S) (f_X2_append S p0) (fun z => wX G A z.2 r) hfin⟩ dX2_append_10
noncomputable def f_X2_isListed (S : XS) (p0 : Int32) : Int32 := opq (if (f_X3_isWithin p0 0 19) = 0 then 0 else (if (S 7 0 4) ≤ p0 then 0 else 1))
theorem e_X2_isListed (S : XS) (p0 : Int32) : f_X2_isListed S p0 = (if (f_X3_isWithin p0 0 19) = 0 then 0 else (if (S 7 0 4) ≤ p0 then 0 else 1)) := opq_eq _
set_option maxHeartbeats 4000000 in
set_option maxRecDepth 100000 in
theorem c_X2_isListed (l : Launch) (G : GG) (A : Nat → Nat) (S : XS) (r : Nat) (p0 : Int32) : Mp l yX2_isListed wsX2_isListed ({ frames := 1, cells := 0, slots := 0, locals := 22 } : Room) G [.ref (A 45), .int p0] (wX G A S r) (f_X2_isListed S p0) := by
  refine Mp.of (cc := cX2_isListed) (maxL := 2) (ret := (some .boolean)) (by decide) rfl (Nat.le_of_ble_eq_true rfl) ?_
  intro p e s m args below meth c E hr hlocks hP hK ls hl
  have E : CallFix p m c cX2_isListed 2 s args wsX2_isListed RX2 := E
  have hx := E.1
  have hb := E.2.1
  have hml := E.2.2.1
  have hown := E.2.2.2.1
  have hts := E.2.2.2.2
  have hl : lv_has ls 2 [(0, .ref (A 45)), (1, .int p0)] := hl
  have hinX2 : ∀ w ∈ u_ws RX2 TX2 7, w ∈ wsX2_isListed := fun _ h => List.mem_cons_of_mem _ (List.mem_append_right _ h)
  refine lv_iload_n hx hb dX2_isListed_0 rfl (lv_at hl 1 rfl) ?_
  refine lv_iconst (v := 0) hx hb dX2_isListed_1 (by decide) ?_
  refine lv_bipush (v := 19) hx hb dX2_isListed_2 (by decide) ?_
  refine cpN (host := RX3) (rest := []) (As := [.int p0, .int 0, .int 19]) E (c_X3_isWithin l G A S r p0 0 19) (va_cnB 3 hts gX2_isListed_X3_isWithin_n36 rfl rfl rfl (hK.2 (.methodLinkNest RX2 36 yX3_isWithin RX3) (by decide +kernel)) (hts (.initialized RX3) (List.mem_of_getElem? (i := 3) rfl)) (by decide +kernel) ⟨Nat.le_of_ble_eq_true rfl, Nat.le_of_ble_eq_true rfl⟩) (hts (.static yX3_isWithin) (List.mem_of_getElem? (i := 2) rfl)) hK hP rfl hl.1 rfl (Nat.le_of_ble_eq_true rfl) dX2_isListed_4 ⟨Nat.zero_le _, Nat.zero_le _⟩ ?_
  refine lv_if_eq (tgt := 22) hx hb dX2_isListed_7 (by decide) (fun c1 => ?_) (fun c1 => ?_)
  · skip
    refine lv_iconst (v := 0) hx hb dX2_isListed_22 (by decide) ?_
    exact endP hx hb hr hlocks rfl (Eq.symm (Eq.trans (e_X2_isListed S p0) ((if_pos c1)))) dX2_isListed_23
  · skip
    refine lv_iload_n hx hb dX2_isListed_10 rfl (lv_at hl 1 rfl) ?_
    refine lv_aload_n hx hb dX2_isListed_11 rfl (lv_at hl 0 rfl) ?_
    refine va_get (D := G.1) (ci := 2) (v := .int (S 7 0 4)) (C := RX2) (T := TX2) (N := 7) hx hb hts hinX2 hown hK.1 hP 45 (wX_45 G A S r) rfl 6 (by decide) (hts (.fieldLink RX2 29 "WireLoops$WireList" "listed" "I") (List.mem_of_getElem? (i := 1) rfl)) (fun _ h9 => h9) rfl dX2_isListed_12 ?_
    refine lv_icmp_ge (tgt := 22) hx hb dX2_isListed_15 (by decide) (fun c2 => ?_) (fun c2 => ?_)
    · skip
      refine lv_iconst (v := 0) hx hb dX2_isListed_22 (by decide) ?_
      exact endP hx hb hr hlocks rfl (Eq.symm (Eq.trans (e_X2_isListed S p0) (Eq.trans (if_neg c1) ((if_pos c2))))) dX2_isListed_23
    · skip
      refine lv_iconst (v := 1) hx hb dX2_isListed_18 (by decide) ?_
      refine lv_goto (tgt := 23) hx hb dX2_isListed_19 (by decide) ?_
      exact endP hx hb hr hlocks rfl (Eq.symm (Eq.trans (e_X2_isListed S p0) (Eq.trans (if_neg c1) ((if_neg c2))))) dX2_isListed_23
theorem in_listed {S : XS} {x : Int32} (h : ¬ f_X2_isListed S x = 0) : vp_in x 20 := by
  have hw : ¬ f_X3_isWithin x 0 19 = 0 := fun e => h ((e_X2_isListed S x).trans (if_pos e))
  rw [e_X3_isWithin] at hw
  by_cases h0 : x < 0
  · exact absurd (if_pos h0) hw
  · rw [if_neg h0] at hw
    by_cases h1 : (19 : Int32) < x
    · exact absurd (if_pos h1) hw
    · have a := Int32.le_iff_toInt_le.mp (Int32.not_lt.mp h0)
      have b := Int32.le_iff_toInt_le.mp (Int32.not_lt.mp h1)
      rw [Int32.toInt_zero] at a
      rw [show (19 : Int32) = nI 19 from rfl, nI_toInt (by omega)] at b
      exact vp_in_iff.mpr ⟨a, by omega⟩
noncomputable def f_X2_listedPad (S : XS) (p0 : Int32) : Int32 := opq (if (f_X2_isListed S p0) = 0 then 0 else ((S 7 2) (p0).toNatClampNeg))
theorem e_X2_listedPad (S : XS) (p0 : Int32) : f_X2_listedPad S p0 = (if (f_X2_isListed S p0) = 0 then 0 else ((S 7 2) (p0).toNatClampNeg)) := opq_eq _
set_option maxHeartbeats 4000000 in
set_option maxRecDepth 100000 in
theorem c_X2_listedPad (l : Launch) (G : GG) (A : Nat → Nat) (S : XS) (r : Nat) (p0 : Int32) : Mp l yX2_listedPad wsX2_listedPad ({ frames := 2, cells := 0, slots := 0, locals := 43 } : Room) G [.ref (A 45), .int p0] (wX G A S r) (f_X2_listedPad S p0) := by
  refine Mp.of (cc := cX2_listedPad) (maxL := 2) (ret := (some .int)) (by decide) rfl (Nat.le_of_ble_eq_true rfl) ?_
  intro p e s m args below meth c E hr hlocks hP hK ls hl
  have E : CallFix p m c cX2_listedPad 2 s args wsX2_listedPad RX2 := E
  have hx := E.1
  have hb := E.2.1
  have hml := E.2.2.1
  have hown := E.2.2.2.1
  have hts := E.2.2.2.2
  have hl : lv_has ls 2 [(0, .ref (A 45)), (1, .int p0)] := hl
  have hinX2 : ∀ w ∈ u_ws RX2 TX2 7, w ∈ wsX2_listedPad := fun _ h => List.mem_cons_of_mem _ (List.mem_append_right _ h)
  refine lv_aload_n hx hb dX2_listedPad_0 rfl (lv_at hl 0 rfl) ?_
  refine lv_iload_n hx hb dX2_listedPad_1 rfl (lv_at hl 1 rfl) ?_
  refine cpV (rest := []) (As := [.int p0]) E (c_X2_isListed l G A S r p0) (cwV 1 hts gX2_listedPad_X2_isListed rfl rfl rfl (by decide +kernel) ⟨Nat.le_of_ble_eq_true rfl, Nat.le_of_ble_eq_true rfl⟩) hK hP 45 (wX_45 G A S r) rfl rfl hl.1 rfl (Nat.le_of_ble_eq_true rfl) dX2_listedPad_2 ⟨Nat.zero_le _, Nat.zero_le _⟩ ?_
  refine lv_if_eq (tgt := 17) hx hb dX2_listedPad_5 (by decide) (fun c1 => ?_) (fun c1 => ?_)
  · skip
    refine lv_iconst (v := 0) hx hb dX2_listedPad_17 (by decide) ?_
    exact endP hx hb hr hlocks rfl (Eq.symm (Eq.trans (e_X2_listedPad S p0) ((if_pos c1)))) dX2_listedPad_18
  · skip
    refine lv_aload_n hx hb dX2_listedPad_8 rfl (lv_at hl 0 rfl) ?_
    refine va_get (D := G.1) (ci := 2) (v := .ref (A 47)) (C := RX2) (T := TX2) (N := 7) hx hb hts hinX2 hown hK.1 hP 45 (wX_45 G A S r) rfl 3 (by decide) (hts (.fieldLink RX2 15 "WireLoops$WireList" "pads" "[I") (List.mem_of_getElem? (i := 1) rfl)) (fun _ h9 => h9) rfl dX2_listedPad_9 ?_
    refine lv_iload_n hx hb dX2_listedPad_12 rfl (lv_at hl 1 rfl) ?_
    refine va_iald (D := G.1) hx hb hK.1 hP 47 0 (wX_47 G A S r) rfl (in_listed (by assumption)) dX2_listedPad_13 ?_
    refine lv_goto (tgt := 18) hx hb dX2_listedPad_14 (by decide) ?_
    exact endP hx hb hr hlocks rfl (Eq.symm (Eq.trans (e_X2_listedPad S p0) ((if_neg c1)))) dX2_listedPad_18
noncomputable def f_X2_listedLead (S : XS) (p0 : Int32) : Int32 := opq (if (f_X2_isListed S p0) = 0 then 0 else ((S 7 3) (p0).toNatClampNeg))
theorem e_X2_listedLead (S : XS) (p0 : Int32) : f_X2_listedLead S p0 = (if (f_X2_isListed S p0) = 0 then 0 else ((S 7 3) (p0).toNatClampNeg)) := opq_eq _
set_option maxHeartbeats 4000000 in
set_option maxRecDepth 100000 in
theorem c_X2_listedLead (l : Launch) (G : GG) (A : Nat → Nat) (S : XS) (r : Nat) (p0 : Int32) : Mp l yX2_listedLead wsX2_listedLead ({ frames := 2, cells := 0, slots := 0, locals := 43 } : Room) G [.ref (A 45), .int p0] (wX G A S r) (f_X2_listedLead S p0) := by
  refine Mp.of (cc := cX2_listedLead) (maxL := 2) (ret := (some .int)) (by decide) rfl (Nat.le_of_ble_eq_true rfl) ?_
  intro p e s m args below meth c E hr hlocks hP hK ls hl
  have E : CallFix p m c cX2_listedLead 2 s args wsX2_listedLead RX2 := E
  have hx := E.1
  have hb := E.2.1
  have hml := E.2.2.1
  have hown := E.2.2.2.1
  have hts := E.2.2.2.2
  have hl : lv_has ls 2 [(0, .ref (A 45)), (1, .int p0)] := hl
  have hinX2 : ∀ w ∈ u_ws RX2 TX2 7, w ∈ wsX2_listedLead := fun _ h => List.mem_cons_of_mem _ (List.mem_append_right _ h)
  refine lv_aload_n hx hb dX2_listedLead_0 rfl (lv_at hl 0 rfl) ?_
  refine lv_iload_n hx hb dX2_listedLead_1 rfl (lv_at hl 1 rfl) ?_
  refine cpV (rest := []) (As := [.int p0]) E (c_X2_isListed l G A S r p0) (cwV 1 hts gX2_listedLead_X2_isListed rfl rfl rfl (by decide +kernel) ⟨Nat.le_of_ble_eq_true rfl, Nat.le_of_ble_eq_true rfl⟩) hK hP 45 (wX_45 G A S r) rfl rfl hl.1 rfl (Nat.le_of_ble_eq_true rfl) dX2_listedLead_2 ⟨Nat.zero_le _, Nat.zero_le _⟩ ?_
  refine lv_if_eq (tgt := 17) hx hb dX2_listedLead_5 (by decide) (fun c1 => ?_) (fun c1 => ?_)
  · skip
    refine lv_iconst (v := 0) hx hb dX2_listedLead_17 (by decide) ?_
    exact endP hx hb hr hlocks rfl (Eq.symm (Eq.trans (e_X2_listedLead S p0) ((if_pos c1)))) dX2_listedLead_18
  · skip
    refine lv_aload_n hx hb dX2_listedLead_8 rfl (lv_at hl 0 rfl) ?_
    refine va_get (D := G.1) (ci := 2) (v := .ref (A 48)) (C := RX2) (T := TX2) (N := 7) hx hb hts hinX2 hown hK.1 hP 45 (wX_45 G A S r) rfl 4 (by decide) (hts (.fieldLink RX2 19 "WireLoops$WireList" "leads" "[I") (List.mem_of_getElem? (i := 1) rfl)) (fun _ h9 => h9) rfl dX2_listedLead_9 ?_
    refine lv_iload_n hx hb dX2_listedLead_12 rfl (lv_at hl 1 rfl) ?_
    refine va_iald (D := G.1) hx hb hK.1 hP 48 0 (wX_48 G A S r) rfl (in_listed (by assumption)) dX2_listedLead_13 ?_
    refine lv_goto (tgt := 18) hx hb dX2_listedLead_14 (by decide) ?_
    exact endP hx hb hr hlocks rfl (Eq.symm (Eq.trans (e_X2_listedLead S p0) ((if_neg c1)))) dX2_listedLead_18
noncomputable def f_X2_listedHeight (S : XS) (p0 : Int32) : Int32 := opq (if (f_X2_isListed S p0) = 0 then 60 else ((S 7 4) (p0).toNatClampNeg))
theorem e_X2_listedHeight (S : XS) (p0 : Int32) : f_X2_listedHeight S p0 = (if (f_X2_isListed S p0) = 0 then 60 else ((S 7 4) (p0).toNatClampNeg)) := opq_eq _
set_option maxHeartbeats 4000000 in
set_option maxRecDepth 100000 in
theorem c_X2_listedHeight (l : Launch) (G : GG) (A : Nat → Nat) (S : XS) (r : Nat) (p0 : Int32) : Mp l yX2_listedHeight wsX2_listedHeight ({ frames := 2, cells := 0, slots := 0, locals := 43 } : Room) G [.ref (A 45), .int p0] (wX G A S r) (f_X2_listedHeight S p0) := by
  refine Mp.of (cc := cX2_listedHeight) (maxL := 2) (ret := (some .int)) (by decide) rfl (Nat.le_of_ble_eq_true rfl) ?_
  intro p e s m args below meth c E hr hlocks hP hK ls hl
  have E : CallFix p m c cX2_listedHeight 2 s args wsX2_listedHeight RX2 := E
  have hx := E.1
  have hb := E.2.1
  have hml := E.2.2.1
  have hown := E.2.2.2.1
  have hts := E.2.2.2.2
  have hl : lv_has ls 2 [(0, .ref (A 45)), (1, .int p0)] := hl
  have hinX2 : ∀ w ∈ u_ws RX2 TX2 7, w ∈ wsX2_listedHeight := fun _ h => List.mem_cons_of_mem _ (List.mem_append_right _ h)
  refine lv_aload_n hx hb dX2_listedHeight_0 rfl (lv_at hl 0 rfl) ?_
  refine lv_iload_n hx hb dX2_listedHeight_1 rfl (lv_at hl 1 rfl) ?_
  refine cpV (rest := []) (As := [.int p0]) E (c_X2_isListed l G A S r p0) (cwV 1 hts gX2_listedHeight_X2_isListed rfl rfl rfl (by decide +kernel) ⟨Nat.le_of_ble_eq_true rfl, Nat.le_of_ble_eq_true rfl⟩) hK hP 45 (wX_45 G A S r) rfl rfl hl.1 rfl (Nat.le_of_ble_eq_true rfl) dX2_listedHeight_2 ⟨Nat.zero_le _, Nat.zero_le _⟩ ?_
  refine lv_if_eq (tgt := 17) hx hb dX2_listedHeight_5 (by decide) (fun c1 => ?_) (fun c1 => ?_)
  · skip
    refine lv_bipush (v := 60) hx hb dX2_listedHeight_17 (by decide) ?_
    exact endP hx hb hr hlocks rfl (Eq.symm (Eq.trans (e_X2_listedHeight S p0) ((if_pos c1)))) dX2_listedHeight_19
  · skip
    refine lv_aload_n hx hb dX2_listedHeight_8 rfl (lv_at hl 0 rfl) ?_
    refine va_get (D := G.1) (ci := 2) (v := .ref (A 49)) (C := RX2) (T := TX2) (N := 7) hx hb hts hinX2 hown hK.1 hP 45 (wX_45 G A S r) rfl 5 (by decide) (hts (.fieldLink RX2 22 "WireLoops$WireList" "heights" "[I") (List.mem_of_getElem? (i := 1) rfl)) (fun _ h9 => h9) rfl dX2_listedHeight_9 ?_
    refine lv_iload_n hx hb dX2_listedHeight_12 rfl (lv_at hl 1 rfl) ?_
    refine va_iald (D := G.1) hx hb hK.1 hP 49 0 (wX_49 G A S r) rfl (in_listed (by assumption)) dX2_listedHeight_13 ?_
    refine lv_goto (tgt := 19) hx hb dX2_listedHeight_14 (by decide) ?_
    exact endP hx hb hr hlocks rfl (Eq.symm (Eq.trans (e_X2_listedHeight S p0) ((if_neg c1)))) dX2_listedHeight_19
noncomputable def f_X2_isAtCharacter (S : XS) : Int32 := opq (if (S 7 0 3) < 0 then 0 else (if (S 7 0 2) ≤ (S 7 0 3) then 0 else (if 80 ≤ (S 7 0 3) then 0 else 1)))
theorem e_X2_isAtCharacter (S : XS) : f_X2_isAtCharacter S = (if (S 7 0 3) < 0 then 0 else (if (S 7 0 2) ≤ (S 7 0 3) then 0 else (if 80 ≤ (S 7 0 3) then 0 else 1))) := opq_eq _
set_option maxHeartbeats 4000000 in
set_option maxRecDepth 100000 in
theorem c_X2_isAtCharacter (l : Launch) (G : GG) (A : Nat → Nat) (S : XS) (r : Nat)  : Mp l yX2_isAtCharacter wsX2_isAtCharacter ({ frames := 0, cells := 0, slots := 0, locals := 0 } : Room) G [.ref (A 45)] (wX G A S r) (f_X2_isAtCharacter S) := by
  refine Mp.of (cc := cX2_isAtCharacter) (maxL := 1) (ret := (some .boolean)) (by decide) rfl (Nat.le_of_ble_eq_true rfl) ?_
  intro p e s m args below meth c E hr hlocks hP hK ls hl
  have E : CallFix p m c cX2_isAtCharacter 1 s args wsX2_isAtCharacter RX2 := E
  have hx := E.1
  have hb := E.2.1
  have hml := E.2.2.1
  have hown := E.2.2.2.1
  have hts := E.2.2.2.2
  have hl : lv_has ls 1 [(0, .ref (A 45))] := hl
  have hinX2 : ∀ w ∈ u_ws RX2 TX2 7, w ∈ wsX2_isAtCharacter := fun _ h => List.mem_cons_of_mem _ (List.mem_append_right _ h)
  refine lv_aload_n hx hb dX2_isAtCharacter_0 rfl (lv_at hl 0 rfl) ?_
  refine va_get (D := G.1) (ci := 2) (v := .int (S 7 0 3)) (C := RX2) (T := TX2) (N := 7) hx hb hts hinX2 hown hK.1 hP 45 (wX_45 G A S r) rfl 2 (by decide) (hts (.fieldLink RX2 40 "WireLoops$WireList" "at" "I") (List.mem_of_getElem? (i := 1) rfl)) (fun _ h9 => h9) rfl dX2_isAtCharacter_1 ?_
  refine lv_if_lt (tgt := 31) hx hb dX2_isAtCharacter_4 (by decide) (fun c1 => ?_) (fun c1 => ?_)
  · skip
    refine lv_iconst (v := 0) hx hb dX2_isAtCharacter_31 (by decide) ?_
    exact endP hx hb hr hlocks rfl (Eq.symm (Eq.trans (e_X2_isAtCharacter S) ((if_pos c1)))) dX2_isAtCharacter_32
  · skip
    refine lv_aload_n hx hb dX2_isAtCharacter_7 rfl (lv_at hl 0 rfl) ?_
    refine va_get (D := G.1) (ci := 2) (v := .int (S 7 0 3)) (C := RX2) (T := TX2) (N := 7) hx hb hts hinX2 hown hK.1 hP 45 (wX_45 G A S r) rfl 2 (by decide) (hts (.fieldLink RX2 40 "WireLoops$WireList" "at" "I") (List.mem_of_getElem? (i := 1) rfl)) (fun _ h9 => h9) rfl dX2_isAtCharacter_8 ?_
    refine lv_aload_n hx hb dX2_isAtCharacter_11 rfl (lv_at hl 0 rfl) ?_
    refine va_get (D := G.1) (ci := 2) (v := .int (S 7 0 2)) (C := RX2) (T := TX2) (N := 7) hx hb hts hinX2 hown hK.1 hP 45 (wX_45 G A S r) rfl 1 (by decide) (hts (.fieldLink RX2 25 "WireLoops$WireList" "length" "I") (List.mem_of_getElem? (i := 2) rfl)) (fun _ h9 => h9) rfl dX2_isAtCharacter_12 ?_
    refine lv_icmp_ge (tgt := 31) hx hb dX2_isAtCharacter_15 (by decide) (fun c2 => ?_) (fun c2 => ?_)
    · skip
      refine lv_iconst (v := 0) hx hb dX2_isAtCharacter_31 (by decide) ?_
      exact endP hx hb hr hlocks rfl (Eq.symm (Eq.trans (e_X2_isAtCharacter S) (Eq.trans (if_neg c1) ((if_pos c2))))) dX2_isAtCharacter_32
    · skip
      refine lv_aload_n hx hb dX2_isAtCharacter_18 rfl (lv_at hl 0 rfl) ?_
      refine va_get (D := G.1) (ci := 2) (v := .int (S 7 0 3)) (C := RX2) (T := TX2) (N := 7) hx hb hts hinX2 hown hK.1 hP 45 (wX_45 G A S r) rfl 2 (by decide) (hts (.fieldLink RX2 40 "WireLoops$WireList" "at" "I") (List.mem_of_getElem? (i := 1) rfl)) (fun _ h9 => h9) rfl dX2_isAtCharacter_19 ?_
      refine lv_bipush (v := 80) hx hb dX2_isAtCharacter_22 (by decide) ?_
      refine lv_icmp_ge (tgt := 31) hx hb dX2_isAtCharacter_24 (by decide) (fun c3 => ?_) (fun c3 => ?_)
      · skip
        refine lv_iconst (v := 0) hx hb dX2_isAtCharacter_31 (by decide) ?_
        exact endP hx hb hr hlocks rfl (Eq.symm (Eq.trans (e_X2_isAtCharacter S) (Eq.trans (if_neg c1) (Eq.trans (if_neg c2) ((if_pos c3)))))) dX2_isAtCharacter_32
      · skip
        refine lv_iconst (v := 1) hx hb dX2_isAtCharacter_27 (by decide) ?_
        refine lv_goto (tgt := 32) hx hb dX2_isAtCharacter_28 (by decide) ?_
        exact endP hx hb hr hlocks rfl (Eq.symm (Eq.trans (e_X2_isAtCharacter S) (Eq.trans (if_neg c1) (Eq.trans (if_neg c2) ((if_neg c3)))))) dX2_isAtCharacter_32
theorem in_at {S : XS} (h : ¬ f_X2_isAtCharacter S = 0) : vp_in (S 7 0 3) 80 := by
  rw [e_X2_isAtCharacter] at h
  by_cases h0 : S 7 0 3 < 0
  · exact absurd (if_pos h0) h
  · rw [if_neg h0] at h
    by_cases h1 : S 7 0 2 ≤ S 7 0 3
    · exact absurd (if_pos h1) h
    · rw [if_neg h1] at h
      by_cases h2 : (80 : Int32) ≤ S 7 0 3
      · exact absurd (if_pos h2) h
      · exact in_rng rfl (by decide) h0 h2
noncomputable def f_X2_digitHere (S : XS) : Int32 := opq (if (f_X2_isAtCharacter S) = 0 then (-1) else (if (f_X3_isWithin (((S 7 1) (S 7 0 3).toNatClampNeg) - 48) 0 9) = 0 then (-1) else (((S 7 1) (S 7 0 3).toNatClampNeg) - 48)))
theorem e_X2_digitHere (S : XS) : f_X2_digitHere S = (if (f_X2_isAtCharacter S) = 0 then (-1) else (if (f_X3_isWithin (((S 7 1) (S 7 0 3).toNatClampNeg) - 48) 0 9) = 0 then (-1) else (((S 7 1) (S 7 0 3).toNatClampNeg) - 48))) := opq_eq _
set_option maxHeartbeats 4000000 in
set_option maxRecDepth 100000 in
theorem c_X2_digitHere (l : Launch) (G : GG) (A : Nat → Nat) (S : XS) (r : Nat)  : Mp l yX2_digitHere wsX2_digitHere ({ frames := 1, cells := 0, slots := 0, locals := 22 } : Room) G [.ref (A 45)] (wX G A S r) (f_X2_digitHere S) := by
  refine Mp.of (cc := cX2_digitHere) (maxL := 2) (ret := (some .int)) (by decide) rfl (Nat.le_of_ble_eq_true rfl) ?_
  intro p e s m args below meth c E hr hlocks hP hK ls hl
  have E : CallFix p m c cX2_digitHere 2 s args wsX2_digitHere RX2 := E
  have hx := E.1
  have hb := E.2.1
  have hml := E.2.2.1
  have hown := E.2.2.2.1
  have hts := E.2.2.2.2
  have hl : lv_has ls 2 [(0, .ref (A 45))] := hl
  have hinX2 : ∀ w ∈ u_ws RX2 TX2 7, w ∈ wsX2_digitHere := fun _ h => List.mem_cons_of_mem _ (List.mem_append_right _ h)
  refine lv_aload_n hx hb dX2_digitHere_0 rfl (lv_at hl 0 rfl) ?_
  refine cpV (rest := []) (As := []) E (c_X2_isAtCharacter l G A S r) (cwV 0 hts gX2_digitHere_X2_isAtCharacter rfl rfl rfl (by decide +kernel) ⟨Nat.le_of_ble_eq_true rfl, Nat.le_of_ble_eq_true rfl⟩) hK hP 45 (wX_45 G A S r) rfl rfl hl.1 rfl (Nat.le_of_ble_eq_true rfl) dX2_digitHere_1 ⟨Nat.zero_le _, Nat.zero_le _⟩ ?_
  refine lv_if_ne (tgt := 9) hx hb dX2_digitHere_4 (by decide) (fun c1 => ?_) (fun c1 => ?_)
  · skip
    refine lv_aload_n hx hb dX2_digitHere_9 rfl (lv_at hl 0 rfl) ?_
    refine va_get (D := G.1) (ci := 2) (v := .ref (A 46)) (C := RX2) (T := TX2) (N := 7) hx hb hts hinX2 hown hK.1 hP 45 (wX_45 G A S r) rfl 0 (by decide) (hts (.fieldLink RX2 9 "WireLoops$WireList" "characters" "[C") (List.mem_of_getElem? (i := 1) rfl)) (fun _ h9 => h9) rfl dX2_digitHere_10 ?_
    refine lv_aload_n hx hb dX2_digitHere_13 rfl (lv_at hl 0 rfl) ?_
    refine va_get (D := G.1) (ci := 2) (v := .int (S 7 0 3)) (C := RX2) (T := TX2) (N := 7) hx hb hts hinX2 hown hK.1 hP 45 (wX_45 G A S r) rfl 2 (by decide) (hts (.fieldLink RX2 40 "WireLoops$WireList" "at" "I") (List.mem_of_getElem? (i := 2) rfl)) (fun _ h9 => h9) rfl dX2_digitHere_14 ?_
    refine va_cald (D := G.1) hx hb hK.1 hP 46 1 (wX_46 G A S r) rfl (in_at (by assumption)) dX2_digitHere_17 ?_
    refine lv_bipush (v := 48) hx hb dX2_digitHere_18 (by decide) ?_
    refine lv_isub hx hb dX2_digitHere_20 ?_
    refine lv_istore_n (lv' := [(1, .int (((S 7 1) (S 7 0 3).toNatClampNeg) - 48)), (0, .ref (A 45))]) hx hb dX2_digitHere_21 rfl hl (by decide) rfl (fun ls hl => ?_)
    refine lv_iload_n hx hb dX2_digitHere_22 rfl (lv_at hl 0 rfl) ?_
    refine lv_iconst (v := 0) hx hb dX2_digitHere_23 (by decide) ?_
    refine lv_bipush (v := 9) hx hb dX2_digitHere_24 (by decide) ?_
    refine cpN (host := RX3) (rest := []) (As := [.int (((S 7 1) (S 7 0 3).toNatClampNeg) - 48), .int 0, .int 9]) E (c_X3_isWithin l G A S r (((S 7 1) (S 7 0 3).toNatClampNeg) - 48) 0 9) (va_cnB 3 hts gX2_digitHere_X3_isWithin_n36 rfl rfl rfl (hK.2 (.methodLinkNest RX2 36 yX3_isWithin RX3) (by decide +kernel)) (hts (.initialized RX3) (List.mem_of_getElem? (i := 10) rfl)) (by decide +kernel) ⟨Nat.le_of_ble_eq_true rfl, Nat.le_of_ble_eq_true rfl⟩) (hts (.static yX3_isWithin) (List.mem_of_getElem? (i := 9) rfl)) hK hP rfl hl.1 rfl (Nat.le_of_ble_eq_true rfl) dX2_digitHere_26 ⟨Nat.zero_le _, Nat.zero_le _⟩ ?_
    refine lv_if_eq (tgt := 36) hx hb dX2_digitHere_29 (by decide) (fun c2 => ?_) (fun c2 => ?_)
    · skip
      refine lv_iconst (v := (-1)) hx hb dX2_digitHere_36 (by decide) ?_
      exact endP hx hb hr hlocks rfl (Eq.symm (Eq.trans (e_X2_digitHere S) (Eq.trans (if_neg c1) ((if_pos c2))))) dX2_digitHere_37
    · skip
      refine lv_iload_n hx hb dX2_digitHere_32 rfl (lv_at hl 0 rfl) ?_
      refine lv_goto (tgt := 37) hx hb dX2_digitHere_33 (by decide) ?_
      exact endP hx hb hr hlocks rfl (Eq.symm (Eq.trans (e_X2_digitHere S) (Eq.trans (if_neg c1) ((if_neg c2))))) dX2_digitHere_37
  · skip
    refine lv_iconst (v := (-1)) hx hb dX2_digitHere_7 (by decide) ?_
    exact endP hx hb hr hlocks rfl (Eq.symm (Eq.trans (e_X2_digitHere S) ((if_pos c1)))) dX2_digitHere_8
noncomputable def f_X2_passBy (S : XS) (p0 : Int32) : Int32 × XS := opq (if (f_X2_isAtCharacter S) = 0 then (0, S) else (if ((S 7 1) (S 7 0 3).toNatClampNeg) = p0 then (1, (su S 7 0 (upd (S 7 0) 3 ((S 7 0 3) + 1)))) else (0, S)))
theorem e_X2_passBy (S : XS) (p0 : Int32) : f_X2_passBy S p0 = (if (f_X2_isAtCharacter S) = 0 then (0, S) else (if ((S 7 1) (S 7 0 3).toNatClampNeg) = p0 then (1, (su S 7 0 (upd (S 7 0) 3 ((S 7 0 3) + 1)))) else (0, S))) := opq_eq _
set_option maxHeartbeats 4000000 in
set_option maxRecDepth 100000 in
theorem c_X2_passBy (l : Launch) (G : GG) (A : Nat → Nat) (S : XS) (r : Nat) (p0 : Int32) : Mm l yX2_passBy wsX2_passBy ({ frames := 1, cells := 0, slots := 0, locals := 20 } : Room) G [.ref (A 45), .int p0] (wX G A S r) (f_X2_passBy S p0).1 (wX G A (f_X2_passBy S p0).2 r) := by
  refine Mm.of (cc := cX2_passBy) (maxL := 2) (ret := (some .boolean)) (by decide) rfl (Nat.le_of_ble_eq_true rfl) ?_
  intro p e s m args below meth c A0 hA0 E hr hlocks hP hK hD hA hS ls hl
  have E : CallFix p m c cX2_passBy 2 s args wsX2_passBy RX2 := E
  have hx := E.1
  have hb := E.2.1
  have hml := E.2.2.1
  have hown := E.2.2.2.1
  have hts := E.2.2.2.2
  have hl : lv_has ls 2 [(0, .ref (A 45)), (1, .int p0)] := hl
  have hinX2 : ∀ w ∈ u_ws RX2 TX2 7, w ∈ wsX2_passBy := fun _ h => List.mem_cons_of_mem _ (List.mem_append_right _ h)
  refine lv_aload_n hx hb dX2_passBy_0 rfl (lv_at hl 0 rfl) ?_
  refine cpV (rest := []) (As := []) E (c_X2_isAtCharacter l G A S r) (cwV 0 hts gX2_passBy_X2_isAtCharacter rfl rfl rfl (by decide +kernel) ⟨Nat.le_of_ble_eq_true rfl, Nat.le_of_ble_eq_true rfl⟩) hK hP 45 (wX_45 G A S r) rfl rfl hl.1 rfl (Nat.le_of_ble_eq_true rfl) dX2_passBy_1 ⟨Nat.zero_le _, Nat.zero_le _⟩ ?_
  refine lv_if_eq (tgt := 20) hx hb dX2_passBy_4 (by decide) (fun c1 => ?_) (fun c1 => ?_)
  · skip
    refine lv_iconst (v := 0) hx hb dX2_passBy_20 (by decide) ?_
    have hfin : (0, S) = (f_X2_passBy S p0) := Eq.symm (Eq.trans (e_X2_passBy S p0) ((if_pos c1)))
    exact endM hx hb hr hlocks rfl hP hD hS ⟨@congrArg (Int32 × XS) Int32 (0, S) (f_X2_passBy S p0) Prod.fst hfin, @congrArg (Int32 × XS) va_W (0, S) (f_X2_passBy S p0) (fun z => wX G A z.2 r) hfin⟩ dX2_passBy_21
  · skip
    refine lv_aload_n hx hb dX2_passBy_7 rfl (lv_at hl 0 rfl) ?_
    refine va_get (D := G.1) (ci := 2) (v := .ref (A 46)) (C := RX2) (T := TX2) (N := 7) hx hb hts hinX2 hown hK.1 hP 45 (wX_45 G A S r) rfl 0 (by decide) (hts (.fieldLink RX2 9 "WireLoops$WireList" "characters" "[C") (List.mem_of_getElem? (i := 1) rfl)) (fun _ h9 => h9) rfl dX2_passBy_8 ?_
    refine lv_aload_n hx hb dX2_passBy_11 rfl (lv_at hl 0 rfl) ?_
    refine va_get (D := G.1) (ci := 2) (v := .int (S 7 0 3)) (C := RX2) (T := TX2) (N := 7) hx hb hts hinX2 hown hK.1 hP 45 (wX_45 G A S r) rfl 2 (by decide) (hts (.fieldLink RX2 40 "WireLoops$WireList" "at" "I") (List.mem_of_getElem? (i := 2) rfl)) (fun _ h9 => h9) rfl dX2_passBy_12 ?_
    refine va_cald (D := G.1) hx hb hK.1 hP 46 1 (wX_46 G A S r) rfl (in_at (by assumption)) dX2_passBy_15 ?_
    refine lv_iload_n hx hb dX2_passBy_16 rfl (lv_at hl 1 rfl) ?_
    refine lv_icmp_eq (tgt := 22) hx hb dX2_passBy_17 (by decide) (fun c2 => ?_) (fun c2 => ?_)
    · skip
      refine lv_aload_n hx hb dX2_passBy_22 rfl (lv_at hl 0 rfl) ?_
      refine lv_dup hx hb dX2_passBy_23 rfl ?_
      refine va_get (D := G.1) (ci := 2) (v := .int (S 7 0 3)) (C := RX2) (T := TX2) (N := 7) hx hb hts hinX2 hown hK.1 hP 45 (wX_45 G A S r) rfl 2 (by decide) (hts (.fieldLink RX2 40 "WireLoops$WireList" "at" "I") (List.mem_of_getElem? (i := 2) rfl)) (fun _ h9 => h9) rfl dX2_passBy_24 ?_
      refine lv_iconst (v := 1) hx hb dX2_passBy_27 (by decide) ?_
      refine lv_iadd hx hb dX2_passBy_28 ?_
      refine va_put (D := G.1) (ci := 2) (v := .int ((S 7 0 3) + 1)) (ty := .int) (C := RX2) (T := TX2) (N := 7) hx hb hts hinX2 tyX2 tyX2_ok nmX2 hown hK.1 hP hD hS 45 (wX_45 G A S r) rfl 2 (by decide) (hts (.fieldLink RX2 40 "WireLoops$WireList" "at" "I") (List.mem_of_getElem? (i := 2) rfl)) (fun _ h9 => h9) rfl (by decide +kernel) rfl rfl (Nat.le_of_ble_eq_true rfl) dX2_passBy_29 (fun H locs hP hD hS => ?_)
      rw [wX_s45_2 G A S r _] at hP hD
      have hP : va_P G.1 vwCl (wX G A (su S 7 0 (upd (S 7 0) 3 ((S 7 0 3) + 1))) r) H := hP
      have hD : va_D A0 (wX G A (su S 7 0 (upd (S 7 0) 3 ((S 7 0 3) + 1))) r) := hD
      refine lv_iconst (v := 1) hx hb dX2_passBy_32 (by decide) ?_
      have hfin : (1, (su S 7 0 (upd (S 7 0) 3 ((S 7 0 3) + 1)))) = (f_X2_passBy S p0) := Eq.symm (Eq.trans (e_X2_passBy S p0) (Eq.trans (if_neg c1) ((if_pos c2))))
      exact endM hx hb hr hlocks rfl hP hD hS ⟨@congrArg (Int32 × XS) Int32 (1, (su S 7 0 (upd (S 7 0) 3 ((S 7 0 3) + 1)))) (f_X2_passBy S p0) Prod.fst hfin, @congrArg (Int32 × XS) va_W (1, (su S 7 0 (upd (S 7 0) 3 ((S 7 0 3) + 1)))) (f_X2_passBy S p0) (fun z => wX G A z.2 r) hfin⟩ dX2_passBy_33
    · skip
      refine lv_iconst (v := 0) hx hb dX2_passBy_20 (by decide) ?_
      have hfin : (0, S) = (f_X2_passBy S p0) := Eq.symm (Eq.trans (e_X2_passBy S p0) (Eq.trans (if_neg c1) ((if_neg c2))))
      exact endM hx hb hr hlocks rfl hP hD hS ⟨@congrArg (Int32 × XS) Int32 (0, S) (f_X2_passBy S p0) Prod.fst hfin, @congrArg (Int32 × XS) va_W (0, S) (f_X2_passBy S p0) (fun z => wX G A z.2 r) hfin⟩ dX2_passBy_21
noncomputable def f_X2_withDigit (S : XS) (p0 p1 : Int32) : Int32 × XS := opq (if (f_X2_digitHere S) = (-1) then (p0, S) else (if ((10 * p0) + (f_X2_digitHere S)) ≤ p1 then (((10 * p0) + (f_X2_digitHere S)), (su S 7 0 (upd (S 7 0) 3 ((S 7 0 3) + 1)))) else (p0, S)))
theorem e_X2_withDigit (S : XS) (p0 p1 : Int32) : f_X2_withDigit S p0 p1 = (if (f_X2_digitHere S) = (-1) then (p0, S) else (if ((10 * p0) + (f_X2_digitHere S)) ≤ p1 then (((10 * p0) + (f_X2_digitHere S)), (su S 7 0 (upd (S 7 0) 3 ((S 7 0 3) + 1)))) else (p0, S))) := opq_eq _
set_option maxHeartbeats 4000000 in
set_option maxRecDepth 100000 in
theorem c_X2_withDigit (l : Launch) (G : GG) (A : Nat → Nat) (S : XS) (r : Nat) (p0 p1 : Int32) : Mm l yX2_withDigit wsX2_withDigit ({ frames := 2, cells := 0, slots := 0, locals := 43 } : Room) G [.ref (A 45), .int p0, .int p1] (wX G A S r) (f_X2_withDigit S p0 p1).1 (wX G A (f_X2_withDigit S p0 p1).2 r) := by
  refine Mm.of (cc := cX2_withDigit) (maxL := 4) (ret := (some .int)) (by decide) rfl (Nat.le_of_ble_eq_true rfl) ?_
  intro p e s m args below meth c A0 hA0 E hr hlocks hP hK hD hA hS ls hl
  have E : CallFix p m c cX2_withDigit 4 s args wsX2_withDigit RX2 := E
  have hx := E.1
  have hb := E.2.1
  have hml := E.2.2.1
  have hown := E.2.2.2.1
  have hts := E.2.2.2.2
  have hl : lv_has ls 4 [(0, .ref (A 45)), (1, .int p0), (2, .int p1)] := hl
  have hinX2 : ∀ w ∈ u_ws RX2 TX2 7, w ∈ wsX2_withDigit := fun _ h => List.mem_cons_of_mem _ (List.mem_append_right _ h)
  refine lv_aload_n hx hb dX2_withDigit_0 rfl (lv_at hl 0 rfl) ?_
  refine cpV (rest := []) (As := []) E (c_X2_digitHere l G A S r) (cwV 0 hts gX2_withDigit_X2_digitHere rfl rfl rfl (by decide +kernel) ⟨Nat.le_of_ble_eq_true rfl, Nat.le_of_ble_eq_true rfl⟩) hK hP 45 (wX_45 G A S r) rfl rfl hl.1 rfl (Nat.le_of_ble_eq_true rfl) dX2_withDigit_1 ⟨Nat.zero_le _, Nat.zero_le _⟩ ?_
  refine lv_istore_n (lv' := [(3, .int (f_X2_digitHere S)), (0, .ref (A 45)), (1, .int p0), (2, .int p1)]) hx hb dX2_withDigit_4 rfl hl (by decide) rfl (fun ls hl => ?_)
  refine lv_iload_n hx hb dX2_withDigit_5 rfl (lv_at hl 0 rfl) ?_
  refine lv_iconst (v := (-1)) hx hb dX2_withDigit_6 (by decide) ?_
  refine lv_icmp_eq (tgt := 20) hx hb dX2_withDigit_7 (by decide) (fun c1 => ?_) (fun c1 => ?_)
  · skip
    refine lv_iload_n hx hb dX2_withDigit_20 rfl (lv_at hl 2 rfl) ?_
    have hfin : (p0, S) = (f_X2_withDigit S p0 p1) := Eq.symm (Eq.trans (e_X2_withDigit S p0 p1) ((if_pos c1)))
    exact endM hx hb hr hlocks rfl hP hD hS ⟨@congrArg (Int32 × XS) Int32 (p0, S) (f_X2_withDigit S p0 p1) Prod.fst hfin, @congrArg (Int32 × XS) va_W (p0, S) (f_X2_withDigit S p0 p1) (fun z => wX G A z.2 r) hfin⟩ dX2_withDigit_21
  · skip
    refine lv_bipush (v := 10) hx hb dX2_withDigit_10 (by decide) ?_
    refine lv_iload_n hx hb dX2_withDigit_12 rfl (lv_at hl 2 rfl) ?_
    refine lv_imul hx hb dX2_withDigit_13 ?_
    refine lv_iload_n hx hb dX2_withDigit_14 rfl (lv_at hl 0 rfl) ?_
    refine lv_iadd hx hb dX2_withDigit_15 ?_
    refine lv_iload_n hx hb dX2_withDigit_16 rfl (lv_at hl 3 rfl) ?_
    refine lv_icmp_le (tgt := 22) hx hb dX2_withDigit_17 (by decide) (fun c2 => ?_) (fun c2 => ?_)
    · skip
      refine lv_aload_n hx hb dX2_withDigit_22 rfl (lv_at hl 1 rfl) ?_
      refine lv_dup hx hb dX2_withDigit_23 rfl ?_
      refine va_get (D := G.1) (ci := 2) (v := .int (S 7 0 3)) (C := RX2) (T := TX2) (N := 7) hx hb hts hinX2 hown hK.1 hP 45 (wX_45 G A S r) rfl 2 (by decide) (hts (.fieldLink RX2 40 "WireLoops$WireList" "at" "I") (List.mem_of_getElem? (i := 1) rfl)) (fun _ h9 => h9) rfl dX2_withDigit_24 ?_
      refine lv_iconst (v := 1) hx hb dX2_withDigit_27 (by decide) ?_
      refine lv_iadd hx hb dX2_withDigit_28 ?_
      refine va_put (D := G.1) (ci := 2) (v := .int ((S 7 0 3) + 1)) (ty := .int) (C := RX2) (T := TX2) (N := 7) hx hb hts hinX2 tyX2 tyX2_ok nmX2 hown hK.1 hP hD hS 45 (wX_45 G A S r) rfl 2 (by decide) (hts (.fieldLink RX2 40 "WireLoops$WireList" "at" "I") (List.mem_of_getElem? (i := 1) rfl)) (fun _ h9 => h9) rfl (by decide +kernel) rfl rfl (Nat.le_of_ble_eq_true rfl) dX2_withDigit_29 (fun H locs hP hD hS => ?_)
      rw [wX_s45_2 G A S r _] at hP hD
      have hP : va_P G.1 vwCl (wX G A (su S 7 0 (upd (S 7 0) 3 ((S 7 0 3) + 1))) r) H := hP
      have hD : va_D A0 (wX G A (su S 7 0 (upd (S 7 0) 3 ((S 7 0 3) + 1))) r) := hD
      refine lv_bipush (v := 10) hx hb dX2_withDigit_32 (by decide) ?_
      refine lv_iload_n hx hb dX2_withDigit_34 rfl (lv_at hl 2 rfl) ?_
      refine lv_imul hx hb dX2_withDigit_35 ?_
      refine lv_iload_n hx hb dX2_withDigit_36 rfl (lv_at hl 0 rfl) ?_
      refine lv_iadd hx hb dX2_withDigit_37 ?_
      have hfin : (((10 * p0) + (f_X2_digitHere S)), (su S 7 0 (upd (S 7 0) 3 ((S 7 0 3) + 1)))) = (f_X2_withDigit S p0 p1) := Eq.symm (Eq.trans (e_X2_withDigit S p0 p1) (Eq.trans (if_neg c1) ((if_pos c2))))
      exact endM hx hb hr hlocks rfl hP hD hS ⟨@congrArg (Int32 × XS) Int32 (((10 * p0) + (f_X2_digitHere S)), (su S 7 0 (upd (S 7 0) 3 ((S 7 0 3) + 1)))) (f_X2_withDigit S p0 p1) Prod.fst hfin, @congrArg (Int32 × XS) va_W (((10 * p0) + (f_X2_digitHere S)), (su S 7 0 (upd (S 7 0) 3 ((S 7 0 3) + 1)))) (f_X2_withDigit S p0 p1) (fun z => wX G A z.2 r) hfin⟩ dX2_withDigit_38
    · skip
      refine lv_iload_n hx hb dX2_withDigit_20 rfl (lv_at hl 2 rfl) ?_
      have hfin : (p0, S) = (f_X2_withDigit S p0 p1) := Eq.symm (Eq.trans (e_X2_withDigit S p0 p1) (Eq.trans (if_neg c1) ((if_neg c2))))
      exact endM hx hb hr hlocks rfl hP hD hS ⟨@congrArg (Int32 × XS) Int32 (p0, S) (f_X2_withDigit S p0 p1) Prod.fst hfin, @congrArg (Int32 × XS) va_W (p0, S) (f_X2_withDigit S p0 p1) (fun z => wX G A z.2 r) hfin⟩ dX2_withDigit_21
noncomputable def f_X2_readNumber_k1 (z1 : Int32 × XS) (S : XS) (p0 : Int32) : Int32 × XS := opq (z1.1, z1.2)
theorem e_X2_readNumber_k1 (z1 : Int32 × XS) (S : XS) (p0 : Int32) : f_X2_readNumber_k1 z1 S p0 = (z1.1, z1.2) := opq_eq _
noncomputable def f_X2_readNumber (S : XS) (p0 : Int32) : Int32 × XS := opq (if (f_X2_digitHere S) = (-1) then ((-1), S) else (if (f_X2_digitHere S) = 0 then (0, (su S 7 0 (upd (S 7 0) 3 ((S 7 0 3) + 1)))) else (f_X2_readNumber_k1 (f_X2_withDigit (su S 7 0 (upd (S 7 0) 3 ((S 7 0 3) + 1))) (f_X2_digitHere S) p0) S p0)))
theorem e_X2_readNumber (S : XS) (p0 : Int32) : f_X2_readNumber S p0 = (if (f_X2_digitHere S) = (-1) then ((-1), S) else (if (f_X2_digitHere S) = 0 then (0, (su S 7 0 (upd (S 7 0) 3 ((S 7 0 3) + 1)))) else (f_X2_readNumber_k1 (f_X2_withDigit (su S 7 0 (upd (S 7 0) 3 ((S 7 0 3) + 1))) (f_X2_digitHere S) p0) S p0))) := opq_eq _
set_option maxHeartbeats 4000000 in
set_option maxRecDepth 100000 in
theorem c_X2_readNumber (l : Launch) (G : GG) (A : Nat → Nat) (S : XS) (r : Nat) (p0 : Int32) : Mm l yX2_readNumber wsX2_readNumber ({ frames := 3, cells := 0, slots := 0, locals := 66 } : Room) G [.ref (A 45), .int p0] (wX G A S r) (f_X2_readNumber S p0).1 (wX G A (f_X2_readNumber S p0).2 r) := by
  refine Mm.of (cc := cX2_readNumber) (maxL := 3) (ret := (some .int)) (by decide) rfl (Nat.le_of_ble_eq_true rfl) ?_
  intro p e s m args below meth c A0 hA0 E hr hlocks hP hK hD hA hS ls hl
  have E : CallFix p m c cX2_readNumber 3 s args wsX2_readNumber RX2 := E
  have hx := E.1
  have hb := E.2.1
  have hml := E.2.2.1
  have hown := E.2.2.2.1
  have hts := E.2.2.2.2
  have hl : lv_has ls 3 [(0, .ref (A 45)), (1, .int p0)] := hl
  have hinX2 : ∀ w ∈ u_ws RX2 TX2 7, w ∈ wsX2_readNumber := fun _ h => List.mem_cons_of_mem _ (List.mem_append_right _ h)
  refine lv_aload_n hx hb dX2_readNumber_0 rfl (lv_at hl 0 rfl) ?_
  refine cpV (rest := []) (As := []) E (c_X2_digitHere l G A S r) (cwV 0 hts gX2_readNumber_X2_digitHere rfl rfl rfl (by decide +kernel) ⟨Nat.le_of_ble_eq_true rfl, Nat.le_of_ble_eq_true rfl⟩) hK hP 45 (wX_45 G A S r) rfl rfl hl.1 rfl (Nat.le_of_ble_eq_true rfl) dX2_readNumber_1 ⟨Nat.zero_le _, Nat.zero_le _⟩ ?_
  refine lv_istore_n (lv' := [(2, .int (f_X2_digitHere S)), (0, .ref (A 45)), (1, .int p0)]) hx hb dX2_readNumber_4 rfl hl (by decide) rfl (fun ls hl => ?_)
  refine lv_iload_n hx hb dX2_readNumber_5 rfl (lv_at hl 0 rfl) ?_
  refine lv_iconst (v := (-1)) hx hb dX2_readNumber_6 (by decide) ?_
  refine lv_icmp_ne (tgt := 12) hx hb dX2_readNumber_7 (by decide) (fun c1 => ?_) (fun c1 => ?_)
  · skip
    refine lv_aload_n hx hb dX2_readNumber_12 rfl (lv_at hl 1 rfl) ?_
    refine lv_dup hx hb dX2_readNumber_13 rfl ?_
    refine va_get (D := G.1) (ci := 2) (v := .int (S 7 0 3)) (C := RX2) (T := TX2) (N := 7) hx hb hts hinX2 hown hK.1 hP 45 (wX_45 G A S r) rfl 2 (by decide) (hts (.fieldLink RX2 40 "WireLoops$WireList" "at" "I") (List.mem_of_getElem? (i := 1) rfl)) (fun _ h9 => h9) rfl dX2_readNumber_14 ?_
    refine lv_iconst (v := 1) hx hb dX2_readNumber_17 (by decide) ?_
    refine lv_iadd hx hb dX2_readNumber_18 ?_
    refine va_put (D := G.1) (ci := 2) (v := .int ((S 7 0 3) + 1)) (ty := .int) (C := RX2) (T := TX2) (N := 7) hx hb hts hinX2 tyX2 tyX2_ok nmX2 hown hK.1 hP hD hS 45 (wX_45 G A S r) rfl 2 (by decide) (hts (.fieldLink RX2 40 "WireLoops$WireList" "at" "I") (List.mem_of_getElem? (i := 1) rfl)) (fun _ h9 => h9) rfl (by decide +kernel) rfl rfl (Nat.le_of_ble_eq_true rfl) dX2_readNumber_19 (fun H locs hP hD hS => ?_)
    rw [wX_s45_2 G A S r _] at hP hD
    have hP : va_P G.1 vwCl (wX G A (su S 7 0 (upd (S 7 0) 3 ((S 7 0 3) + 1))) r) H := hP
    have hD : va_D A0 (wX G A (su S 7 0 (upd (S 7 0) 3 ((S 7 0 3) + 1))) r) := hD
    refine lv_iload_n hx hb dX2_readNumber_22 rfl (lv_at hl 0 rfl) ?_
    refine lv_if_ne (tgt := 30) hx hb dX2_readNumber_23 (by decide) (fun c2 => ?_) (fun c2 => ?_)
    · skip
      refine lv_aload_n hx hb dX2_readNumber_30 rfl (lv_at hl 1 rfl) ?_
      refine lv_iload_n hx hb dX2_readNumber_31 rfl (lv_at hl 0 rfl) ?_
      refine lv_iload_n hx hb dX2_readNumber_32 rfl (lv_at hl 2 rfl) ?_
      refine cmV (rest := []) (As := [.int (f_X2_digitHere S), .int p0]) E (c_X2_withDigit l G A (su S 7 0 (upd (S 7 0) 3 ((S 7 0 3) + 1))) r (f_X2_digitHere S) p0) (cwV 2 hts gX2_readNumber_X2_withDigit rfl rfl rfl (by decide +kernel) ⟨Nat.le_of_ble_eq_true rfl, Nat.le_of_ble_eq_true rfl⟩) hK hP hD hS hA 45 (wX_45 G A (su S 7 0 (upd (S 7 0) 3 ((S 7 0 3) + 1))) r) rfl rfl hl.1 rfl (Nat.le_of_ble_eq_true rfl) dX2_readNumber_33 ⟨Nat.zero_le _, Nat.zero_le _⟩ (fun H locs hP hD hS => ?_)
      have hres1 : f_X2_readNumber_k1 (f_X2_withDigit (su S 7 0 (upd (S 7 0) 3 ((S 7 0 3) + 1))) (f_X2_digitHere S) p0) S p0 = (f_X2_readNumber S p0) := Eq.symm (Eq.trans (e_X2_readNumber S p0) (Eq.trans (if_neg c1) ((if_neg c2))))
      generalize hz1 : (f_X2_withDigit (su S 7 0 (upd (S 7 0) 3 ((S 7 0 3) + 1))) (f_X2_digitHere S) p0) = z1 at hres1 hP hD ⊢
      have hfin : (z1.1, z1.2) = (f_X2_readNumber S p0) := Eq.trans (Eq.symm ((e_X2_readNumber_k1 z1 S p0))) hres1
      exact endM hx hb hr hlocks rfl hP hD hS ⟨@congrArg (Int32 × XS) Int32 (z1.1, z1.2) (f_X2_readNumber S p0) Prod.fst hfin, @congrArg (Int32 × XS) va_W (z1.1, z1.2) (f_X2_readNumber S p0) (fun z => wX G A z.2 r) hfin⟩ dX2_readNumber_36
    · skip
      refine lv_iconst (v := 0) hx hb dX2_readNumber_26 (by decide) ?_
      refine lv_goto (tgt := 36) hx hb dX2_readNumber_27 (by decide) ?_
      have hfin : (0, (su S 7 0 (upd (S 7 0) 3 ((S 7 0 3) + 1)))) = (f_X2_readNumber S p0) := Eq.symm (Eq.trans (e_X2_readNumber S p0) (Eq.trans (if_neg c1) ((if_pos c2))))
      exact endM hx hb hr hlocks rfl hP hD hS ⟨@congrArg (Int32 × XS) Int32 (0, (su S 7 0 (upd (S 7 0) 3 ((S 7 0 3) + 1)))) (f_X2_readNumber S p0) Prod.fst hfin, @congrArg (Int32 × XS) va_W (0, (su S 7 0 (upd (S 7 0) 3 ((S 7 0 3) + 1)))) (f_X2_readNumber S p0) (fun z => wX G A z.2 r) hfin⟩ dX2_readNumber_36
  · skip
    refine lv_iconst (v := (-1)) hx hb dX2_readNumber_10 (by decide) ?_
    have hfin : ((-1), S) = (f_X2_readNumber S p0) := Eq.symm (Eq.trans (e_X2_readNumber S p0) ((if_pos c1)))
    exact endM hx hb hr hlocks rfl hP hD hS ⟨@congrArg (Int32 × XS) Int32 ((-1), S) (f_X2_readNumber S p0) Prod.fst hfin, @congrArg (Int32 × XS) va_W ((-1), S) (f_X2_readNumber S p0) (fun z => wX G A z.2 r) hfin⟩ dX2_readNumber_11
noncomputable def f_X2_readHeight_k1 (z1 : Int32 × XS) (S : XS) : Int32 × XS := opq (z1.1, z1.2)
theorem e_X2_readHeight_k1 (z1 : Int32 × XS) (S : XS) : f_X2_readHeight_k1 z1 S = (z1.1, z1.2) := opq_eq _
noncomputable def f_X2_readHeight (S : XS) : Int32 × XS := opq (if (f_X2_digitHere S) = (-1) then ((-1), S) else (if (f_X2_digitHere S) = 0 then ((-1), S) else (if (f_X2_digitHere (su S 7 0 (upd (S 7 0) 3 ((S 7 0 3) + 1)))) = (-1) then ((-1), (su S 7 0 (upd (S 7 0) 3 ((S 7 0 3) + 1)))) else (f_X2_readHeight_k1 (f_X2_withDigit (su (su S 7 0 (upd (S 7 0) 3 ((S 7 0 3) + 1))) 7 0 (upd (upd (S 7 0) 3 ((S 7 0 3) + 1)) 3 (((S 7 0 3) + 1) + 1))) ((10 * (f_X2_digitHere S)) + (f_X2_digitHere (su S 7 0 (upd (S 7 0) 3 ((S 7 0 3) + 1))))) 200) S))))
theorem e_X2_readHeight (S : XS) : f_X2_readHeight S = (if (f_X2_digitHere S) = (-1) then ((-1), S) else (if (f_X2_digitHere S) = 0 then ((-1), S) else (if (f_X2_digitHere (su S 7 0 (upd (S 7 0) 3 ((S 7 0 3) + 1)))) = (-1) then ((-1), (su S 7 0 (upd (S 7 0) 3 ((S 7 0 3) + 1)))) else (f_X2_readHeight_k1 (f_X2_withDigit (su (su S 7 0 (upd (S 7 0) 3 ((S 7 0 3) + 1))) 7 0 (upd (upd (S 7 0) 3 ((S 7 0 3) + 1)) 3 (((S 7 0 3) + 1) + 1))) ((10 * (f_X2_digitHere S)) + (f_X2_digitHere (su S 7 0 (upd (S 7 0) 3 ((S 7 0 3) + 1))))) 200) S)))) := opq_eq _
set_option maxHeartbeats 4000000 in
set_option maxRecDepth 100000 in
theorem c_X2_readHeight (l : Launch) (G : GG) (A : Nat → Nat) (S : XS) (r : Nat)  : Mm l yX2_readHeight wsX2_readHeight ({ frames := 3, cells := 0, slots := 0, locals := 66 } : Room) G [.ref (A 45)] (wX G A S r) (f_X2_readHeight S).1 (wX G A (f_X2_readHeight S).2 r) := by
  refine Mm.of (cc := cX2_readHeight) (maxL := 3) (ret := (some .int)) (by decide) rfl (Nat.le_of_ble_eq_true rfl) ?_
  intro p e s m args below meth c A0 hA0 E hr hlocks hP hK hD hA hS ls hl
  have E : CallFix p m c cX2_readHeight 3 s args wsX2_readHeight RX2 := E
  have hx := E.1
  have hb := E.2.1
  have hml := E.2.2.1
  have hown := E.2.2.2.1
  have hts := E.2.2.2.2
  have hl : lv_has ls 3 [(0, .ref (A 45))] := hl
  have hinX2 : ∀ w ∈ u_ws RX2 TX2 7, w ∈ wsX2_readHeight := fun _ h => List.mem_cons_of_mem _ (List.mem_append_right _ h)
  refine lv_aload_n hx hb dX2_readHeight_0 rfl (lv_at hl 0 rfl) ?_
  refine cpV (rest := []) (As := []) E (c_X2_digitHere l G A S r) (cwV 0 hts gX2_readHeight_X2_digitHere rfl rfl rfl (by decide +kernel) ⟨Nat.le_of_ble_eq_true rfl, Nat.le_of_ble_eq_true rfl⟩) hK hP 45 (wX_45 G A S r) rfl rfl hl.1 rfl (Nat.le_of_ble_eq_true rfl) dX2_readHeight_1 ⟨Nat.zero_le _, Nat.zero_le _⟩ ?_
  refine lv_istore_n (lv' := [(1, .int (f_X2_digitHere S)), (0, .ref (A 45))]) hx hb dX2_readHeight_4 rfl hl (by decide) rfl (fun ls hl => ?_)
  refine lv_iload_n hx hb dX2_readHeight_5 rfl (lv_at hl 0 rfl) ?_
  refine lv_iconst (v := (-1)) hx hb dX2_readHeight_6 (by decide) ?_
  refine lv_icmp_eq (tgt := 14) hx hb dX2_readHeight_7 (by decide) (fun c1 => ?_) (fun c1 => ?_)
  · skip
    refine lv_iconst (v := (-1)) hx hb dX2_readHeight_14 (by decide) ?_
    have hfin : ((-1), S) = (f_X2_readHeight S) := Eq.symm (Eq.trans (e_X2_readHeight S) ((if_pos c1)))
    exact endM hx hb hr hlocks rfl hP hD hS ⟨@congrArg (Int32 × XS) Int32 ((-1), S) (f_X2_readHeight S) Prod.fst hfin, @congrArg (Int32 × XS) va_W ((-1), S) (f_X2_readHeight S) (fun z => wX G A z.2 r) hfin⟩ dX2_readHeight_15
  · skip
    refine lv_iload_n hx hb dX2_readHeight_10 rfl (lv_at hl 0 rfl) ?_
    refine lv_if_ne (tgt := 16) hx hb dX2_readHeight_11 (by decide) (fun c2 => ?_) (fun c2 => ?_)
    · skip
      refine lv_aload_n hx hb dX2_readHeight_16 rfl (lv_at hl 1 rfl) ?_
      refine lv_dup hx hb dX2_readHeight_17 rfl ?_
      refine va_get (D := G.1) (ci := 2) (v := .int (S 7 0 3)) (C := RX2) (T := TX2) (N := 7) hx hb hts hinX2 hown hK.1 hP 45 (wX_45 G A S r) rfl 2 (by decide) (hts (.fieldLink RX2 40 "WireLoops$WireList" "at" "I") (List.mem_of_getElem? (i := 1) rfl)) (fun _ h9 => h9) rfl dX2_readHeight_18 ?_
      refine lv_iconst (v := 1) hx hb dX2_readHeight_21 (by decide) ?_
      refine lv_iadd hx hb dX2_readHeight_22 ?_
      refine va_put (D := G.1) (ci := 2) (v := .int ((S 7 0 3) + 1)) (ty := .int) (C := RX2) (T := TX2) (N := 7) hx hb hts hinX2 tyX2 tyX2_ok nmX2 hown hK.1 hP hD hS 45 (wX_45 G A S r) rfl 2 (by decide) (hts (.fieldLink RX2 40 "WireLoops$WireList" "at" "I") (List.mem_of_getElem? (i := 1) rfl)) (fun _ h9 => h9) rfl (by decide +kernel) rfl rfl (Nat.le_of_ble_eq_true rfl) dX2_readHeight_23 (fun H locs hP hD hS => ?_)
      rw [wX_s45_2 G A S r _] at hP hD
      have hP : va_P G.1 vwCl (wX G A (su S 7 0 (upd (S 7 0) 3 ((S 7 0 3) + 1))) r) H := hP
      have hD : va_D A0 (wX G A (su S 7 0 (upd (S 7 0) 3 ((S 7 0 3) + 1))) r) := hD
      refine lv_aload_n hx hb dX2_readHeight_26 rfl (lv_at hl 1 rfl) ?_
      refine cpV (rest := []) (As := []) E (c_X2_digitHere l G A (su S 7 0 (upd (S 7 0) 3 ((S 7 0 3) + 1))) r) (cwV 0 hts gX2_readHeight_X2_digitHere rfl rfl rfl (by decide +kernel) ⟨Nat.le_of_ble_eq_true rfl, Nat.le_of_ble_eq_true rfl⟩) hK hP 45 (wX_45 G A (su S 7 0 (upd (S 7 0) 3 ((S 7 0 3) + 1))) r) rfl rfl hl.1 rfl (Nat.le_of_ble_eq_true rfl) dX2_readHeight_27 ⟨Nat.zero_le _, Nat.zero_le _⟩ ?_
      refine lv_istore_n (lv' := [(2, .int (f_X2_digitHere (su S 7 0 (upd (S 7 0) 3 ((S 7 0 3) + 1))))), (1, .int (f_X2_digitHere S)), (0, .ref (A 45))]) hx hb dX2_readHeight_30 rfl hl (by decide) rfl (fun ls hl => ?_)
      refine lv_iload_n hx hb dX2_readHeight_31 rfl (lv_at hl 0 rfl) ?_
      refine lv_iconst (v := (-1)) hx hb dX2_readHeight_32 (by decide) ?_
      refine lv_icmp_ne (tgt := 38) hx hb dX2_readHeight_33 (by decide) (fun c3 => ?_) (fun c3 => ?_)
      · skip
        refine lv_aload_n hx hb dX2_readHeight_38 rfl (lv_at hl 2 rfl) ?_
        refine lv_dup hx hb dX2_readHeight_39 rfl ?_
        refine va_get (D := G.1) (ci := 2) (v := .int ((S 7 0 3) + 1)) (C := RX2) (T := TX2) (N := 7) hx hb hts hinX2 hown hK.1 hP 45 (wX_45 G A (su S 7 0 (upd (S 7 0) 3 ((S 7 0 3) + 1))) r) rfl 2 (by decide) (hts (.fieldLink RX2 40 "WireLoops$WireList" "at" "I") (List.mem_of_getElem? (i := 1) rfl)) (fun _ h9 => h9) rfl dX2_readHeight_40 ?_
        refine lv_iconst (v := 1) hx hb dX2_readHeight_43 (by decide) ?_
        refine lv_iadd hx hb dX2_readHeight_44 ?_
        refine va_put (D := G.1) (ci := 2) (v := .int (((S 7 0 3) + 1) + 1)) (ty := .int) (C := RX2) (T := TX2) (N := 7) hx hb hts hinX2 tyX2 tyX2_ok nmX2 hown hK.1 hP hD hS 45 (wX_45 G A (su S 7 0 (upd (S 7 0) 3 ((S 7 0 3) + 1))) r) rfl 2 (by decide) (hts (.fieldLink RX2 40 "WireLoops$WireList" "at" "I") (List.mem_of_getElem? (i := 1) rfl)) (fun _ h9 => h9) rfl (by decide +kernel) rfl rfl (Nat.le_of_ble_eq_true rfl) dX2_readHeight_45 (fun H locs hP hD hS => ?_)
        rw [wX_s45_2 G A (su S 7 0 (upd (S 7 0) 3 ((S 7 0 3) + 1))) r _] at hP hD
        have hP : va_P G.1 vwCl (wX G A (su (su S 7 0 (upd (S 7 0) 3 ((S 7 0 3) + 1))) 7 0 (upd (upd (S 7 0) 3 ((S 7 0 3) + 1)) 3 (((S 7 0 3) + 1) + 1))) r) H := hP
        have hD : va_D A0 (wX G A (su (su S 7 0 (upd (S 7 0) 3 ((S 7 0 3) + 1))) 7 0 (upd (upd (S 7 0) 3 ((S 7 0 3) + 1)) 3 (((S 7 0 3) + 1) + 1))) r) := hD
        refine lv_aload_n hx hb dX2_readHeight_48 rfl (lv_at hl 2 rfl) ?_
        refine lv_bipush (v := 10) hx hb dX2_readHeight_49 (by decide) ?_
        refine lv_iload_n hx hb dX2_readHeight_51 rfl (lv_at hl 1 rfl) ?_
        refine lv_imul hx hb dX2_readHeight_52 ?_
        refine lv_iload_n hx hb dX2_readHeight_53 rfl (lv_at hl 0 rfl) ?_
        refine lv_iadd hx hb dX2_readHeight_54 ?_
        refine lv_sipush (v := 200) hx hb dX2_readHeight_55 (by decide) ?_
        refine cmV (rest := []) (As := [.int ((10 * (f_X2_digitHere S)) + (f_X2_digitHere (su S 7 0 (upd (S 7 0) 3 ((S 7 0 3) + 1))))), .int 200]) E (c_X2_withDigit l G A (su (su S 7 0 (upd (S 7 0) 3 ((S 7 0 3) + 1))) 7 0 (upd (upd (S 7 0) 3 ((S 7 0 3) + 1)) 3 (((S 7 0 3) + 1) + 1))) r ((10 * (f_X2_digitHere S)) + (f_X2_digitHere (su S 7 0 (upd (S 7 0) 3 ((S 7 0 3) + 1))))) 200) (cwV 2 hts gX2_readHeight_X2_withDigit rfl rfl rfl (by decide +kernel) ⟨Nat.le_of_ble_eq_true rfl, Nat.le_of_ble_eq_true rfl⟩) hK hP hD hS hA 45 (wX_45 G A (su (su S 7 0 (upd (S 7 0) 3 ((S 7 0 3) + 1))) 7 0 (upd (upd (S 7 0) 3 ((S 7 0 3) + 1)) 3 (((S 7 0 3) + 1) + 1))) r) rfl rfl hl.1 rfl (Nat.le_of_ble_eq_true rfl) dX2_readHeight_58 ⟨Nat.zero_le _, Nat.zero_le _⟩ (fun H locs hP hD hS => ?_)
        have hres1 : f_X2_readHeight_k1 (f_X2_withDigit (su (su S 7 0 (upd (S 7 0) 3 ((S 7 0 3) + 1))) 7 0 (upd (upd (S 7 0) 3 ((S 7 0 3) + 1)) 3 (((S 7 0 3) + 1) + 1))) ((10 * (f_X2_digitHere S)) + (f_X2_digitHere (su S 7 0 (upd (S 7 0) 3 ((S 7 0 3) + 1))))) 200) S = (f_X2_readHeight S) := Eq.symm (Eq.trans (e_X2_readHeight S) (Eq.trans (if_neg c1) (Eq.trans (if_neg c2) ((if_neg c3)))))
        generalize hz1 : (f_X2_withDigit (su (su S 7 0 (upd (S 7 0) 3 ((S 7 0 3) + 1))) 7 0 (upd (upd (S 7 0) 3 ((S 7 0 3) + 1)) 3 (((S 7 0 3) + 1) + 1))) ((10 * (f_X2_digitHere S)) + (f_X2_digitHere (su S 7 0 (upd (S 7 0) 3 ((S 7 0 3) + 1))))) 200) = z1 at hres1 hP hD ⊢
        have hfin : (z1.1, z1.2) = (f_X2_readHeight S) := Eq.trans (Eq.symm ((e_X2_readHeight_k1 z1 S))) hres1
        exact endM hx hb hr hlocks rfl hP hD hS ⟨@congrArg (Int32 × XS) Int32 (z1.1, z1.2) (f_X2_readHeight S) Prod.fst hfin, @congrArg (Int32 × XS) va_W (z1.1, z1.2) (f_X2_readHeight S) (fun z => wX G A z.2 r) hfin⟩ dX2_readHeight_61
      · skip
        refine lv_iconst (v := (-1)) hx hb dX2_readHeight_36 (by decide) ?_
        have hfin : ((-1), (su S 7 0 (upd (S 7 0) 3 ((S 7 0 3) + 1)))) = (f_X2_readHeight S) := Eq.symm (Eq.trans (e_X2_readHeight S) (Eq.trans (if_neg c1) (Eq.trans (if_neg c2) ((if_pos c3)))))
        exact endM hx hb hr hlocks rfl hP hD hS ⟨@congrArg (Int32 × XS) Int32 ((-1), (su S 7 0 (upd (S 7 0) 3 ((S 7 0 3) + 1)))) (f_X2_readHeight S) Prod.fst hfin, @congrArg (Int32 × XS) va_W ((-1), (su S 7 0 (upd (S 7 0) 3 ((S 7 0 3) + 1)))) (f_X2_readHeight S) (fun z => wX G A z.2 r) hfin⟩ dX2_readHeight_37
    · skip
      refine lv_iconst (v := (-1)) hx hb dX2_readHeight_14 (by decide) ?_
      have hfin : ((-1), S) = (f_X2_readHeight S) := Eq.symm (Eq.trans (e_X2_readHeight S) (Eq.trans (if_neg c1) ((if_pos c2))))
      exact endM hx hb hr hlocks rfl hP hD hS ⟨@congrArg (Int32 × XS) Int32 ((-1), S) (f_X2_readHeight S) Prod.fst hfin, @congrArg (Int32 × XS) va_W ((-1), S) (f_X2_readHeight S) (fun z => wX G A z.2 r) hfin⟩ dX2_readHeight_15
theorem l4_passBy (S : XS) (x : Int32) : (f_X2_passBy S x).2 7 0 4 = S 7 0 4 := by
  rw [e_X2_passBy]
  repeat' split
  all_goals rfl
theorem l4_withDigit (S : XS) (x y : Int32) : (f_X2_withDigit S x y).2 7 0 4 = S 7 0 4 := by
  rw [e_X2_withDigit]
  repeat' split
  all_goals rfl
theorem l4_readNumber (S : XS) (x : Int32) : (f_X2_readNumber S x).2 7 0 4 = S 7 0 4 := by
  rw [e_X2_readNumber]
  repeat' split
  all_goals first | rfl | (rw [e_X2_readNumber_k1]; exact l4_withDigit _ _ _)
theorem l4_readHeight (S : XS) : (f_X2_readHeight S).2 7 0 4 = S 7 0 4 := by
  rw [e_X2_readHeight]
  repeat' split
  all_goals first | rfl | (rw [e_X2_readHeight_k1]; exact l4_withDigit _ _ _)
noncomputable def f_X2_readWire_k5 (z5 : Int32 × XS) (z1 : Int32 × XS) (z2 : Int32 × XS) (z3 : Int32 × XS) (z4 : Int32 × XS) (S : XS) : Int32 × XS := opq (if z5.1 = (-1) then (0, z5.2) else (if (z5.2 7 0 4) < 20 then (1, (su (su (su (su z5.2 7 2 (upd (z5.2 7 2) (z5.2 7 0 4).toNatClampNeg z1.1)) 7 3 (upd (z5.2 7 3) (z5.2 7 0 4).toNatClampNeg z3.1)) 7 4 (upd (z5.2 7 4) (z5.2 7 0 4).toNatClampNeg z5.1)) 7 0 (upd (z5.2 7 0) 4 ((z5.2 7 0 4) + 1)))) else (0, z5.2)))
theorem e_X2_readWire_k5 (z5 : Int32 × XS) (z1 : Int32 × XS) (z2 : Int32 × XS) (z3 : Int32 × XS) (z4 : Int32 × XS) (S : XS) : f_X2_readWire_k5 z5 z1 z2 z3 z4 S = (if z5.1 = (-1) then (0, z5.2) else (if (z5.2 7 0 4) < 20 then (1, (su (su (su (su z5.2 7 2 (upd (z5.2 7 2) (z5.2 7 0 4).toNatClampNeg z1.1)) 7 3 (upd (z5.2 7 3) (z5.2 7 0 4).toNatClampNeg z3.1)) 7 4 (upd (z5.2 7 4) (z5.2 7 0 4).toNatClampNeg z5.1)) 7 0 (upd (z5.2 7 0) 4 ((z5.2 7 0 4) + 1)))) else (0, z5.2))) := opq_eq _
noncomputable def f_X2_readWire_k4 (z4 : Int32 × XS) (z1 : Int32 × XS) (z2 : Int32 × XS) (z3 : Int32 × XS) (S : XS) : Int32 × XS := opq (if z4.1 = 0 then (if (z4.2 7 0 4) < 20 then (1, (su (su (su (su z4.2 7 2 (upd (z4.2 7 2) (z4.2 7 0 4).toNatClampNeg z1.1)) 7 3 (upd (z4.2 7 3) (z4.2 7 0 4).toNatClampNeg z3.1)) 7 4 (upd (z4.2 7 4) (z4.2 7 0 4).toNatClampNeg 60)) 7 0 (upd (z4.2 7 0) 4 ((z4.2 7 0 4) + 1)))) else (0, z4.2)) else (f_X2_readWire_k5 (f_X2_readHeight z4.2) z1 z2 z3 z4 S))
theorem e_X2_readWire_k4 (z4 : Int32 × XS) (z1 : Int32 × XS) (z2 : Int32 × XS) (z3 : Int32 × XS) (S : XS) : f_X2_readWire_k4 z4 z1 z2 z3 S = (if z4.1 = 0 then (if (z4.2 7 0 4) < 20 then (1, (su (su (su (su z4.2 7 2 (upd (z4.2 7 2) (z4.2 7 0 4).toNatClampNeg z1.1)) 7 3 (upd (z4.2 7 3) (z4.2 7 0 4).toNatClampNeg z3.1)) 7 4 (upd (z4.2 7 4) (z4.2 7 0 4).toNatClampNeg 60)) 7 0 (upd (z4.2 7 0) 4 ((z4.2 7 0 4) + 1)))) else (0, z4.2)) else (f_X2_readWire_k5 (f_X2_readHeight z4.2) z1 z2 z3 z4 S)) := opq_eq _
noncomputable def f_X2_readWire_k3 (z3 : Int32 × XS) (z1 : Int32 × XS) (z2 : Int32 × XS) (S : XS) : Int32 × XS := opq (if z3.1 = (-1) then (0, z3.2) else (f_X2_readWire_k4 (f_X2_passBy z3.2 58) z1 z2 z3 S))
theorem e_X2_readWire_k3 (z3 : Int32 × XS) (z1 : Int32 × XS) (z2 : Int32 × XS) (S : XS) : f_X2_readWire_k3 z3 z1 z2 S = (if z3.1 = (-1) then (0, z3.2) else (f_X2_readWire_k4 (f_X2_passBy z3.2 58) z1 z2 z3 S)) := opq_eq _
noncomputable def f_X2_readWire_k2 (z2 : Int32 × XS) (z1 : Int32 × XS) (S : XS) : Int32 × XS := opq (if z2.1 = 0 then (0, z2.2) else (f_X2_readWire_k3 (f_X2_readNumber z2.2 15) z1 z2 S))
theorem e_X2_readWire_k2 (z2 : Int32 × XS) (z1 : Int32 × XS) (S : XS) : f_X2_readWire_k2 z2 z1 S = (if z2.1 = 0 then (0, z2.2) else (f_X2_readWire_k3 (f_X2_readNumber z2.2 15) z1 z2 S)) := opq_eq _
noncomputable def f_X2_readWire_k1 (z1 : Int32 × XS) (S : XS) : Int32 × XS := opq (if z1.1 = (-1) then (0, z1.2) else (f_X2_readWire_k2 (f_X2_passBy z1.2 45) z1 S))
theorem e_X2_readWire_k1 (z1 : Int32 × XS) (S : XS) : f_X2_readWire_k1 z1 S = (if z1.1 = (-1) then (0, z1.2) else (f_X2_readWire_k2 (f_X2_passBy z1.2 45) z1 S)) := opq_eq _
noncomputable def f_X2_readWire (S : XS) : Int32 × XS := opq (f_X2_readWire_k1 (f_X2_readNumber S 11) S)
theorem e_X2_readWire (S : XS) : f_X2_readWire S = (f_X2_readWire_k1 (f_X2_readNumber S 11) S) := opq_eq _
set_option maxHeartbeats 4000000 in
set_option maxRecDepth 100000 in
theorem c_X2_readWire (l : Launch) (G : GG) (A : Nat → Nat) (S : XS) (r : Nat)  (h : ¬ S 7 0 4 < 0) : Mm l yX2_readWire wsX2_readWire ({ frames := 4, cells := 0, slots := 0, locals := 88 } : Room) G [.ref (A 45)] (wX G A S r) (f_X2_readWire S).1 (wX G A (f_X2_readWire S).2 r) := by
  refine Mm.of (cc := cX2_readWire) (maxL := 4) (ret := (some .boolean)) (by decide) rfl (Nat.le_of_ble_eq_true rfl) ?_
  intro p e s m args below meth c A0 hA0 E hr hlocks hP hK hD hA hS ls hl
  have E : CallFix p m c cX2_readWire 4 s args wsX2_readWire RX2 := E
  have hx := E.1
  have hb := E.2.1
  have hml := E.2.2.1
  have hown := E.2.2.2.1
  have hts := E.2.2.2.2
  have hl : lv_has ls 4 [(0, .ref (A 45))] := hl
  have hinX2 : ∀ w ∈ u_ws RX2 TX2 7, w ∈ wsX2_readWire := fun _ h => List.mem_cons_of_mem _ (List.mem_append_right _ h)
  refine lv_aload_n hx hb dX2_readWire_0 rfl (lv_at hl 0 rfl) ?_
  refine lv_bipush (v := 11) hx hb dX2_readWire_1 (by decide) ?_
  refine cmV (rest := []) (As := [.int 11]) E (c_X2_readNumber l G A S r 11) (cwV 1 hts gX2_readWire_X2_readNumber rfl rfl rfl (by decide +kernel) ⟨Nat.le_of_ble_eq_true rfl, Nat.le_of_ble_eq_true rfl⟩) hK hP hD hS hA 45 (wX_45 G A S r) rfl rfl hl.1 rfl (Nat.le_of_ble_eq_true rfl) dX2_readWire_3 ⟨Nat.zero_le _, Nat.zero_le _⟩ (fun H locs hP hD hS => ?_)
  have hres1 : f_X2_readWire_k1 (f_X2_readNumber S 11) S = (f_X2_readWire S) := Eq.symm ((e_X2_readWire S))
  generalize hz1 : (f_X2_readNumber S 11) = z1 at hres1 hP hD ⊢
  have hqz1 : z1.2 7 0 4 = S 7 0 4 := by rw [← hz1]; exact (l4_readNumber _ _)
  refine lv_istore_n (lv' := [(1, .int z1.1), (0, .ref (A 45))]) hx hb dX2_readWire_6 rfl hl (by decide) rfl (fun ls hl => ?_)
  refine lv_iload_n hx hb dX2_readWire_7 rfl (lv_at hl 0 rfl) ?_
  refine lv_iconst (v := (-1)) hx hb dX2_readWire_8 (by decide) ?_
  refine lv_icmp_eq (tgt := 21) hx hb dX2_readWire_9 (by decide) (fun c1 => ?_) (fun c1 => ?_)
  · skip
    refine lv_iconst (v := 0) hx hb dX2_readWire_21 (by decide) ?_
    have hfin : (0, z1.2) = (f_X2_readWire S) := Eq.trans (Eq.symm (Eq.trans (e_X2_readWire_k1 z1 S) ((if_pos c1)))) hres1
    exact endM hx hb hr hlocks rfl hP hD hS ⟨@congrArg (Int32 × XS) Int32 (0, z1.2) (f_X2_readWire S) Prod.fst hfin, @congrArg (Int32 × XS) va_W (0, z1.2) (f_X2_readWire S) (fun z => wX G A z.2 r) hfin⟩ dX2_readWire_22
  · skip
    refine lv_aload_n hx hb dX2_readWire_12 rfl (lv_at hl 1 rfl) ?_
    refine lv_bipush (v := 45) hx hb dX2_readWire_13 (by decide) ?_
    refine cmV (rest := []) (As := [.int 45]) E (c_X2_passBy l G A z1.2 r 45) (cwV 1 hts gX2_readWire_X2_passBy rfl rfl rfl (by decide +kernel) ⟨Nat.le_of_ble_eq_true rfl, Nat.le_of_ble_eq_true rfl⟩) hK hP hD hS hA 45 (wX_45 G A z1.2 r) rfl rfl hl.1 rfl (Nat.le_of_ble_eq_true rfl) dX2_readWire_15 ⟨Nat.zero_le _, Nat.zero_le _⟩ (fun H locs hP hD hS => ?_)
    have hres2 : f_X2_readWire_k2 (f_X2_passBy z1.2 45) z1 S = (f_X2_readWire S) := Eq.trans (Eq.symm (Eq.trans (e_X2_readWire_k1 z1 S) ((if_neg c1)))) hres1
    generalize hz2 : (f_X2_passBy z1.2 45) = z2 at hres2 hP hD ⊢
    have hqz2 : z2.2 7 0 4 = S 7 0 4 := by rw [← hz2]; exact (l4_passBy _ _).trans hqz1
    refine lv_if_ne (tgt := 23) hx hb dX2_readWire_18 (by decide) (fun c2 => ?_) (fun c2 => ?_)
    · skip
      refine lv_aload_n hx hb dX2_readWire_23 rfl (lv_at hl 1 rfl) ?_
      refine lv_bipush (v := 15) hx hb dX2_readWire_24 (by decide) ?_
      refine cmV (rest := []) (As := [.int 15]) E (c_X2_readNumber l G A z2.2 r 15) (cwV 1 hts gX2_readWire_X2_readNumber rfl rfl rfl (by decide +kernel) ⟨Nat.le_of_ble_eq_true rfl, Nat.le_of_ble_eq_true rfl⟩) hK hP hD hS hA 45 (wX_45 G A z2.2 r) rfl rfl hl.1 rfl (Nat.le_of_ble_eq_true rfl) dX2_readWire_26 ⟨Nat.zero_le _, Nat.zero_le _⟩ (fun H locs hP hD hS => ?_)
      have hres3 : f_X2_readWire_k3 (f_X2_readNumber z2.2 15) z1 z2 S = (f_X2_readWire S) := Eq.trans (Eq.symm (Eq.trans (e_X2_readWire_k2 z2 z1 S) ((if_neg c2)))) hres2
      generalize hz3 : (f_X2_readNumber z2.2 15) = z3 at hres3 hP hD ⊢
      have hqz3 : z3.2 7 0 4 = S 7 0 4 := by rw [← hz3]; exact (l4_readNumber _ _).trans hqz2
      refine lv_istore_n (lv' := [(2, .int z3.1), (1, .int z1.1), (0, .ref (A 45))]) hx hb dX2_readWire_29 rfl hl (by decide) rfl (fun ls hl => ?_)
      refine lv_iload_n hx hb dX2_readWire_30 rfl (lv_at hl 0 rfl) ?_
      refine lv_iconst (v := (-1)) hx hb dX2_readWire_31 (by decide) ?_
      refine lv_icmp_ne (tgt := 37) hx hb dX2_readWire_32 (by decide) (fun c3 => ?_) (fun c3 => ?_)
      · skip
        refine lv_aload_n hx hb dX2_readWire_37 rfl (lv_at hl 2 rfl) ?_
        refine lv_bipush (v := 58) hx hb dX2_readWire_38 (by decide) ?_
        refine cmV (rest := []) (As := [.int 58]) E (c_X2_passBy l G A z3.2 r 58) (cwV 1 hts gX2_readWire_X2_passBy rfl rfl rfl (by decide +kernel) ⟨Nat.le_of_ble_eq_true rfl, Nat.le_of_ble_eq_true rfl⟩) hK hP hD hS hA 45 (wX_45 G A z3.2 r) rfl rfl hl.1 rfl (Nat.le_of_ble_eq_true rfl) dX2_readWire_40 ⟨Nat.zero_le _, Nat.zero_le _⟩ (fun H locs hP hD hS => ?_)
        have hres4 : f_X2_readWire_k4 (f_X2_passBy z3.2 58) z1 z2 z3 S = (f_X2_readWire S) := Eq.trans (Eq.symm (Eq.trans (e_X2_readWire_k3 z3 z1 z2 S) ((if_neg c3)))) hres3
        generalize hz4 : (f_X2_passBy z3.2 58) = z4 at hres4 hP hD ⊢
        have hqz4 : z4.2 7 0 4 = S 7 0 4 := by rw [← hz4]; exact (l4_passBy _ _).trans hqz3
        refine lv_if_eq (tgt := 53) hx hb dX2_readWire_43 (by decide) (fun c4 => ?_) (fun c4 => ?_)
        · skip
          refine lv_bipush (v := 60) hx hb dX2_readWire_53 (by decide) ?_
          refine lv_istore_n (lv' := [(3, .int 60), (2, .int z3.1), (1, .int z1.1), (0, .ref (A 45))]) hx hb dX2_readWire_55 rfl hl (by decide) rfl (fun ls hl => ?_)
          refine lv_iload_n hx hb dX2_readWire_56 rfl (lv_at hl 0 rfl) ?_
          refine lv_iconst (v := (-1)) hx hb dX2_readWire_57 (by decide) ?_
          refine lv_icmp_eq (tgt := 70) hx hb dX2_readWire_58 (by decide) (fun c5 => absurd c5 (by decide)) (fun c5 => ?_)
          refine lv_aload_n hx hb dX2_readWire_61 rfl (lv_at hl 3 rfl) ?_
          refine va_get (D := G.1) (ci := 2) (v := .int (z4.2 7 0 4)) (C := RX2) (T := TX2) (N := 7) hx hb hts hinX2 hown hK.1 hP 45 (wX_45 G A z4.2 r) rfl 6 (by decide) (hts (.fieldLink RX2 29 "WireLoops$WireList" "listed" "I") (List.mem_of_getElem? (i := 1) rfl)) (fun _ h9 => h9) rfl dX2_readWire_62 ?_
          refine lv_bipush (v := 20) hx hb dX2_readWire_65 (by decide) ?_
          refine lv_icmp_lt (tgt := 72) hx hb dX2_readWire_67 (by decide) (fun c6 => ?_) (fun c6 => ?_)
          · skip
            refine lv_aload_n hx hb dX2_readWire_72 rfl (lv_at hl 3 rfl) ?_
            refine va_get (D := G.1) (ci := 2) (v := .ref (A 47)) (C := RX2) (T := TX2) (N := 7) hx hb hts hinX2 hown hK.1 hP 45 (wX_45 G A z4.2 r) rfl 3 (by decide) (hts (.fieldLink RX2 15 "WireLoops$WireList" "pads" "[I") (List.mem_of_getElem? (i := 2) rfl)) (fun _ h9 => h9) rfl dX2_readWire_73 ?_
            refine lv_aload_n hx hb dX2_readWire_76 rfl (lv_at hl 3 rfl) ?_
            refine va_get (D := G.1) (ci := 2) (v := .int (z4.2 7 0 4)) (C := RX2) (T := TX2) (N := 7) hx hb hts hinX2 hown hK.1 hP 45 (wX_45 G A z4.2 r) rfl 6 (by decide) (hts (.fieldLink RX2 29 "WireLoops$WireList" "listed" "I") (List.mem_of_getElem? (i := 1) rfl)) (fun _ h9 => h9) rfl dX2_readWire_77 ?_
            refine lv_iload_n hx hb dX2_readWire_80 rfl (lv_at hl 2 rfl) ?_
            refine va_iast (D := G.1) hx hb hK.1 hP hD hS 47 0 (wX_47 G A z4.2 r) rfl (in_rng2 (y := 20) rfl (by decide) (by rw [hqz4]; exact h) (by assumption)) dX2_readWire_81 (fun H locs hP hD hS => ?_)
            rw [wX_s47 G A z4.2 r _] at hP hD
            have hP : va_P G.1 vwCl (wX G A (su z4.2 7 2 (upd (z4.2 7 2) (z4.2 7 0 4).toNatClampNeg z1.1)) r) H := hP
            have hD : va_D A0 (wX G A (su z4.2 7 2 (upd (z4.2 7 2) (z4.2 7 0 4).toNatClampNeg z1.1)) r) := hD
            refine lv_aload_n hx hb dX2_readWire_82 rfl (lv_at hl 3 rfl) ?_
            refine va_get (D := G.1) (ci := 2) (v := .ref (A 48)) (C := RX2) (T := TX2) (N := 7) hx hb hts hinX2 hown hK.1 hP 45 (wX_45 G A (su z4.2 7 2 (upd (z4.2 7 2) (z4.2 7 0 4).toNatClampNeg z1.1)) r) rfl 4 (by decide) (hts (.fieldLink RX2 19 "WireLoops$WireList" "leads" "[I") (List.mem_of_getElem? (i := 3) rfl)) (fun _ h9 => h9) rfl dX2_readWire_83 ?_
            refine lv_aload_n hx hb dX2_readWire_86 rfl (lv_at hl 3 rfl) ?_
            refine va_get (D := G.1) (ci := 2) (v := .int (z4.2 7 0 4)) (C := RX2) (T := TX2) (N := 7) hx hb hts hinX2 hown hK.1 hP 45 (wX_45 G A (su z4.2 7 2 (upd (z4.2 7 2) (z4.2 7 0 4).toNatClampNeg z1.1)) r) rfl 6 (by decide) (hts (.fieldLink RX2 29 "WireLoops$WireList" "listed" "I") (List.mem_of_getElem? (i := 1) rfl)) (fun _ h9 => h9) rfl dX2_readWire_87 ?_
            refine lv_iload_n hx hb dX2_readWire_90 rfl (lv_at hl 1 rfl) ?_
            refine va_iast (D := G.1) hx hb hK.1 hP hD hS 48 0 (wX_48 G A (su z4.2 7 2 (upd (z4.2 7 2) (z4.2 7 0 4).toNatClampNeg z1.1)) r) rfl (in_rng2 (y := 20) rfl (by decide) (by rw [hqz4]; exact h) (by assumption)) dX2_readWire_91 (fun H locs hP hD hS => ?_)
            rw [wX_s48 G A (su z4.2 7 2 (upd (z4.2 7 2) (z4.2 7 0 4).toNatClampNeg z1.1)) r _] at hP hD
            have hP : va_P G.1 vwCl (wX G A (su (su z4.2 7 2 (upd (z4.2 7 2) (z4.2 7 0 4).toNatClampNeg z1.1)) 7 3 (upd (z4.2 7 3) (z4.2 7 0 4).toNatClampNeg z3.1)) r) H := hP
            have hD : va_D A0 (wX G A (su (su z4.2 7 2 (upd (z4.2 7 2) (z4.2 7 0 4).toNatClampNeg z1.1)) 7 3 (upd (z4.2 7 3) (z4.2 7 0 4).toNatClampNeg z3.1)) r) := hD
            refine lv_aload_n hx hb dX2_readWire_92 rfl (lv_at hl 3 rfl) ?_
            refine va_get (D := G.1) (ci := 2) (v := .ref (A 49)) (C := RX2) (T := TX2) (N := 7) hx hb hts hinX2 hown hK.1 hP 45 (wX_45 G A (su (su z4.2 7 2 (upd (z4.2 7 2) (z4.2 7 0 4).toNatClampNeg z1.1)) 7 3 (upd (z4.2 7 3) (z4.2 7 0 4).toNatClampNeg z3.1)) r) rfl 5 (by decide) (hts (.fieldLink RX2 22 "WireLoops$WireList" "heights" "[I") (List.mem_of_getElem? (i := 4) rfl)) (fun _ h9 => h9) rfl dX2_readWire_93 ?_
            refine lv_aload_n hx hb dX2_readWire_96 rfl (lv_at hl 3 rfl) ?_
            refine va_get (D := G.1) (ci := 2) (v := .int (z4.2 7 0 4)) (C := RX2) (T := TX2) (N := 7) hx hb hts hinX2 hown hK.1 hP 45 (wX_45 G A (su (su z4.2 7 2 (upd (z4.2 7 2) (z4.2 7 0 4).toNatClampNeg z1.1)) 7 3 (upd (z4.2 7 3) (z4.2 7 0 4).toNatClampNeg z3.1)) r) rfl 6 (by decide) (hts (.fieldLink RX2 29 "WireLoops$WireList" "listed" "I") (List.mem_of_getElem? (i := 1) rfl)) (fun _ h9 => h9) rfl dX2_readWire_97 ?_
            refine lv_iload_n hx hb dX2_readWire_100 rfl (lv_at hl 0 rfl) ?_
            refine va_iast (D := G.1) hx hb hK.1 hP hD hS 49 0 (wX_49 G A (su (su z4.2 7 2 (upd (z4.2 7 2) (z4.2 7 0 4).toNatClampNeg z1.1)) 7 3 (upd (z4.2 7 3) (z4.2 7 0 4).toNatClampNeg z3.1)) r) rfl (in_rng2 (y := 20) rfl (by decide) (by rw [hqz4]; exact h) (by assumption)) dX2_readWire_101 (fun H locs hP hD hS => ?_)
            rw [wX_s49 G A (su (su z4.2 7 2 (upd (z4.2 7 2) (z4.2 7 0 4).toNatClampNeg z1.1)) 7 3 (upd (z4.2 7 3) (z4.2 7 0 4).toNatClampNeg z3.1)) r _] at hP hD
            have hP : va_P G.1 vwCl (wX G A (su (su (su z4.2 7 2 (upd (z4.2 7 2) (z4.2 7 0 4).toNatClampNeg z1.1)) 7 3 (upd (z4.2 7 3) (z4.2 7 0 4).toNatClampNeg z3.1)) 7 4 (upd (z4.2 7 4) (z4.2 7 0 4).toNatClampNeg 60)) r) H := hP
            have hD : va_D A0 (wX G A (su (su (su z4.2 7 2 (upd (z4.2 7 2) (z4.2 7 0 4).toNatClampNeg z1.1)) 7 3 (upd (z4.2 7 3) (z4.2 7 0 4).toNatClampNeg z3.1)) 7 4 (upd (z4.2 7 4) (z4.2 7 0 4).toNatClampNeg 60)) r) := hD
            refine lv_aload_n hx hb dX2_readWire_102 rfl (lv_at hl 3 rfl) ?_
            refine lv_dup hx hb dX2_readWire_103 rfl ?_
            refine va_get (D := G.1) (ci := 2) (v := .int (z4.2 7 0 4)) (C := RX2) (T := TX2) (N := 7) hx hb hts hinX2 hown hK.1 hP 45 (wX_45 G A (su (su (su z4.2 7 2 (upd (z4.2 7 2) (z4.2 7 0 4).toNatClampNeg z1.1)) 7 3 (upd (z4.2 7 3) (z4.2 7 0 4).toNatClampNeg z3.1)) 7 4 (upd (z4.2 7 4) (z4.2 7 0 4).toNatClampNeg 60)) r) rfl 6 (by decide) (hts (.fieldLink RX2 29 "WireLoops$WireList" "listed" "I") (List.mem_of_getElem? (i := 1) rfl)) (fun _ h9 => h9) rfl dX2_readWire_104 ?_
            refine lv_iconst (v := 1) hx hb dX2_readWire_107 (by decide) ?_
            refine lv_iadd hx hb dX2_readWire_108 ?_
            refine va_put (D := G.1) (ci := 2) (v := .int ((z4.2 7 0 4) + 1)) (ty := .int) (C := RX2) (T := TX2) (N := 7) hx hb hts hinX2 tyX2 tyX2_ok nmX2 hown hK.1 hP hD hS 45 (wX_45 G A (su (su (su z4.2 7 2 (upd (z4.2 7 2) (z4.2 7 0 4).toNatClampNeg z1.1)) 7 3 (upd (z4.2 7 3) (z4.2 7 0 4).toNatClampNeg z3.1)) 7 4 (upd (z4.2 7 4) (z4.2 7 0 4).toNatClampNeg 60)) r) rfl 6 (by decide) (hts (.fieldLink RX2 29 "WireLoops$WireList" "listed" "I") (List.mem_of_getElem? (i := 1) rfl)) (fun _ h9 => h9) rfl (by decide +kernel) rfl rfl (Nat.le_of_ble_eq_true rfl) dX2_readWire_109 (fun H locs hP hD hS => ?_)
            rw [wX_s45_6 G A (su (su (su z4.2 7 2 (upd (z4.2 7 2) (z4.2 7 0 4).toNatClampNeg z1.1)) 7 3 (upd (z4.2 7 3) (z4.2 7 0 4).toNatClampNeg z3.1)) 7 4 (upd (z4.2 7 4) (z4.2 7 0 4).toNatClampNeg 60)) r _] at hP hD
            have hP : va_P G.1 vwCl (wX G A (su (su (su (su z4.2 7 2 (upd (z4.2 7 2) (z4.2 7 0 4).toNatClampNeg z1.1)) 7 3 (upd (z4.2 7 3) (z4.2 7 0 4).toNatClampNeg z3.1)) 7 4 (upd (z4.2 7 4) (z4.2 7 0 4).toNatClampNeg 60)) 7 0 (upd (z4.2 7 0) 4 ((z4.2 7 0 4) + 1))) r) H := hP
            have hD : va_D A0 (wX G A (su (su (su (su z4.2 7 2 (upd (z4.2 7 2) (z4.2 7 0 4).toNatClampNeg z1.1)) 7 3 (upd (z4.2 7 3) (z4.2 7 0 4).toNatClampNeg z3.1)) 7 4 (upd (z4.2 7 4) (z4.2 7 0 4).toNatClampNeg 60)) 7 0 (upd (z4.2 7 0) 4 ((z4.2 7 0 4) + 1))) r) := hD
            refine lv_iconst (v := 1) hx hb dX2_readWire_112 (by decide) ?_
            have hfin : (1, (su (su (su (su z4.2 7 2 (upd (z4.2 7 2) (z4.2 7 0 4).toNatClampNeg z1.1)) 7 3 (upd (z4.2 7 3) (z4.2 7 0 4).toNatClampNeg z3.1)) 7 4 (upd (z4.2 7 4) (z4.2 7 0 4).toNatClampNeg 60)) 7 0 (upd (z4.2 7 0) 4 ((z4.2 7 0 4) + 1)))) = (f_X2_readWire S) := Eq.trans (Eq.symm (Eq.trans (e_X2_readWire_k4 z4 z1 z2 z3 S) (Eq.trans (if_pos c4) ((if_pos c6))))) hres4
            exact endM hx hb hr hlocks rfl hP hD hS ⟨@congrArg (Int32 × XS) Int32 (1, (su (su (su (su z4.2 7 2 (upd (z4.2 7 2) (z4.2 7 0 4).toNatClampNeg z1.1)) 7 3 (upd (z4.2 7 3) (z4.2 7 0 4).toNatClampNeg z3.1)) 7 4 (upd (z4.2 7 4) (z4.2 7 0 4).toNatClampNeg 60)) 7 0 (upd (z4.2 7 0) 4 ((z4.2 7 0 4) + 1)))) (f_X2_readWire S) Prod.fst hfin, @congrArg (Int32 × XS) va_W (1, (su (su (su (su z4.2 7 2 (upd (z4.2 7 2) (z4.2 7 0 4).toNatClampNeg z1.1)) 7 3 (upd (z4.2 7 3) (z4.2 7 0 4).toNatClampNeg z3.1)) 7 4 (upd (z4.2 7 4) (z4.2 7 0 4).toNatClampNeg 60)) 7 0 (upd (z4.2 7 0) 4 ((z4.2 7 0 4) + 1)))) (f_X2_readWire S) (fun z => wX G A z.2 r) hfin⟩ dX2_readWire_113
          · skip
            refine lv_iconst (v := 0) hx hb dX2_readWire_70 (by decide) ?_
            have hfin : (0, z4.2) = (f_X2_readWire S) := Eq.trans (Eq.symm (Eq.trans (e_X2_readWire_k4 z4 z1 z2 z3 S) (Eq.trans (if_pos c4) ((if_neg c6))))) hres4
            exact endM hx hb hr hlocks rfl hP hD hS ⟨@congrArg (Int32 × XS) Int32 (0, z4.2) (f_X2_readWire S) Prod.fst hfin, @congrArg (Int32 × XS) va_W (0, z4.2) (f_X2_readWire S) (fun z => wX G A z.2 r) hfin⟩ dX2_readWire_71
        · skip
          refine lv_aload_n hx hb dX2_readWire_46 rfl (lv_at hl 2 rfl) ?_
          refine cmV (rest := []) (As := []) E (c_X2_readHeight l G A z4.2 r) (cwV 0 hts gX2_readWire_X2_readHeight rfl rfl rfl (by decide +kernel) ⟨Nat.le_of_ble_eq_true rfl, Nat.le_of_ble_eq_true rfl⟩) hK hP hD hS hA 45 (wX_45 G A z4.2 r) rfl rfl hl.1 rfl (Nat.le_of_ble_eq_true rfl) dX2_readWire_47 ⟨Nat.zero_le _, Nat.zero_le _⟩ (fun H locs hP hD hS => ?_)
          have hres5 : f_X2_readWire_k5 (f_X2_readHeight z4.2) z1 z2 z3 z4 S = (f_X2_readWire S) := Eq.trans (Eq.symm (Eq.trans (e_X2_readWire_k4 z4 z1 z2 z3 S) ((if_neg c4)))) hres4
          generalize hz5 : (f_X2_readHeight z4.2) = z5 at hres5 hP hD ⊢
          have hqz5 : z5.2 7 0 4 = S 7 0 4 := by rw [← hz5]; exact (l4_readHeight _).trans hqz4
          refine lv_goto (tgt := 55) hx hb dX2_readWire_50 (by decide) ?_
          refine lv_istore_n (lv' := [(3, .int z5.1), (2, .int z3.1), (1, .int z1.1), (0, .ref (A 45))]) hx hb dX2_readWire_55 rfl hl (by decide) rfl (fun ls hl => ?_)
          refine lv_iload_n hx hb dX2_readWire_56 rfl (lv_at hl 0 rfl) ?_
          refine lv_iconst (v := (-1)) hx hb dX2_readWire_57 (by decide) ?_
          refine lv_icmp_eq (tgt := 70) hx hb dX2_readWire_58 (by decide) (fun c7 => ?_) (fun c7 => ?_)
          · skip
            refine lv_iconst (v := 0) hx hb dX2_readWire_70 (by decide) ?_
            have hfin : (0, z5.2) = (f_X2_readWire S) := Eq.trans (Eq.symm (Eq.trans (e_X2_readWire_k5 z5 z1 z2 z3 z4 S) ((if_pos c7)))) hres5
            exact endM hx hb hr hlocks rfl hP hD hS ⟨@congrArg (Int32 × XS) Int32 (0, z5.2) (f_X2_readWire S) Prod.fst hfin, @congrArg (Int32 × XS) va_W (0, z5.2) (f_X2_readWire S) (fun z => wX G A z.2 r) hfin⟩ dX2_readWire_71
          · skip
            refine lv_aload_n hx hb dX2_readWire_61 rfl (lv_at hl 3 rfl) ?_
            refine va_get (D := G.1) (ci := 2) (v := .int (z5.2 7 0 4)) (C := RX2) (T := TX2) (N := 7) hx hb hts hinX2 hown hK.1 hP 45 (wX_45 G A z5.2 r) rfl 6 (by decide) (hts (.fieldLink RX2 29 "WireLoops$WireList" "listed" "I") (List.mem_of_getElem? (i := 1) rfl)) (fun _ h9 => h9) rfl dX2_readWire_62 ?_
            refine lv_bipush (v := 20) hx hb dX2_readWire_65 (by decide) ?_
            refine lv_icmp_lt (tgt := 72) hx hb dX2_readWire_67 (by decide) (fun c8 => ?_) (fun c8 => ?_)
            · skip
              refine lv_aload_n hx hb dX2_readWire_72 rfl (lv_at hl 3 rfl) ?_
              refine va_get (D := G.1) (ci := 2) (v := .ref (A 47)) (C := RX2) (T := TX2) (N := 7) hx hb hts hinX2 hown hK.1 hP 45 (wX_45 G A z5.2 r) rfl 3 (by decide) (hts (.fieldLink RX2 15 "WireLoops$WireList" "pads" "[I") (List.mem_of_getElem? (i := 2) rfl)) (fun _ h9 => h9) rfl dX2_readWire_73 ?_
              refine lv_aload_n hx hb dX2_readWire_76 rfl (lv_at hl 3 rfl) ?_
              refine va_get (D := G.1) (ci := 2) (v := .int (z5.2 7 0 4)) (C := RX2) (T := TX2) (N := 7) hx hb hts hinX2 hown hK.1 hP 45 (wX_45 G A z5.2 r) rfl 6 (by decide) (hts (.fieldLink RX2 29 "WireLoops$WireList" "listed" "I") (List.mem_of_getElem? (i := 1) rfl)) (fun _ h9 => h9) rfl dX2_readWire_77 ?_
              refine lv_iload_n hx hb dX2_readWire_80 rfl (lv_at hl 2 rfl) ?_
              refine va_iast (D := G.1) hx hb hK.1 hP hD hS 47 0 (wX_47 G A z5.2 r) rfl (in_rng2 (y := 20) rfl (by decide) (by rw [hqz5]; exact h) (by assumption)) dX2_readWire_81 (fun H locs hP hD hS => ?_)
              rw [wX_s47 G A z5.2 r _] at hP hD
              have hP : va_P G.1 vwCl (wX G A (su z5.2 7 2 (upd (z5.2 7 2) (z5.2 7 0 4).toNatClampNeg z1.1)) r) H := hP
              have hD : va_D A0 (wX G A (su z5.2 7 2 (upd (z5.2 7 2) (z5.2 7 0 4).toNatClampNeg z1.1)) r) := hD
              refine lv_aload_n hx hb dX2_readWire_82 rfl (lv_at hl 3 rfl) ?_
              refine va_get (D := G.1) (ci := 2) (v := .ref (A 48)) (C := RX2) (T := TX2) (N := 7) hx hb hts hinX2 hown hK.1 hP 45 (wX_45 G A (su z5.2 7 2 (upd (z5.2 7 2) (z5.2 7 0 4).toNatClampNeg z1.1)) r) rfl 4 (by decide) (hts (.fieldLink RX2 19 "WireLoops$WireList" "leads" "[I") (List.mem_of_getElem? (i := 3) rfl)) (fun _ h9 => h9) rfl dX2_readWire_83 ?_
              refine lv_aload_n hx hb dX2_readWire_86 rfl (lv_at hl 3 rfl) ?_
              refine va_get (D := G.1) (ci := 2) (v := .int (z5.2 7 0 4)) (C := RX2) (T := TX2) (N := 7) hx hb hts hinX2 hown hK.1 hP 45 (wX_45 G A (su z5.2 7 2 (upd (z5.2 7 2) (z5.2 7 0 4).toNatClampNeg z1.1)) r) rfl 6 (by decide) (hts (.fieldLink RX2 29 "WireLoops$WireList" "listed" "I") (List.mem_of_getElem? (i := 1) rfl)) (fun _ h9 => h9) rfl dX2_readWire_87 ?_
              refine lv_iload_n hx hb dX2_readWire_90 rfl (lv_at hl 1 rfl) ?_
              refine va_iast (D := G.1) hx hb hK.1 hP hD hS 48 0 (wX_48 G A (su z5.2 7 2 (upd (z5.2 7 2) (z5.2 7 0 4).toNatClampNeg z1.1)) r) rfl (in_rng2 (y := 20) rfl (by decide) (by rw [hqz5]; exact h) (by assumption)) dX2_readWire_91 (fun H locs hP hD hS => ?_)
              rw [wX_s48 G A (su z5.2 7 2 (upd (z5.2 7 2) (z5.2 7 0 4).toNatClampNeg z1.1)) r _] at hP hD
              have hP : va_P G.1 vwCl (wX G A (su (su z5.2 7 2 (upd (z5.2 7 2) (z5.2 7 0 4).toNatClampNeg z1.1)) 7 3 (upd (z5.2 7 3) (z5.2 7 0 4).toNatClampNeg z3.1)) r) H := hP
              have hD : va_D A0 (wX G A (su (su z5.2 7 2 (upd (z5.2 7 2) (z5.2 7 0 4).toNatClampNeg z1.1)) 7 3 (upd (z5.2 7 3) (z5.2 7 0 4).toNatClampNeg z3.1)) r) := hD
              refine lv_aload_n hx hb dX2_readWire_92 rfl (lv_at hl 3 rfl) ?_
              refine va_get (D := G.1) (ci := 2) (v := .ref (A 49)) (C := RX2) (T := TX2) (N := 7) hx hb hts hinX2 hown hK.1 hP 45 (wX_45 G A (su (su z5.2 7 2 (upd (z5.2 7 2) (z5.2 7 0 4).toNatClampNeg z1.1)) 7 3 (upd (z5.2 7 3) (z5.2 7 0 4).toNatClampNeg z3.1)) r) rfl 5 (by decide) (hts (.fieldLink RX2 22 "WireLoops$WireList" "heights" "[I") (List.mem_of_getElem? (i := 4) rfl)) (fun _ h9 => h9) rfl dX2_readWire_93 ?_
              refine lv_aload_n hx hb dX2_readWire_96 rfl (lv_at hl 3 rfl) ?_
              refine va_get (D := G.1) (ci := 2) (v := .int (z5.2 7 0 4)) (C := RX2) (T := TX2) (N := 7) hx hb hts hinX2 hown hK.1 hP 45 (wX_45 G A (su (su z5.2 7 2 (upd (z5.2 7 2) (z5.2 7 0 4).toNatClampNeg z1.1)) 7 3 (upd (z5.2 7 3) (z5.2 7 0 4).toNatClampNeg z3.1)) r) rfl 6 (by decide) (hts (.fieldLink RX2 29 "WireLoops$WireList" "listed" "I") (List.mem_of_getElem? (i := 1) rfl)) (fun _ h9 => h9) rfl dX2_readWire_97 ?_
              refine lv_iload_n hx hb dX2_readWire_100 rfl (lv_at hl 0 rfl) ?_
              refine va_iast (D := G.1) hx hb hK.1 hP hD hS 49 0 (wX_49 G A (su (su z5.2 7 2 (upd (z5.2 7 2) (z5.2 7 0 4).toNatClampNeg z1.1)) 7 3 (upd (z5.2 7 3) (z5.2 7 0 4).toNatClampNeg z3.1)) r) rfl (in_rng2 (y := 20) rfl (by decide) (by rw [hqz5]; exact h) (by assumption)) dX2_readWire_101 (fun H locs hP hD hS => ?_)
              rw [wX_s49 G A (su (su z5.2 7 2 (upd (z5.2 7 2) (z5.2 7 0 4).toNatClampNeg z1.1)) 7 3 (upd (z5.2 7 3) (z5.2 7 0 4).toNatClampNeg z3.1)) r _] at hP hD
              have hP : va_P G.1 vwCl (wX G A (su (su (su z5.2 7 2 (upd (z5.2 7 2) (z5.2 7 0 4).toNatClampNeg z1.1)) 7 3 (upd (z5.2 7 3) (z5.2 7 0 4).toNatClampNeg z3.1)) 7 4 (upd (z5.2 7 4) (z5.2 7 0 4).toNatClampNeg z5.1)) r) H := hP
              have hD : va_D A0 (wX G A (su (su (su z5.2 7 2 (upd (z5.2 7 2) (z5.2 7 0 4).toNatClampNeg z1.1)) 7 3 (upd (z5.2 7 3) (z5.2 7 0 4).toNatClampNeg z3.1)) 7 4 (upd (z5.2 7 4) (z5.2 7 0 4).toNatClampNeg z5.1)) r) := hD
              refine lv_aload_n hx hb dX2_readWire_102 rfl (lv_at hl 3 rfl) ?_
              refine lv_dup hx hb dX2_readWire_103 rfl ?_
              refine va_get (D := G.1) (ci := 2) (v := .int (z5.2 7 0 4)) (C := RX2) (T := TX2) (N := 7) hx hb hts hinX2 hown hK.1 hP 45 (wX_45 G A (su (su (su z5.2 7 2 (upd (z5.2 7 2) (z5.2 7 0 4).toNatClampNeg z1.1)) 7 3 (upd (z5.2 7 3) (z5.2 7 0 4).toNatClampNeg z3.1)) 7 4 (upd (z5.2 7 4) (z5.2 7 0 4).toNatClampNeg z5.1)) r) rfl 6 (by decide) (hts (.fieldLink RX2 29 "WireLoops$WireList" "listed" "I") (List.mem_of_getElem? (i := 1) rfl)) (fun _ h9 => h9) rfl dX2_readWire_104 ?_
              refine lv_iconst (v := 1) hx hb dX2_readWire_107 (by decide) ?_
              refine lv_iadd hx hb dX2_readWire_108 ?_
              refine va_put (D := G.1) (ci := 2) (v := .int ((z5.2 7 0 4) + 1)) (ty := .int) (C := RX2) (T := TX2) (N := 7) hx hb hts hinX2 tyX2 tyX2_ok nmX2 hown hK.1 hP hD hS 45 (wX_45 G A (su (su (su z5.2 7 2 (upd (z5.2 7 2) (z5.2 7 0 4).toNatClampNeg z1.1)) 7 3 (upd (z5.2 7 3) (z5.2 7 0 4).toNatClampNeg z3.1)) 7 4 (upd (z5.2 7 4) (z5.2 7 0 4).toNatClampNeg z5.1)) r) rfl 6 (by decide) (hts (.fieldLink RX2 29 "WireLoops$WireList" "listed" "I") (List.mem_of_getElem? (i := 1) rfl)) (fun _ h9 => h9) rfl (by decide +kernel) rfl rfl (Nat.le_of_ble_eq_true rfl) dX2_readWire_109 (fun H locs hP hD hS => ?_)
              rw [wX_s45_6 G A (su (su (su z5.2 7 2 (upd (z5.2 7 2) (z5.2 7 0 4).toNatClampNeg z1.1)) 7 3 (upd (z5.2 7 3) (z5.2 7 0 4).toNatClampNeg z3.1)) 7 4 (upd (z5.2 7 4) (z5.2 7 0 4).toNatClampNeg z5.1)) r _] at hP hD
              have hP : va_P G.1 vwCl (wX G A (su (su (su (su z5.2 7 2 (upd (z5.2 7 2) (z5.2 7 0 4).toNatClampNeg z1.1)) 7 3 (upd (z5.2 7 3) (z5.2 7 0 4).toNatClampNeg z3.1)) 7 4 (upd (z5.2 7 4) (z5.2 7 0 4).toNatClampNeg z5.1)) 7 0 (upd (z5.2 7 0) 4 ((z5.2 7 0 4) + 1))) r) H := hP
              have hD : va_D A0 (wX G A (su (su (su (su z5.2 7 2 (upd (z5.2 7 2) (z5.2 7 0 4).toNatClampNeg z1.1)) 7 3 (upd (z5.2 7 3) (z5.2 7 0 4).toNatClampNeg z3.1)) 7 4 (upd (z5.2 7 4) (z5.2 7 0 4).toNatClampNeg z5.1)) 7 0 (upd (z5.2 7 0) 4 ((z5.2 7 0 4) + 1))) r) := hD
              refine lv_iconst (v := 1) hx hb dX2_readWire_112 (by decide) ?_
              have hfin : (1, (su (su (su (su z5.2 7 2 (upd (z5.2 7 2) (z5.2 7 0 4).toNatClampNeg z1.1)) 7 3 (upd (z5.2 7 3) (z5.2 7 0 4).toNatClampNeg z3.1)) 7 4 (upd (z5.2 7 4) (z5.2 7 0 4).toNatClampNeg z5.1)) 7 0 (upd (z5.2 7 0) 4 ((z5.2 7 0 4) + 1)))) = (f_X2_readWire S) := Eq.trans (Eq.symm (Eq.trans (e_X2_readWire_k5 z5 z1 z2 z3 z4 S) (Eq.trans (if_neg c7) ((if_pos c8))))) hres5
              exact endM hx hb hr hlocks rfl hP hD hS ⟨@congrArg (Int32 × XS) Int32 (1, (su (su (su (su z5.2 7 2 (upd (z5.2 7 2) (z5.2 7 0 4).toNatClampNeg z1.1)) 7 3 (upd (z5.2 7 3) (z5.2 7 0 4).toNatClampNeg z3.1)) 7 4 (upd (z5.2 7 4) (z5.2 7 0 4).toNatClampNeg z5.1)) 7 0 (upd (z5.2 7 0) 4 ((z5.2 7 0 4) + 1)))) (f_X2_readWire S) Prod.fst hfin, @congrArg (Int32 × XS) va_W (1, (su (su (su (su z5.2 7 2 (upd (z5.2 7 2) (z5.2 7 0 4).toNatClampNeg z1.1)) 7 3 (upd (z5.2 7 3) (z5.2 7 0 4).toNatClampNeg z3.1)) 7 4 (upd (z5.2 7 4) (z5.2 7 0 4).toNatClampNeg z5.1)) 7 0 (upd (z5.2 7 0) 4 ((z5.2 7 0 4) + 1)))) (f_X2_readWire S) (fun z => wX G A z.2 r) hfin⟩ dX2_readWire_113
            · skip
              refine lv_iconst (v := 0) hx hb dX2_readWire_70 (by decide) ?_
              have hfin : (0, z5.2) = (f_X2_readWire S) := Eq.trans (Eq.symm (Eq.trans (e_X2_readWire_k5 z5 z1 z2 z3 z4 S) (Eq.trans (if_neg c7) ((if_neg c8))))) hres5
              exact endM hx hb hr hlocks rfl hP hD hS ⟨@congrArg (Int32 × XS) Int32 (0, z5.2) (f_X2_readWire S) Prod.fst hfin, @congrArg (Int32 × XS) va_W (0, z5.2) (f_X2_readWire S) (fun z => wX G A z.2 r) hfin⟩ dX2_readWire_71
      · skip
        refine lv_iconst (v := 0) hx hb dX2_readWire_35 (by decide) ?_
        have hfin : (0, z3.2) = (f_X2_readWire S) := Eq.trans (Eq.symm (Eq.trans (e_X2_readWire_k3 z3 z1 z2 S) ((if_pos c3)))) hres3
        exact endM hx hb hr hlocks rfl hP hD hS ⟨@congrArg (Int32 × XS) Int32 (0, z3.2) (f_X2_readWire S) Prod.fst hfin, @congrArg (Int32 × XS) va_W (0, z3.2) (f_X2_readWire S) (fun z => wX G A z.2 r) hfin⟩ dX2_readWire_36
    · skip
      refine lv_iconst (v := 0) hx hb dX2_readWire_21 (by decide) ?_
      have hfin : (0, z2.2) = (f_X2_readWire S) := Eq.trans (Eq.symm (Eq.trans (e_X2_readWire_k2 z2 z1 S) ((if_pos c2)))) hres2
      exact endM hx hb hr hlocks rfl hP hD hS ⟨@congrArg (Int32 × XS) Int32 (0, z2.2) (f_X2_readWire S) Prod.fst hfin, @congrArg (Int32 × XS) va_W (0, z2.2) (f_X2_readWire S) (fun z => wX G A z.2 r) hfin⟩ dX2_readWire_22
theorem l4_readWire {S : XS} {k : Nat} (h : S 7 0 4 = nI k) (hr : ¬ (f_X2_readWire S).1 = 0) : (f_X2_readWire S).2 7 0 4 = nI (k + 1) := by
  rw [e_X2_readWire, e_X2_readWire_k1] at hr ⊢
  generalize hz1 : f_X2_readNumber S 11 = z1 at hr ⊢
  have q1 : z1.2 7 0 4 = nI k := by rw [← hz1, l4_readNumber]; exact h
  by_cases c1 : z1.1 = (-1)
  · rw [if_pos c1] at hr; exact absurd rfl hr
  rw [if_neg c1, e_X2_readWire_k2] at hr ⊢
  generalize hz2 : f_X2_passBy z1.2 45 = z2 at hr ⊢
  have q2 : z2.2 7 0 4 = nI k := by rw [← hz2, l4_passBy]; exact q1
  by_cases c2 : z2.1 = 0
  · rw [if_pos c2] at hr; exact absurd rfl hr
  rw [if_neg c2, e_X2_readWire_k3] at hr ⊢
  generalize hz3 : f_X2_readNumber z2.2 15 = z3 at hr ⊢
  have q3 : z3.2 7 0 4 = nI k := by rw [← hz3, l4_readNumber]; exact q2
  by_cases c3 : z3.1 = (-1)
  · rw [if_pos c3] at hr; exact absurd rfl hr
  rw [if_neg c3, e_X2_readWire_k4] at hr ⊢
  generalize hz4 : f_X2_passBy z3.2 58 = z4 at hr ⊢
  have q4 : z4.2 7 0 4 = nI k := by rw [← hz4, l4_passBy]; exact q3
  by_cases c4 : z4.1 = 0
  · rw [if_pos c4] at hr ⊢
    by_cases c5 : z4.2 7 0 4 < 20
    · rw [if_pos c5]
      show z4.2 7 0 4 + 1 = nI (k + 1)
      rw [q4]; exact nI_1 k
    · rw [if_neg c5] at hr; exact absurd rfl hr
  · rw [if_neg c4, e_X2_readWire_k5] at hr ⊢
    generalize hz5 : f_X2_readHeight z4.2 = z5 at hr ⊢
    have q5 : z5.2 7 0 4 = nI k := by rw [← hz5, l4_readHeight]; exact q4
    by_cases c5 : z5.1 = (-1)
    · rw [if_pos c5] at hr; exact absurd rfl hr
    rw [if_neg c5] at hr ⊢
    by_cases c6 : z5.2 7 0 4 < 20
    · rw [if_pos c6]
      show z5.2 7 0 4 + 1 = nI (k + 1)
      rw [q5]; exact nI_1 k
    · rw [if_neg c6] at hr; exact absurd rfl hr
noncomputable def g_X2_read_12 : Nat → Nat → XS → Int32 × XS
  | 0, k, S1 => (0, S1)
  | n + 1, k, S1 => opq (if 20 ≤ (nI k) then ((S1 7 0 3), S1) else (if ((f_X2_readWire S1).1) = 0 then ((((f_X2_readWire S1).2 7 0) 3), (f_X2_readWire S1).2) else (if (((f_X2_readWire S1).2 7 0) 3) < (((f_X2_readWire S1).2 7 0) 2) then (if ((f_X2_passBy (f_X2_readWire S1).2 44).1) = 0 then ((((f_X2_passBy (f_X2_readWire S1).2 44).2 7 0) 3), (f_X2_passBy (f_X2_readWire S1).2 44).2) else (g_X2_read_12 n (k + 1) ((f_X2_passBy (f_X2_readWire S1).2 44).2))) else ((-1), (f_X2_readWire S1).2))))
theorem ge_X2_read_12 (n : Nat) (k : Nat) (S1 : XS) : g_X2_read_12 (n + 1) k S1 = (if 20 ≤ (nI k) then ((S1 7 0 3), S1) else (if ((f_X2_readWire S1).1) = 0 then ((((f_X2_readWire S1).2 7 0) 3), (f_X2_readWire S1).2) else (if (((f_X2_readWire S1).2 7 0) 3) < (((f_X2_readWire S1).2 7 0) 2) then (if ((f_X2_passBy (f_X2_readWire S1).2 44).1) = 0 then ((((f_X2_passBy (f_X2_readWire S1).2 44).2 7 0) 3), (f_X2_passBy (f_X2_readWire S1).2 44).2) else (g_X2_read_12 n (k + 1) ((f_X2_passBy (f_X2_readWire S1).2 44).2))) else ((-1), (f_X2_readWire S1).2)))) := opq_eq _
noncomputable def f_X2_read (S : XS) : Int32 × XS := opq (g_X2_read_12 21 0 (su (su S 7 0 (upd (S 7 0) 3 0)) 7 0 (upd (upd (S 7 0) 3 0) 4 0)))
theorem e_X2_read (S : XS) : f_X2_read S = (g_X2_read_12 21 0 (su (su S 7 0 (upd (S 7 0) 3 0)) 7 0 (upd (upd (S 7 0) 3 0) 4 0))) := opq_eq _
set_option maxHeartbeats 4000000 in
set_option maxRecDepth 100000 in
theorem c_X2_read (l : Launch) (G : GG) (A : Nat → Nat) (S : XS) (r : Nat)  : Mm l yX2_read wsX2_read ({ frames := 5, cells := 0, slots := 0, locals := 111 } : Room) G [.ref (A 45)] (wX G A S r) (f_X2_read S).1 (wX G A (f_X2_read S).2 r) := by
  refine Mm.of (cc := cX2_read) (maxL := 2) (ret := (some .int)) (by decide) rfl (Nat.le_of_ble_eq_true rfl) ?_
  intro p e s m args below meth c A0 hA0 E hr hlocks hP hK hD hA hS ls hl
  have E : CallFix p m c cX2_read 2 s args wsX2_read RX2 := E
  have hx := E.1
  have hb := E.2.1
  have hml := E.2.2.1
  have hown := E.2.2.2.1
  have hts := E.2.2.2.2
  have hl : lv_has ls 2 [(0, .ref (A 45))] := hl
  have hinX2 : ∀ w ∈ u_ws RX2 TX2 7, w ∈ wsX2_read := fun _ h => List.mem_cons_of_mem _ (List.mem_append_right _ h)
  have LOOP12 : ∀ (n : Nat) (k : Nat) (S1 : XS), (k ≤ 20) → (S1 7 0 4 = nI k) → (20 < k + n) → g_X2_read_12 n k S1 = (f_X2_read S) → ∀ (H : Heap) (locs : List Loc), va_P G.1 vwCl (wX G A S1 r) H → va_D A0 (wX G A S1 r) → va_S A0 s.heap H locs → ∀ ls : Array Slot, lv_has ls 2 [(0, .ref (A 45)), (1, .int (nI k))] → W p l e ({ frames := 5, cells := 0, slots := 0, locals := 111 } : Room) s m args below meth c H locs 0 0 (MQ below (va_Qi (fun (r : Int32) (_ : Unit) => r = (f_X2_read S).1) (fun _ t => va_P G.1 vwCl (wX G A (f_X2_read S).2 r) t.heap ∧ va_D A0 (wX G A (f_X2_read S).2 r)) A0) args s 0 0 A0) (F0 m 12 ls []) := by
    intro n
    induction n with
    | zero =>
      intro k S1 hk h4 hn
      exact absurd hn (by omega)
    | succ n ih =>
      intro k S1 hk h4 hn hres H locs hP hD hS ls hl
      have hl : lv_has ls 2 [(0, .ref (A 45)), (1, .int (nI k))] := hl
      refine lv_iload_n hx hb dX2_read_12 rfl (lv_at hl 1 rfl) ?_
      refine lv_bipush (v := 20) hx hb dX2_read_13 (by decide) ?_
      refine lv_icmp_ge (tgt := 63) hx hb dX2_read_15 (by decide) (fun c1 => ?_) (fun c1 => ?_)
      · skip
        refine lv_aload_n hx hb dX2_read_63 rfl (lv_at hl 0 rfl) ?_
        refine va_get (D := G.1) (ci := 2) (v := .int (S1 7 0 3)) (C := RX2) (T := TX2) (N := 7) hx hb hts hinX2 hown hK.1 hP 45 (wX_45 G A S1 r) rfl 2 (by decide) (hts (.fieldLink RX2 40 "WireLoops$WireList" "at" "I") (List.mem_of_getElem? (i := 1) rfl)) (fun _ h9 => h9) rfl dX2_read_64 ?_
        have hfin : ((S1 7 0 3), S1) = (f_X2_read S) := Eq.trans (Eq.symm (Eq.trans (ge_X2_read_12 n k S1) ((if_pos c1)))) hres
        exact endM hx hb hr hlocks rfl hP hD hS ⟨@congrArg (Int32 × XS) Int32 ((S1 7 0 3), S1) (f_X2_read S) Prod.fst hfin, @congrArg (Int32 × XS) va_W ((S1 7 0 3), S1) (f_X2_read S) (fun z => wX G A z.2 r) hfin⟩ dX2_read_67
      · skip
        have hk2 : k < 20 := lt_of_nle (N := 20) rfl hk c1 (by decide)
        have h40 : ¬ S1 7 0 4 < 0 := by rw [h4]; exact nI_pos (by omega)
        refine lv_aload_n hx hb dX2_read_18 rfl (lv_at hl 0 rfl) ?_
        refine cmV (rest := []) (As := []) E (c_X2_readWire l G A S1 r h40) (cwV 0 hts gX2_read_X2_readWire rfl rfl rfl (by decide +kernel) ⟨Nat.le_of_ble_eq_true rfl, Nat.le_of_ble_eq_true rfl⟩) hK hP hD hS hA 45 (wX_45 G A S1 r) rfl rfl hl.1 rfl (Nat.le_of_ble_eq_true rfl) dX2_read_19 ⟨Nat.zero_le _, Nat.zero_le _⟩ (fun H locs hP hD hS => ?_)
        refine lv_if_ne (tgt := 30) hx hb dX2_read_22 (by decide) (fun c2 => ?_) (fun c2 => ?_)
        · skip
          refine lv_aload_n hx hb dX2_read_30 rfl (lv_at hl 0 rfl) ?_
          refine va_get (D := G.1) (ci := 2) (v := .int (((f_X2_readWire S1).2 7 0) 3)) (C := RX2) (T := TX2) (N := 7) hx hb hts hinX2 hown hK.1 hP 45 (wX_45 G A (f_X2_readWire S1).2 r) rfl 2 (by decide) (hts (.fieldLink RX2 40 "WireLoops$WireList" "at" "I") (List.mem_of_getElem? (i := 1) rfl)) (fun _ h9 => h9) rfl dX2_read_31 ?_
          refine lv_aload_n hx hb dX2_read_34 rfl (lv_at hl 0 rfl) ?_
          refine va_get (D := G.1) (ci := 2) (v := .int (((f_X2_readWire S1).2 7 0) 2)) (C := RX2) (T := TX2) (N := 7) hx hb hts hinX2 hown hK.1 hP 45 (wX_45 G A (f_X2_readWire S1).2 r) rfl 1 (by decide) (hts (.fieldLink RX2 25 "WireLoops$WireList" "length" "I") (List.mem_of_getElem? (i := 3) rfl)) (fun _ h9 => h9) rfl dX2_read_35 ?_
          refine lv_icmp_lt (tgt := 43) hx hb dX2_read_38 (by decide) (fun c3 => ?_) (fun c3 => ?_)
          · skip
            refine lv_aload_n hx hb dX2_read_43 rfl (lv_at hl 0 rfl) ?_
            refine lv_bipush (v := 44) hx hb dX2_read_44 (by decide) ?_
            refine cmV (rest := []) (As := [.int 44]) E (c_X2_passBy l G A (f_X2_readWire S1).2 r 44) (cwV 1 hts gX2_read_X2_passBy rfl rfl rfl (by decide +kernel) ⟨Nat.le_of_ble_eq_true rfl, Nat.le_of_ble_eq_true rfl⟩) hK hP hD hS hA 45 (wX_45 G A (f_X2_readWire S1).2 r) rfl rfl hl.1 rfl (Nat.le_of_ble_eq_true rfl) dX2_read_46 ⟨Nat.zero_le _, Nat.zero_le _⟩ (fun H locs hP hD hS => ?_)
            refine lv_if_ne (tgt := 57) hx hb dX2_read_49 (by decide) (fun c4 => ?_) (fun c4 => ?_)
            · skip
              refine lv_iinc (v := (nI (k + 1))) (lv' := [(1, .int (nI (k + 1))), (0, .ref (A 45))]) hx hb dX2_read_57 hl (k := 1) rfl (nI_1 k) (by decide) rfl (fun ls hl => ?_)
              refine lv_goto (tgt := 12) hx hb dX2_read_60 (by decide) ?_
              exact ih (k + 1) ((f_X2_passBy (f_X2_readWire S1).2 44).2) (by omega) (by rw [l4_passBy]; exact l4_readWire h4 c2) (by omega) (Eq.trans (Eq.symm (Eq.trans (ge_X2_read_12 n k S1) (Eq.trans (if_neg c1) (Eq.trans (if_neg c2) (Eq.trans (if_pos c3) ((if_neg c4))))))) hres) _ _ hP hD hS _ (lv_sub hl [1, 0] rfl)
            · skip
              refine lv_aload_n hx hb dX2_read_52 rfl (lv_at hl 0 rfl) ?_
              refine va_get (D := G.1) (ci := 2) (v := .int (((f_X2_passBy (f_X2_readWire S1).2 44).2 7 0) 3)) (C := RX2) (T := TX2) (N := 7) hx hb hts hinX2 hown hK.1 hP 45 (wX_45 G A (f_X2_passBy (f_X2_readWire S1).2 44).2 r) rfl 2 (by decide) (hts (.fieldLink RX2 40 "WireLoops$WireList" "at" "I") (List.mem_of_getElem? (i := 1) rfl)) (fun _ h9 => h9) rfl dX2_read_53 ?_
              have hfin : ((((f_X2_passBy (f_X2_readWire S1).2 44).2 7 0) 3), (f_X2_passBy (f_X2_readWire S1).2 44).2) = (f_X2_read S) := Eq.trans (Eq.symm (Eq.trans (ge_X2_read_12 n k S1) (Eq.trans (if_neg c1) (Eq.trans (if_neg c2) (Eq.trans (if_pos c3) ((if_pos c4))))))) hres
              exact endM hx hb hr hlocks rfl hP hD hS ⟨@congrArg (Int32 × XS) Int32 ((((f_X2_passBy (f_X2_readWire S1).2 44).2 7 0) 3), (f_X2_passBy (f_X2_readWire S1).2 44).2) (f_X2_read S) Prod.fst hfin, @congrArg (Int32 × XS) va_W ((((f_X2_passBy (f_X2_readWire S1).2 44).2 7 0) 3), (f_X2_passBy (f_X2_readWire S1).2 44).2) (f_X2_read S) (fun z => wX G A z.2 r) hfin⟩ dX2_read_56
          · skip
            refine lv_iconst (v := (-1)) hx hb dX2_read_41 (by decide) ?_
            have hfin : ((-1), (f_X2_readWire S1).2) = (f_X2_read S) := Eq.trans (Eq.symm (Eq.trans (ge_X2_read_12 n k S1) (Eq.trans (if_neg c1) (Eq.trans (if_neg c2) ((if_neg c3)))))) hres
            exact endM hx hb hr hlocks rfl hP hD hS ⟨@congrArg (Int32 × XS) Int32 ((-1), (f_X2_readWire S1).2) (f_X2_read S) Prod.fst hfin, @congrArg (Int32 × XS) va_W ((-1), (f_X2_readWire S1).2) (f_X2_read S) (fun z => wX G A z.2 r) hfin⟩ dX2_read_42
        · skip
          refine lv_aload_n hx hb dX2_read_25 rfl (lv_at hl 0 rfl) ?_
          refine va_get (D := G.1) (ci := 2) (v := .int (((f_X2_readWire S1).2 7 0) 3)) (C := RX2) (T := TX2) (N := 7) hx hb hts hinX2 hown hK.1 hP 45 (wX_45 G A (f_X2_readWire S1).2 r) rfl 2 (by decide) (hts (.fieldLink RX2 40 "WireLoops$WireList" "at" "I") (List.mem_of_getElem? (i := 1) rfl)) (fun _ h9 => h9) rfl dX2_read_26 ?_
          have hfin : ((((f_X2_readWire S1).2 7 0) 3), (f_X2_readWire S1).2) = (f_X2_read S) := Eq.trans (Eq.symm (Eq.trans (ge_X2_read_12 n k S1) (Eq.trans (if_neg c1) ((if_pos c2))))) hres
          exact endM hx hb hr hlocks rfl hP hD hS ⟨@congrArg (Int32 × XS) Int32 ((((f_X2_readWire S1).2 7 0) 3), (f_X2_readWire S1).2) (f_X2_read S) Prod.fst hfin, @congrArg (Int32 × XS) va_W ((((f_X2_readWire S1).2 7 0) 3), (f_X2_readWire S1).2) (f_X2_read S) (fun z => wX G A z.2 r) hfin⟩ dX2_read_29
  refine lv_aload_n hx hb dX2_read_0 rfl (lv_at hl 0 rfl) ?_
  refine lv_iconst (v := 0) hx hb dX2_read_1 (by decide) ?_
  refine va_put (D := G.1) (ci := 2) (v := .int 0) (ty := .int) (C := RX2) (T := TX2) (N := 7) hx hb hts hinX2 tyX2 tyX2_ok nmX2 hown hK.1 hP hD hS 45 (wX_45 G A S r) rfl 2 (by decide) (hts (.fieldLink RX2 40 "WireLoops$WireList" "at" "I") (List.mem_of_getElem? (i := 1) rfl)) (fun _ h9 => h9) rfl (by decide +kernel) rfl rfl (Nat.le_of_ble_eq_true rfl) dX2_read_2 (fun H locs hP hD hS => ?_)
  rw [wX_s45_2 G A S r _] at hP hD
  have hP : va_P G.1 vwCl (wX G A (su S 7 0 (upd (S 7 0) 3 0)) r) H := hP
  have hD : va_D A0 (wX G A (su S 7 0 (upd (S 7 0) 3 0)) r) := hD
  refine lv_aload_n hx hb dX2_read_5 rfl (lv_at hl 0 rfl) ?_
  refine lv_iconst (v := 0) hx hb dX2_read_6 (by decide) ?_
  refine va_put (D := G.1) (ci := 2) (v := .int 0) (ty := .int) (C := RX2) (T := TX2) (N := 7) hx hb hts hinX2 tyX2 tyX2_ok nmX2 hown hK.1 hP hD hS 45 (wX_45 G A (su S 7 0 (upd (S 7 0) 3 0)) r) rfl 6 (by decide) (hts (.fieldLink RX2 29 "WireLoops$WireList" "listed" "I") (List.mem_of_getElem? (i := 2) rfl)) (fun _ h9 => h9) rfl (by decide +kernel) rfl rfl (Nat.le_of_ble_eq_true rfl) dX2_read_7 (fun H locs hP hD hS => ?_)
  rw [wX_s45_6 G A (su S 7 0 (upd (S 7 0) 3 0)) r _] at hP hD
  have hP : va_P G.1 vwCl (wX G A (su (su S 7 0 (upd (S 7 0) 3 0)) 7 0 (upd (upd (S 7 0) 3 0) 4 0)) r) H := hP
  have hD : va_D A0 (wX G A (su (su S 7 0 (upd (S 7 0) 3 0)) 7 0 (upd (upd (S 7 0) 3 0) 4 0)) r) := hD
  refine lv_iconst (v := 0) hx hb dX2_read_10 (by decide) ?_
  refine lv_istore_n (lv' := [(1, .int 0), (0, .ref (A 45))]) hx hb dX2_read_11 rfl hl (by decide) rfl (fun ls hl => ?_)
  exact LOOP12 21 0 (su (su S 7 0 (upd (S 7 0) 3 0)) 7 0 (upd (upd (S 7 0) 3 0) 4 0)) (by omega) rfl (by omega) (Eq.symm ((e_X2_read S))) _ _ hP hD hS _ (lv_sub hl [1, 0] rfl)
