/-! small facts that the printed walks use -/
theorem opq_ex {α : Type} (a : α) : ∃ g : α, g = a := ⟨a, rfl⟩
/-- a value that is not unfolded by the elaborator -/
noncomputable def opq {α : Type} (a : α) : α := Classical.choose (opq_ex a)
theorem opq_eq {α : Type} (a : α) : opq a = a := Classical.choose_spec (opq_ex a)
theorem nb_of {v : Int32} (h : v = 0 ∨ v = 1) : narrow .boolean (.int v) = .int v := by rcases h with rfl | rfl <;> rfl
theorem fb_of {v : Int32} (h : v = 0 ∨ v = 1) : fits .boolean (.int v) = true := by rcases h with rfl | rfl <;> rfl
theorem in_rng {x y : Int32} {N : Nat} (hy : y = nI N) (hN : N < 2147483648) (h0 : ¬ x < 0) (h1 : ¬ y ≤ x) : vp_in x N := by
  have a := Int32.le_iff_toInt_le.mp (Int32.not_lt.mp h0)
  have b := Int32.lt_iff_toInt_lt.mp (Int32.not_le.mp h1)
  rw [hy, nI_toInt hN] at b
  rw [Int32.toInt_zero] at a
  exact vp_in_iff.mpr ⟨a, b⟩
theorem lt_of_nle {k N : Nat} {x : Int32} (hx : x = nI N) (hk : k ≤ N) (h : ¬ x ≤ nI k) (hN : N < 1073741824) : k < N := by
  rcases Nat.lt_or_ge k N with q | q
  · exact q
  · exact absurd (by rw [hx]; exact nI_le q (by omega)) h
theorem lt_of_nlt {k N : Nat} {x : Int32} (hx : x = nI N) (hk : k ≤ N + 1) (h : ¬ x < nI k) (hN : N < 1073741824) : k < N + 1 := by
  rcases Nat.lt_or_ge k (N + 1) with q | q
  · exact q
  · exact absurd (by rw [hx]; exact nI_lt (by omega) (by omega)) h
theorem nI_cl {n : Nat} (h : n < 2147483648) : (nI n).toNatClampNeg = n := nI_clamp (by omega)
theorem ne_of_pos {x : Int32} (h : ¬ x ≤ 0) : ¬ x = 0 := fun e => h (by rw [e]; exact Int32.le_refl 0)
theorem sw_out (lo hi : Nat) (x : Int32) (hh : hi < 1000) (h : ∀ j : Nat, lo ≤ j → j ≤ hi → ¬ x = nI j) : x.toInt < (lo : Int) ∨ (hi : Int) < x.toInt := by
  by_cases a : x.toInt < (lo : Int)
  · exact Or.inl a
  by_cases b : (hi : Int) < x.toInt
  · exact Or.inr b
  exfalso
  have c := h x.toInt.toNat (by omega) (by omega)
  refine c (Int32.toInt_inj.mp ?_)
  rw [nI_toInt (by omega)]
  omega
noncomputable def f_X3_isWithin (p0 p1 p2 : Int32) : Int32 := opq (if p0 < p1 then 0 else (if p2 < p0 then 0 else 1))
theorem e_X3_isWithin (p0 p1 p2 : Int32) : f_X3_isWithin p0 p1 p2 = (if p0 < p1 then 0 else (if p2 < p0 then 0 else 1)) := opq_eq _
set_option maxHeartbeats 4000000 in
set_option maxRecDepth 100000 in
theorem c_X3_isWithin (l : Launch) (G : GG) (A : Nat → Nat) (S : XS) (r : Nat) (p0 p1 p2 : Int32) : Mp l yX3_isWithin wsX3_isWithin ({ frames := 0, cells := 0, slots := 0, locals := 0 } : Room) G [.int p0, .int p1, .int p2] (wX G A S r) (f_X3_isWithin p0 p1 p2) := by
  refine Mp.of (cc := cX3_isWithin) (maxL := 3) (ret := (some .boolean)) (by decide) rfl (Nat.le_of_ble_eq_true rfl) ?_
  intro p e s m args below meth c E hr hlocks hP hK ls hl
  have E : CallFix p m c cX3_isWithin 3 s args wsX3_isWithin RX3 := E
  have hx := E.1
  have hb := E.2.1
  have hml := E.2.2.1
  have hown := E.2.2.2.1
  have hts := E.2.2.2.2
  have hl : lv_has ls 3 [(0, .int p0), (1, .int p1), (2, .int p2)] := hl
  refine lv_iload_n hx hb dX3_isWithin_0 rfl (lv_at hl 0 rfl) ?_
  refine lv_iload_n hx hb dX3_isWithin_1 rfl (lv_at hl 1 rfl) ?_
  refine lv_icmp_lt (tgt := 14) hx hb dX3_isWithin_2 (by decide) (fun c1 => ?_) (fun c1 => ?_)
  · skip
    refine lv_iconst (v := 0) hx hb dX3_isWithin_14 (by decide) ?_
    exact endP hx hb hr hlocks rfl (Eq.symm (Eq.trans (e_X3_isWithin p0 p1 p2) ((if_pos c1)))) dX3_isWithin_15
  · skip
    refine lv_iload_n hx hb dX3_isWithin_5 rfl (lv_at hl 0 rfl) ?_
    refine lv_iload_n hx hb dX3_isWithin_6 rfl (lv_at hl 2 rfl) ?_
    refine lv_icmp_gt (tgt := 14) hx hb dX3_isWithin_7 (by decide) (fun c2 => ?_) (fun c2 => ?_)
    · skip
      refine lv_iconst (v := 0) hx hb dX3_isWithin_14 (by decide) ?_
      exact endP hx hb hr hlocks rfl (Eq.symm (Eq.trans (e_X3_isWithin p0 p1 p2) (Eq.trans (if_neg c1) ((if_pos c2))))) dX3_isWithin_15
    · skip
      refine lv_iconst (v := 1) hx hb dX3_isWithin_10 (by decide) ?_
      refine lv_goto (tgt := 15) hx hb dX3_isWithin_11 (by decide) ?_
      exact endP hx hb hr hlocks rfl (Eq.symm (Eq.trans (e_X3_isWithin p0 p1 p2) (Eq.trans (if_neg c1) ((if_neg c2))))) dX3_isWithin_15
theorem b01_isWithin (x a b : Int32) : f_X3_isWithin x a b = 0 ∨ f_X3_isWithin x a b = 1 := by
  rw [e_X3_isWithin]
  repeat' split
  all_goals first | exact Or.inl rfl | exact Or.inr rfl
noncomputable def f_X3_isPad (p0 : Int32) : Int32 := opq (if p0 < 0 then 0 else (if 12 ≤ p0 then 0 else 1))
theorem e_X3_isPad (p0 : Int32) : f_X3_isPad p0 = (if p0 < 0 then 0 else (if 12 ≤ p0 then 0 else 1)) := opq_eq _
set_option maxHeartbeats 4000000 in
set_option maxRecDepth 100000 in
theorem c_X3_isPad (l : Launch) (G : GG) (A : Nat → Nat) (S : XS) (r : Nat) (p0 : Int32) : Mp l yX3_isPad wsX3_isPad ({ frames := 0, cells := 0, slots := 0, locals := 0 } : Room) G [.int p0] (wX G A S r) (f_X3_isPad p0) := by
  refine Mp.of (cc := cX3_isPad) (maxL := 1) (ret := (some .boolean)) (by decide) rfl (Nat.le_of_ble_eq_true rfl) ?_
  intro p e s m args below meth c E hr hlocks hP hK ls hl
  have E : CallFix p m c cX3_isPad 1 s args wsX3_isPad RX3 := E
  have hx := E.1
  have hb := E.2.1
  have hml := E.2.2.1
  have hown := E.2.2.2.1
  have hts := E.2.2.2.2
  have hl : lv_has ls 1 [(0, .int p0)] := hl
  refine lv_iload_n hx hb dX3_isPad_0 rfl (lv_at hl 0 rfl) ?_
  refine lv_if_lt (tgt := 14) hx hb dX3_isPad_1 (by decide) (fun c1 => ?_) (fun c1 => ?_)
  · skip
    refine lv_iconst (v := 0) hx hb dX3_isPad_14 (by decide) ?_
    exact endP hx hb hr hlocks rfl (Eq.symm (Eq.trans (e_X3_isPad p0) ((if_pos c1)))) dX3_isPad_15
  · skip
    refine lv_iload_n hx hb dX3_isPad_4 rfl (lv_at hl 0 rfl) ?_
    refine lv_bipush (v := 12) hx hb dX3_isPad_5 (by decide) ?_
    refine lv_icmp_ge (tgt := 14) hx hb dX3_isPad_7 (by decide) (fun c2 => ?_) (fun c2 => ?_)
    · skip
      refine lv_iconst (v := 0) hx hb dX3_isPad_14 (by decide) ?_
      exact endP hx hb hr hlocks rfl (Eq.symm (Eq.trans (e_X3_isPad p0) (Eq.trans (if_neg c1) ((if_pos c2))))) dX3_isPad_15
    · skip
      refine lv_iconst (v := 1) hx hb dX3_isPad_10 (by decide) ?_
      refine lv_goto (tgt := 15) hx hb dX3_isPad_11 (by decide) ?_
      exact endP hx hb hr hlocks rfl (Eq.symm (Eq.trans (e_X3_isPad p0) (Eq.trans (if_neg c1) ((if_neg c2))))) dX3_isPad_15
noncomputable def f_X3_isLead (p0 : Int32) : Int32 := opq (if p0 < 0 then 0 else (if 16 ≤ p0 then 0 else 1))
theorem e_X3_isLead (p0 : Int32) : f_X3_isLead p0 = (if p0 < 0 then 0 else (if 16 ≤ p0 then 0 else 1)) := opq_eq _
set_option maxHeartbeats 4000000 in
set_option maxRecDepth 100000 in
theorem c_X3_isLead (l : Launch) (G : GG) (A : Nat → Nat) (S : XS) (r : Nat) (p0 : Int32) : Mp l yX3_isLead wsX3_isLead ({ frames := 0, cells := 0, slots := 0, locals := 0 } : Room) G [.int p0] (wX G A S r) (f_X3_isLead p0) := by
  refine Mp.of (cc := cX3_isLead) (maxL := 1) (ret := (some .boolean)) (by decide) rfl (Nat.le_of_ble_eq_true rfl) ?_
  intro p e s m args below meth c E hr hlocks hP hK ls hl
  have E : CallFix p m c cX3_isLead 1 s args wsX3_isLead RX3 := E
  have hx := E.1
  have hb := E.2.1
  have hml := E.2.2.1
  have hown := E.2.2.2.1
  have hts := E.2.2.2.2
  have hl : lv_has ls 1 [(0, .int p0)] := hl
  refine lv_iload_n hx hb dX3_isLead_0 rfl (lv_at hl 0 rfl) ?_
  refine lv_if_lt (tgt := 14) hx hb dX3_isLead_1 (by decide) (fun c1 => ?_) (fun c1 => ?_)
  · skip
    refine lv_iconst (v := 0) hx hb dX3_isLead_14 (by decide) ?_
    exact endP hx hb hr hlocks rfl (Eq.symm (Eq.trans (e_X3_isLead p0) ((if_pos c1)))) dX3_isLead_15
  · skip
    refine lv_iload_n hx hb dX3_isLead_4 rfl (lv_at hl 0 rfl) ?_
    refine lv_bipush (v := 16) hx hb dX3_isLead_5 (by decide) ?_
    refine lv_icmp_ge (tgt := 14) hx hb dX3_isLead_7 (by decide) (fun c2 => ?_) (fun c2 => ?_)
    · skip
      refine lv_iconst (v := 0) hx hb dX3_isLead_14 (by decide) ?_
      exact endP hx hb hr hlocks rfl (Eq.symm (Eq.trans (e_X3_isLead p0) (Eq.trans (if_neg c1) ((if_pos c2))))) dX3_isLead_15
    · skip
      refine lv_iconst (v := 1) hx hb dX3_isLead_10 (by decide) ?_
      refine lv_goto (tgt := 15) hx hb dX3_isLead_11 (by decide) ?_
      exact endP hx hb hr hlocks rfl (Eq.symm (Eq.trans (e_X3_isLead p0) (Eq.trans (if_neg c1) ((if_neg c2))))) dX3_isLead_15
noncomputable def f_X3_isHeight (p0 : Int32) : Int32 := opq (f_X3_isWithin p0 10 200)
theorem e_X3_isHeight (p0 : Int32) : f_X3_isHeight p0 = (f_X3_isWithin p0 10 200) := opq_eq _
set_option maxHeartbeats 4000000 in
set_option maxRecDepth 100000 in
theorem c_X3_isHeight (l : Launch) (G : GG) (A : Nat → Nat) (S : XS) (r : Nat) (p0 : Int32) : Mp l yX3_isHeight wsX3_isHeight ({ frames := 1, cells := 0, slots := 0, locals := 22 } : Room) G [.int p0] (wX G A S r) (f_X3_isHeight p0) := by
  refine Mp.of (cc := cX3_isHeight) (maxL := 1) (ret := (some .boolean)) (by decide) rfl (Nat.le_of_ble_eq_true rfl) ?_
  intro p e s m args below meth c E hr hlocks hP hK ls hl
  have E : CallFix p m c cX3_isHeight 1 s args wsX3_isHeight RX3 := E
  have hx := E.1
  have hb := E.2.1
  have hml := E.2.2.1
  have hown := E.2.2.2.1
  have hts := E.2.2.2.2
  have hl : lv_has ls 1 [(0, .int p0)] := hl
  refine lv_iload_n hx hb dX3_isHeight_0 rfl (lv_at hl 0 rfl) ?_
  refine lv_bipush (v := 10) hx hb dX3_isHeight_1 (by decide) ?_
  refine lv_sipush (v := 200) hx hb dX3_isHeight_3 (by decide) ?_
  refine cpS (rest := []) (As := [.int p0, .int 10, .int 200]) E (c_X3_isWithin l G A S r p0 10 200) (va_cwS 3 hts gX3_isHeight_X3_isWithin rfl rfl rfl (by decide +kernel) ⟨Nat.le_of_ble_eq_true rfl, Nat.le_of_ble_eq_true rfl⟩) hK hP rfl hl.1 rfl (Nat.le_of_ble_eq_true rfl) dX3_isHeight_6 ⟨Nat.zero_le _, Nat.zero_le _⟩ ?_
  exact endP hx hb hr hlocks (nb_of (b01_isWithin _ _ _)) (Eq.symm ((e_X3_isHeight p0))) dX3_isHeight_9
noncomputable def f_X3_padX (p0 : Int32) : Int32 := opq (100 + (20 * p0))
theorem e_X3_padX (p0 : Int32) : f_X3_padX p0 = (100 + (20 * p0)) := opq_eq _
set_option maxHeartbeats 4000000 in
set_option maxRecDepth 100000 in
theorem c_X3_padX (l : Launch) (G : GG) (A : Nat → Nat) (S : XS) (r : Nat) (p0 : Int32) : Mp l yX3_padX wsX3_padX ({ frames := 0, cells := 0, slots := 0, locals := 0 } : Room) G [.int p0] (wX G A S r) (f_X3_padX p0) := by
  refine Mp.of (cc := cX3_padX) (maxL := 1) (ret := (some .int)) (by decide) rfl (Nat.le_of_ble_eq_true rfl) ?_
  intro p e s m args below meth c E hr hlocks hP hK ls hl
  have E : CallFix p m c cX3_padX 1 s args wsX3_padX RX3 := E
  have hx := E.1
  have hb := E.2.1
  have hml := E.2.2.1
  have hown := E.2.2.2.1
  have hts := E.2.2.2.2
  have hl : lv_has ls 1 [(0, .int p0)] := hl
  refine lv_bipush (v := 100) hx hb dX3_padX_0 (by decide) ?_
  refine lv_bipush (v := 20) hx hb dX3_padX_2 (by decide) ?_
  refine lv_iload_n hx hb dX3_padX_4 rfl (lv_at hl 0 rfl) ?_
  refine lv_imul hx hb dX3_padX_5 ?_
  refine lv_iadd hx hb dX3_padX_6 ?_
  exact endP hx hb hr hlocks rfl (Eq.symm ((e_X3_padX p0))) dX3_padX_7
noncomputable def f_X3_loopAt (p0 p1 : Int32) : Int32 := opq ((((p0 * p1) * (200 - p1)) * 4) / 40000)
theorem e_X3_loopAt (p0 p1 : Int32) : f_X3_loopAt p0 p1 = ((((p0 * p1) * (200 - p1)) * 4) / 40000) := opq_eq _
set_option maxHeartbeats 4000000 in
set_option maxRecDepth 100000 in
theorem c_X3_loopAt (l : Launch) (G : GG) (A : Nat → Nat) (S : XS) (r : Nat) (p0 p1 : Int32) : Mp l yX3_loopAt wsX3_loopAt ({ frames := 0, cells := 0, slots := 0, locals := 0 } : Room) G [.int p0, .int p1] (wX G A S r) (f_X3_loopAt p0 p1) := by
  refine Mp.of (cc := cX3_loopAt) (maxL := 2) (ret := (some .int)) (by decide) rfl (Nat.le_of_ble_eq_true rfl) ?_
  intro p e s m args below meth c E hr hlocks hP hK ls hl
  have E : CallFix p m c cX3_loopAt 2 s args wsX3_loopAt RX3 := E
  have hx := E.1
  have hb := E.2.1
  have hml := E.2.2.1
  have hown := E.2.2.2.1
  have hts := E.2.2.2.2
  have hl : lv_has ls 2 [(0, .int p0), (1, .int p1)] := hl
  refine lv_iload_n hx hb dX3_loopAt_0 rfl (lv_at hl 0 rfl) ?_
  refine lv_iload_n hx hb dX3_loopAt_1 rfl (lv_at hl 1 rfl) ?_
  refine lv_imul hx hb dX3_loopAt_2 ?_
  refine lv_sipush (v := 200) hx hb dX3_loopAt_3 (by decide) ?_
  refine lv_iload_n hx hb dX3_loopAt_6 rfl (lv_at hl 1 rfl) ?_
  refine lv_isub hx hb dX3_loopAt_7 ?_
  refine lv_imul hx hb dX3_loopAt_8 ?_
  refine lv_iconst (v := 4) hx hb dX3_loopAt_9 (by decide) ?_
  refine lv_imul hx hb dX3_loopAt_10 ?_
  refine lv_ldc (v := 40000) hx hb hown (hts (.constant RX3 201 (40000)) (List.mem_of_getElem? (i := 1) rfl)) dX3_loopAt_11 ?_
  refine lv_idiv hx hb dX3_loopAt_13 (by decide) ?_
  exact endP hx hb hr hlocks rfl (Eq.symm ((e_X3_loopAt p0 p1))) dX3_loopAt_14
theorem in_pad {x : Int32} (h : ¬ f_X3_isPad x = 0) : vp_in x 12 := by
  by_cases h0 : x < 0
  · exact absurd ((e_X3_isPad x).trans (if_pos h0)) h
  · by_cases h1 : (12 : Int32) ≤ x
    · exact absurd ((e_X3_isPad x).trans ((if_neg h0).trans (if_pos h1))) h
    · exact in_rng rfl (by decide) h0 h1
theorem in_lead {x : Int32} (h : ¬ f_X3_isLead x = 0) : vp_in x 16 := by
  by_cases h0 : x < 0
  · exact absurd ((e_X3_isLead x).trans (if_pos h0)) h
  · by_cases h1 : (16 : Int32) ≤ x
    · exact absurd ((e_X3_isLead x).trans ((if_neg h0).trans (if_pos h1))) h
    · exact in_rng rfl (by decide) h0 h1
