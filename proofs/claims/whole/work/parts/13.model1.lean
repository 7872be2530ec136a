noncomputable def f_X4_in (p0 p1 p2 : Int32) : Int32 := opq (if p0 < p1 then 0 else (if p2 < p0 then 0 else 1))
theorem e_X4_in (p0 p1 p2 : Int32) : f_X4_in p0 p1 p2 = (if p0 < p1 then 0 else (if p2 < p0 then 0 else 1)) := opq_eq _
set_option maxHeartbeats 4000000 in
set_option maxRecDepth 100000 in
theorem c_X4_in (l : Launch) (G : GG) (B : Nat → Nat) (T : MS) (p0 p1 p2 : Int32) : Mp l yX4_in wsX4_in ({ frames := 0, cells := 0, slots := 0, locals := 0 } : Room) G [.int p0, .int p1, .int p2] (wM G B T) (f_X4_in p0 p1 p2) := by
  refine Mp.of (cc := cX4_in) (maxL := 3) (ret := (some .boolean)) (by decide) rfl (Nat.le_of_ble_eq_true rfl) ?_
  intro p e s m args below meth c E hr hlocks hP hK ls hl
  have E : CallFix p m c cX4_in 3 s args wsX4_in RX4 := E
  have hx := E.1
  have hb := E.2.1
  have hml := E.2.2.1
  have hown := E.2.2.2.1
  have hts := E.2.2.2.2
  have hl : lv_has ls 3 [(0, .int p0), (1, .int p1), (2, .int p2)] := hl
  refine lv_iload_n hx hb dX4_in_0 rfl (lv_at hl 0 rfl) ?_
  refine lv_iload_n hx hb dX4_in_1 rfl (lv_at hl 1 rfl) ?_
  refine lv_icmp_lt (tgt := 14) hx hb dX4_in_2 (by decide) (fun c1 => ?_) (fun c1 => ?_)
  · skip
    refine lv_iconst (v := 0) hx hb dX4_in_14 (by decide) ?_
    exact endP hx hb hr hlocks rfl (Eq.symm (Eq.trans (e_X4_in p0 p1 p2) ((if_pos c1)))) dX4_in_15
  · skip
    refine lv_iload_n hx hb dX4_in_5 rfl (lv_at hl 0 rfl) ?_
    refine lv_iload_n hx hb dX4_in_6 rfl (lv_at hl 2 rfl) ?_
    refine lv_icmp_gt (tgt := 14) hx hb dX4_in_7 (by decide) (fun c2 => ?_) (fun c2 => ?_)
    · skip
      refine lv_iconst (v := 0) hx hb dX4_in_14 (by decide) ?_
      exact endP hx hb hr hlocks rfl (Eq.symm (Eq.trans (e_X4_in p0 p1 p2) (Eq.trans (if_neg c1) ((if_pos c2))))) dX4_in_15
    · skip
      refine lv_iconst (v := 1) hx hb dX4_in_10 (by decide) ?_
      refine lv_goto (tgt := 15) hx hb dX4_in_11 (by decide) ?_
      exact endP hx hb hr hlocks rfl (Eq.symm (Eq.trans (e_X4_in p0 p1 p2) (Eq.trans (if_neg c1) ((if_neg c2))))) dX4_in_15
theorem b01_in (x a b : Int32) : f_X4_in x a b = 0 ∨ f_X4_in x a b = 1 := by
  rw [e_X4_in]
  repeat' split
  all_goals first | exact Or.inl rfl | exact Or.inr rfl
theorem in_le {x y : Int32} {N : Nat} (hy : y = nI N) (hN : N < 1073741824) (h0 : ¬ x < 0) (h1 : ¬ y < x) : vp_in x (N + 1) := by
  have a := Int32.le_iff_toInt_le.mp (Int32.not_lt.mp h0)
  have b := Int32.le_iff_toInt_le.mp (Int32.not_lt.mp h1)
  rw [hy, nI_toInt (by omega)] at b
  rw [Int32.toInt_zero] at a
  exact vp_in_iff.mpr ⟨a, by omega⟩
theorem in_ok {x a b : Int32} (h : ¬ f_X4_in x a b = 0) : ¬ x < a ∧ ¬ b < x := by
  rw [e_X4_in] at h
  by_cases h0 : x < a
  · exact absurd (if_pos h0) h
  · rw [if_neg h0] at h
    by_cases h1 : b < x
    · exact absurd (if_pos h1) h
    · exact ⟨h0, h1⟩
theorem lenM_ge (j : Nat) : 71 ≤ lenM j := by unfold lenM; split <;> omega
theorem lenM_lt (j : Nat) : lenM j < 2147483648 := by unfold lenM; split <;> omega
theorem cin (n j : Nat) (h : n < 71) : vp_in (nI n) (lenM j) := vp_in_nI (Nat.lt_of_lt_of_le h (lenM_ge j)) (lenM_lt j)
theorem w0 : vp_in 0 4 := vp_in_nI (n := 0) (by decide) (by decide)
theorem w1 : vp_in 1 4 := vp_in_nI (n := 1) (by decide) (by decide)
theorem w2 : vp_in 2 4 := vp_in_nI (n := 2) (by decide) (by decide)
theorem w3 : vp_in 3 4 := vp_in_nI (n := 3) (by decide) (by decide)
theorem of_nI (a w : Nat) : (16 + (4 * nI a)) + nI w = nI (16 + 4 * a + w) := by
  show (nI 16 + nI 4 * nI a) + nI w = _
  rw [pk_mul, nI_add, nI_add]
theorem of_in {x w : Int32} (j : Nat) (hx : vp_in x 12) (hw : vp_in w 4) : vp_in ((16 + (4 * x)) + w) (lenM j) := by
  obtain ⟨a, ha, rfl⟩ := vp_in_of hx (by decide)
  obtain ⟨b, hb, rfl⟩ := vp_in_of hw (by decide)
  rw [of_nI]
  exact cin _ j (by omega)
theorem lead_in {x : Int32} (j : Nat) (hx : vp_in x 16) : vp_in (0 + x) (lenM j) := by
  obtain ⟨a, ha, rfl⟩ := vp_in_of hx (by decide)
  rw [show (0 : Int32) = nI 0 from rfl, nI_add]
  exact cin _ j (by omega)
theorem add_in {x : Int32} {a k n N : Nat} (hx : x = nI a) (hk : k < n) (h : a + n ≤ N) (hN : N < 2147483648) : vp_in (x + nI k) N := by
  rw [hx, nI_add]
  exact vp_in_nI (by omega) (by omega)
theorem vp_in_add71 {k : Nat} (hk : k < 213) : vp_in (nI k + 71) 284 := by
  rw [show (71 : Int32) = nI 71 from rfl, nI_add]
  exact vp_in_nI (by omega) (by decide)
theorem vp4_of {x : Int32} (n : Nat) (hn : n < 4) (h : x = nI n) : vp_in x 4 := by rw [h]; exact vp_in_nI hn (by decide)
theorem in_or {v : Int32} (h : v = (-5) ∨ ∃ j : Nat, j < 12 ∧ v = nI j) (hn : ¬ v = (-5)) : vp_in v 12 := by
  rcases h with h | ⟨j, hj, rfl⟩
  · exact absurd h hn
  · exact vp_in_nI hj (by decide)
noncomputable def f_X4_isPad (p0 : Int32) : Int32 := opq (f_X4_in p0 0 11)
theorem e_X4_isPad (p0 : Int32) : f_X4_isPad p0 = (f_X4_in p0 0 11) := opq_eq _
set_option maxHeartbeats 4000000 in
set_option maxRecDepth 100000 in
theorem c_X4_isPad (l : Launch) (G : GG) (B : Nat → Nat) (T : MS) (p0 : Int32) : Mp l yX4_isPad wsX4_isPad ({ frames := 1, cells := 0, slots := 0, locals := 22 } : Room) G [.int p0] (wM G B T) (f_X4_isPad p0) := by
  refine Mp.of (cc := cX4_isPad) (maxL := 1) (ret := (some .boolean)) (by decide) rfl (Nat.le_of_ble_eq_true rfl) ?_
  intro p e s m args below meth c E hr hlocks hP hK ls hl
  have E : CallFix p m c cX4_isPad 1 s args wsX4_isPad RX4 := E
  have hx := E.1
  have hb := E.2.1
  have hml := E.2.2.1
  have hown := E.2.2.2.1
  have hts := E.2.2.2.2
  have hl : lv_has ls 1 [(0, .int p0)] := hl
  refine lv_iload_n hx hb dX4_isPad_0 rfl (lv_at hl 0 rfl) ?_
  refine lv_iconst (v := 0) hx hb dX4_isPad_1 (by decide) ?_
  refine lv_bipush (v := 11) hx hb dX4_isPad_2 (by decide) ?_
  refine cpS (rest := []) (As := [.int p0, .int 0, .int 11]) E (c_X4_in l G B T p0 0 11) (va_cwS 3 hts gX4_isPad_X4_in rfl rfl rfl (by decide +kernel) ⟨Nat.le_of_ble_eq_true rfl, Nat.le_of_ble_eq_true rfl⟩) hK hP rfl hl.1 rfl (Nat.le_of_ble_eq_true rfl) dX4_isPad_4 ⟨Nat.zero_le _, Nat.zero_le _⟩ ?_
  exact endP hx hb hr hlocks (nb_of (b01_in _ _ _)) (Eq.symm ((e_X4_isPad p0))) dX4_isPad_7
noncomputable def f_X4_isLead (p0 : Int32) : Int32 := opq (f_X4_in p0 0 15)
theorem e_X4_isLead (p0 : Int32) : f_X4_isLead p0 = (f_X4_in p0 0 15) := opq_eq _
set_option maxHeartbeats 4000000 in
set_option maxRecDepth 100000 in
theorem c_X4_isLead (l : Launch) (G : GG) (B : Nat → Nat) (T : MS) (p0 : Int32) : Mp l yX4_isLead wsX4_isLead ({ frames := 1, cells := 0, slots := 0, locals := 22 } : Room) G [.int p0] (wM G B T) (f_X4_isLead p0) := by
  refine Mp.of (cc := cX4_isLead) (maxL := 1) (ret := (some .boolean)) (by decide) rfl (Nat.le_of_ble_eq_true rfl) ?_
  intro p e s m args below meth c E hr hlocks hP hK ls hl
  have E : CallFix p m c cX4_isLead 1 s args wsX4_isLead RX4 := E
  have hx := E.1
  have hb := E.2.1
  have hml := E.2.2.1
  have hown := E.2.2.2.1
  have hts := E.2.2.2.2
  have hl : lv_has ls 1 [(0, .int p0)] := hl
  refine lv_iload_n hx hb dX4_isLead_0 rfl (lv_at hl 0 rfl) ?_
  refine lv_iconst (v := 0) hx hb dX4_isLead_1 (by decide) ?_
  refine lv_bipush (v := 15) hx hb dX4_isLead_2 (by decide) ?_
  refine cpS (rest := []) (As := [.int p0, .int 0, .int 15]) E (c_X4_in l G B T p0 0 15) (va_cwS 3 hts gX4_isLead_X4_in rfl rfl rfl (by decide +kernel) ⟨Nat.le_of_ble_eq_true rfl, Nat.le_of_ble_eq_true rfl⟩) hK hP rfl hl.1 rfl (Nat.le_of_ble_eq_true rfl) dX4_isLead_4 ⟨Nat.zero_le _, Nat.zero_le _⟩ ?_
  exact endP hx hb hr hlocks (nb_of (b01_in _ _ _)) (Eq.symm ((e_X4_isLead p0))) dX4_isLead_7
noncomputable def f_X4_isHeight (p0 : Int32) : Int32 := opq (f_X4_in p0 10 200)
theorem e_X4_isHeight (p0 : Int32) : f_X4_isHeight p0 = (f_X4_in p0 10 200) := opq_eq _
set_option maxHeartbeats 4000000 in
set_option maxRecDepth 100000 in
theorem c_X4_isHeight (l : Launch) (G : GG) (B : Nat → Nat) (T : MS) (p0 : Int32) : Mp l yX4_isHeight wsX4_isHeight ({ frames := 1, cells := 0, slots := 0, locals := 22 } : Room) G [.int p0] (wM G B T) (f_X4_isHeight p0) := by
  refine Mp.of (cc := cX4_isHeight) (maxL := 1) (ret := (some .boolean)) (by decide) rfl (Nat.le_of_ble_eq_true rfl) ?_
  intro p e s m args below meth c E hr hlocks hP hK ls hl
  have E : CallFix p m c cX4_isHeight 1 s args wsX4_isHeight RX4 := E
  have hx := E.1
  have hb := E.2.1
  have hml := E.2.2.1
  have hown := E.2.2.2.1
  have hts := E.2.2.2.2
  have hl : lv_has ls 1 [(0, .int p0)] := hl
  refine lv_iload_n hx hb dX4_isHeight_0 rfl (lv_at hl 0 rfl) ?_
  refine lv_bipush (v := 10) hx hb dX4_isHeight_1 (by decide) ?_
  refine lv_sipush (v := 200) hx hb dX4_isHeight_3 (by decide) ?_
  refine cpS (rest := []) (As := [.int p0, .int 10, .int 200]) E (c_X4_in l G B T p0 10 200) (va_cwS 3 hts gX4_isHeight_X4_in rfl rfl rfl (by decide +kernel) ⟨Nat.le_of_ble_eq_true rfl, Nat.le_of_ble_eq_true rfl⟩) hK hP rfl hl.1 rfl (Nat.le_of_ble_eq_true rfl) dX4_isHeight_6 ⟨Nat.zero_le _, Nat.zero_le _⟩ ?_
  exact endP hx hb hr hlocks (nb_of (b01_in _ _ _)) (Eq.symm ((e_X4_isHeight p0))) dX4_isHeight_9
theorem in_pM {x : Int32} (h : ¬ f_X4_isPad x = 0) : vp_in x 12 := by
  rw [e_X4_isPad] at h
  exact in_le rfl (by decide) (in_ok h).1 (in_ok h).2
theorem in_lM {x : Int32} (h : ¬ f_X4_isLead x = 0) : vp_in x 16 := by
  rw [e_X4_isLead] at h
  exact in_le rfl (by decide) (in_ok h).1 (in_ok h).2
theorem ne_in {x b : Int32} (h : ¬ f_X4_in x 1 b = 0) : ¬ x = 0 := fun e => (in_ok h).1 (by rw [e]; decide)
noncomputable def f_X4_of (T : MS) (j : Nat) (p0 p1 : Int32) : Int32 := opq ((T j) ((16 + (4 * p0)) + p1).toNatClampNeg)
theorem e_X4_of (T : MS) (j : Nat) (p0 p1 : Int32) : f_X4_of T j p0 p1 = ((T j) ((16 + (4 * p0)) + p1).toNatClampNeg) := opq_eq _
set_option maxHeartbeats 4000000 in
set_option maxRecDepth 100000 in
theorem c_X4_of (l : Launch) (G : GG) (B : Nat → Nat) (T : MS) (j : Nat) (p0 p1 : Int32) (hj1 : 1 ≤ j) (hj4 : j ≤ 4) (h : vp_in ((16 + (4 * p0)) + p1) (lenM j)) : Mp l yX4_of wsX4_of ({ frames := 0, cells := 0, slots := 0, locals := 0 } : Room) G [.ref (B j), .int p0, .int p1] (wM G B T) (f_X4_of T j p0 p1) := by
  refine Mp.of (cc := cX4_of) (maxL := 3) (ret := (some .int)) (by decide) rfl (Nat.le_of_ble_eq_true rfl) ?_
  intro p e s m args below meth c E hr hlocks hP hK ls hl
  have E : CallFix p m c cX4_of 3 s args wsX4_of RX4 := E
  have hx := E.1
  have hb := E.2.1
  have hml := E.2.2.1
  have hown := E.2.2.2.1
  have hts := E.2.2.2.2
  have hl : lv_has ls 3 [(0, .ref (B j)), (1, .int p0), (2, .int p1)] := hl
  refine lv_aload_n hx hb dX4_of_0 rfl (lv_at hl 0 rfl) ?_
  refine lv_bipush (v := 16) hx hb dX4_of_1 (by decide) ?_
  refine lv_iconst (v := 4) hx hb dX4_of_3 (by decide) ?_
  refine lv_iload_n hx hb dX4_of_4 rfl (lv_at hl 1 rfl) ?_
  refine lv_imul hx hb dX4_of_5 ?_
  refine lv_iadd hx hb dX4_of_6 ?_
  refine lv_iload_n hx hb dX4_of_7 rfl (lv_at hl 2 rfl) ?_
  refine lv_iadd hx hb dX4_of_8 ?_
  refine va_iald (D := G.1) hx hb hK.1 hP j 0 (wM_j G B T j hj1 hj4) rfl h dX4_of_9 ?_
  exact endP hx hb hr hlocks rfl (Eq.symm ((e_X4_of T j p0 p1))) dX4_of_10
theorem of_val (T : MS) (j : Nat) {k w : Nat} (hk : k < 12) (hw : w < 4) : f_X4_of T j (nI k) (nI w) = T j (16 + 4 * k + w) := by
  rw [e_X4_of, of_nI, nI_cl (by omega)]
noncomputable def f_X4_hasWire (T : MS) (p0 : Int32) : Int32 := opq (if (f_X4_isPad p0) = 0 then 0 else (if (f_X4_of T 1 p0 0) = (-5) then 0 else 1))
theorem e_X4_hasWire (T : MS) (p0 : Int32) : f_X4_hasWire T p0 = (if (f_X4_isPad p0) = 0 then 0 else (if (f_X4_of T 1 p0 0) = (-5) then 0 else 1)) := opq_eq _
set_option maxHeartbeats 4000000 in
set_option maxRecDepth 100000 in
theorem c_X4_hasWire (l : Launch) (G : GG) (B : Nat → Nat) (T : MS) (p0 : Int32) : Mp l yX4_hasWire wsX4_hasWire ({ frames := 2, cells := 0, slots := 0, locals := 42 } : Room) G [.ref (B 0), .int p0] (wM G B T) (f_X4_hasWire T p0) := by
  refine Mp.of (cc := cX4_hasWire) (maxL := 2) (ret := (some .boolean)) (by decide) rfl (Nat.le_of_ble_eq_true rfl) ?_
  intro p e s m args below meth c E hr hlocks hP hK ls hl
  have E : CallFix p m c cX4_hasWire 2 s args wsX4_hasWire RX4 := E
  have hx := E.1
  have hb := E.2.1
  have hml := E.2.2.1
  have hown := E.2.2.2.1
  have hts := E.2.2.2.2
  have hl : lv_has ls 2 [(0, .ref (B 0)), (1, .int p0)] := hl
  have hinX4 : ∀ w ∈ u_ws RX4 TX4 11, w ∈ wsX4_hasWire := fun _ h => List.mem_cons_of_mem _ (List.mem_append_right _ h)
  refine lv_iload_n hx hb dX4_hasWire_0 rfl (lv_at hl 1 rfl) ?_
  refine cpS (rest := []) (As := [.int p0]) E (c_X4_isPad l G B T p0) (va_cwS 1 hts gX4_hasWire_X4_isPad rfl rfl rfl (by decide +kernel) ⟨Nat.le_of_ble_eq_true rfl, Nat.le_of_ble_eq_true rfl⟩) hK hP rfl hl.1 rfl (Nat.le_of_ble_eq_true rfl) dX4_hasWire_1 ⟨Nat.zero_le _, Nat.zero_le _⟩ ?_
  refine lv_if_eq (tgt := 25) hx hb dX4_hasWire_4 (by decide) (fun c1 => ?_) (fun c1 => ?_)
  · skip
    refine lv_iconst (v := 0) hx hb dX4_hasWire_25 (by decide) ?_
    exact endP hx hb hr hlocks rfl (Eq.symm (Eq.trans (e_X4_hasWire T p0) ((if_pos c1)))) dX4_hasWire_26
  · skip
    refine lv_aload_n hx hb dX4_hasWire_7 rfl (lv_at hl 0 rfl) ?_
    refine va_get (D := G.1) (ci := 4) (v := .ref (B 1)) (C := RX4) (T := TX4) (N := 11) hx hb hts hinX4 hown hK.1 hP 0 (wM_o G B T) rfl 0 (by decide) (hts (.fieldLink RX4 7 "WireLoopsModel" "now" "[I") (List.mem_of_getElem? (i := 1) rfl)) (fun _ h9 => h9) rfl dX4_hasWire_8 ?_
    refine lv_iload_n hx hb dX4_hasWire_11 rfl (lv_at hl 1 rfl) ?_
    refine lv_iconst (v := 0) hx hb dX4_hasWire_12 (by decide) ?_
    refine cpS (rest := []) (As := [.ref (B 1), .int p0, .int 0]) E (c_X4_of l G B T 1 p0 0 (by decide) (by decide) (of_in 1 (in_pM c1) w0)) (va_cwS 3 hts gX4_hasWire_X4_of rfl rfl rfl (by decide +kernel) ⟨Nat.le_of_ble_eq_true rfl, Nat.le_of_ble_eq_true rfl⟩) hK hP rfl hl.1 rfl (Nat.le_of_ble_eq_true rfl) dX4_hasWire_13 ⟨Nat.zero_le _, Nat.zero_le _⟩ ?_
    refine lv_bipush (v := (-5)) hx hb dX4_hasWire_16 (by decide) ?_
    refine lv_icmp_eq (tgt := 25) hx hb dX4_hasWire_18 (by decide) (fun c2 => ?_) (fun c2 => ?_)
    · skip
      refine lv_iconst (v := 0) hx hb dX4_hasWire_25 (by decide) ?_
      exact endP hx hb hr hlocks rfl (Eq.symm (Eq.trans (e_X4_hasWire T p0) (Eq.trans (if_neg c1) ((if_pos c2))))) dX4_hasWire_26
    · skip
      refine lv_iconst (v := 1) hx hb dX4_hasWire_21 (by decide) ?_
      refine lv_goto (tgt := 26) hx hb dX4_hasWire_22 (by decide) ?_
      exact endP hx hb hr hlocks rfl (Eq.symm (Eq.trans (e_X4_hasWire T p0) (Eq.trans (if_neg c1) ((if_neg c2))))) dX4_hasWire_26
noncomputable def f_X4_padX (p0 : Int32) : Int32 := opq (100 + (20 * p0))
theorem e_X4_padX (p0 : Int32) : f_X4_padX p0 = (100 + (20 * p0)) := opq_eq _
set_option maxHeartbeats 4000000 in
set_option maxRecDepth 100000 in
theorem c_X4_padX (l : Launch) (G : GG) (B : Nat → Nat) (T : MS) (p0 : Int32) : Mp l yX4_padX wsX4_padX ({ frames := 0, cells := 0, slots := 0, locals := 0 } : Room) G [.int p0] (wM G B T) (f_X4_padX p0) := by
  refine Mp.of (cc := cX4_padX) (maxL := 1) (ret := (some .int)) (by decide) rfl (Nat.le_of_ble_eq_true rfl) ?_
  intro p e s m args below meth c E hr hlocks hP hK ls hl
  have E : CallFix p m c cX4_padX 1 s args wsX4_padX RX4 := E
  have hx := E.1
  have hb := E.2.1
  have hml := E.2.2.1
  have hown := E.2.2.2.1
  have hts := E.2.2.2.2
  have hl : lv_has ls 1 [(0, .int p0)] := hl
  refine lv_bipush (v := 100) hx hb dX4_padX_0 (by decide) ?_
  refine lv_bipush (v := 20) hx hb dX4_padX_2 (by decide) ?_
  refine lv_iload_n hx hb dX4_padX_4 rfl (lv_at hl 0 rfl) ?_
  refine lv_imul hx hb dX4_padX_5 ?_
  refine lv_iadd hx hb dX4_padX_6 ?_
  exact endP hx hb hr hlocks rfl (Eq.symm ((e_X4_padX p0))) dX4_padX_7
noncomputable def f_X4_apart (p0 p1 : Int32) : Int32 := opq (if p1 ≤ p0 then (p0 - p1) else (p1 - p0))
theorem e_X4_apart (p0 p1 : Int32) : f_X4_apart p0 p1 = (if p1 ≤ p0 then (p0 - p1) else (p1 - p0)) := opq_eq _
set_option maxHeartbeats 4000000 in
set_option maxRecDepth 100000 in
theorem c_X4_apart (l : Launch) (G : GG) (B : Nat → Nat) (T : MS) (p0 p1 : Int32) : Mp l yX4_apart wsX4_apart ({ frames := 0, cells := 0, slots := 0, locals := 0 } : Room) G [.int p0, .int p1] (wM G B T) (f_X4_apart p0 p1) := by
  refine Mp.of (cc := cX4_apart) (maxL := 2) (ret := (some .int)) (by decide) rfl (Nat.le_of_ble_eq_true rfl) ?_
  intro p e s m args below meth c E hr hlocks hP hK ls hl
  have E : CallFix p m c cX4_apart 2 s args wsX4_apart RX4 := E
  have hx := E.1
  have hb := E.2.1
  have hml := E.2.2.1
  have hown := E.2.2.2.1
  have hts := E.2.2.2.2
  have hl : lv_has ls 2 [(0, .int p0), (1, .int p1)] := hl
  refine lv_iload_n hx hb dX4_apart_0 rfl (lv_at hl 0 rfl) ?_
  refine lv_iload_n hx hb dX4_apart_1 rfl (lv_at hl 1 rfl) ?_
  refine lv_icmp_ge (tgt := 11) hx hb dX4_apart_2 (by decide) (fun c1 => ?_) (fun c1 => ?_)
  · skip
    refine lv_iload_n hx hb dX4_apart_11 rfl (lv_at hl 0 rfl) ?_
    refine lv_iload_n hx hb dX4_apart_12 rfl (lv_at hl 1 rfl) ?_
    refine lv_isub hx hb dX4_apart_13 ?_
    exact endP hx hb hr hlocks rfl (Eq.symm (Eq.trans (e_X4_apart p0 p1) ((if_pos c1)))) dX4_apart_14
  · skip
    refine lv_iload_n hx hb dX4_apart_5 rfl (lv_at hl 1 rfl) ?_
    refine lv_iload_n hx hb dX4_apart_6 rfl (lv_at hl 0 rfl) ?_
    refine lv_isub hx hb dX4_apart_7 ?_
    refine lv_goto (tgt := 14) hx hb dX4_apart_8 (by decide) ?_
    exact endP hx hb hr hlocks rfl (Eq.symm (Eq.trans (e_X4_apart p0 p1) ((if_neg c1)))) dX4_apart_14
noncomputable def f_X4_heightOf (p0 p1 : Int32) : Int32 := opq ((((p0 * p1) * (200 - p1)) * 4) / 40000)
theorem e_X4_heightOf (p0 p1 : Int32) : f_X4_heightOf p0 p1 = ((((p0 * p1) * (200 - p1)) * 4) / 40000) := opq_eq _
set_option maxHeartbeats 4000000 in
set_option maxRecDepth 100000 in
theorem c_X4_heightOf (l : Launch) (G : GG) (B : Nat → Nat) (T : MS) (p0 p1 : Int32) : Mp l yX4_heightOf wsX4_heightOf ({ frames := 0, cells := 0, slots := 0, locals := 0 } : Room) G [.int p0, .int p1] (wM G B T) (f_X4_heightOf p0 p1) := by
  refine Mp.of (cc := cX4_heightOf) (maxL := 2) (ret := (some .int)) (by decide) rfl (Nat.le_of_ble_eq_true rfl) ?_
  intro p e s m args below meth c E hr hlocks hP hK ls hl
  have E : CallFix p m c cX4_heightOf 2 s args wsX4_heightOf RX4 := E
  have hx := E.1
  have hb := E.2.1
  have hml := E.2.2.1
  have hown := E.2.2.2.1
  have hts := E.2.2.2.2
  have hl : lv_has ls 2 [(0, .int p0), (1, .int p1)] := hl
  refine lv_iload_n hx hb dX4_heightOf_0 rfl (lv_at hl 0 rfl) ?_
  refine lv_iload_n hx hb dX4_heightOf_1 rfl (lv_at hl 1 rfl) ?_
  refine lv_imul hx hb dX4_heightOf_2 ?_
  refine lv_sipush (v := 200) hx hb dX4_heightOf_3 (by decide) ?_
  refine lv_iload_n hx hb dX4_heightOf_6 rfl (lv_at hl 1 rfl) ?_
  refine lv_isub hx hb dX4_heightOf_7 ?_
  refine lv_imul hx hb dX4_heightOf_8 ?_
  refine lv_iconst (v := 4) hx hb dX4_heightOf_9 (by decide) ?_
  refine lv_imul hx hb dX4_heightOf_10 ?_
  refine lv_ldc (v := 40000) hx hb hown (hts (.constant RX4 103 (40000)) (List.mem_of_getElem? (i := 1) rfl)) dX4_heightOf_11 ?_
  refine lv_idiv hx hb dX4_heightOf_13 (by decide) ?_
  exact endP hx hb hr hlocks rfl (Eq.symm ((e_X4_heightOf p0 p1))) dX4_heightOf_14
theorem in_hasM {T : MS} {x : Int32} (h : ¬ f_X4_hasWire T x = 0) : vp_in x 12 := by
  rw [e_X4_hasWire] at h
  by_cases hp : f_X4_isPad x = 0
  · exact absurd (if_pos hp) h
  · exact in_pM hp
/-- every wire of now has a lead -/
def mok (T : MS) : Prop := ∀ k, k < 12 → T 1 (16 + 4 * k) = (-5) ∨ ∃ j : Nat, j < 16 ∧ T 1 (16 + 4 * k) = nI j
def wok (T : MS) (x : Int32) : Prop := vp_in x 12 ∧ vp_in (0 + f_X4_of T 1 x 0) 71
theorem wok_of {T : MS} {x : Int32} (hM : mok T) (h : ¬ f_X4_hasWire T x = 0) : wok T x := by
  have hx := in_hasM h
  refine ⟨hx, ?_⟩
  rw [e_X4_hasWire] at h
  by_cases hp : f_X4_isPad x = 0
  · exact absurd (if_pos hp) h
  rw [if_neg hp] at h
  by_cases hc : f_X4_of T 1 x 0 = (-5)
  · exact absurd (if_pos hc) h
  obtain ⟨k, hk, rfl⟩ := vp_in_of hx (by decide)
  have hv : f_X4_of T 1 (nI k) 0 = T 1 (16 + 4 * k + 0) := of_val T 1 (w := 0) hk (by decide)
  rcases hM k hk with e | ⟨j, hj, e⟩
  · exact absurd (hv.trans e) hc
  · rw [hv, Nat.add_zero, e, show (0 : Int32) = nI 0 from rfl, nI_add]
    exact vp_in_nI (by omega) (by decide)
theorem cy_ne {lo hi w : Int32} (h1 : vp_in lo 12) (h2 : vp_in hi 12) (hle : lo ≤ hi) (hw : 0 < w) : ¬ ((f_X4_padX hi - f_X4_padX lo) + w) = 0 := by
  obtain ⟨a, ha, rfl⟩ := vp_in_of h1 (by decide)
  obtain ⟨b, hb, rfl⟩ := vp_in_of h2 (by decide)
  have hab : a ≤ b := (nI_leI (by omega) (by omega)).mp hle
  rw [e_X4_padX, e_X4_padX, show (100 : Int32) + 20 * nI b = nI (100 + 20 * b) from by rw [show (20 : Int32) = nI 20 from rfl, pk_mul, show (100 : Int32) = nI 100 from rfl, nI_add], show (100 : Int32) + 20 * nI a = nI (100 + 20 * a) from by rw [show (20 : Int32) = nI 20 from rfl, pk_mul, show (100 : Int32) = nI 100 from rfl, nI_add], pk_sub (by omega)]
  intro e
  have e1 := congrArg Int32.toInt e
  rw [Int32.toInt_add, nI_toInt (by omega), Int32.toInt_zero] at e1
  have hw1 := Int32.lt_iff_toInt_lt.mp hw
  rw [Int32.toInt_zero] at hw1
  have hw2 := Int32.toInt_lt w
  have hd : ((100 + 20 * b - (100 + 20 * a) : Nat) : Int) ≤ 220 := by omega
  have hd0 : (0 : Int) ≤ ((100 + 20 * b - (100 + 20 * a) : Nat) : Int) := by omega
  generalize ((100 + 20 * b - (100 + 20 * a) : Nat) : Int) = d at e1 hd hd0
  rw [Int.bmod_def, Int.emod_eq_of_lt (by omega) (by omega)] at e1
  split at e1 <;> omega
noncomputable def g_X4_padOf_5 (T : MS) (j : Nat) (p0 : Int32) : Nat → Nat → Int32 → Int32
  | 0, k, v => v
  | n + 1, k, v => opq (if 12 ≤ (nI k) then v else (if (f_X4_of T j (nI k) 0) = p0 then (g_X4_padOf_5 T j p0 n (k + 1) (nI k)) else (g_X4_padOf_5 T j p0 n (k + 1) v)))
theorem ge_X4_padOf_5 (T : MS) (j : Nat) (p0 : Int32) (n : Nat) (k : Nat) (v : Int32) : g_X4_padOf_5 T j p0 (n + 1) k v = (if 12 ≤ (nI k) then v else (if (f_X4_of T j (nI k) 0) = p0 then (g_X4_padOf_5 T j p0 n (k + 1) (nI k)) else (g_X4_padOf_5 T j p0 n (k + 1) v))) := opq_eq _
noncomputable def f_X4_padOf (T : MS) (j : Nat) (p0 : Int32) : Int32 := opq (g_X4_padOf_5 T j p0 13 0 (-5))
theorem e_X4_padOf (T : MS) (j : Nat) (p0 : Int32) : f_X4_padOf T j p0 = (g_X4_padOf_5 T j p0 13 0 (-5)) := opq_eq _
set_option maxHeartbeats 4000000 in
set_option maxRecDepth 100000 in
theorem c_X4_padOf (l : Launch) (G : GG) (B : Nat → Nat) (T : MS) (j : Nat) (p0 : Int32) (hj1 : 1 ≤ j) (hj4 : j ≤ 4) : Mp l yX4_padOf wsX4_padOf ({ frames := 1, cells := 0, slots := 0, locals := 22 } : Room) G [.ref (B j), .int p0] (wM G B T) (f_X4_padOf T j p0) := by
  refine Mp.of (cc := cX4_padOf) (maxL := 4) (ret := (some .int)) (by decide) rfl (Nat.le_of_ble_eq_true rfl) ?_
  intro p e s m args below meth c E hr hlocks hP hK ls hl
  have E : CallFix p m c cX4_padOf 4 s args wsX4_padOf RX4 := E
  have hx := E.1
  have hb := E.2.1
  have hml := E.2.2.1
  have hown := E.2.2.2.1
  have hts := E.2.2.2.2
  have hl : lv_has ls 4 [(0, .ref (B j)), (1, .int p0)] := hl
  have LOOP5 : ∀ (n : Nat) (k : Nat) (v : Int32) (Q : State → Prop), (k ≤ 12) → (12 < k + n) → ∀ V : Int32, g_X4_padOf_5 T j p0 n k v = V → (∀ ls : Array Slot, lv_has ls 4 [(2, .int V)] → W p l e ({ frames := 1, cells := 0, slots := 0, locals := 22 } : Room) s m args below meth c s.heap [] 0 0 (Q) (F0 m 33 ls [])) → ∀ ls : Array Slot, lv_has ls 4 [(0, .ref (B j)), (1, .int p0), (2, .int v), (3, .int (nI k))] → W p l e ({ frames := 1, cells := 0, slots := 0, locals := 22 } : Room) s m args below meth c s.heap [] 0 0 (Q) (F0 m 5 ls []) := by
    intro n
    induction n with
    | zero =>
      intro k v Q hk hn
      exact absurd hn (by omega)
    | succ n ih =>
      intro k v Q hk hn V hres kk ls hl
      have hl : lv_has ls 4 [(0, .ref (B j)), (1, .int p0), (2, .int v), (3, .int (nI k))] := hl
      refine lv_iload_n hx hb dX4_padOf_5 rfl (lv_at hl 3 rfl) ?_
      refine lv_bipush (v := 12) hx hb dX4_padOf_6 (by decide) ?_
      refine lv_icmp_ge (tgt := 33) hx hb dX4_padOf_8 (by decide) (fun c1 => ?_) (fun c1 => ?_)
      · skip
        have hfin : v = V := Eq.trans (Eq.symm (Eq.trans (ge_X4_padOf_5 T j p0 n k v) ((if_pos c1)))) hres
        subst hfin
        exact kk _ (lv_sub hl [2] rfl)
      · skip
        have hk2 : k < 12 := lt_of_nle (N := 12) rfl hk c1 (by decide)
        refine lv_aload_n hx hb dX4_padOf_11 rfl (lv_at hl 0 rfl) ?_
        refine lv_iload_n hx hb dX4_padOf_12 rfl (lv_at hl 3 rfl) ?_
        refine lv_iconst (v := 0) hx hb dX4_padOf_13 (by decide) ?_
        refine cpS (rest := []) (As := [.ref (B j), .int (nI k), .int 0]) E (c_X4_of l G B T j (nI k) 0 hj1 hj4 (of_in j (vp_in_nI hk2 (by decide)) w0)) (va_cwS 3 hts gX4_padOf_X4_of rfl rfl rfl (by decide +kernel) ⟨Nat.le_of_ble_eq_true rfl, Nat.le_of_ble_eq_true rfl⟩) hK hP rfl hl.1 rfl (Nat.le_of_ble_eq_true rfl) dX4_padOf_14 ⟨Nat.zero_le _, Nat.zero_le _⟩ ?_
        refine lv_iload_n hx hb dX4_padOf_17 rfl (lv_at hl 1 rfl) ?_
        refine lv_icmp_ne (tgt := 25) hx hb dX4_padOf_18 (by decide) (fun c2 => ?_) (fun c2 => ?_)
        · skip
          refine lv_iload_n hx hb dX4_padOf_25 rfl (lv_at hl 2 rfl) ?_
          refine lv_istore_n (lv' := [(2, .int v), (0, .ref (B j)), (1, .int p0), (3, .int (nI k))]) hx hb dX4_padOf_26 rfl hl (by decide) rfl (fun ls hl => ?_)
          refine lv_iinc (v := (nI (k + 1))) (lv' := [(3, .int (nI (k + 1))), (2, .int v), (0, .ref (B j)), (1, .int p0)]) hx hb dX4_padOf_27 hl (k := 3) rfl (nI_1 k) (by decide) rfl (fun ls hl => ?_)
          refine lv_goto (tgt := 5) hx hb dX4_padOf_30 (by decide) ?_
          exact ih (k + 1) v Q (by omega) (by omega) V (Eq.trans (Eq.symm (Eq.trans (ge_X4_padOf_5 T j p0 n k v) (Eq.trans (if_neg c1) ((if_neg c2))))) hres) kk  _ (lv_sub hl [2, 3, 1, 0] rfl)
        · skip
          refine lv_iload_n hx hb dX4_padOf_21 rfl (lv_at hl 3 rfl) ?_
          refine lv_goto (tgt := 26) hx hb dX4_padOf_22 (by decide) ?_
          refine lv_istore_n (lv' := [(2, .int (nI k)), (0, .ref (B j)), (1, .int p0), (3, .int (nI k))]) hx hb dX4_padOf_26 rfl hl (by decide) rfl (fun ls hl => ?_)
          refine lv_iinc (v := (nI (k + 1))) (lv' := [(3, .int (nI (k + 1))), (2, .int (nI k)), (0, .ref (B j)), (1, .int p0)]) hx hb dX4_padOf_27 hl (k := 3) rfl (nI_1 k) (by decide) rfl (fun ls hl => ?_)
          refine lv_goto (tgt := 5) hx hb dX4_padOf_30 (by decide) ?_
          exact ih (k + 1) (nI k) Q (by omega) (by omega) V (Eq.trans (Eq.symm (Eq.trans (ge_X4_padOf_5 T j p0 n k v) (Eq.trans (if_neg c1) ((if_pos c2))))) hres) kk  _ (lv_sub hl [2, 3, 1, 0] rfl)
  refine lv_bipush (v := (-5)) hx hb dX4_padOf_0 (by decide) ?_
  refine lv_istore_n (lv' := [(2, .int (-5)), (0, .ref (B j)), (1, .int p0)]) hx hb dX4_padOf_2 rfl hl (by decide) rfl (fun ls hl => ?_)
  refine lv_iconst (v := 0) hx hb dX4_padOf_3 (by decide) ?_
  refine lv_istore_n (lv' := [(3, .int 0), (2, .int (-5)), (0, .ref (B j)), (1, .int p0)]) hx hb dX4_padOf_4 rfl hl (by decide) rfl (fun ls hl => ?_)
  refine LOOP5 13 0 (-5) _ (by omega) (by omega) _ rfl (fun ls hl => ?_)  _ (lv_sub hl [2, 3, 1, 0] rfl)
  have hl : lv_has ls 4 [(2, .int (g_X4_padOf_5 T j p0 13 0 (-5)))] := hl
  refine lv_iload_n hx hb dX4_padOf_33 rfl (lv_at hl 0 rfl) ?_
  exact endP hx hb hr hlocks rfl (Eq.symm ((e_X4_padOf T j p0))) dX4_padOf_34
noncomputable def g_X4_wires_4 (T : MS) : Nat → Nat → Int32 → Int32
  | 0, k, v => v
  | n + 1, k, v => opq (if 12 ≤ (nI k) then v else (if (f_X4_hasWire T (nI k)) = 0 then (g_X4_wires_4 T n (k + 1) (v + 0)) else (g_X4_wires_4 T n (k + 1) (v + 1))))
theorem ge_X4_wires_4 (T : MS) (n : Nat) (k : Nat) (v : Int32) : g_X4_wires_4 T (n + 1) k v = (if 12 ≤ (nI k) then v else (if (f_X4_hasWire T (nI k)) = 0 then (g_X4_wires_4 T n (k + 1) (v + 0)) else (g_X4_wires_4 T n (k + 1) (v + 1)))) := opq_eq _
noncomputable def f_X4_wires (T : MS) : Int32 := opq (g_X4_wires_4 T 13 0 0)
theorem e_X4_wires (T : MS) : f_X4_wires T = (g_X4_wires_4 T 13 0 0) := opq_eq _
set_option maxHeartbeats 4000000 in
set_option maxRecDepth 100000 in
theorem c_X4_wires (l : Launch) (G : GG) (B : Nat → Nat) (T : MS)  : Mp l yX4_wires wsX4_wires ({ frames := 3, cells := 0, slots := 0, locals := 63 } : Room) G [.ref (B 0)] (wM G B T) (f_X4_wires T) := by
  refine Mp.of (cc := cX4_wires) (maxL := 3) (ret := (some .int)) (by decide) rfl (Nat.le_of_ble_eq_true rfl) ?_
  intro p e s m args below meth c E hr hlocks hP hK ls hl
  have E : CallFix p m c cX4_wires 3 s args wsX4_wires RX4 := E
  have hx := E.1
  have hb := E.2.1
  have hml := E.2.2.1
  have hown := E.2.2.2.1
  have hts := E.2.2.2.2
  have hl : lv_has ls 3 [(0, .ref (B 0))] := hl
  have LOOP4 : ∀ (n : Nat) (k : Nat) (v : Int32) (Q : State → Prop), (k ≤ 12) → (12 < k + n) → ∀ V : Int32, g_X4_wires_4 T n k v = V → (∀ ls : Array Slot, lv_has ls 3 [(1, .int V)] → W p l e ({ frames := 3, cells := 0, slots := 0, locals := 63 } : Room) s m args below meth c s.heap [] 0 0 (Q) (F0 m 32 ls [])) → ∀ ls : Array Slot, lv_has ls 3 [(0, .ref (B 0)), (1, .int v), (2, .int (nI k))] → W p l e ({ frames := 3, cells := 0, slots := 0, locals := 63 } : Room) s m args below meth c s.heap [] 0 0 (Q) (F0 m 4 ls []) := by
    intro n
    induction n with
    | zero =>
      intro k v Q hk hn
      exact absurd hn (by omega)
    | succ n ih =>
      intro k v Q hk hn V hres kk ls hl
      have hl : lv_has ls 3 [(0, .ref (B 0)), (1, .int v), (2, .int (nI k))] := hl
      refine lv_iload_n hx hb dX4_wires_4 rfl (lv_at hl 2 rfl) ?_
      refine lv_bipush (v := 12) hx hb dX4_wires_5 (by decide) ?_
      refine lv_icmp_ge (tgt := 32) hx hb dX4_wires_7 (by decide) (fun c1 => ?_) (fun c1 => ?_)
      · skip
        have hfin : v = V := Eq.trans (Eq.symm (Eq.trans (ge_X4_wires_4 T n k v) ((if_pos c1)))) hres
        subst hfin
        exact kk _ (lv_sub hl [1] rfl)
      · skip
        have hk2 : k < 12 := lt_of_nle (N := 12) rfl hk c1 (by decide)
        refine lv_iload_n hx hb dX4_wires_10 rfl (lv_at hl 1 rfl) ?_
        refine lv_aload_n hx hb dX4_wires_11 rfl (lv_at hl 0 rfl) ?_
        refine lv_iload_n hx hb dX4_wires_12 rfl (lv_at hl 2 rfl) ?_
        refine cpV (rest := [.int v]) (As := [.int (nI k)]) E (c_X4_hasWire l G B T (nI k)) (cwV 1 hts gX4_wires_X4_hasWire rfl rfl rfl (by decide +kernel) ⟨Nat.le_of_ble_eq_true rfl, Nat.le_of_ble_eq_true rfl⟩) hK hP 0 (wM_o G B T) rfl rfl hl.1 rfl (Nat.le_of_ble_eq_true rfl) dX4_wires_13 ⟨Nat.zero_le _, Nat.zero_le _⟩ ?_
        refine lv_if_eq (tgt := 23) hx hb dX4_wires_16 (by decide) (fun c2 => ?_) (fun c2 => ?_)
        · skip
          refine lv_iconst (v := 0) hx hb dX4_wires_23 (by decide) ?_
          refine lv_iadd hx hb dX4_wires_24 ?_
          refine lv_istore_n (lv' := [(1, .int (v + 0)), (0, .ref (B 0)), (2, .int (nI k))]) hx hb dX4_wires_25 rfl hl (by decide) rfl (fun ls hl => ?_)
          refine lv_iinc (v := (nI (k + 1))) (lv' := [(2, .int (nI (k + 1))), (1, .int (v + 0)), (0, .ref (B 0))]) hx hb dX4_wires_26 hl (k := 2) rfl (nI_1 k) (by decide) rfl (fun ls hl => ?_)
          refine lv_goto (tgt := 4) hx hb dX4_wires_29 (by decide) ?_
          exact ih (k + 1) (v + 0) Q (by omega) (by omega) V (Eq.trans (Eq.symm (Eq.trans (ge_X4_wires_4 T n k v) (Eq.trans (if_neg c1) ((if_pos c2))))) hres) kk  _ (lv_sub hl [2, 1, 0] rfl)
        · skip
          refine lv_iconst (v := 1) hx hb dX4_wires_19 (by decide) ?_
          refine lv_goto (tgt := 24) hx hb dX4_wires_20 (by decide) ?_
          refine lv_iadd hx hb dX4_wires_24 ?_
          refine lv_istore_n (lv' := [(1, .int (v + 1)), (0, .ref (B 0)), (2, .int (nI k))]) hx hb dX4_wires_25 rfl hl (by decide) rfl (fun ls hl => ?_)
          refine lv_iinc (v := (nI (k + 1))) (lv' := [(2, .int (nI (k + 1))), (1, .int (v + 1)), (0, .ref (B 0))]) hx hb dX4_wires_26 hl (k := 2) rfl (nI_1 k) (by decide) rfl (fun ls hl => ?_)
          refine lv_goto (tgt := 4) hx hb dX4_wires_29 (by decide) ?_
          exact ih (k + 1) (v + 1) Q (by omega) (by omega) V (Eq.trans (Eq.symm (Eq.trans (ge_X4_wires_4 T n k v) (Eq.trans (if_neg c1) ((if_neg c2))))) hres) kk  _ (lv_sub hl [2, 1, 0] rfl)
  refine lv_iconst (v := 0) hx hb dX4_wires_0 (by decide) ?_
  refine lv_istore_n (lv' := [(1, .int 0), (0, .ref (B 0))]) hx hb dX4_wires_1 rfl hl (by decide) rfl (fun ls hl => ?_)
  refine lv_iconst (v := 0) hx hb dX4_wires_2 (by decide) ?_
  refine lv_istore_n (lv' := [(2, .int 0), (1, .int 0), (0, .ref (B 0))]) hx hb dX4_wires_3 rfl hl (by decide) rfl (fun ls hl => ?_)
  refine LOOP4 13 0 0 _ (by omega) (by omega) _ rfl (fun ls hl => ?_)  _ (lv_sub hl [2, 1, 0] rfl)
  have hl : lv_has ls 3 [(1, .int (g_X4_wires_4 T 13 0 0))] := hl
  refine lv_iload_n hx hb dX4_wires_32 rfl (lv_at hl 0 rfl) ?_
  exact endP hx hb hr hlocks rfl (Eq.symm ((e_X4_wires T))) dX4_wires_33
noncomputable def f_X4_mayLay (T : MS) (j : Nat) (p0 p1 : Int32) : Int32 := opq (if (f_X4_of T j p0 0) = (-5) then (if (f_X4_padOf T j p1) = (-5) then (if ((T j) 66) = 1 then (-6) else (if ((T j) 65) < 200 then 0 else (-7))) else (-4)) else (-4))
theorem e_X4_mayLay (T : MS) (j : Nat) (p0 p1 : Int32) : f_X4_mayLay T j p0 p1 = (if (f_X4_of T j p0 0) = (-5) then (if (f_X4_padOf T j p1) = (-5) then (if ((T j) 66) = 1 then (-6) else (if ((T j) 65) < 200 then 0 else (-7))) else (-4)) else (-4)) := opq_eq _
set_option maxHeartbeats 4000000 in
set_option maxRecDepth 100000 in
theorem c_X4_mayLay (l : Launch) (G : GG) (B : Nat → Nat) (T : MS) (j : Nat) (p0 p1 : Int32) (hj1 : 1 ≤ j) (hj4 : j ≤ 4) (hp : vp_in p0 12) : Mp l yX4_mayLay wsX4_mayLay ({ frames := 2, cells := 0, slots := 0, locals := 45 } : Room) G [.ref (B j), .int p0, .int p1] (wM G B T) (f_X4_mayLay T j p0 p1) := by
  refine Mp.of (cc := cX4_mayLay) (maxL := 3) (ret := (some .int)) (by decide) rfl (Nat.le_of_ble_eq_true rfl) ?_
  intro p e s m args below meth c E hr hlocks hP hK ls hl
  have E : CallFix p m c cX4_mayLay 3 s args wsX4_mayLay RX4 := E
  have hx := E.1
  have hb := E.2.1
  have hml := E.2.2.1
  have hown := E.2.2.2.1
  have hts := E.2.2.2.2
  have hl : lv_has ls 3 [(0, .ref (B j)), (1, .int p0), (2, .int p1)] := hl
  refine lv_aload_n hx hb dX4_mayLay_0 rfl (lv_at hl 0 rfl) ?_
  refine lv_iload_n hx hb dX4_mayLay_1 rfl (lv_at hl 1 rfl) ?_
  refine lv_iconst (v := 0) hx hb dX4_mayLay_2 (by decide) ?_
  refine cpS (rest := []) (As := [.ref (B j), .int p0, .int 0]) E (c_X4_of l G B T j p0 0 hj1 hj4 (of_in j hp w0)) (va_cwS 3 hts gX4_mayLay_X4_of rfl rfl rfl (by decide +kernel) ⟨Nat.le_of_ble_eq_true rfl, Nat.le_of_ble_eq_true rfl⟩) hK hP rfl hl.1 rfl (Nat.le_of_ble_eq_true rfl) dX4_mayLay_3 ⟨Nat.zero_le _, Nat.zero_le _⟩ ?_
  refine lv_bipush (v := (-5)) hx hb dX4_mayLay_6 (by decide) ?_
  refine lv_icmp_ne (tgt := 21) hx hb dX4_mayLay_8 (by decide) (fun c1 => ?_) (fun c1 => ?_)
  · skip
    refine lv_bipush (v := (-4)) hx hb dX4_mayLay_21 (by decide) ?_
    exact endP hx hb hr hlocks rfl (Eq.symm (Eq.trans (e_X4_mayLay T j p0 p1) ((if_neg c1)))) dX4_mayLay_23
  · skip
    refine lv_aload_n hx hb dX4_mayLay_11 rfl (lv_at hl 0 rfl) ?_
    refine lv_iload_n hx hb dX4_mayLay_12 rfl (lv_at hl 2 rfl) ?_
    refine cpS (rest := []) (As := [.ref (B j), .int p1]) E (c_X4_padOf l G B T j p1 hj1 hj4) (va_cwS 2 hts gX4_mayLay_X4_padOf rfl rfl rfl (by decide +kernel) ⟨Nat.le_of_ble_eq_true rfl, Nat.le_of_ble_eq_true rfl⟩) hK hP rfl hl.1 rfl (Nat.le_of_ble_eq_true rfl) dX4_mayLay_13 ⟨Nat.zero_le _, Nat.zero_le _⟩ ?_
    refine lv_bipush (v := (-5)) hx hb dX4_mayLay_16 (by decide) ?_
    refine lv_icmp_eq (tgt := 24) hx hb dX4_mayLay_18 (by decide) (fun c2 => ?_) (fun c2 => ?_)
    · skip
      refine lv_aload_n hx hb dX4_mayLay_24 rfl (lv_at hl 0 rfl) ?_
      refine lv_bipush (v := 66) hx hb dX4_mayLay_25 (by decide) ?_
      refine va_iald (D := G.1) hx hb hK.1 hP j 0 (wM_j G B T j hj1 hj4) rfl (cin 66 j (by decide)) dX4_mayLay_27 ?_
      refine W.eq (g2 := F0 m 28 ls [.int ((T j) 66)]) (by rw [show (66 : Int32).toNatClampNeg = 66 from by decide] <;> rfl) ?_
      refine lv_iconst (v := 1) hx hb dX4_mayLay_28 (by decide) ?_
      refine lv_icmp_ne (tgt := 37) hx hb dX4_mayLay_29 (by decide) (fun c3 => ?_) (fun c3 => ?_)
      · skip
        refine lv_aload_n hx hb dX4_mayLay_37 rfl (lv_at hl 0 rfl) ?_
        refine lv_bipush (v := 65) hx hb dX4_mayLay_38 (by decide) ?_
        refine va_iald (D := G.1) hx hb hK.1 hP j 0 (wM_j G B T j hj1 hj4) rfl (cin 65 j (by decide)) dX4_mayLay_40 ?_
        refine W.eq (g2 := F0 m 41 ls [.int ((T j) 65)]) (by rw [show (65 : Int32).toNatClampNeg = 65 from by decide] <;> rfl) ?_
        refine lv_sipush (v := 200) hx hb dX4_mayLay_41 (by decide) ?_
        refine lv_icmp_lt (tgt := 52) hx hb dX4_mayLay_44 (by decide) (fun c4 => ?_) (fun c4 => ?_)
        · skip
          refine lv_iconst (v := 0) hx hb dX4_mayLay_52 (by decide) ?_
          exact endP hx hb hr hlocks rfl (Eq.symm (Eq.trans (e_X4_mayLay T j p0 p1) (Eq.trans (if_pos c1) (Eq.trans (if_pos c2) (Eq.trans (if_neg c3) ((if_pos c4))))))) dX4_mayLay_53
        · skip
          refine lv_bipush (v := (-7)) hx hb dX4_mayLay_47 (by decide) ?_
          refine lv_goto (tgt := 53) hx hb dX4_mayLay_49 (by decide) ?_
          exact endP hx hb hr hlocks rfl (Eq.symm (Eq.trans (e_X4_mayLay T j p0 p1) (Eq.trans (if_pos c1) (Eq.trans (if_pos c2) (Eq.trans (if_neg c3) ((if_neg c4))))))) dX4_mayLay_53
      · skip
        refine lv_bipush (v := (-6)) hx hb dX4_mayLay_32 (by decide) ?_
        refine lv_goto (tgt := 53) hx hb dX4_mayLay_34 (by decide) ?_
        exact endP hx hb hr hlocks rfl (Eq.symm (Eq.trans (e_X4_mayLay T j p0 p1) (Eq.trans (if_pos c1) (Eq.trans (if_pos c2) ((if_pos c3)))))) dX4_mayLay_53
    · skip
      refine lv_bipush (v := (-4)) hx hb dX4_mayLay_21 (by decide) ?_
      exact endP hx hb hr hlocks rfl (Eq.symm (Eq.trans (e_X4_mayLay T j p0 p1) (Eq.trans (if_pos c1) ((if_neg c2))))) dX4_mayLay_23
noncomputable def f_X4_strengthFor (T : MS) (j : Nat) (p0 p1 : Int32) : Int32 := opq (if 0 ≤ (100 - (((T j) 65) / 4)) then (if 0 ≤ ((100 - (((T j) 65) / 4)) - ((f_X4_apart (f_X4_padX p0) ((T j) (0 + p1).toNatClampNeg)) / 20)) then ((100 - (((T j) 65) / 4)) - ((f_X4_apart (f_X4_padX p0) ((T j) (0 + p1).toNatClampNeg)) / 20)) else 0) else (if 0 ≤ (0 - ((f_X4_apart (f_X4_padX p0) ((T j) (0 + p1).toNatClampNeg)) / 20)) then (0 - ((f_X4_apart (f_X4_padX p0) ((T j) (0 + p1).toNatClampNeg)) / 20)) else 0))
theorem e_X4_strengthFor (T : MS) (j : Nat) (p0 p1 : Int32) : f_X4_strengthFor T j p0 p1 = (if 0 ≤ (100 - (((T j) 65) / 4)) then (if 0 ≤ ((100 - (((T j) 65) / 4)) - ((f_X4_apart (f_X4_padX p0) ((T j) (0 + p1).toNatClampNeg)) / 20)) then ((100 - (((T j) 65) / 4)) - ((f_X4_apart (f_X4_padX p0) ((T j) (0 + p1).toNatClampNeg)) / 20)) else 0) else (if 0 ≤ (0 - ((f_X4_apart (f_X4_padX p0) ((T j) (0 + p1).toNatClampNeg)) / 20)) then (0 - ((f_X4_apart (f_X4_padX p0) ((T j) (0 + p1).toNatClampNeg)) / 20)) else 0)) := opq_eq _
set_option maxHeartbeats 4000000 in
set_option maxRecDepth 100000 in
theorem c_X4_strengthFor (l : Launch) (G : GG) (B : Nat → Nat) (T : MS) (j : Nat) (p0 p1 : Int32) (hj1 : 1 ≤ j) (hj4 : j ≤ 4) (hld : vp_in p1 16) : Mp l yX4_strengthFor wsX4_strengthFor ({ frames := 1, cells := 0, slots := 0, locals := 21 } : Room) G [.ref (B j), .int p0, .int p1] (wM G B T) (f_X4_strengthFor T j p0 p1) := by
  refine Mp.of (cc := cX4_strengthFor) (maxL := 5) (ret := (some .int)) (by decide) rfl (Nat.le_of_ble_eq_true rfl) ?_
  intro p e s m args below meth c E hr hlocks hP hK ls hl
  have E : CallFix p m c cX4_strengthFor 5 s args wsX4_strengthFor RX4 := E
  have hx := E.1
  have hb := E.2.1
  have hml := E.2.2.1
  have hown := E.2.2.2.1
  have hts := E.2.2.2.2
  have hl : lv_has ls 5 [(0, .ref (B j)), (1, .int p0), (2, .int p1)] := hl
  refine lv_bipush (v := 100) hx hb dX4_strengthFor_0 (by decide) ?_
  refine lv_aload_n hx hb dX4_strengthFor_2 rfl (lv_at hl 0 rfl) ?_
  refine lv_bipush (v := 65) hx hb dX4_strengthFor_3 (by decide) ?_
  refine va_iald (D := G.1) hx hb hK.1 hP j 0 (wM_j G B T j hj1 hj4) rfl (cin 65 j (by decide)) dX4_strengthFor_5 ?_
  refine W.eq (g2 := F0 m 6 ls [.int ((T j) 65), .int 100]) (by rw [show (65 : Int32).toNatClampNeg = 65 from by decide] <;> rfl) ?_
  refine lv_iconst (v := 4) hx hb dX4_strengthFor_6 (by decide) ?_
  refine lv_idiv hx hb dX4_strengthFor_7 (by decide) ?_
  refine lv_isub hx hb dX4_strengthFor_8 ?_
  refine lv_istore_n (lv' := [(3, .int (100 - (((T j) 65) / 4))), (0, .ref (B j)), (1, .int p0), (2, .int p1)]) hx hb dX4_strengthFor_9 rfl hl (by decide) rfl (fun ls hl => ?_)
  refine lv_iload_n hx hb dX4_strengthFor_10 rfl (lv_at hl 0 rfl) ?_
  refine lv_if_ge (tgt := 18) hx hb dX4_strengthFor_11 (by decide) (fun c1 => ?_) (fun c1 => ?_)
  · skip
    refine lv_iload_n hx hb dX4_strengthFor_18 rfl (lv_at hl 0 rfl) ?_
    refine lv_iload_n hx hb dX4_strengthFor_19 rfl (lv_at hl 2 rfl) ?_
    refine cpS (rest := [.int (100 - (((T j) 65) / 4))]) (As := [.int p0]) E (c_X4_padX l G B T p0) (va_cwS 1 hts gX4_strengthFor_X4_padX rfl rfl rfl (by decide +kernel) ⟨Nat.le_of_ble_eq_true rfl, Nat.le_of_ble_eq_true rfl⟩) hK hP rfl hl.1 rfl (Nat.le_of_ble_eq_true rfl) dX4_strengthFor_20 ⟨Nat.zero_le _, Nat.zero_le _⟩ ?_
    refine lv_aload_n hx hb dX4_strengthFor_23 rfl (lv_at hl 1 rfl) ?_
    refine lv_iconst (v := 0) hx hb dX4_strengthFor_24 (by decide) ?_
    refine lv_iload_n hx hb dX4_strengthFor_25 rfl (lv_at hl 3 rfl) ?_
    refine lv_iadd hx hb dX4_strengthFor_26 ?_
    refine va_iald (D := G.1) hx hb hK.1 hP j 0 (wM_j G B T j hj1 hj4) rfl (lead_in j hld) dX4_strengthFor_27 ?_
    refine cpS (rest := [.int (100 - (((T j) 65) / 4))]) (As := [.int (f_X4_padX p0), .int ((T j) (0 + p1).toNatClampNeg)]) E (c_X4_apart l G B T (f_X4_padX p0) ((T j) (0 + p1).toNatClampNeg)) (va_cwS 2 hts gX4_strengthFor_X4_apart rfl rfl rfl (by decide +kernel) ⟨Nat.le_of_ble_eq_true rfl, Nat.le_of_ble_eq_true rfl⟩) hK hP rfl hl.1 rfl (Nat.le_of_ble_eq_true rfl) dX4_strengthFor_28 ⟨Nat.zero_le _, Nat.zero_le _⟩ ?_
    refine lv_bipush (v := 20) hx hb dX4_strengthFor_31 (by decide) ?_
    refine lv_idiv hx hb dX4_strengthFor_33 (by decide) ?_
    refine lv_isub hx hb dX4_strengthFor_34 ?_
    refine lv_istore (lv' := [(4, .int ((100 - (((T j) 65) / 4)) - ((f_X4_apart (f_X4_padX p0) ((T j) (0 + p1).toNatClampNeg)) / 20))), (3, .int (100 - (((T j) 65) / 4))), (0, .ref (B j)), (1, .int p0), (2, .int p1)]) hx hb dX4_strengthFor_35 hl (by decide) rfl (fun ls hl => ?_)
    refine lv_iload hx hb dX4_strengthFor_37 (lv_at hl 0 rfl) ?_
    refine lv_if_ge (tgt := 46) hx hb dX4_strengthFor_39 (by decide) (fun c2 => ?_) (fun c2 => ?_)
    · skip
      refine lv_iload hx hb dX4_strengthFor_46 (lv_at hl 0 rfl) ?_
      exact endP hx hb hr hlocks rfl (Eq.symm (Eq.trans (e_X4_strengthFor T j p0 p1) (Eq.trans (if_pos c1) ((if_pos c2))))) dX4_strengthFor_48
    · skip
      refine lv_iconst (v := 0) hx hb dX4_strengthFor_42 (by decide) ?_
      refine lv_goto (tgt := 48) hx hb dX4_strengthFor_43 (by decide) ?_
      exact endP hx hb hr hlocks rfl (Eq.symm (Eq.trans (e_X4_strengthFor T j p0 p1) (Eq.trans (if_pos c1) ((if_neg c2))))) dX4_strengthFor_48
  · skip
    refine lv_iconst (v := 0) hx hb dX4_strengthFor_14 (by decide) ?_
    refine lv_goto (tgt := 19) hx hb dX4_strengthFor_15 (by decide) ?_
    refine lv_iload_n hx hb dX4_strengthFor_19 rfl (lv_at hl 2 rfl) ?_
    refine cpS (rest := [.int 0]) (As := [.int p0]) E (c_X4_padX l G B T p0) (va_cwS 1 hts gX4_strengthFor_X4_padX rfl rfl rfl (by decide +kernel) ⟨Nat.le_of_ble_eq_true rfl, Nat.le_of_ble_eq_true rfl⟩) hK hP rfl hl.1 rfl (Nat.le_of_ble_eq_true rfl) dX4_strengthFor_20 ⟨Nat.zero_le _, Nat.zero_le _⟩ ?_
    refine lv_aload_n hx hb dX4_strengthFor_23 rfl (lv_at hl 1 rfl) ?_
    refine lv_iconst (v := 0) hx hb dX4_strengthFor_24 (by decide) ?_
    refine lv_iload_n hx hb dX4_strengthFor_25 rfl (lv_at hl 3 rfl) ?_
    refine lv_iadd hx hb dX4_strengthFor_26 ?_
    refine va_iald (D := G.1) hx hb hK.1 hP j 0 (wM_j G B T j hj1 hj4) rfl (lead_in j hld) dX4_strengthFor_27 ?_
    refine cpS (rest := [.int 0]) (As := [.int (f_X4_padX p0), .int ((T j) (0 + p1).toNatClampNeg)]) E (c_X4_apart l G B T (f_X4_padX p0) ((T j) (0 + p1).toNatClampNeg)) (va_cwS 2 hts gX4_strengthFor_X4_apart rfl rfl rfl (by decide +kernel) ⟨Nat.le_of_ble_eq_true rfl, Nat.le_of_ble_eq_true rfl⟩) hK hP rfl hl.1 rfl (Nat.le_of_ble_eq_true rfl) dX4_strengthFor_28 ⟨Nat.zero_le _, Nat.zero_le _⟩ ?_
    refine lv_bipush (v := 20) hx hb dX4_strengthFor_31 (by decide) ?_
    refine lv_idiv hx hb dX4_strengthFor_33 (by decide) ?_
    refine lv_isub hx hb dX4_strengthFor_34 ?_
    refine lv_istore (lv' := [(4, .int (0 - ((f_X4_apart (f_X4_padX p0) ((T j) (0 + p1).toNatClampNeg)) / 20))), (3, .int (100 - (((T j) 65) / 4))), (0, .ref (B j)), (1, .int p0), (2, .int p1)]) hx hb dX4_strengthFor_35 hl (by decide) rfl (fun ls hl => ?_)
    refine lv_iload hx hb dX4_strengthFor_37 (lv_at hl 0 rfl) ?_
    refine lv_if_ge (tgt := 46) hx hb dX4_strengthFor_39 (by decide) (fun c3 => ?_) (fun c3 => ?_)
    · skip
      refine lv_iload hx hb dX4_strengthFor_46 (lv_at hl 0 rfl) ?_
      exact endP hx hb hr hlocks rfl (Eq.symm (Eq.trans (e_X4_strengthFor T j p0 p1) (Eq.trans (if_neg c1) ((if_pos c3))))) dX4_strengthFor_48
    · skip
      refine lv_iconst (v := 0) hx hb dX4_strengthFor_42 (by decide) ?_
      refine lv_goto (tgt := 48) hx hb dX4_strengthFor_43 (by decide) ?_
      exact endP hx hb hr hlocks rfl (Eq.symm (Eq.trans (e_X4_strengthFor T j p0 p1) (Eq.trans (if_neg c1) ((if_neg c3))))) dX4_strengthFor_48
noncomputable def f_X4_laid_1_k4 (z4 : MS) (z1 : MS) (z2 : MS) (z3 : MS) (T : MS) (p0 p1 p2 : Int32) : Int32 × MS := opq (if (((z4 1) 68) - ((z4 1) 68) / 7 * 7) = 0 then ((f_X4_strengthFor T 1 p0 p1), (tu (tu z4 1 (upd (z4 1) 66 1)) 1 (upd (upd (z4 1) 66 1) 67 (((upd (z4 1) 66 1) 67) + 1)))) else ((f_X4_strengthFor T 1 p0 p1), z4))
theorem e_X4_laid_1_k4 (z4 : MS) (z1 : MS) (z2 : MS) (z3 : MS) (T : MS) (p0 p1 p2 : Int32) : f_X4_laid_1_k4 z4 z1 z2 z3 T p0 p1 p2 = (if (((z4 1) 68) - ((z4 1) 68) / 7 * 7) = 0 then ((f_X4_strengthFor T 1 p0 p1), (tu (tu z4 1 (upd (z4 1) 66 1)) 1 (upd (upd (z4 1) 66 1) 67 (((upd (z4 1) 66 1) 67) + 1)))) else ((f_X4_strengthFor T 1 p0 p1), z4)) := opq_eq _
noncomputable def f_X4_laid_1_k3 (z3 : MS) (z1 : MS) (z2 : MS) (T : MS) (p0 p1 p2 : Int32) : Int32 × MS := opq (f_X4_laid_1_k4 (tu z3 1 (upd (z3 1) 68 (((z3 1) 68) + 1))) z1 z2 z3 T p0 p1 p2)
theorem e_X4_laid_1_k3 (z3 : MS) (z1 : MS) (z2 : MS) (T : MS) (p0 p1 p2 : Int32) : f_X4_laid_1_k3 z3 z1 z2 T p0 p1 p2 = (f_X4_laid_1_k4 (tu z3 1 (upd (z3 1) 68 (((z3 1) 68) + 1))) z1 z2 z3 T p0 p1 p2) := opq_eq _
noncomputable def f_X4_laid_1_k6 (z6 : MS) (z1 : MS) (z2 : MS) (z5 : MS) (T : MS) (p0 p1 p2 : Int32) : Int32 × MS := opq (if (((z6 1) 68) - ((z6 1) 68) / 7 * 7) = 0 then ((f_X4_strengthFor T 1 p0 p1), (tu (tu z6 1 (upd (z6 1) 66 1)) 1 (upd (upd (z6 1) 66 1) 67 (((upd (z6 1) 66 1) 67) + 1)))) else ((f_X4_strengthFor T 1 p0 p1), z6))
theorem e_X4_laid_1_k6 (z6 : MS) (z1 : MS) (z2 : MS) (z5 : MS) (T : MS) (p0 p1 p2 : Int32) : f_X4_laid_1_k6 z6 z1 z2 z5 T p0 p1 p2 = (if (((z6 1) 68) - ((z6 1) 68) / 7 * 7) = 0 then ((f_X4_strengthFor T 1 p0 p1), (tu (tu z6 1 (upd (z6 1) 66 1)) 1 (upd (upd (z6 1) 66 1) 67 (((upd (z6 1) 66 1) 67) + 1)))) else ((f_X4_strengthFor T 1 p0 p1), z6)) := opq_eq _
noncomputable def f_X4_laid_1_k5 (z5 : MS) (z1 : MS) (z2 : MS) (T : MS) (p0 p1 p2 : Int32) : Int32 × MS := opq (f_X4_laid_1_k6 (tu z5 1 (upd (z5 1) 68 (((z5 1) 68) + 1))) z1 z2 z5 T p0 p1 p2)
theorem e_X4_laid_1_k5 (z5 : MS) (z1 : MS) (z2 : MS) (T : MS) (p0 p1 p2 : Int32) : f_X4_laid_1_k5 z5 z1 z2 T p0 p1 p2 = (f_X4_laid_1_k6 (tu z5 1 (upd (z5 1) 68 (((z5 1) 68) + 1))) z1 z2 z5 T p0 p1 p2) := opq_eq _
noncomputable def f_X4_laid_1_k2 (z2 : MS) (z1 : MS) (T : MS) (p0 p1 p2 : Int32) : Int32 × MS := opq (if ((((z2 1) 65) + 2) + (p2 / 50)) ≤ 999 then (f_X4_laid_1_k3 (tu z2 1 (upd (z2 1) 65 ((((z2 1) 65) + 2) + (p2 / 50)))) z1 z2 T p0 p1 p2) else (f_X4_laid_1_k5 (tu z2 1 (upd (z2 1) 65 999)) z1 z2 T p0 p1 p2))
theorem e_X4_laid_1_k2 (z2 : MS) (z1 : MS) (T : MS) (p0 p1 p2 : Int32) : f_X4_laid_1_k2 z2 z1 T p0 p1 p2 = (if ((((z2 1) 65) + 2) + (p2 / 50)) ≤ 999 then (f_X4_laid_1_k3 (tu z2 1 (upd (z2 1) 65 ((((z2 1) 65) + 2) + (p2 / 50)))) z1 z2 T p0 p1 p2) else (f_X4_laid_1_k5 (tu z2 1 (upd (z2 1) 65 999)) z1 z2 T p0 p1 p2)) := opq_eq _
noncomputable def f_X4_laid_1_k1 (z1 : MS) (T : MS) (p0 p1 p2 : Int32) : Int32 × MS := opq (f_X4_laid_1_k2 (tu (tu z1 1 (upd (z1 1) ((16 + (4 * p0)) + 2).toNatClampNeg (f_X4_strengthFor T 1 p0 p1))) 1 (upd (upd (z1 1) ((16 + (4 * p0)) + 2).toNatClampNeg (f_X4_strengthFor T 1 p0 p1)) ((16 + (4 * p0)) + 3).toNatClampNeg ((upd (z1 1) ((16 + (4 * p0)) + 2).toNatClampNeg (f_X4_strengthFor T 1 p0 p1)) 68))) z1 T p0 p1 p2)
theorem e_X4_laid_1_k1 (z1 : MS) (T : MS) (p0 p1 p2 : Int32) : f_X4_laid_1_k1 z1 T p0 p1 p2 = (f_X4_laid_1_k2 (tu (tu z1 1 (upd (z1 1) ((16 + (4 * p0)) + 2).toNatClampNeg (f_X4_strengthFor T 1 p0 p1))) 1 (upd (upd (z1 1) ((16 + (4 * p0)) + 2).toNatClampNeg (f_X4_strengthFor T 1 p0 p1)) ((16 + (4 * p0)) + 3).toNatClampNeg ((upd (z1 1) ((16 + (4 * p0)) + 2).toNatClampNeg (f_X4_strengthFor T 1 p0 p1)) 68))) z1 T p0 p1 p2) := opq_eq _
noncomputable def f_X4_laid_1 (T : MS) (p0 p1 p2 : Int32) : Int32 × MS := opq (f_X4_laid_1_k1 (tu (tu T 1 (upd (T 1) ((16 + (4 * p0)) + 0).toNatClampNeg p1)) 1 (upd (upd (T 1) ((16 + (4 * p0)) + 0).toNatClampNeg p1) ((16 + (4 * p0)) + 1).toNatClampNeg p2)) T p0 p1 p2)
theorem e_X4_laid_1 (T : MS) (p0 p1 p2 : Int32) : f_X4_laid_1 T p0 p1 p2 = (f_X4_laid_1_k1 (tu (tu T 1 (upd (T 1) ((16 + (4 * p0)) + 0).toNatClampNeg p1)) 1 (upd (upd (T 1) ((16 + (4 * p0)) + 0).toNatClampNeg p1) ((16 + (4 * p0)) + 1).toNatClampNeg p2)) T p0 p1 p2) := opq_eq _
set_option maxHeartbeats 4000000 in
set_option maxRecDepth 100000 in
theorem c_X4_laid_1 (l : Launch) (G : GG) (B : Nat → Nat) (T : MS) (p0 p1 p2 : Int32) (hp : vp_in p0 12) (hld : vp_in p1 16) : Mm l yX4_laid wsX4_laid ({ frames := 2, cells := 0, slots := 0, locals := 45 } : Room) G [.ref (B 1), .int p0, .int p1, .int p2] (wM G B T) (f_X4_laid_1 T p0 p1 p2).1 (wM G B (f_X4_laid_1 T p0 p1 p2).2) := by
  refine Mm.of (cc := cX4_laid) (maxL := 7) (ret := (some .int)) (by decide) rfl (Nat.le_of_ble_eq_true rfl) ?_
  intro p e s m args below meth c A0 hA0 E hr hlocks hP hK hD hA hS ls hl
  have E : CallFix p m c cX4_laid 7 s args wsX4_laid RX4 := E
  have hx := E.1
  have hb := E.2.1
  have hml := E.2.2.1
  have hown := E.2.2.2.1
  have hts := E.2.2.2.2
  have hl : lv_has ls 7 [(0, .ref (B 1)), (1, .int p0), (2, .int p1), (3, .int p2)] := hl
  refine lv_aload_n hx hb dX4_laid_0 rfl (lv_at hl 0 rfl) ?_
  refine lv_iload_n hx hb dX4_laid_1 rfl (lv_at hl 1 rfl) ?_
  refine lv_iload_n hx hb dX4_laid_2 rfl (lv_at hl 2 rfl) ?_
  refine cpS (rest := []) (As := [.ref (B 1), .int p0, .int p1]) E (c_X4_strengthFor l G B T 1 p0 p1 (by decide) (by decide) hld) (va_cwS 3 hts gX4_laid_X4_strengthFor rfl rfl rfl (by decide +kernel) ⟨Nat.le_of_ble_eq_true rfl, Nat.le_of_ble_eq_true rfl⟩) hK hP rfl hl.1 rfl (Nat.le_of_ble_eq_true rfl) dX4_laid_3 ⟨Nat.zero_le _, Nat.zero_le _⟩ ?_
  refine lv_istore (lv' := [(4, .int (f_X4_strengthFor T 1 p0 p1)), (0, .ref (B 1)), (1, .int p0), (2, .int p1), (3, .int p2)]) hx hb dX4_laid_6 hl (by decide) rfl (fun ls hl => ?_)
  refine lv_bipush (v := 16) hx hb dX4_laid_8 (by decide) ?_
  refine lv_iconst (v := 4) hx hb dX4_laid_10 (by decide) ?_
  refine lv_iload_n hx hb dX4_laid_11 rfl (lv_at hl 2 rfl) ?_
  refine lv_imul hx hb dX4_laid_12 ?_
  refine lv_iadd hx hb dX4_laid_13 ?_
  refine lv_istore (lv' := [(5, .int (16 + (4 * p0))), (4, .int (f_X4_strengthFor T 1 p0 p1)), (0, .ref (B 1)), (1, .int p0), (2, .int p1), (3, .int p2)]) hx hb dX4_laid_14 hl (by decide) rfl (fun ls hl => ?_)
  refine lv_aload_n hx hb dX4_laid_16 rfl (lv_at hl 2 rfl) ?_
  refine lv_iload hx hb dX4_laid_17 (lv_at hl 0 rfl) ?_
  refine lv_iconst (v := 0) hx hb dX4_laid_19 (by decide) ?_
  refine lv_iadd hx hb dX4_laid_20 ?_
  refine lv_iload_n hx hb dX4_laid_21 rfl (lv_at hl 4 rfl) ?_
  refine va_iast (D := G.1) hx hb hK.1 hP hD hS 1 0 (wM_j G B T 1 (by decide) (by decide)) rfl (of_in 1 hp w0) dX4_laid_22 (fun H locs hP hD hS => ?_)
  rw [wM_sj G B T 1 (by decide) (by decide) _] at hP hD
  have hP : va_P G.1 vwCl (wM G B (tu T 1 (upd (T 1) ((16 + (4 * p0)) + 0).toNatClampNeg p1))) H := hP
  have hD : va_D A0 (wM G B (tu T 1 (upd (T 1) ((16 + (4 * p0)) + 0).toNatClampNeg p1))) := hD
  refine lv_aload_n hx hb dX4_laid_23 rfl (lv_at hl 2 rfl) ?_
  refine lv_iload hx hb dX4_laid_24 (lv_at hl 0 rfl) ?_
  refine lv_iconst (v := 1) hx hb dX4_laid_26 (by decide) ?_
  refine lv_iadd hx hb dX4_laid_27 ?_
  refine lv_iload_n hx hb dX4_laid_28 rfl (lv_at hl 5 rfl) ?_
  refine va_iast (D := G.1) hx hb hK.1 hP hD hS 1 0 (wM_j G B (tu T 1 (upd (T 1) ((16 + (4 * p0)) + 0).toNatClampNeg p1)) 1 (by decide) (by decide)) rfl (of_in 1 hp w1) dX4_laid_29 (fun H locs hP hD hS => ?_)
  rw [wM_sj G B (tu T 1 (upd (T 1) ((16 + (4 * p0)) + 0).toNatClampNeg p1)) 1 (by decide) (by decide) _] at hP hD
  have hP : va_P G.1 vwCl (wM G B (tu (tu T 1 (upd (T 1) ((16 + (4 * p0)) + 0).toNatClampNeg p1)) 1 (upd (upd (T 1) ((16 + (4 * p0)) + 0).toNatClampNeg p1) ((16 + (4 * p0)) + 1).toNatClampNeg p2))) H := hP
  have hD : va_D A0 (wM G B (tu (tu T 1 (upd (T 1) ((16 + (4 * p0)) + 0).toNatClampNeg p1)) 1 (upd (upd (T 1) ((16 + (4 * p0)) + 0).toNatClampNeg p1) ((16 + (4 * p0)) + 1).toNatClampNeg p2))) := hD
  have hres1 : f_X4_laid_1_k1 (tu (tu T 1 (upd (T 1) ((16 + (4 * p0)) + 0).toNatClampNeg p1)) 1 (upd (upd (T 1) ((16 + (4 * p0)) + 0).toNatClampNeg p1) ((16 + (4 * p0)) + 1).toNatClampNeg p2)) T p0 p1 p2 = (f_X4_laid_1 T p0 p1 p2) := Eq.symm ((e_X4_laid_1 T p0 p1 p2))
  generalize hz1 : (tu (tu T 1 (upd (T 1) ((16 + (4 * p0)) + 0).toNatClampNeg p1)) 1 (upd (upd (T 1) ((16 + (4 * p0)) + 0).toNatClampNeg p1) ((16 + (4 * p0)) + 1).toNatClampNeg p2)) = z1 at hres1 hP hD ⊢
  refine lv_aload_n hx hb dX4_laid_30 rfl (lv_at hl 2 rfl) ?_
  refine lv_iload hx hb dX4_laid_31 (lv_at hl 0 rfl) ?_
  refine lv_iconst (v := 2) hx hb dX4_laid_33 (by decide) ?_
  refine lv_iadd hx hb dX4_laid_34 ?_
  refine lv_iload hx hb dX4_laid_35 (lv_at hl 1 rfl) ?_
  refine va_iast (D := G.1) hx hb hK.1 hP hD hS 1 0 (wM_j G B z1 1 (by decide) (by decide)) rfl (of_in 1 hp w2) dX4_laid_37 (fun H locs hP hD hS => ?_)
  rw [wM_sj G B z1 1 (by decide) (by decide) _] at hP hD
  have hP : va_P G.1 vwCl (wM G B (tu z1 1 (upd (z1 1) ((16 + (4 * p0)) + 2).toNatClampNeg (f_X4_strengthFor T 1 p0 p1)))) H := hP
  have hD : va_D A0 (wM G B (tu z1 1 (upd (z1 1) ((16 + (4 * p0)) + 2).toNatClampNeg (f_X4_strengthFor T 1 p0 p1)))) := hD
  refine lv_aload_n hx hb dX4_laid_38 rfl (lv_at hl 2 rfl) ?_
  refine lv_iload hx hb dX4_laid_39 (lv_at hl 0 rfl) ?_
  refine lv_iconst (v := 3) hx hb dX4_laid_41 (by decide) ?_
  refine lv_iadd hx hb dX4_laid_42 ?_
  refine lv_aload_n hx hb dX4_laid_43 rfl (lv_at hl 2 rfl) ?_
  refine lv_bipush (v := 68) hx hb dX4_laid_44 (by decide) ?_
  refine va_iald (D := G.1) hx hb hK.1 hP 1 0 (wM_j G B (tu z1 1 (upd (z1 1) ((16 + (4 * p0)) + 2).toNatClampNeg (f_X4_strengthFor T 1 p0 p1))) 1 (by decide) (by decide)) rfl (cin 68 1 (by decide)) dX4_laid_46 ?_
  refine W.eq (g2 := F0 m 47 ls [.int ((upd (z1 1) ((16 + (4 * p0)) + 2).toNatClampNeg (f_X4_strengthFor T 1 p0 p1)) 68), .int ((16 + (4 * p0)) + 3), .ref (B 1)]) (by rw [show (68 : Int32).toNatClampNeg = 68 from by decide] <;> rfl) ?_
  refine va_iast (D := G.1) hx hb hK.1 hP hD hS 1 0 (wM_j G B (tu z1 1 (upd (z1 1) ((16 + (4 * p0)) + 2).toNatClampNeg (f_X4_strengthFor T 1 p0 p1))) 1 (by decide) (by decide)) rfl (of_in 1 hp w3) dX4_laid_47 (fun H locs hP hD hS => ?_)
  rw [wM_sj G B (tu z1 1 (upd (z1 1) ((16 + (4 * p0)) + 2).toNatClampNeg (f_X4_strengthFor T 1 p0 p1))) 1 (by decide) (by decide) _] at hP hD
  have hP : va_P G.1 vwCl (wM G B (tu (tu z1 1 (upd (z1 1) ((16 + (4 * p0)) + 2).toNatClampNeg (f_X4_strengthFor T 1 p0 p1))) 1 (upd (upd (z1 1) ((16 + (4 * p0)) + 2).toNatClampNeg (f_X4_strengthFor T 1 p0 p1)) ((16 + (4 * p0)) + 3).toNatClampNeg ((upd (z1 1) ((16 + (4 * p0)) + 2).toNatClampNeg (f_X4_strengthFor T 1 p0 p1)) 68)))) H := hP
  have hD : va_D A0 (wM G B (tu (tu z1 1 (upd (z1 1) ((16 + (4 * p0)) + 2).toNatClampNeg (f_X4_strengthFor T 1 p0 p1))) 1 (upd (upd (z1 1) ((16 + (4 * p0)) + 2).toNatClampNeg (f_X4_strengthFor T 1 p0 p1)) ((16 + (4 * p0)) + 3).toNatClampNeg ((upd (z1 1) ((16 + (4 * p0)) + 2).toNatClampNeg (f_X4_strengthFor T 1 p0 p1)) 68)))) := hD
  have hres2 : f_X4_laid_1_k2 (tu (tu z1 1 (upd (z1 1) ((16 + (4 * p0)) + 2).toNatClampNeg (f_X4_strengthFor T 1 p0 p1))) 1 (upd (upd (z1 1) ((16 + (4 * p0)) + 2).toNatClampNeg (f_X4_strengthFor T 1 p0 p1)) ((16 + (4 * p0)) + 3).toNatClampNeg ((upd (z1 1) ((16 + (4 * p0)) + 2).toNatClampNeg (f_X4_strengthFor T 1 p0 p1)) 68))) z1 T p0 p1 p2 = (f_X4_laid_1 T p0 p1 p2) := Eq.trans (Eq.symm ((e_X4_laid_1_k1 z1 T p0 p1 p2))) hres1
  generalize hz2 : (tu (tu z1 1 (upd (z1 1) ((16 + (4 * p0)) + 2).toNatClampNeg (f_X4_strengthFor T 1 p0 p1))) 1 (upd (upd (z1 1) ((16 + (4 * p0)) + 2).toNatClampNeg (f_X4_strengthFor T 1 p0 p1)) ((16 + (4 * p0)) + 3).toNatClampNeg ((upd (z1 1) ((16 + (4 * p0)) + 2).toNatClampNeg (f_X4_strengthFor T 1 p0 p1)) 68))) = z2 at hres2 hP hD ⊢
  refine lv_aload_n hx hb dX4_laid_48 rfl (lv_at hl 2 rfl) ?_
  refine lv_bipush (v := 65) hx hb dX4_laid_49 (by decide) ?_
  refine va_iald (D := G.1) hx hb hK.1 hP 1 0 (wM_j G B z2 1 (by decide) (by decide)) rfl (cin 65 1 (by decide)) dX4_laid_51 ?_
  refine W.eq (g2 := F0 m 52 ls [.int ((z2 1) 65)]) (by rw [show (65 : Int32).toNatClampNeg = 65 from by decide] <;> rfl) ?_
  refine lv_iconst (v := 2) hx hb dX4_laid_52 (by decide) ?_
  refine lv_iadd hx hb dX4_laid_53 ?_
  refine lv_iload_n hx hb dX4_laid_54 rfl (lv_at hl 5 rfl) ?_
  refine lv_bipush (v := 50) hx hb dX4_laid_55 (by decide) ?_
  refine lv_idiv hx hb dX4_laid_57 (by decide) ?_
  refine lv_iadd hx hb dX4_laid_58 ?_
  refine lv_istore (lv' := [(6, .int ((((z2 1) 65) + 2) + (p2 / 50))), (5, .int (16 + (4 * p0))), (4, .int (f_X4_strengthFor T 1 p0 p1)), (0, .ref (B 1)), (1, .int p0), (2, .int p1), (3, .int p2)]) hx hb dX4_laid_59 hl (by decide) rfl (fun ls hl => ?_)
  refine lv_aload_n hx hb dX4_laid_61 rfl (lv_at hl 3 rfl) ?_
  refine lv_bipush (v := 65) hx hb dX4_laid_62 (by decide) ?_
  refine lv_iload hx hb dX4_laid_64 (lv_at hl 0 rfl) ?_
  refine lv_sipush (v := 999) hx hb dX4_laid_66 (by decide) ?_
  refine lv_icmp_le (tgt := 78) hx hb dX4_laid_69 (by decide) (fun c1 => ?_) (fun c1 => ?_)
  · skip
    refine lv_iload hx hb dX4_laid_78 (lv_at hl 0 rfl) ?_
    refine va_iast (D := G.1) hx hb hK.1 hP hD hS 1 0 (wM_j G B z2 1 (by decide) (by decide)) rfl (cin 65 1 (by decide)) dX4_laid_80 (fun H locs hP hD hS => ?_)
    rw [wM_sj G B z2 1 (by decide) (by decide) _] at hP hD
    rw [show (65 : Int32).toNatClampNeg = 65 from by decide] at hP hD
    have hP : va_P G.1 vwCl (wM G B (tu z2 1 (upd (z2 1) 65 ((((z2 1) 65) + 2) + (p2 / 50))))) H := hP
    have hD : va_D A0 (wM G B (tu z2 1 (upd (z2 1) 65 ((((z2 1) 65) + 2) + (p2 / 50))))) := hD
    have hres3 : f_X4_laid_1_k3 (tu z2 1 (upd (z2 1) 65 ((((z2 1) 65) + 2) + (p2 / 50)))) z1 z2 T p0 p1 p2 = (f_X4_laid_1 T p0 p1 p2) := Eq.trans (Eq.symm (Eq.trans (e_X4_laid_1_k2 z2 z1 T p0 p1 p2) ((if_pos c1)))) hres2
    generalize hz3 : (tu z2 1 (upd (z2 1) 65 ((((z2 1) 65) + 2) + (p2 / 50)))) = z3 at hres3 hP hD ⊢
    refine lv_aload_n hx hb dX4_laid_81 rfl (lv_at hl 3 rfl) ?_
    refine lv_bipush (v := 68) hx hb dX4_laid_82 (by decide) ?_
    refine lv_dup2_11 hx hb dX4_laid_84 rfl rfl ?_
    refine va_iald (D := G.1) hx hb hK.1 hP 1 0 (wM_j G B z3 1 (by decide) (by decide)) rfl (cin 68 1 (by decide)) dX4_laid_85 ?_
    refine W.eq (g2 := F0 m 86 ls [.int ((z3 1) 68), .int 68, .ref (B 1)]) (by rw [show (68 : Int32).toNatClampNeg = 68 from by decide] <;> rfl) ?_
    refine lv_iconst (v := 1) hx hb dX4_laid_86 (by decide) ?_
    refine lv_iadd hx hb dX4_laid_87 ?_
    refine va_iast (D := G.1) hx hb hK.1 hP hD hS 1 0 (wM_j G B z3 1 (by decide) (by decide)) rfl (cin 68 1 (by decide)) dX4_laid_88 (fun H locs hP hD hS => ?_)
    rw [wM_sj G B z3 1 (by decide) (by decide) _] at hP hD
    rw [show (68 : Int32).toNatClampNeg = 68 from by decide] at hP hD
    have hP : va_P G.1 vwCl (wM G B (tu z3 1 (upd (z3 1) 68 (((z3 1) 68) + 1)))) H := hP
    have hD : va_D A0 (wM G B (tu z3 1 (upd (z3 1) 68 (((z3 1) 68) + 1)))) := hD
    have hres4 : f_X4_laid_1_k4 (tu z3 1 (upd (z3 1) 68 (((z3 1) 68) + 1))) z1 z2 z3 T p0 p1 p2 = (f_X4_laid_1 T p0 p1 p2) := Eq.trans (Eq.symm ((e_X4_laid_1_k3 z3 z1 z2 T p0 p1 p2))) hres3
    generalize hz4 : (tu z3 1 (upd (z3 1) 68 (((z3 1) 68) + 1))) = z4 at hres4 hP hD ⊢
    refine lv_aload_n hx hb dX4_laid_89 rfl (lv_at hl 3 rfl) ?_
    refine lv_bipush (v := 68) hx hb dX4_laid_90 (by decide) ?_
    refine va_iald (D := G.1) hx hb hK.1 hP 1 0 (wM_j G B z4 1 (by decide) (by decide)) rfl (cin 68 1 (by decide)) dX4_laid_92 ?_
    refine W.eq (g2 := F0 m 93 ls [.int ((z4 1) 68)]) (by rw [show (68 : Int32).toNatClampNeg = 68 from by decide] <;> rfl) ?_
    refine lv_bipush (v := 7) hx hb dX4_laid_93 (by decide) ?_
    refine lv_irem hx hb dX4_laid_95 (by decide) ?_
    refine lv_if_ne (tgt := 112) hx hb dX4_laid_96 (by decide) (fun c2 => ?_) (fun c2 => ?_)
    · skip
      refine lv_iload hx hb dX4_laid_112 (lv_at hl 2 rfl) ?_
      have hfin : ((f_X4_strengthFor T 1 p0 p1), z4) = (f_X4_laid_1 T p0 p1 p2) := Eq.trans (Eq.symm (Eq.trans (e_X4_laid_1_k4 z4 z1 z2 z3 T p0 p1 p2) ((if_neg c2)))) hres4
      exact endM hx hb hr hlocks rfl hP hD hS ⟨@congrArg (Int32 × MS) Int32 ((f_X4_strengthFor T 1 p0 p1), z4) (f_X4_laid_1 T p0 p1 p2) Prod.fst hfin, @congrArg (Int32 × MS) va_W ((f_X4_strengthFor T 1 p0 p1), z4) (f_X4_laid_1 T p0 p1 p2) (fun z => wM G B z.2) hfin⟩ dX4_laid_114
    · skip
      refine lv_aload_n hx hb dX4_laid_99 rfl (lv_at hl 3 rfl) ?_
      refine lv_bipush (v := 66) hx hb dX4_laid_100 (by decide) ?_
      refine lv_iconst (v := 1) hx hb dX4_laid_102 (by decide) ?_
      refine va_iast (D := G.1) hx hb hK.1 hP hD hS 1 0 (wM_j G B z4 1 (by decide) (by decide)) rfl (cin 66 1 (by decide)) dX4_laid_103 (fun H locs hP hD hS => ?_)
      rw [wM_sj G B z4 1 (by decide) (by decide) _] at hP hD
      rw [show (66 : Int32).toNatClampNeg = 66 from by decide] at hP hD
      have hP : va_P G.1 vwCl (wM G B (tu z4 1 (upd (z4 1) 66 1))) H := hP
      have hD : va_D A0 (wM G B (tu z4 1 (upd (z4 1) 66 1))) := hD
      refine lv_aload_n hx hb dX4_laid_104 rfl (lv_at hl 3 rfl) ?_
      refine lv_bipush (v := 67) hx hb dX4_laid_105 (by decide) ?_
      refine lv_dup2_11 hx hb dX4_laid_107 rfl rfl ?_
      refine va_iald (D := G.1) hx hb hK.1 hP 1 0 (wM_j G B (tu z4 1 (upd (z4 1) 66 1)) 1 (by decide) (by decide)) rfl (cin 67 1 (by decide)) dX4_laid_108 ?_
      refine W.eq (g2 := F0 m 109 ls [.int ((upd (z4 1) 66 1) 67), .int 67, .ref (B 1)]) (by rw [show (67 : Int32).toNatClampNeg = 67 from by decide] <;> rfl) ?_
      refine lv_iconst (v := 1) hx hb dX4_laid_109 (by decide) ?_
      refine lv_iadd hx hb dX4_laid_110 ?_
      refine va_iast (D := G.1) hx hb hK.1 hP hD hS 1 0 (wM_j G B (tu z4 1 (upd (z4 1) 66 1)) 1 (by decide) (by decide)) rfl (cin 67 1 (by decide)) dX4_laid_111 (fun H locs hP hD hS => ?_)
      rw [wM_sj G B (tu z4 1 (upd (z4 1) 66 1)) 1 (by decide) (by decide) _] at hP hD
      rw [show (67 : Int32).toNatClampNeg = 67 from by decide] at hP hD
      have hP : va_P G.1 vwCl (wM G B (tu (tu z4 1 (upd (z4 1) 66 1)) 1 (upd (upd (z4 1) 66 1) 67 (((upd (z4 1) 66 1) 67) + 1)))) H := hP
      have hD : va_D A0 (wM G B (tu (tu z4 1 (upd (z4 1) 66 1)) 1 (upd (upd (z4 1) 66 1) 67 (((upd (z4 1) 66 1) 67) + 1)))) := hD
      refine lv_iload hx hb dX4_laid_112 (lv_at hl 2 rfl) ?_
      have hfin : ((f_X4_strengthFor T 1 p0 p1), (tu (tu z4 1 (upd (z4 1) 66 1)) 1 (upd (upd (z4 1) 66 1) 67 (((upd (z4 1) 66 1) 67) + 1)))) = (f_X4_laid_1 T p0 p1 p2) := Eq.trans (Eq.symm (Eq.trans (e_X4_laid_1_k4 z4 z1 z2 z3 T p0 p1 p2) ((if_pos c2)))) hres4
      exact endM hx hb hr hlocks rfl hP hD hS ⟨@congrArg (Int32 × MS) Int32 ((f_X4_strengthFor T 1 p0 p1), (tu (tu z4 1 (upd (z4 1) 66 1)) 1 (upd (upd (z4 1) 66 1) 67 (((upd (z4 1) 66 1) 67) + 1)))) (f_X4_laid_1 T p0 p1 p2) Prod.fst hfin, @congrArg (Int32 × MS) va_W ((f_X4_strengthFor T 1 p0 p1), (tu (tu z4 1 (upd (z4 1) 66 1)) 1 (upd (upd (z4 1) 66 1) 67 (((upd (z4 1) 66 1) 67) + 1)))) (f_X4_laid_1 T p0 p1 p2) (fun z => wM G B z.2) hfin⟩ dX4_laid_114
  · skip
    refine lv_sipush (v := 999) hx hb dX4_laid_72 (by decide) ?_
    refine lv_goto (tgt := 80) hx hb dX4_laid_75 (by decide) ?_
    refine va_iast (D := G.1) hx hb hK.1 hP hD hS 1 0 (wM_j G B z2 1 (by decide) (by decide)) rfl (cin 65 1 (by decide)) dX4_laid_80 (fun H locs hP hD hS => ?_)
    rw [wM_sj G B z2 1 (by decide) (by decide) _] at hP hD
    rw [show (65 : Int32).toNatClampNeg = 65 from by decide] at hP hD
    have hP : va_P G.1 vwCl (wM G B (tu z2 1 (upd (z2 1) 65 999))) H := hP
    have hD : va_D A0 (wM G B (tu z2 1 (upd (z2 1) 65 999))) := hD
    have hres5 : f_X4_laid_1_k5 (tu z2 1 (upd (z2 1) 65 999)) z1 z2 T p0 p1 p2 = (f_X4_laid_1 T p0 p1 p2) := Eq.trans (Eq.symm (Eq.trans (e_X4_laid_1_k2 z2 z1 T p0 p1 p2) ((if_neg c1)))) hres2
    generalize hz5 : (tu z2 1 (upd (z2 1) 65 999)) = z5 at hres5 hP hD ⊢
    refine lv_aload_n hx hb dX4_laid_81 rfl (lv_at hl 3 rfl) ?_
    refine lv_bipush (v := 68) hx hb dX4_laid_82 (by decide) ?_
    refine lv_dup2_11 hx hb dX4_laid_84 rfl rfl ?_
    refine va_iald (D := G.1) hx hb hK.1 hP 1 0 (wM_j G B z5 1 (by decide) (by decide)) rfl (cin 68 1 (by decide)) dX4_laid_85 ?_
    refine W.eq (g2 := F0 m 86 ls [.int ((z5 1) 68), .int 68, .ref (B 1)]) (by rw [show (68 : Int32).toNatClampNeg = 68 from by decide] <;> rfl) ?_
    refine lv_iconst (v := 1) hx hb dX4_laid_86 (by decide) ?_
    refine lv_iadd hx hb dX4_laid_87 ?_
    refine va_iast (D := G.1) hx hb hK.1 hP hD hS 1 0 (wM_j G B z5 1 (by decide) (by decide)) rfl (cin 68 1 (by decide)) dX4_laid_88 (fun H locs hP hD hS => ?_)
    rw [wM_sj G B z5 1 (by decide) (by decide) _] at hP hD
    rw [show (68 : Int32).toNatClampNeg = 68 from by decide] at hP hD
    have hP : va_P G.1 vwCl (wM G B (tu z5 1 (upd (z5 1) 68 (((z5 1) 68) + 1)))) H := hP
    have hD : va_D A0 (wM G B (tu z5 1 (upd (z5 1) 68 (((z5 1) 68) + 1)))) := hD
    have hres6 : f_X4_laid_1_k6 (tu z5 1 (upd (z5 1) 68 (((z5 1) 68) + 1))) z1 z2 z5 T p0 p1 p2 = (f_X4_laid_1 T p0 p1 p2) := Eq.trans (Eq.symm ((e_X4_laid_1_k5 z5 z1 z2 T p0 p1 p2))) hres5
    generalize hz6 : (tu z5 1 (upd (z5 1) 68 (((z5 1) 68) + 1))) = z6 at hres6 hP hD ⊢
    refine lv_aload_n hx hb dX4_laid_89 rfl (lv_at hl 3 rfl) ?_
    refine lv_bipush (v := 68) hx hb dX4_laid_90 (by decide) ?_
    refine va_iald (D := G.1) hx hb hK.1 hP 1 0 (wM_j G B z6 1 (by decide) (by decide)) rfl (cin 68 1 (by decide)) dX4_laid_92 ?_
    refine W.eq (g2 := F0 m 93 ls [.int ((z6 1) 68)]) (by rw [show (68 : Int32).toNatClampNeg = 68 from by decide] <;> rfl) ?_
    refine lv_bipush (v := 7) hx hb dX4_laid_93 (by decide) ?_
    refine lv_irem hx hb dX4_laid_95 (by decide) ?_
    refine lv_if_ne (tgt := 112) hx hb dX4_laid_96 (by decide) (fun c3 => ?_) (fun c3 => ?_)
    · skip
      refine lv_iload hx hb dX4_laid_112 (lv_at hl 2 rfl) ?_
      have hfin : ((f_X4_strengthFor T 1 p0 p1), z6) = (f_X4_laid_1 T p0 p1 p2) := Eq.trans (Eq.symm (Eq.trans (e_X4_laid_1_k6 z6 z1 z2 z5 T p0 p1 p2) ((if_neg c3)))) hres6
      exact endM hx hb hr hlocks rfl hP hD hS ⟨@congrArg (Int32 × MS) Int32 ((f_X4_strengthFor T 1 p0 p1), z6) (f_X4_laid_1 T p0 p1 p2) Prod.fst hfin, @congrArg (Int32 × MS) va_W ((f_X4_strengthFor T 1 p0 p1), z6) (f_X4_laid_1 T p0 p1 p2) (fun z => wM G B z.2) hfin⟩ dX4_laid_114
    · skip
      refine lv_aload_n hx hb dX4_laid_99 rfl (lv_at hl 3 rfl) ?_
      refine lv_bipush (v := 66) hx hb dX4_laid_100 (by decide) ?_
      refine lv_iconst (v := 1) hx hb dX4_laid_102 (by decide) ?_
      refine va_iast (D := G.1) hx hb hK.1 hP hD hS 1 0 (wM_j G B z6 1 (by decide) (by decide)) rfl (cin 66 1 (by decide)) dX4_laid_103 (fun H locs hP hD hS => ?_)
      rw [wM_sj G B z6 1 (by decide) (by decide) _] at hP hD
      rw [show (66 : Int32).toNatClampNeg = 66 from by decide] at hP hD
      have hP : va_P G.1 vwCl (wM G B (tu z6 1 (upd (z6 1) 66 1))) H := hP
      have hD : va_D A0 (wM G B (tu z6 1 (upd (z6 1) 66 1))) := hD
      refine lv_aload_n hx hb dX4_laid_104 rfl (lv_at hl 3 rfl) ?_
      refine lv_bipush (v := 67) hx hb dX4_laid_105 (by decide) ?_
      refine lv_dup2_11 hx hb dX4_laid_107 rfl rfl ?_
      refine va_iald (D := G.1) hx hb hK.1 hP 1 0 (wM_j G B (tu z6 1 (upd (z6 1) 66 1)) 1 (by decide) (by decide)) rfl (cin 67 1 (by decide)) dX4_laid_108 ?_
      refine W.eq (g2 := F0 m 109 ls [.int ((upd (z6 1) 66 1) 67), .int 67, .ref (B 1)]) (by rw [show (67 : Int32).toNatClampNeg = 67 from by decide] <;> rfl) ?_
      refine lv_iconst (v := 1) hx hb dX4_laid_109 (by decide) ?_
      refine lv_iadd hx hb dX4_laid_110 ?_
      refine va_iast (D := G.1) hx hb hK.1 hP hD hS 1 0 (wM_j G B (tu z6 1 (upd (z6 1) 66 1)) 1 (by decide) (by decide)) rfl (cin 67 1 (by decide)) dX4_laid_111 (fun H locs hP hD hS => ?_)
      rw [wM_sj G B (tu z6 1 (upd (z6 1) 66 1)) 1 (by decide) (by decide) _] at hP hD
      rw [show (67 : Int32).toNatClampNeg = 67 from by decide] at hP hD
      have hP : va_P G.1 vwCl (wM G B (tu (tu z6 1 (upd (z6 1) 66 1)) 1 (upd (upd (z6 1) 66 1) 67 (((upd (z6 1) 66 1) 67) + 1)))) H := hP
      have hD : va_D A0 (wM G B (tu (tu z6 1 (upd (z6 1) 66 1)) 1 (upd (upd (z6 1) 66 1) 67 (((upd (z6 1) 66 1) 67) + 1)))) := hD
      refine lv_iload hx hb dX4_laid_112 (lv_at hl 2 rfl) ?_
      have hfin : ((f_X4_strengthFor T 1 p0 p1), (tu (tu z6 1 (upd (z6 1) 66 1)) 1 (upd (upd (z6 1) 66 1) 67 (((upd (z6 1) 66 1) 67) + 1)))) = (f_X4_laid_1 T p0 p1 p2) := Eq.trans (Eq.symm (Eq.trans (e_X4_laid_1_k6 z6 z1 z2 z5 T p0 p1 p2) ((if_pos c3)))) hres6
      exact endM hx hb hr hlocks rfl hP hD hS ⟨@congrArg (Int32 × MS) Int32 ((f_X4_strengthFor T 1 p0 p1), (tu (tu z6 1 (upd (z6 1) 66 1)) 1 (upd (upd (z6 1) 66 1) 67 (((upd (z6 1) 66 1) 67) + 1)))) (f_X4_laid_1 T p0 p1 p2) Prod.fst hfin, @congrArg (Int32 × MS) va_W ((f_X4_strengthFor T 1 p0 p1), (tu (tu z6 1 (upd (z6 1) 66 1)) 1 (upd (upd (z6 1) 66 1) 67 (((upd (z6 1) 66 1) 67) + 1)))) (f_X4_laid_1 T p0 p1 p2) (fun z => wM G B z.2) hfin⟩ dX4_laid_114
noncomputable def f_X4_laid_2_k4 (z4 : MS) (z1 : MS) (z2 : MS) (z3 : MS) (T : MS) (p0 p1 p2 : Int32) : Int32 × MS := opq (if (((z4 2) 68) - ((z4 2) 68) / 7 * 7) = 0 then ((f_X4_strengthFor T 2 p0 p1), (tu (tu z4 2 (upd (z4 2) 66 1)) 2 (upd (upd (z4 2) 66 1) 67 (((upd (z4 2) 66 1) 67) + 1)))) else ((f_X4_strengthFor T 2 p0 p1), z4))
theorem e_X4_laid_2_k4 (z4 : MS) (z1 : MS) (z2 : MS) (z3 : MS) (T : MS) (p0 p1 p2 : Int32) : f_X4_laid_2_k4 z4 z1 z2 z3 T p0 p1 p2 = (if (((z4 2) 68) - ((z4 2) 68) / 7 * 7) = 0 then ((f_X4_strengthFor T 2 p0 p1), (tu (tu z4 2 (upd (z4 2) 66 1)) 2 (upd (upd (z4 2) 66 1) 67 (((upd (z4 2) 66 1) 67) + 1)))) else ((f_X4_strengthFor T 2 p0 p1), z4)) := opq_eq _
noncomputable def f_X4_laid_2_k3 (z3 : MS) (z1 : MS) (z2 : MS) (T : MS) (p0 p1 p2 : Int32) : Int32 × MS := opq (f_X4_laid_2_k4 (tu z3 2 (upd (z3 2) 68 (((z3 2) 68) + 1))) z1 z2 z3 T p0 p1 p2)
theorem e_X4_laid_2_k3 (z3 : MS) (z1 : MS) (z2 : MS) (T : MS) (p0 p1 p2 : Int32) : f_X4_laid_2_k3 z3 z1 z2 T p0 p1 p2 = (f_X4_laid_2_k4 (tu z3 2 (upd (z3 2) 68 (((z3 2) 68) + 1))) z1 z2 z3 T p0 p1 p2) := opq_eq _
noncomputable def f_X4_laid_2_k6 (z6 : MS) (z1 : MS) (z2 : MS) (z5 : MS) (T : MS) (p0 p1 p2 : Int32) : Int32 × MS := opq (if (((z6 2) 68) - ((z6 2) 68) / 7 * 7) = 0 then ((f_X4_strengthFor T 2 p0 p1), (tu (tu z6 2 (upd (z6 2) 66 1)) 2 (upd (upd (z6 2) 66 1) 67 (((upd (z6 2) 66 1) 67) + 1)))) else ((f_X4_strengthFor T 2 p0 p1), z6))
theorem e_X4_laid_2_k6 (z6 : MS) (z1 : MS) (z2 : MS) (z5 : MS) (T : MS) (p0 p1 p2 : Int32) : f_X4_laid_2_k6 z6 z1 z2 z5 T p0 p1 p2 = (if (((z6 2) 68) - ((z6 2) 68) / 7 * 7) = 0 then ((f_X4_strengthFor T 2 p0 p1), (tu (tu z6 2 (upd (z6 2) 66 1)) 2 (upd (upd (z6 2) 66 1) 67 (((upd (z6 2) 66 1) 67) + 1)))) else ((f_X4_strengthFor T 2 p0 p1), z6)) := opq_eq _
noncomputable def f_X4_laid_2_k5 (z5 : MS) (z1 : MS) (z2 : MS) (T : MS) (p0 p1 p2 : Int32) : Int32 × MS := opq (f_X4_laid_2_k6 (tu z5 2 (upd (z5 2) 68 (((z5 2) 68) + 1))) z1 z2 z5 T p0 p1 p2)
theorem e_X4_laid_2_k5 (z5 : MS) (z1 : MS) (z2 : MS) (T : MS) (p0 p1 p2 : Int32) : f_X4_laid_2_k5 z5 z1 z2 T p0 p1 p2 = (f_X4_laid_2_k6 (tu z5 2 (upd (z5 2) 68 (((z5 2) 68) + 1))) z1 z2 z5 T p0 p1 p2) := opq_eq _
noncomputable def f_X4_laid_2_k2 (z2 : MS) (z1 : MS) (T : MS) (p0 p1 p2 : Int32) : Int32 × MS := opq (if ((((z2 2) 65) + 2) + (p2 / 50)) ≤ 999 then (f_X4_laid_2_k3 (tu z2 2 (upd (z2 2) 65 ((((z2 2) 65) + 2) + (p2 / 50)))) z1 z2 T p0 p1 p2) else (f_X4_laid_2_k5 (tu z2 2 (upd (z2 2) 65 999)) z1 z2 T p0 p1 p2))
theorem e_X4_laid_2_k2 (z2 : MS) (z1 : MS) (T : MS) (p0 p1 p2 : Int32) : f_X4_laid_2_k2 z2 z1 T p0 p1 p2 = (if ((((z2 2) 65) + 2) + (p2 / 50)) ≤ 999 then (f_X4_laid_2_k3 (tu z2 2 (upd (z2 2) 65 ((((z2 2) 65) + 2) + (p2 / 50)))) z1 z2 T p0 p1 p2) else (f_X4_laid_2_k5 (tu z2 2 (upd (z2 2) 65 999)) z1 z2 T p0 p1 p2)) := opq_eq _
noncomputable def f_X4_laid_2_k1 (z1 : MS) (T : MS) (p0 p1 p2 : Int32) : Int32 × MS := opq (f_X4_laid_2_k2 (tu (tu z1 2 (upd (z1 2) ((16 + (4 * p0)) + 2).toNatClampNeg (f_X4_strengthFor T 2 p0 p1))) 2 (upd (upd (z1 2) ((16 + (4 * p0)) + 2).toNatClampNeg (f_X4_strengthFor T 2 p0 p1)) ((16 + (4 * p0)) + 3).toNatClampNeg ((upd (z1 2) ((16 + (4 * p0)) + 2).toNatClampNeg (f_X4_strengthFor T 2 p0 p1)) 68))) z1 T p0 p1 p2)
theorem e_X4_laid_2_k1 (z1 : MS) (T : MS) (p0 p1 p2 : Int32) : f_X4_laid_2_k1 z1 T p0 p1 p2 = (f_X4_laid_2_k2 (tu (tu z1 2 (upd (z1 2) ((16 + (4 * p0)) + 2).toNatClampNeg (f_X4_strengthFor T 2 p0 p1))) 2 (upd (upd (z1 2) ((16 + (4 * p0)) + 2).toNatClampNeg (f_X4_strengthFor T 2 p0 p1)) ((16 + (4 * p0)) + 3).toNatClampNeg ((upd (z1 2) ((16 + (4 * p0)) + 2).toNatClampNeg (f_X4_strengthFor T 2 p0 p1)) 68))) z1 T p0 p1 p2) := opq_eq _
noncomputable def f_X4_laid_2 (T : MS) (p0 p1 p2 : Int32) : Int32 × MS := opq (f_X4_laid_2_k1 (tu (tu T 2 (upd (T 2) ((16 + (4 * p0)) + 0).toNatClampNeg p1)) 2 (upd (upd (T 2) ((16 + (4 * p0)) + 0).toNatClampNeg p1) ((16 + (4 * p0)) + 1).toNatClampNeg p2)) T p0 p1 p2)
theorem e_X4_laid_2 (T : MS) (p0 p1 p2 : Int32) : f_X4_laid_2 T p0 p1 p2 = (f_X4_laid_2_k1 (tu (tu T 2 (upd (T 2) ((16 + (4 * p0)) + 0).toNatClampNeg p1)) 2 (upd (upd (T 2) ((16 + (4 * p0)) + 0).toNatClampNeg p1) ((16 + (4 * p0)) + 1).toNatClampNeg p2)) T p0 p1 p2) := opq_eq _
set_option maxHeartbeats 4000000 in
set_option maxRecDepth 100000 in
theorem c_X4_laid_2 (l : Launch) (G : GG) (B : Nat → Nat) (T : MS) (p0 p1 p2 : Int32) (hp : vp_in p0 12) (hld : vp_in p1 16) : Mm l yX4_laid wsX4_laid ({ frames := 2, cells := 0, slots := 0, locals := 45 } : Room) G [.ref (B 2), .int p0, .int p1, .int p2] (wM G B T) (f_X4_laid_2 T p0 p1 p2).1 (wM G B (f_X4_laid_2 T p0 p1 p2).2) := by
  refine Mm.of (cc := cX4_laid) (maxL := 7) (ret := (some .int)) (by decide) rfl (Nat.le_of_ble_eq_true rfl) ?_
  intro p e s m args below meth c A0 hA0 E hr hlocks hP hK hD hA hS ls hl
  have E : CallFix p m c cX4_laid 7 s args wsX4_laid RX4 := E
  have hx := E.1
  have hb := E.2.1
  have hml := E.2.2.1
  have hown := E.2.2.2.1
  have hts := E.2.2.2.2
  have hl : lv_has ls 7 [(0, .ref (B 2)), (1, .int p0), (2, .int p1), (3, .int p2)] := hl
  refine lv_aload_n hx hb dX4_laid_0 rfl (lv_at hl 0 rfl) ?_
  refine lv_iload_n hx hb dX4_laid_1 rfl (lv_at hl 1 rfl) ?_
  refine lv_iload_n hx hb dX4_laid_2 rfl (lv_at hl 2 rfl) ?_
  refine cpS (rest := []) (As := [.ref (B 2), .int p0, .int p1]) E (c_X4_strengthFor l G B T 2 p0 p1 (by decide) (by decide) hld) (va_cwS 3 hts gX4_laid_X4_strengthFor rfl rfl rfl (by decide +kernel) ⟨Nat.le_of_ble_eq_true rfl, Nat.le_of_ble_eq_true rfl⟩) hK hP rfl hl.1 rfl (Nat.le_of_ble_eq_true rfl) dX4_laid_3 ⟨Nat.zero_le _, Nat.zero_le _⟩ ?_
  refine lv_istore (lv' := [(4, .int (f_X4_strengthFor T 2 p0 p1)), (0, .ref (B 2)), (1, .int p0), (2, .int p1), (3, .int p2)]) hx hb dX4_laid_6 hl (by decide) rfl (fun ls hl => ?_)
  refine lv_bipush (v := 16) hx hb dX4_laid_8 (by decide) ?_
  refine lv_iconst (v := 4) hx hb dX4_laid_10 (by decide) ?_
  refine lv_iload_n hx hb dX4_laid_11 rfl (lv_at hl 2 rfl) ?_
  refine lv_imul hx hb dX4_laid_12 ?_
  refine lv_iadd hx hb dX4_laid_13 ?_
  refine lv_istore (lv' := [(5, .int (16 + (4 * p0))), (4, .int (f_X4_strengthFor T 2 p0 p1)), (0, .ref (B 2)), (1, .int p0), (2, .int p1), (3, .int p2)]) hx hb dX4_laid_14 hl (by decide) rfl (fun ls hl => ?_)
  refine lv_aload_n hx hb dX4_laid_16 rfl (lv_at hl 2 rfl) ?_
  refine lv_iload hx hb dX4_laid_17 (lv_at hl 0 rfl) ?_
  refine lv_iconst (v := 0) hx hb dX4_laid_19 (by decide) ?_
  refine lv_iadd hx hb dX4_laid_20 ?_
  refine lv_iload_n hx hb dX4_laid_21 rfl (lv_at hl 4 rfl) ?_
  refine va_iast (D := G.1) hx hb hK.1 hP hD hS 2 0 (wM_j G B T 2 (by decide) (by decide)) rfl (of_in 2 hp w0) dX4_laid_22 (fun H locs hP hD hS => ?_)
  rw [wM_sj G B T 2 (by decide) (by decide) _] at hP hD
  have hP : va_P G.1 vwCl (wM G B (tu T 2 (upd (T 2) ((16 + (4 * p0)) + 0).toNatClampNeg p1))) H := hP
  have hD : va_D A0 (wM G B (tu T 2 (upd (T 2) ((16 + (4 * p0)) + 0).toNatClampNeg p1))) := hD
  refine lv_aload_n hx hb dX4_laid_23 rfl (lv_at hl 2 rfl) ?_
  refine lv_iload hx hb dX4_laid_24 (lv_at hl 0 rfl) ?_
  refine lv_iconst (v := 1) hx hb dX4_laid_26 (by decide) ?_
  refine lv_iadd hx hb dX4_laid_27 ?_
  refine lv_iload_n hx hb dX4_laid_28 rfl (lv_at hl 5 rfl) ?_
  refine va_iast (D := G.1) hx hb hK.1 hP hD hS 2 0 (wM_j G B (tu T 2 (upd (T 2) ((16 + (4 * p0)) + 0).toNatClampNeg p1)) 2 (by decide) (by decide)) rfl (of_in 2 hp w1) dX4_laid_29 (fun H locs hP hD hS => ?_)
  rw [wM_sj G B (tu T 2 (upd (T 2) ((16 + (4 * p0)) + 0).toNatClampNeg p1)) 2 (by decide) (by decide) _] at hP hD
  have hP : va_P G.1 vwCl (wM G B (tu (tu T 2 (upd (T 2) ((16 + (4 * p0)) + 0).toNatClampNeg p1)) 2 (upd (upd (T 2) ((16 + (4 * p0)) + 0).toNatClampNeg p1) ((16 + (4 * p0)) + 1).toNatClampNeg p2))) H := hP
  have hD : va_D A0 (wM G B (tu (tu T 2 (upd (T 2) ((16 + (4 * p0)) + 0).toNatClampNeg p1)) 2 (upd (upd (T 2) ((16 + (4 * p0)) + 0).toNatClampNeg p1) ((16 + (4 * p0)) + 1).toNatClampNeg p2))) := hD
  have hres1 : f_X4_laid_2_k1 (tu (tu T 2 (upd (T 2) ((16 + (4 * p0)) + 0).toNatClampNeg p1)) 2 (upd (upd (T 2) ((16 + (4 * p0)) + 0).toNatClampNeg p1) ((16 + (4 * p0)) + 1).toNatClampNeg p2)) T p0 p1 p2 = (f_X4_laid_2 T p0 p1 p2) := Eq.symm ((e_X4_laid_2 T p0 p1 p2))
  generalize hz1 : (tu (tu T 2 (upd (T 2) ((16 + (4 * p0)) + 0).toNatClampNeg p1)) 2 (upd (upd (T 2) ((16 + (4 * p0)) + 0).toNatClampNeg p1) ((16 + (4 * p0)) + 1).toNatClampNeg p2)) = z1 at hres1 hP hD ⊢
  refine lv_aload_n hx hb dX4_laid_30 rfl (lv_at hl 2 rfl) ?_
  refine lv_iload hx hb dX4_laid_31 (lv_at hl 0 rfl) ?_
  refine lv_iconst (v := 2) hx hb dX4_laid_33 (by decide) ?_
  refine lv_iadd hx hb dX4_laid_34 ?_
  refine lv_iload hx hb dX4_laid_35 (lv_at hl 1 rfl) ?_
  refine va_iast (D := G.1) hx hb hK.1 hP hD hS 2 0 (wM_j G B z1 2 (by decide) (by decide)) rfl (of_in 2 hp w2) dX4_laid_37 (fun H locs hP hD hS => ?_)
  rw [wM_sj G B z1 2 (by decide) (by decide) _] at hP hD
  have hP : va_P G.1 vwCl (wM G B (tu z1 2 (upd (z1 2) ((16 + (4 * p0)) + 2).toNatClampNeg (f_X4_strengthFor T 2 p0 p1)))) H := hP
  have hD : va_D A0 (wM G B (tu z1 2 (upd (z1 2) ((16 + (4 * p0)) + 2).toNatClampNeg (f_X4_strengthFor T 2 p0 p1)))) := hD
  refine lv_aload_n hx hb dX4_laid_38 rfl (lv_at hl 2 rfl) ?_
  refine lv_iload hx hb dX4_laid_39 (lv_at hl 0 rfl) ?_
  refine lv_iconst (v := 3) hx hb dX4_laid_41 (by decide) ?_
  refine lv_iadd hx hb dX4_laid_42 ?_
  refine lv_aload_n hx hb dX4_laid_43 rfl (lv_at hl 2 rfl) ?_
  refine lv_bipush (v := 68) hx hb dX4_laid_44 (by decide) ?_
  refine va_iald (D := G.1) hx hb hK.1 hP 2 0 (wM_j G B (tu z1 2 (upd (z1 2) ((16 + (4 * p0)) + 2).toNatClampNeg (f_X4_strengthFor T 2 p0 p1))) 2 (by decide) (by decide)) rfl (cin 68 2 (by decide)) dX4_laid_46 ?_
  refine W.eq (g2 := F0 m 47 ls [.int ((upd (z1 2) ((16 + (4 * p0)) + 2).toNatClampNeg (f_X4_strengthFor T 2 p0 p1)) 68), .int ((16 + (4 * p0)) + 3), .ref (B 2)]) (by rw [show (68 : Int32).toNatClampNeg = 68 from by decide] <;> rfl) ?_
  refine va_iast (D := G.1) hx hb hK.1 hP hD hS 2 0 (wM_j G B (tu z1 2 (upd (z1 2) ((16 + (4 * p0)) + 2).toNatClampNeg (f_X4_strengthFor T 2 p0 p1))) 2 (by decide) (by decide)) rfl (of_in 2 hp w3) dX4_laid_47 (fun H locs hP hD hS => ?_)
  rw [wM_sj G B (tu z1 2 (upd (z1 2) ((16 + (4 * p0)) + 2).toNatClampNeg (f_X4_strengthFor T 2 p0 p1))) 2 (by decide) (by decide) _] at hP hD
  have hP : va_P G.1 vwCl (wM G B (tu (tu z1 2 (upd (z1 2) ((16 + (4 * p0)) + 2).toNatClampNeg (f_X4_strengthFor T 2 p0 p1))) 2 (upd (upd (z1 2) ((16 + (4 * p0)) + 2).toNatClampNeg (f_X4_strengthFor T 2 p0 p1)) ((16 + (4 * p0)) + 3).toNatClampNeg ((upd (z1 2) ((16 + (4 * p0)) + 2).toNatClampNeg (f_X4_strengthFor T 2 p0 p1)) 68)))) H := hP
  have hD : va_D A0 (wM G B (tu (tu z1 2 (upd (z1 2) ((16 + (4 * p0)) + 2).toNatClampNeg (f_X4_strengthFor T 2 p0 p1))) 2 (upd (upd (z1 2) ((16 + (4 * p0)) + 2).toNatClampNeg (f_X4_strengthFor T 2 p0 p1)) ((16 + (4 * p0)) + 3).toNatClampNeg ((upd (z1 2) ((16 + (4 * p0)) + 2).toNatClampNeg (f_X4_strengthFor T 2 p0 p1)) 68)))) := hD
  have hres2 : f_X4_laid_2_k2 (tu (tu z1 2 (upd (z1 2) ((16 + (4 * p0)) + 2).toNatClampNeg (f_X4_strengthFor T 2 p0 p1))) 2 (upd (upd (z1 2) ((16 + (4 * p0)) + 2).toNatClampNeg (f_X4_strengthFor T 2 p0 p1)) ((16 + (4 * p0)) + 3).toNatClampNeg ((upd (z1 2) ((16 + (4 * p0)) + 2).toNatClampNeg (f_X4_strengthFor T 2 p0 p1)) 68))) z1 T p0 p1 p2 = (f_X4_laid_2 T p0 p1 p2) := Eq.trans (Eq.symm ((e_X4_laid_2_k1 z1 T p0 p1 p2))) hres1
  generalize hz2 : (tu (tu z1 2 (upd (z1 2) ((16 + (4 * p0)) + 2).toNatClampNeg (f_X4_strengthFor T 2 p0 p1))) 2 (upd (upd (z1 2) ((16 + (4 * p0)) + 2).toNatClampNeg (f_X4_strengthFor T 2 p0 p1)) ((16 + (4 * p0)) + 3).toNatClampNeg ((upd (z1 2) ((16 + (4 * p0)) + 2).toNatClampNeg (f_X4_strengthFor T 2 p0 p1)) 68))) = z2 at hres2 hP hD ⊢
  refine lv_aload_n hx hb dX4_laid_48 rfl (lv_at hl 2 rfl) ?_
  refine lv_bipush (v := 65) hx hb dX4_laid_49 (by decide) ?_
  refine va_iald (D := G.1) hx hb hK.1 hP 2 0 (wM_j G B z2 2 (by decide) (by decide)) rfl (cin 65 2 (by decide)) dX4_laid_51 ?_
  refine W.eq (g2 := F0 m 52 ls [.int ((z2 2) 65)]) (by rw [show (65 : Int32).toNatClampNeg = 65 from by decide] <;> rfl) ?_
  refine lv_iconst (v := 2) hx hb dX4_laid_52 (by decide) ?_
  refine lv_iadd hx hb dX4_laid_53 ?_
  refine lv_iload_n hx hb dX4_laid_54 rfl (lv_at hl 5 rfl) ?_
  refine lv_bipush (v := 50) hx hb dX4_laid_55 (by decide) ?_
  refine lv_idiv hx hb dX4_laid_57 (by decide) ?_
  refine lv_iadd hx hb dX4_laid_58 ?_
  refine lv_istore (lv' := [(6, .int ((((z2 2) 65) + 2) + (p2 / 50))), (5, .int (16 + (4 * p0))), (4, .int (f_X4_strengthFor T 2 p0 p1)), (0, .ref (B 2)), (1, .int p0), (2, .int p1), (3, .int p2)]) hx hb dX4_laid_59 hl (by decide) rfl (fun ls hl => ?_)
  refine lv_aload_n hx hb dX4_laid_61 rfl (lv_at hl 3 rfl) ?_
  refine lv_bipush (v := 65) hx hb dX4_laid_62 (by decide) ?_
  refine lv_iload hx hb dX4_laid_64 (lv_at hl 0 rfl) ?_
  refine lv_sipush (v := 999) hx hb dX4_laid_66 (by decide) ?_
  refine lv_icmp_le (tgt := 78) hx hb dX4_laid_69 (by decide) (fun c1 => ?_) (fun c1 => ?_)
  · skip
    refine lv_iload hx hb dX4_laid_78 (lv_at hl 0 rfl) ?_
    refine va_iast (D := G.1) hx hb hK.1 hP hD hS 2 0 (wM_j G B z2 2 (by decide) (by decide)) rfl (cin 65 2 (by decide)) dX4_laid_80 (fun H locs hP hD hS => ?_)
    rw [wM_sj G B z2 2 (by decide) (by decide) _] at hP hD
    rw [show (65 : Int32).toNatClampNeg = 65 from by decide] at hP hD
    have hP : va_P G.1 vwCl (wM G B (tu z2 2 (upd (z2 2) 65 ((((z2 2) 65) + 2) + (p2 / 50))))) H := hP
    have hD : va_D A0 (wM G B (tu z2 2 (upd (z2 2) 65 ((((z2 2) 65) + 2) + (p2 / 50))))) := hD
    have hres3 : f_X4_laid_2_k3 (tu z2 2 (upd (z2 2) 65 ((((z2 2) 65) + 2) + (p2 / 50)))) z1 z2 T p0 p1 p2 = (f_X4_laid_2 T p0 p1 p2) := Eq.trans (Eq.symm (Eq.trans (e_X4_laid_2_k2 z2 z1 T p0 p1 p2) ((if_pos c1)))) hres2
    generalize hz3 : (tu z2 2 (upd (z2 2) 65 ((((z2 2) 65) + 2) + (p2 / 50)))) = z3 at hres3 hP hD ⊢
    refine lv_aload_n hx hb dX4_laid_81 rfl (lv_at hl 3 rfl) ?_
    refine lv_bipush (v := 68) hx hb dX4_laid_82 (by decide) ?_
    refine lv_dup2_11 hx hb dX4_laid_84 rfl rfl ?_
    refine va_iald (D := G.1) hx hb hK.1 hP 2 0 (wM_j G B z3 2 (by decide) (by decide)) rfl (cin 68 2 (by decide)) dX4_laid_85 ?_
    refine W.eq (g2 := F0 m 86 ls [.int ((z3 2) 68), .int 68, .ref (B 2)]) (by rw [show (68 : Int32).toNatClampNeg = 68 from by decide] <;> rfl) ?_
    refine lv_iconst (v := 1) hx hb dX4_laid_86 (by decide) ?_
    refine lv_iadd hx hb dX4_laid_87 ?_
    refine va_iast (D := G.1) hx hb hK.1 hP hD hS 2 0 (wM_j G B z3 2 (by decide) (by decide)) rfl (cin 68 2 (by decide)) dX4_laid_88 (fun H locs hP hD hS => ?_)
    rw [wM_sj G B z3 2 (by decide) (by decide) _] at hP hD
    rw [show (68 : Int32).toNatClampNeg = 68 from by decide] at hP hD
    have hP : va_P G.1 vwCl (wM G B (tu z3 2 (upd (z3 2) 68 (((z3 2) 68) + 1)))) H := hP
    have hD : va_D A0 (wM G B (tu z3 2 (upd (z3 2) 68 (((z3 2) 68) + 1)))) := hD
    have hres4 : f_X4_laid_2_k4 (tu z3 2 (upd (z3 2) 68 (((z3 2) 68) + 1))) z1 z2 z3 T p0 p1 p2 = (f_X4_laid_2 T p0 p1 p2) := Eq.trans (Eq.symm ((e_X4_laid_2_k3 z3 z1 z2 T p0 p1 p2))) hres3
    generalize hz4 : (tu z3 2 (upd (z3 2) 68 (((z3 2) 68) + 1))) = z4 at hres4 hP hD ⊢
    refine lv_aload_n hx hb dX4_laid_89 rfl (lv_at hl 3 rfl) ?_
    refine lv_bipush (v := 68) hx hb dX4_laid_90 (by decide) ?_
    refine va_iald (D := G.1) hx hb hK.1 hP 2 0 (wM_j G B z4 2 (by decide) (by decide)) rfl (cin 68 2 (by decide)) dX4_laid_92 ?_
    refine W.eq (g2 := F0 m 93 ls [.int ((z4 2) 68)]) (by rw [show (68 : Int32).toNatClampNeg = 68 from by decide] <;> rfl) ?_
    refine lv_bipush (v := 7) hx hb dX4_laid_93 (by decide) ?_
    refine lv_irem hx hb dX4_laid_95 (by decide) ?_
    refine lv_if_ne (tgt := 112) hx hb dX4_laid_96 (by decide) (fun c2 => ?_) (fun c2 => ?_)
    · skip
      refine lv_iload hx hb dX4_laid_112 (lv_at hl 2 rfl) ?_
      have hfin : ((f_X4_strengthFor T 2 p0 p1), z4) = (f_X4_laid_2 T p0 p1 p2) := Eq.trans (Eq.symm (Eq.trans (e_X4_laid_2_k4 z4 z1 z2 z3 T p0 p1 p2) ((if_neg c2)))) hres4
      exact endM hx hb hr hlocks rfl hP hD hS ⟨@congrArg (Int32 × MS) Int32 ((f_X4_strengthFor T 2 p0 p1), z4) (f_X4_laid_2 T p0 p1 p2) Prod.fst hfin, @congrArg (Int32 × MS) va_W ((f_X4_strengthFor T 2 p0 p1), z4) (f_X4_laid_2 T p0 p1 p2) (fun z => wM G B z.2) hfin⟩ dX4_laid_114
    · skip
      refine lv_aload_n hx hb dX4_laid_99 rfl (lv_at hl 3 rfl) ?_
      refine lv_bipush (v := 66) hx hb dX4_laid_100 (by decide) ?_
      refine lv_iconst (v := 1) hx hb dX4_laid_102 (by decide) ?_
      refine va_iast (D := G.1) hx hb hK.1 hP hD hS 2 0 (wM_j G B z4 2 (by decide) (by decide)) rfl (cin 66 2 (by decide)) dX4_laid_103 (fun H locs hP hD hS => ?_)
      rw [wM_sj G B z4 2 (by decide) (by decide) _] at hP hD
      rw [show (66 : Int32).toNatClampNeg = 66 from by decide] at hP hD
      have hP : va_P G.1 vwCl (wM G B (tu z4 2 (upd (z4 2) 66 1))) H := hP
      have hD : va_D A0 (wM G B (tu z4 2 (upd (z4 2) 66 1))) := hD
      refine lv_aload_n hx hb dX4_laid_104 rfl (lv_at hl 3 rfl) ?_
      refine lv_bipush (v := 67) hx hb dX4_laid_105 (by decide) ?_
      refine lv_dup2_11 hx hb dX4_laid_107 rfl rfl ?_
      refine va_iald (D := G.1) hx hb hK.1 hP 2 0 (wM_j G B (tu z4 2 (upd (z4 2) 66 1)) 2 (by decide) (by decide)) rfl (cin 67 2 (by decide)) dX4_laid_108 ?_
      refine W.eq (g2 := F0 m 109 ls [.int ((upd (z4 2) 66 1) 67), .int 67, .ref (B 2)]) (by rw [show (67 : Int32).toNatClampNeg = 67 from by decide] <;> rfl) ?_
      refine lv_iconst (v := 1) hx hb dX4_laid_109 (by decide) ?_
      refine lv_iadd hx hb dX4_laid_110 ?_
      refine va_iast (D := G.1) hx hb hK.1 hP hD hS 2 0 (wM_j G B (tu z4 2 (upd (z4 2) 66 1)) 2 (by decide) (by decide)) rfl (cin 67 2 (by decide)) dX4_laid_111 (fun H locs hP hD hS => ?_)
      rw [wM_sj G B (tu z4 2 (upd (z4 2) 66 1)) 2 (by decide) (by decide) _] at hP hD
      rw [show (67 : Int32).toNatClampNeg = 67 from by decide] at hP hD
      have hP : va_P G.1 vwCl (wM G B (tu (tu z4 2 (upd (z4 2) 66 1)) 2 (upd (upd (z4 2) 66 1) 67 (((upd (z4 2) 66 1) 67) + 1)))) H := hP
      have hD : va_D A0 (wM G B (tu (tu z4 2 (upd (z4 2) 66 1)) 2 (upd (upd (z4 2) 66 1) 67 (((upd (z4 2) 66 1) 67) + 1)))) := hD
      refine lv_iload hx hb dX4_laid_112 (lv_at hl 2 rfl) ?_
      have hfin : ((f_X4_strengthFor T 2 p0 p1), (tu (tu z4 2 (upd (z4 2) 66 1)) 2 (upd (upd (z4 2) 66 1) 67 (((upd (z4 2) 66 1) 67) + 1)))) = (f_X4_laid_2 T p0 p1 p2) := Eq.trans (Eq.symm (Eq.trans (e_X4_laid_2_k4 z4 z1 z2 z3 T p0 p1 p2) ((if_pos c2)))) hres4
      exact endM hx hb hr hlocks rfl hP hD hS ⟨@congrArg (Int32 × MS) Int32 ((f_X4_strengthFor T 2 p0 p1), (tu (tu z4 2 (upd (z4 2) 66 1)) 2 (upd (upd (z4 2) 66 1) 67 (((upd (z4 2) 66 1) 67) + 1)))) (f_X4_laid_2 T p0 p1 p2) Prod.fst hfin, @congrArg (Int32 × MS) va_W ((f_X4_strengthFor T 2 p0 p1), (tu (tu z4 2 (upd (z4 2) 66 1)) 2 (upd (upd (z4 2) 66 1) 67 (((upd (z4 2) 66 1) 67) + 1)))) (f_X4_laid_2 T p0 p1 p2) (fun z => wM G B z.2) hfin⟩ dX4_laid_114
  · skip
    refine lv_sipush (v := 999) hx hb dX4_laid_72 (by decide) ?_
    refine lv_goto (tgt := 80) hx hb dX4_laid_75 (by decide) ?_
    refine va_iast (D := G.1) hx hb hK.1 hP hD hS 2 0 (wM_j G B z2 2 (by decide) (by decide)) rfl (cin 65 2 (by decide)) dX4_laid_80 (fun H locs hP hD hS => ?_)
    rw [wM_sj G B z2 2 (by decide) (by decide) _] at hP hD
    rw [show (65 : Int32).toNatClampNeg = 65 from by decide] at hP hD
    have hP : va_P G.1 vwCl (wM G B (tu z2 2 (upd (z2 2) 65 999))) H := hP
    have hD : va_D A0 (wM G B (tu z2 2 (upd (z2 2) 65 999))) := hD
    have hres5 : f_X4_laid_2_k5 (tu z2 2 (upd (z2 2) 65 999)) z1 z2 T p0 p1 p2 = (f_X4_laid_2 T p0 p1 p2) := Eq.trans (Eq.symm (Eq.trans (e_X4_laid_2_k2 z2 z1 T p0 p1 p2) ((if_neg c1)))) hres2
    generalize hz5 : (tu z2 2 (upd (z2 2) 65 999)) = z5 at hres5 hP hD ⊢
    refine lv_aload_n hx hb dX4_laid_81 rfl (lv_at hl 3 rfl) ?_
    refine lv_bipush (v := 68) hx hb dX4_laid_82 (by decide) ?_
    refine lv_dup2_11 hx hb dX4_laid_84 rfl rfl ?_
    refine va_iald (D := G.1) hx hb hK.1 hP 2 0 (wM_j G B z5 2 (by decide) (by decide)) rfl (cin 68 2 (by decide)) dX4_laid_85 ?_
    refine W.eq (g2 := F0 m 86 ls [.int ((z5 2) 68), .int 68, .ref (B 2)]) (by rw [show (68 : Int32).toNatClampNeg = 68 from by decide] <;> rfl) ?_
    refine lv_iconst (v := 1) hx hb dX4_laid_86 (by decide) ?_
    refine lv_iadd hx hb dX4_laid_87 ?_
    refine va_iast (D := G.1) hx hb hK.1 hP hD hS 2 0 (wM_j G B z5 2 (by decide) (by decide)) rfl (cin 68 2 (by decide)) dX4_laid_88 (fun H locs hP hD hS => ?_)
    rw [wM_sj G B z5 2 (by decide) (by decide) _] at hP hD
    rw [show (68 : Int32).toNatClampNeg = 68 from by decide] at hP hD
    have hP : va_P G.1 vwCl (wM G B (tu z5 2 (upd (z5 2) 68 (((z5 2) 68) + 1)))) H := hP
    have hD : va_D A0 (wM G B (tu z5 2 (upd (z5 2) 68 (((z5 2) 68) + 1)))) := hD
    have hres6 : f_X4_laid_2_k6 (tu z5 2 (upd (z5 2) 68 (((z5 2) 68) + 1))) z1 z2 z5 T p0 p1 p2 = (f_X4_laid_2 T p0 p1 p2) := Eq.trans (Eq.symm ((e_X4_laid_2_k5 z5 z1 z2 T p0 p1 p2))) hres5
    generalize hz6 : (tu z5 2 (upd (z5 2) 68 (((z5 2) 68) + 1))) = z6 at hres6 hP hD ⊢
    refine lv_aload_n hx hb dX4_laid_89 rfl (lv_at hl 3 rfl) ?_
    refine lv_bipush (v := 68) hx hb dX4_laid_90 (by decide) ?_
    refine va_iald (D := G.1) hx hb hK.1 hP 2 0 (wM_j G B z6 2 (by decide) (by decide)) rfl (cin 68 2 (by decide)) dX4_laid_92 ?_
    refine W.eq (g2 := F0 m 93 ls [.int ((z6 2) 68)]) (by rw [show (68 : Int32).toNatClampNeg = 68 from by decide] <;> rfl) ?_
    refine lv_bipush (v := 7) hx hb dX4_laid_93 (by decide) ?_
    refine lv_irem hx hb dX4_laid_95 (by decide) ?_
    refine lv_if_ne (tgt := 112) hx hb dX4_laid_96 (by decide) (fun c3 => ?_) (fun c3 => ?_)
    · skip
      refine lv_iload hx hb dX4_laid_112 (lv_at hl 2 rfl) ?_
      have hfin : ((f_X4_strengthFor T 2 p0 p1), z6) = (f_X4_laid_2 T p0 p1 p2) := Eq.trans (Eq.symm (Eq.trans (e_X4_laid_2_k6 z6 z1 z2 z5 T p0 p1 p2) ((if_neg c3)))) hres6
      exact endM hx hb hr hlocks rfl hP hD hS ⟨@congrArg (Int32 × MS) Int32 ((f_X4_strengthFor T 2 p0 p1), z6) (f_X4_laid_2 T p0 p1 p2) Prod.fst hfin, @congrArg (Int32 × MS) va_W ((f_X4_strengthFor T 2 p0 p1), z6) (f_X4_laid_2 T p0 p1 p2) (fun z => wM G B z.2) hfin⟩ dX4_laid_114
    · skip
      refine lv_aload_n hx hb dX4_laid_99 rfl (lv_at hl 3 rfl) ?_
      refine lv_bipush (v := 66) hx hb dX4_laid_100 (by decide) ?_
      refine lv_iconst (v := 1) hx hb dX4_laid_102 (by decide) ?_
      refine va_iast (D := G.1) hx hb hK.1 hP hD hS 2 0 (wM_j G B z6 2 (by decide) (by decide)) rfl (cin 66 2 (by decide)) dX4_laid_103 (fun H locs hP hD hS => ?_)
      rw [wM_sj G B z6 2 (by decide) (by decide) _] at hP hD
      rw [show (66 : Int32).toNatClampNeg = 66 from by decide] at hP hD
      have hP : va_P G.1 vwCl (wM G B (tu z6 2 (upd (z6 2) 66 1))) H := hP
      have hD : va_D A0 (wM G B (tu z6 2 (upd (z6 2) 66 1))) := hD
      refine lv_aload_n hx hb dX4_laid_104 rfl (lv_at hl 3 rfl) ?_
      refine lv_bipush (v := 67) hx hb dX4_laid_105 (by decide) ?_
      refine lv_dup2_11 hx hb dX4_laid_107 rfl rfl ?_
      refine va_iald (D := G.1) hx hb hK.1 hP 2 0 (wM_j G B (tu z6 2 (upd (z6 2) 66 1)) 2 (by decide) (by decide)) rfl (cin 67 2 (by decide)) dX4_laid_108 ?_
      refine W.eq (g2 := F0 m 109 ls [.int ((upd (z6 2) 66 1) 67), .int 67, .ref (B 2)]) (by rw [show (67 : Int32).toNatClampNeg = 67 from by decide] <;> rfl) ?_
      refine lv_iconst (v := 1) hx hb dX4_laid_109 (by decide) ?_
      refine lv_iadd hx hb dX4_laid_110 ?_
      refine va_iast (D := G.1) hx hb hK.1 hP hD hS 2 0 (wM_j G B (tu z6 2 (upd (z6 2) 66 1)) 2 (by decide) (by decide)) rfl (cin 67 2 (by decide)) dX4_laid_111 (fun H locs hP hD hS => ?_)
      rw [wM_sj G B (tu z6 2 (upd (z6 2) 66 1)) 2 (by decide) (by decide) _] at hP hD
      rw [show (67 : Int32).toNatClampNeg = 67 from by decide] at hP hD
      have hP : va_P G.1 vwCl (wM G B (tu (tu z6 2 (upd (z6 2) 66 1)) 2 (upd (upd (z6 2) 66 1) 67 (((upd (z6 2) 66 1) 67) + 1)))) H := hP
      have hD : va_D A0 (wM G B (tu (tu z6 2 (upd (z6 2) 66 1)) 2 (upd (upd (z6 2) 66 1) 67 (((upd (z6 2) 66 1) 67) + 1)))) := hD
      refine lv_iload hx hb dX4_laid_112 (lv_at hl 2 rfl) ?_
      have hfin : ((f_X4_strengthFor T 2 p0 p1), (tu (tu z6 2 (upd (z6 2) 66 1)) 2 (upd (upd (z6 2) 66 1) 67 (((upd (z6 2) 66 1) 67) + 1)))) = (f_X4_laid_2 T p0 p1 p2) := Eq.trans (Eq.symm (Eq.trans (e_X4_laid_2_k6 z6 z1 z2 z5 T p0 p1 p2) ((if_pos c3)))) hres6
      exact endM hx hb hr hlocks rfl hP hD hS ⟨@congrArg (Int32 × MS) Int32 ((f_X4_strengthFor T 2 p0 p1), (tu (tu z6 2 (upd (z6 2) 66 1)) 2 (upd (upd (z6 2) 66 1) 67 (((upd (z6 2) 66 1) 67) + 1)))) (f_X4_laid_2 T p0 p1 p2) Prod.fst hfin, @congrArg (Int32 × MS) va_W ((f_X4_strengthFor T 2 p0 p1), (tu (tu z6 2 (upd (z6 2) 66 1)) 2 (upd (upd (z6 2) 66 1) 67 (((upd (z6 2) 66 1) 67) + 1)))) (f_X4_laid_2 T p0 p1 p2) (fun z => wM G B z.2) hfin⟩ dX4_laid_114
noncomputable def f_X4_goes (T : MS) (p0 : Int32) : MS := opq (tu (tu (tu (tu T 1 (upd (T 1) ((16 + (4 * p0)) + 0).toNatClampNeg (-5))) 1 (upd (upd (T 1) ((16 + (4 * p0)) + 0).toNatClampNeg (-5)) ((16 + (4 * p0)) + 1).toNatClampNeg 0)) 1 (upd (upd (upd (T 1) ((16 + (4 * p0)) + 0).toNatClampNeg (-5)) ((16 + (4 * p0)) + 1).toNatClampNeg 0) ((16 + (4 * p0)) + 2).toNatClampNeg 0)) 1 (upd (upd (upd (upd (T 1) ((16 + (4 * p0)) + 0).toNatClampNeg (-5)) ((16 + (4 * p0)) + 1).toNatClampNeg 0) ((16 + (4 * p0)) + 2).toNatClampNeg 0) ((16 + (4 * p0)) + 3).toNatClampNeg 0))
theorem e_X4_goes (T : MS) (p0 : Int32) : f_X4_goes T p0 = (tu (tu (tu (tu T 1 (upd (T 1) ((16 + (4 * p0)) + 0).toNatClampNeg (-5))) 1 (upd (upd (T 1) ((16 + (4 * p0)) + 0).toNatClampNeg (-5)) ((16 + (4 * p0)) + 1).toNatClampNeg 0)) 1 (upd (upd (upd (T 1) ((16 + (4 * p0)) + 0).toNatClampNeg (-5)) ((16 + (4 * p0)) + 1).toNatClampNeg 0) ((16 + (4 * p0)) + 2).toNatClampNeg 0)) 1 (upd (upd (upd (upd (T 1) ((16 + (4 * p0)) + 0).toNatClampNeg (-5)) ((16 + (4 * p0)) + 1).toNatClampNeg 0) ((16 + (4 * p0)) + 2).toNatClampNeg 0) ((16 + (4 * p0)) + 3).toNatClampNeg 0)) := opq_eq _
set_option maxHeartbeats 4000000 in
set_option maxRecDepth 100000 in
theorem c_X4_goes (l : Launch) (G : GG) (B : Nat → Nat) (T : MS) (p0 : Int32) (hp : vp_in p0 12) : Mz l yX4_goes wsX4_goes ({ frames := 0, cells := 0, slots := 0, locals := 0 } : Room) G [.ref (B 0), .int p0] (wM G B T) (wM G B (f_X4_goes T p0)) := by
  refine Mz.of (cc := cX4_goes) (maxL := 3) (ret := none) (by decide) rfl (Nat.le_of_ble_eq_true rfl) ?_
  intro p e s m args below meth c A0 hA0 E hr hlocks hP hK hD hA hS ls hl
  have E : CallFix p m c cX4_goes 3 s args wsX4_goes RX4 := E
  have hx := E.1
  have hb := E.2.1
  have hml := E.2.2.1
  have hown := E.2.2.2.1
  have hts := E.2.2.2.2
  have hl : lv_has ls 3 [(0, .ref (B 0)), (1, .int p0)] := hl
  have hinX4 : ∀ w ∈ u_ws RX4 TX4 11, w ∈ wsX4_goes := fun _ h => List.mem_cons_of_mem _ (List.mem_append_right _ h)
  refine lv_bipush (v := 16) hx hb dX4_goes_0 (by decide) ?_
  refine lv_iconst (v := 4) hx hb dX4_goes_2 (by decide) ?_
  refine lv_iload_n hx hb dX4_goes_3 rfl (lv_at hl 1 rfl) ?_
  refine lv_imul hx hb dX4_goes_4 ?_
  refine lv_iadd hx hb dX4_goes_5 ?_
  refine lv_istore_n (lv' := [(2, .int (16 + (4 * p0))), (0, .ref (B 0)), (1, .int p0)]) hx hb dX4_goes_6 rfl hl (by decide) rfl (fun ls hl => ?_)
  refine lv_aload_n hx hb dX4_goes_7 rfl (lv_at hl 1 rfl) ?_
  refine va_get (D := G.1) (ci := 4) (v := .ref (B 1)) (C := RX4) (T := TX4) (N := 11) hx hb hts hinX4 hown hK.1 hP 0 (wM_o G B T) rfl 0 (by decide) (hts (.fieldLink RX4 7 "WireLoopsModel" "now" "[I") (List.mem_of_getElem? (i := 1) rfl)) (fun _ h9 => h9) rfl dX4_goes_8 ?_
  refine lv_iload_n hx hb dX4_goes_11 rfl (lv_at hl 0 rfl) ?_
  refine lv_iconst (v := 0) hx hb dX4_goes_12 (by decide) ?_
  refine lv_iadd hx hb dX4_goes_13 ?_
  refine lv_bipush (v := (-5)) hx hb dX4_goes_14 (by decide) ?_
  refine va_iast (D := G.1) hx hb hK.1 hP hD hS 1 0 (wM_j G B T 1 (by decide) (by decide)) rfl (of_in 1 hp w0) dX4_goes_16 (fun H locs hP hD hS => ?_)
  rw [wM_sj G B T 1 (by decide) (by decide) _] at hP hD
  have hP : va_P G.1 vwCl (wM G B (tu T 1 (upd (T 1) ((16 + (4 * p0)) + 0).toNatClampNeg (-5)))) H := hP
  have hD : va_D A0 (wM G B (tu T 1 (upd (T 1) ((16 + (4 * p0)) + 0).toNatClampNeg (-5)))) := hD
  refine lv_aload_n hx hb dX4_goes_17 rfl (lv_at hl 1 rfl) ?_
  refine va_get (D := G.1) (ci := 4) (v := .ref (B 1)) (C := RX4) (T := TX4) (N := 11) hx hb hts hinX4 hown hK.1 hP 0 (wM_o G B (tu T 1 (upd (T 1) ((16 + (4 * p0)) + 0).toNatClampNeg (-5)))) rfl 0 (by decide) (hts (.fieldLink RX4 7 "WireLoopsModel" "now" "[I") (List.mem_of_getElem? (i := 1) rfl)) (fun _ h9 => h9) rfl dX4_goes_18 ?_
  refine lv_iload_n hx hb dX4_goes_21 rfl (lv_at hl 0 rfl) ?_
  refine lv_iconst (v := 1) hx hb dX4_goes_22 (by decide) ?_
  refine lv_iadd hx hb dX4_goes_23 ?_
  refine lv_iconst (v := 0) hx hb dX4_goes_24 (by decide) ?_
  refine va_iast (D := G.1) hx hb hK.1 hP hD hS 1 0 (wM_j G B (tu T 1 (upd (T 1) ((16 + (4 * p0)) + 0).toNatClampNeg (-5))) 1 (by decide) (by decide)) rfl (of_in 1 hp w1) dX4_goes_25 (fun H locs hP hD hS => ?_)
  rw [wM_sj G B (tu T 1 (upd (T 1) ((16 + (4 * p0)) + 0).toNatClampNeg (-5))) 1 (by decide) (by decide) _] at hP hD
  have hP : va_P G.1 vwCl (wM G B (tu (tu T 1 (upd (T 1) ((16 + (4 * p0)) + 0).toNatClampNeg (-5))) 1 (upd (upd (T 1) ((16 + (4 * p0)) + 0).toNatClampNeg (-5)) ((16 + (4 * p0)) + 1).toNatClampNeg 0))) H := hP
  have hD : va_D A0 (wM G B (tu (tu T 1 (upd (T 1) ((16 + (4 * p0)) + 0).toNatClampNeg (-5))) 1 (upd (upd (T 1) ((16 + (4 * p0)) + 0).toNatClampNeg (-5)) ((16 + (4 * p0)) + 1).toNatClampNeg 0))) := hD
  refine lv_aload_n hx hb dX4_goes_26 rfl (lv_at hl 1 rfl) ?_
  refine va_get (D := G.1) (ci := 4) (v := .ref (B 1)) (C := RX4) (T := TX4) (N := 11) hx hb hts hinX4 hown hK.1 hP 0 (wM_o G B (tu (tu T 1 (upd (T 1) ((16 + (4 * p0)) + 0).toNatClampNeg (-5))) 1 (upd (upd (T 1) ((16 + (4 * p0)) + 0).toNatClampNeg (-5)) ((16 + (4 * p0)) + 1).toNatClampNeg 0))) rfl 0 (by decide) (hts (.fieldLink RX4 7 "WireLoopsModel" "now" "[I") (List.mem_of_getElem? (i := 1) rfl)) (fun _ h9 => h9) rfl dX4_goes_27 ?_
  refine lv_iload_n hx hb dX4_goes_30 rfl (lv_at hl 0 rfl) ?_
  refine lv_iconst (v := 2) hx hb dX4_goes_31 (by decide) ?_
  refine lv_iadd hx hb dX4_goes_32 ?_
  refine lv_iconst (v := 0) hx hb dX4_goes_33 (by decide) ?_
  refine va_iast (D := G.1) hx hb hK.1 hP hD hS 1 0 (wM_j G B (tu (tu T 1 (upd (T 1) ((16 + (4 * p0)) + 0).toNatClampNeg (-5))) 1 (upd (upd (T 1) ((16 + (4 * p0)) + 0).toNatClampNeg (-5)) ((16 + (4 * p0)) + 1).toNatClampNeg 0)) 1 (by decide) (by decide)) rfl (of_in 1 hp w2) dX4_goes_34 (fun H locs hP hD hS => ?_)
  rw [wM_sj G B (tu (tu T 1 (upd (T 1) ((16 + (4 * p0)) + 0).toNatClampNeg (-5))) 1 (upd (upd (T 1) ((16 + (4 * p0)) + 0).toNatClampNeg (-5)) ((16 + (4 * p0)) + 1).toNatClampNeg 0)) 1 (by decide) (by decide) _] at hP hD
  have hP : va_P G.1 vwCl (wM G B (tu (tu (tu T 1 (upd (T 1) ((16 + (4 * p0)) + 0).toNatClampNeg (-5))) 1 (upd (upd (T 1) ((16 + (4 * p0)) + 0).toNatClampNeg (-5)) ((16 + (4 * p0)) + 1).toNatClampNeg 0)) 1 (upd (upd (upd (T 1) ((16 + (4 * p0)) + 0).toNatClampNeg (-5)) ((16 + (4 * p0)) + 1).toNatClampNeg 0) ((16 + (4 * p0)) + 2).toNatClampNeg 0))) H := hP
  have hD : va_D A0 (wM G B (tu (tu (tu T 1 (upd (T 1) ((16 + (4 * p0)) + 0).toNatClampNeg (-5))) 1 (upd (upd (T 1) ((16 + (4 * p0)) + 0).toNatClampNeg (-5)) ((16 + (4 * p0)) + 1).toNatClampNeg 0)) 1 (upd (upd (upd (T 1) ((16 + (4 * p0)) + 0).toNatClampNeg (-5)) ((16 + (4 * p0)) + 1).toNatClampNeg 0) ((16 + (4 * p0)) + 2).toNatClampNeg 0))) := hD
  refine lv_aload_n hx hb dX4_goes_35 rfl (lv_at hl 1 rfl) ?_
  refine va_get (D := G.1) (ci := 4) (v := .ref (B 1)) (C := RX4) (T := TX4) (N := 11) hx hb hts hinX4 hown hK.1 hP 0 (wM_o G B (tu (tu (tu T 1 (upd (T 1) ((16 + (4 * p0)) + 0).toNatClampNeg (-5))) 1 (upd (upd (T 1) ((16 + (4 * p0)) + 0).toNatClampNeg (-5)) ((16 + (4 * p0)) + 1).toNatClampNeg 0)) 1 (upd (upd (upd (T 1) ((16 + (4 * p0)) + 0).toNatClampNeg (-5)) ((16 + (4 * p0)) + 1).toNatClampNeg 0) ((16 + (4 * p0)) + 2).toNatClampNeg 0))) rfl 0 (by decide) (hts (.fieldLink RX4 7 "WireLoopsModel" "now" "[I") (List.mem_of_getElem? (i := 1) rfl)) (fun _ h9 => h9) rfl dX4_goes_36 ?_
  refine lv_iload_n hx hb dX4_goes_39 rfl (lv_at hl 0 rfl) ?_
  refine lv_iconst (v := 3) hx hb dX4_goes_40 (by decide) ?_
  refine lv_iadd hx hb dX4_goes_41 ?_
  refine lv_iconst (v := 0) hx hb dX4_goes_42 (by decide) ?_
  refine va_iast (D := G.1) hx hb hK.1 hP hD hS 1 0 (wM_j G B (tu (tu (tu T 1 (upd (T 1) ((16 + (4 * p0)) + 0).toNatClampNeg (-5))) 1 (upd (upd (T 1) ((16 + (4 * p0)) + 0).toNatClampNeg (-5)) ((16 + (4 * p0)) + 1).toNatClampNeg 0)) 1 (upd (upd (upd (T 1) ((16 + (4 * p0)) + 0).toNatClampNeg (-5)) ((16 + (4 * p0)) + 1).toNatClampNeg 0) ((16 + (4 * p0)) + 2).toNatClampNeg 0)) 1 (by decide) (by decide)) rfl (of_in 1 hp w3) dX4_goes_43 (fun H locs hP hD hS => ?_)
  rw [wM_sj G B (tu (tu (tu T 1 (upd (T 1) ((16 + (4 * p0)) + 0).toNatClampNeg (-5))) 1 (upd (upd (T 1) ((16 + (4 * p0)) + 0).toNatClampNeg (-5)) ((16 + (4 * p0)) + 1).toNatClampNeg 0)) 1 (upd (upd (upd (T 1) ((16 + (4 * p0)) + 0).toNatClampNeg (-5)) ((16 + (4 * p0)) + 1).toNatClampNeg 0) ((16 + (4 * p0)) + 2).toNatClampNeg 0)) 1 (by decide) (by decide) _] at hP hD
  have hP : va_P G.1 vwCl (wM G B (tu (tu (tu (tu T 1 (upd (T 1) ((16 + (4 * p0)) + 0).toNatClampNeg (-5))) 1 (upd (upd (T 1) ((16 + (4 * p0)) + 0).toNatClampNeg (-5)) ((16 + (4 * p0)) + 1).toNatClampNeg 0)) 1 (upd (upd (upd (T 1) ((16 + (4 * p0)) + 0).toNatClampNeg (-5)) ((16 + (4 * p0)) + 1).toNatClampNeg 0) ((16 + (4 * p0)) + 2).toNatClampNeg 0)) 1 (upd (upd (upd (upd (T 1) ((16 + (4 * p0)) + 0).toNatClampNeg (-5)) ((16 + (4 * p0)) + 1).toNatClampNeg 0) ((16 + (4 * p0)) + 2).toNatClampNeg 0) ((16 + (4 * p0)) + 3).toNatClampNeg 0))) H := hP
  have hD : va_D A0 (wM G B (tu (tu (tu (tu T 1 (upd (T 1) ((16 + (4 * p0)) + 0).toNatClampNeg (-5))) 1 (upd (upd (T 1) ((16 + (4 * p0)) + 0).toNatClampNeg (-5)) ((16 + (4 * p0)) + 1).toNatClampNeg 0)) 1 (upd (upd (upd (T 1) ((16 + (4 * p0)) + 0).toNatClampNeg (-5)) ((16 + (4 * p0)) + 1).toNatClampNeg 0) ((16 + (4 * p0)) + 2).toNatClampNeg 0)) 1 (upd (upd (upd (upd (T 1) ((16 + (4 * p0)) + 0).toNatClampNeg (-5)) ((16 + (4 * p0)) + 1).toNatClampNeg 0) ((16 + (4 * p0)) + 2).toNatClampNeg 0) ((16 + (4 * p0)) + 3).toNatClampNeg 0))) := hD
  have hfin : (tu (tu (tu (tu T 1 (upd (T 1) ((16 + (4 * p0)) + 0).toNatClampNeg (-5))) 1 (upd (upd (T 1) ((16 + (4 * p0)) + 0).toNatClampNeg (-5)) ((16 + (4 * p0)) + 1).toNatClampNeg 0)) 1 (upd (upd (upd (T 1) ((16 + (4 * p0)) + 0).toNatClampNeg (-5)) ((16 + (4 * p0)) + 1).toNatClampNeg 0) ((16 + (4 * p0)) + 2).toNatClampNeg 0)) 1 (upd (upd (upd (upd (T 1) ((16 + (4 * p0)) + 0).toNatClampNeg (-5)) ((16 + (4 * p0)) + 1).toNatClampNeg 0) ((16 + (4 * p0)) + 2).toNatClampNeg 0) ((16 + (4 * p0)) + 3).toNatClampNeg 0)) = (f_X4_goes T p0) := Eq.symm ((e_X4_goes T p0))
  exact endZ hx hb hr hlocks hP hD hS (@congrArg MS va_W (tu (tu (tu (tu T 1 (upd (T 1) ((16 + (4 * p0)) + 0).toNatClampNeg (-5))) 1 (upd (upd (T 1) ((16 + (4 * p0)) + 0).toNatClampNeg (-5)) ((16 + (4 * p0)) + 1).toNatClampNeg 0)) 1 (upd (upd (upd (T 1) ((16 + (4 * p0)) + 0).toNatClampNeg (-5)) ((16 + (4 * p0)) + 1).toNatClampNeg 0) ((16 + (4 * p0)) + 2).toNatClampNeg 0)) 1 (upd (upd (upd (upd (T 1) ((16 + (4 * p0)) + 0).toNatClampNeg (-5)) ((16 + (4 * p0)) + 1).toNatClampNeg 0) ((16 + (4 * p0)) + 2).toNatClampNeg 0) ((16 + (4 * p0)) + 3).toNatClampNeg 0)) (f_X4_goes T p0) (fun z => wM G B z) hfin) dX4_goes_44
noncomputable def f_X4_pulls (T : MS) (p0 p1 : Int32) : Int32 × MS := opq (if p1 ≤ ((T 1) ((16 + (4 * p0)) + 2).toNatClampNeg) then (((upd (T 1) ((16 + (4 * p0)) + 2).toNatClampNeg (((T 1) ((16 + (4 * p0)) + 2).toNatClampNeg) - (p1 / 10))) ((16 + (4 * p0)) + 2).toNatClampNeg), (tu T 1 (upd (T 1) ((16 + (4 * p0)) + 2).toNatClampNeg (((T 1) ((16 + (4 * p0)) + 2).toNatClampNeg) - (p1 / 10))))) else (1000, (tu (f_X4_goes T p0) 1 (upd ((f_X4_goes T p0) 1) 69 ((((f_X4_goes T p0) 1) 69) + 1)))))
theorem e_X4_pulls (T : MS) (p0 p1 : Int32) : f_X4_pulls T p0 p1 = (if p1 ≤ ((T 1) ((16 + (4 * p0)) + 2).toNatClampNeg) then (((upd (T 1) ((16 + (4 * p0)) + 2).toNatClampNeg (((T 1) ((16 + (4 * p0)) + 2).toNatClampNeg) - (p1 / 10))) ((16 + (4 * p0)) + 2).toNatClampNeg), (tu T 1 (upd (T 1) ((16 + (4 * p0)) + 2).toNatClampNeg (((T 1) ((16 + (4 * p0)) + 2).toNatClampNeg) - (p1 / 10))))) else (1000, (tu (f_X4_goes T p0) 1 (upd ((f_X4_goes T p0) 1) 69 ((((f_X4_goes T p0) 1) 69) + 1))))) := opq_eq _
set_option maxHeartbeats 4000000 in
set_option maxRecDepth 100000 in
theorem c_X4_pulls (l : Launch) (G : GG) (B : Nat → Nat) (T : MS) (p0 p1 : Int32) (hp : vp_in p0 12) : Mm l yX4_pulls wsX4_pulls ({ frames := 1, cells := 0, slots := 0, locals := 22 } : Room) G [.ref (B 0), .int p0, .int p1] (wM G B T) (f_X4_pulls T p0 p1).1 (wM G B (f_X4_pulls T p0 p1).2) := by
  refine Mm.of (cc := cX4_pulls) (maxL := 4) (ret := (some .int)) (by decide) rfl (Nat.le_of_ble_eq_true rfl) ?_
  intro p e s m args below meth c A0 hA0 E hr hlocks hP hK hD hA hS ls hl
  have E : CallFix p m c cX4_pulls 4 s args wsX4_pulls RX4 := E
  have hx := E.1
  have hb := E.2.1
  have hml := E.2.2.1
  have hown := E.2.2.2.1
  have hts := E.2.2.2.2
  have hl : lv_has ls 4 [(0, .ref (B 0)), (1, .int p0), (2, .int p1)] := hl
  have hinX4 : ∀ w ∈ u_ws RX4 TX4 11, w ∈ wsX4_pulls := fun _ h => List.mem_cons_of_mem _ (List.mem_append_right _ h)
  refine lv_bipush (v := 16) hx hb dX4_pulls_0 (by decide) ?_
  refine lv_iconst (v := 4) hx hb dX4_pulls_2 (by decide) ?_
  refine lv_iload_n hx hb dX4_pulls_3 rfl (lv_at hl 1 rfl) ?_
  refine lv_imul hx hb dX4_pulls_4 ?_
  refine lv_iadd hx hb dX4_pulls_5 ?_
  refine lv_iconst (v := 2) hx hb dX4_pulls_6 (by decide) ?_
  refine lv_iadd hx hb dX4_pulls_7 ?_
  refine lv_istore_n (lv' := [(3, .int ((16 + (4 * p0)) + 2)), (0, .ref (B 0)), (1, .int p0), (2, .int p1)]) hx hb dX4_pulls_8 rfl hl (by decide) rfl (fun ls hl => ?_)
  refine lv_aload_n hx hb dX4_pulls_9 rfl (lv_at hl 1 rfl) ?_
  refine va_get (D := G.1) (ci := 4) (v := .ref (B 1)) (C := RX4) (T := TX4) (N := 11) hx hb hts hinX4 hown hK.1 hP 0 (wM_o G B T) rfl 0 (by decide) (hts (.fieldLink RX4 7 "WireLoopsModel" "now" "[I") (List.mem_of_getElem? (i := 1) rfl)) (fun _ h9 => h9) rfl dX4_pulls_10 ?_
  refine lv_iload_n hx hb dX4_pulls_13 rfl (lv_at hl 0 rfl) ?_
  refine va_iald (D := G.1) hx hb hK.1 hP 1 0 (wM_j G B T 1 (by decide) (by decide)) rfl (of_in 1 hp w2) dX4_pulls_14 ?_
  refine lv_iload_n hx hb dX4_pulls_15 rfl (lv_at hl 3 rfl) ?_
  refine lv_icmp_ge (tgt := 39) hx hb dX4_pulls_16 (by decide) (fun c1 => ?_) (fun c1 => ?_)
  · skip
    refine lv_aload_n hx hb dX4_pulls_39 rfl (lv_at hl 1 rfl) ?_
    refine va_get (D := G.1) (ci := 4) (v := .ref (B 1)) (C := RX4) (T := TX4) (N := 11) hx hb hts hinX4 hown hK.1 hP 0 (wM_o G B T) rfl 0 (by decide) (hts (.fieldLink RX4 7 "WireLoopsModel" "now" "[I") (List.mem_of_getElem? (i := 1) rfl)) (fun _ h9 => h9) rfl dX4_pulls_40 ?_
    refine lv_iload_n hx hb dX4_pulls_43 rfl (lv_at hl 0 rfl) ?_
    refine lv_dup2_11 hx hb dX4_pulls_44 rfl rfl ?_
    refine va_iald (D := G.1) hx hb hK.1 hP 1 0 (wM_j G B T 1 (by decide) (by decide)) rfl (of_in 1 hp w2) dX4_pulls_45 ?_
    refine lv_iload_n hx hb dX4_pulls_46 rfl (lv_at hl 3 rfl) ?_
    refine lv_bipush (v := 10) hx hb dX4_pulls_47 (by decide) ?_
    refine lv_idiv hx hb dX4_pulls_49 (by decide) ?_
    refine lv_isub hx hb dX4_pulls_50 ?_
    refine va_iast (D := G.1) hx hb hK.1 hP hD hS 1 0 (wM_j G B T 1 (by decide) (by decide)) rfl (of_in 1 hp w2) dX4_pulls_51 (fun H locs hP hD hS => ?_)
    rw [wM_sj G B T 1 (by decide) (by decide) _] at hP hD
    have hP : va_P G.1 vwCl (wM G B (tu T 1 (upd (T 1) ((16 + (4 * p0)) + 2).toNatClampNeg (((T 1) ((16 + (4 * p0)) + 2).toNatClampNeg) - (p1 / 10))))) H := hP
    have hD : va_D A0 (wM G B (tu T 1 (upd (T 1) ((16 + (4 * p0)) + 2).toNatClampNeg (((T 1) ((16 + (4 * p0)) + 2).toNatClampNeg) - (p1 / 10))))) := hD
    refine lv_aload_n hx hb dX4_pulls_52 rfl (lv_at hl 1 rfl) ?_
    refine va_get (D := G.1) (ci := 4) (v := .ref (B 1)) (C := RX4) (T := TX4) (N := 11) hx hb hts hinX4 hown hK.1 hP 0 (wM_o G B (tu T 1 (upd (T 1) ((16 + (4 * p0)) + 2).toNatClampNeg (((T 1) ((16 + (4 * p0)) + 2).toNatClampNeg) - (p1 / 10))))) rfl 0 (by decide) (hts (.fieldLink RX4 7 "WireLoopsModel" "now" "[I") (List.mem_of_getElem? (i := 1) rfl)) (fun _ h9 => h9) rfl dX4_pulls_53 ?_
    refine lv_iload_n hx hb dX4_pulls_56 rfl (lv_at hl 0 rfl) ?_
    refine va_iald (D := G.1) hx hb hK.1 hP 1 0 (wM_j G B (tu T 1 (upd (T 1) ((16 + (4 * p0)) + 2).toNatClampNeg (((T 1) ((16 + (4 * p0)) + 2).toNatClampNeg) - (p1 / 10)))) 1 (by decide) (by decide)) rfl (of_in 1 hp w2) dX4_pulls_57 ?_
    have hfin : (((upd (T 1) ((16 + (4 * p0)) + 2).toNatClampNeg (((T 1) ((16 + (4 * p0)) + 2).toNatClampNeg) - (p1 / 10))) ((16 + (4 * p0)) + 2).toNatClampNeg), (tu T 1 (upd (T 1) ((16 + (4 * p0)) + 2).toNatClampNeg (((T 1) ((16 + (4 * p0)) + 2).toNatClampNeg) - (p1 / 10))))) = (f_X4_pulls T p0 p1) := Eq.symm (Eq.trans (e_X4_pulls T p0 p1) ((if_pos c1)))
    exact endM hx hb hr hlocks rfl hP hD hS ⟨@congrArg (Int32 × MS) Int32 (((upd (T 1) ((16 + (4 * p0)) + 2).toNatClampNeg (((T 1) ((16 + (4 * p0)) + 2).toNatClampNeg) - (p1 / 10))) ((16 + (4 * p0)) + 2).toNatClampNeg), (tu T 1 (upd (T 1) ((16 + (4 * p0)) + 2).toNatClampNeg (((T 1) ((16 + (4 * p0)) + 2).toNatClampNeg) - (p1 / 10))))) (f_X4_pulls T p0 p1) Prod.fst hfin, @congrArg (Int32 × MS) va_W (((upd (T 1) ((16 + (4 * p0)) + 2).toNatClampNeg (((T 1) ((16 + (4 * p0)) + 2).toNatClampNeg) - (p1 / 10))) ((16 + (4 * p0)) + 2).toNatClampNeg), (tu T 1 (upd (T 1) ((16 + (4 * p0)) + 2).toNatClampNeg (((T 1) ((16 + (4 * p0)) + 2).toNatClampNeg) - (p1 / 10))))) (f_X4_pulls T p0 p1) (fun z => wM G B z.2) hfin⟩ dX4_pulls_58
  · skip
    refine lv_aload_n hx hb dX4_pulls_19 rfl (lv_at hl 1 rfl) ?_
    refine lv_iload_n hx hb dX4_pulls_20 rfl (lv_at hl 2 rfl) ?_
    refine czV (rest := []) (As := [.int p0]) E (c_X4_goes l G B T p0 hp) (cwV 1 hts gX4_pulls_X4_goes rfl rfl rfl (by decide +kernel) ⟨Nat.le_of_ble_eq_true rfl, Nat.le_of_ble_eq_true rfl⟩) hK hP hD hS hA 0 (wM_o G B T) rfl rfl hl.1 rfl (Nat.le_of_ble_eq_true rfl) dX4_pulls_21 ⟨Nat.zero_le _, Nat.zero_le _⟩ (fun H locs hP hD hS => ?_)
    refine lv_aload_n hx hb dX4_pulls_24 rfl (lv_at hl 1 rfl) ?_
    refine va_get (D := G.1) (ci := 4) (v := .ref (B 1)) (C := RX4) (T := TX4) (N := 11) hx hb hts hinX4 hown hK.1 hP 0 (wM_o G B (f_X4_goes T p0)) rfl 0 (by decide) (hts (.fieldLink RX4 7 "WireLoopsModel" "now" "[I") (List.mem_of_getElem? (i := 1) rfl)) (fun _ h9 => h9) rfl dX4_pulls_25 ?_
    refine lv_bipush (v := 69) hx hb dX4_pulls_28 (by decide) ?_
    refine lv_dup2_11 hx hb dX4_pulls_30 rfl rfl ?_
    refine va_iald (D := G.1) hx hb hK.1 hP 1 0 (wM_j G B (f_X4_goes T p0) 1 (by decide) (by decide)) rfl (cin 69 1 (by decide)) dX4_pulls_31 ?_
    refine W.eq (g2 := F0 m 32 ls [.int (((f_X4_goes T p0) 1) 69), .int 69, .ref (B 1)]) (by rw [show (69 : Int32).toNatClampNeg = 69 from by decide] <;> rfl) ?_
    refine lv_iconst (v := 1) hx hb dX4_pulls_32 (by decide) ?_
    refine lv_iadd hx hb dX4_pulls_33 ?_
    refine va_iast (D := G.1) hx hb hK.1 hP hD hS 1 0 (wM_j G B (f_X4_goes T p0) 1 (by decide) (by decide)) rfl (cin 69 1 (by decide)) dX4_pulls_34 (fun H locs hP hD hS => ?_)
    rw [wM_sj G B (f_X4_goes T p0) 1 (by decide) (by decide) _] at hP hD
    rw [show (69 : Int32).toNatClampNeg = 69 from by decide] at hP hD
    have hP : va_P G.1 vwCl (wM G B (tu (f_X4_goes T p0) 1 (upd ((f_X4_goes T p0) 1) 69 ((((f_X4_goes T p0) 1) 69) + 1)))) H := hP
    have hD : va_D A0 (wM G B (tu (f_X4_goes T p0) 1 (upd ((f_X4_goes T p0) 1) 69 ((((f_X4_goes T p0) 1) 69) + 1)))) := hD
    refine lv_sipush (v := 1000) hx hb dX4_pulls_35 (by decide) ?_
    have hfin : (1000, (tu (f_X4_goes T p0) 1 (upd ((f_X4_goes T p0) 1) 69 ((((f_X4_goes T p0) 1) 69) + 1)))) = (f_X4_pulls T p0 p1) := Eq.symm (Eq.trans (e_X4_pulls T p0 p1) ((if_neg c1)))
    exact endM hx hb hr hlocks rfl hP hD hS ⟨@congrArg (Int32 × MS) Int32 (1000, (tu (f_X4_goes T p0) 1 (upd ((f_X4_goes T p0) 1) 69 ((((f_X4_goes T p0) 1) 69) + 1)))) (f_X4_pulls T p0 p1) Prod.fst hfin, @congrArg (Int32 × MS) va_W (1000, (tu (f_X4_goes T p0) 1 (upd ((f_X4_goes T p0) 1) 69 ((((f_X4_goes T p0) 1) 69) + 1)))) (f_X4_pulls T p0 p1) (fun z => wM G B z.2) hfin⟩ dX4_pulls_38
noncomputable def f_X4_crossingY (T : MS) (p0 p1 : Int32) : Int32 := opq (if p1 ≤ p0 then (if p1 = p0 then (-5) else (if 0 < (((T 1) (0 + (f_X4_of T 1 p1 0)).toNatClampNeg) - ((T 1) (0 + (f_X4_of T 1 p0 0)).toNatClampNeg)) then ((200 * ((f_X4_padX p0) - (f_X4_padX p1))) / (((f_X4_padX p0) - (f_X4_padX p1)) + (((T 1) (0 + (f_X4_of T 1 p1 0)).toNatClampNeg) - ((T 1) (0 + (f_X4_of T 1 p0 0)).toNatClampNeg)))) else (-5))) else (if p0 = p1 then (-5) else (if 0 < (((T 1) (0 + (f_X4_of T 1 p0 0)).toNatClampNeg) - ((T 1) (0 + (f_X4_of T 1 p1 0)).toNatClampNeg)) then ((200 * ((f_X4_padX p1) - (f_X4_padX p0))) / (((f_X4_padX p1) - (f_X4_padX p0)) + (((T 1) (0 + (f_X4_of T 1 p0 0)).toNatClampNeg) - ((T 1) (0 + (f_X4_of T 1 p1 0)).toNatClampNeg)))) else (-5))))
theorem e_X4_crossingY (T : MS) (p0 p1 : Int32) : f_X4_crossingY T p0 p1 = (if p1 ≤ p0 then (if p1 = p0 then (-5) else (if 0 < (((T 1) (0 + (f_X4_of T 1 p1 0)).toNatClampNeg) - ((T 1) (0 + (f_X4_of T 1 p0 0)).toNatClampNeg)) then ((200 * ((f_X4_padX p0) - (f_X4_padX p1))) / (((f_X4_padX p0) - (f_X4_padX p1)) + (((T 1) (0 + (f_X4_of T 1 p1 0)).toNatClampNeg) - ((T 1) (0 + (f_X4_of T 1 p0 0)).toNatClampNeg)))) else (-5))) else (if p0 = p1 then (-5) else (if 0 < (((T 1) (0 + (f_X4_of T 1 p0 0)).toNatClampNeg) - ((T 1) (0 + (f_X4_of T 1 p1 0)).toNatClampNeg)) then ((200 * ((f_X4_padX p1) - (f_X4_padX p0))) / (((f_X4_padX p1) - (f_X4_padX p0)) + (((T 1) (0 + (f_X4_of T 1 p0 0)).toNatClampNeg) - ((T 1) (0 + (f_X4_of T 1 p1 0)).toNatClampNeg)))) else (-5)))) := opq_eq _
set_option maxHeartbeats 4000000 in
set_option maxRecDepth 100000 in
theorem c_X4_crossingY (l : Launch) (G : GG) (B : Nat → Nat) (T : MS) (p0 p1 : Int32) (h0 : wok T p0) (h1 : wok T p1) : Mp l yX4_crossingY wsX4_crossingY ({ frames := 1, cells := 0, slots := 0, locals := 22 } : Room) G [.ref (B 0), .int p0, .int p1] (wM G B T) (f_X4_crossingY T p0 p1) := by
  refine Mp.of (cc := cX4_crossingY) (maxL := 7) (ret := (some .int)) (by decide) rfl (Nat.le_of_ble_eq_true rfl) ?_
  intro p e s m args below meth c E hr hlocks hP hK ls hl
  have E : CallFix p m c cX4_crossingY 7 s args wsX4_crossingY RX4 := E
  have hx := E.1
  have hb := E.2.1
  have hml := E.2.2.1
  have hown := E.2.2.2.1
  have hts := E.2.2.2.2
  have hl : lv_has ls 7 [(0, .ref (B 0)), (1, .int p0), (2, .int p1)] := hl
  have hinX4 : ∀ w ∈ u_ws RX4 TX4 11, w ∈ wsX4_crossingY := fun _ h => List.mem_cons_of_mem _ (List.mem_append_right _ h)
  refine lv_iload_n hx hb dX4_crossingY_0 rfl (lv_at hl 1 rfl) ?_
  refine lv_iload_n hx hb dX4_crossingY_1 rfl (lv_at hl 2 rfl) ?_
  refine lv_icmp_ge (tgt := 9) hx hb dX4_crossingY_2 (by decide) (fun c1 => ?_) (fun c1 => ?_)
  · skip
    refine lv_iload_n hx hb dX4_crossingY_9 rfl (lv_at hl 2 rfl) ?_
    refine lv_istore_n (lv' := [(3, .int p1), (0, .ref (B 0)), (1, .int p0), (2, .int p1)]) hx hb dX4_crossingY_10 rfl hl (by decide) rfl (fun ls hl => ?_)
    refine lv_iload_n hx hb dX4_crossingY_11 rfl (lv_at hl 2 rfl) ?_
    refine lv_iload_n hx hb dX4_crossingY_12 rfl (lv_at hl 3 rfl) ?_
    refine lv_icmp_ge (tgt := 20) hx hb dX4_crossingY_13 (by decide) (fun c2 => ?_) (fun c2 => absurd (c1) c2)
    refine lv_iload_n hx hb dX4_crossingY_20 rfl (lv_at hl 2 rfl) ?_
    refine lv_istore (lv' := [(4, .int p0), (3, .int p1), (0, .ref (B 0)), (1, .int p0), (2, .int p1)]) hx hb dX4_crossingY_21 hl (by decide) rfl (fun ls hl => ?_)
    refine lv_aload_n hx hb dX4_crossingY_23 rfl (lv_at hl 2 rfl) ?_
    refine va_get (D := G.1) (ci := 4) (v := .ref (B 1)) (C := RX4) (T := TX4) (N := 11) hx hb hts hinX4 hown hK.1 hP 0 (wM_o G B T) rfl 0 (by decide) (hts (.fieldLink RX4 7 "WireLoopsModel" "now" "[I") (List.mem_of_getElem? (i := 1) rfl)) (fun _ h9 => h9) rfl dX4_crossingY_24 ?_
    refine lv_iconst (v := 0) hx hb dX4_crossingY_27 (by decide) ?_
    refine lv_aload_n hx hb dX4_crossingY_28 rfl (lv_at hl 2 rfl) ?_
    refine va_get (D := G.1) (ci := 4) (v := .ref (B 1)) (C := RX4) (T := TX4) (N := 11) hx hb hts hinX4 hown hK.1 hP 0 (wM_o G B T) rfl 0 (by decide) (hts (.fieldLink RX4 7 "WireLoopsModel" "now" "[I") (List.mem_of_getElem? (i := 1) rfl)) (fun _ h9 => h9) rfl dX4_crossingY_29 ?_
    refine lv_iload_n hx hb dX4_crossingY_32 rfl (lv_at hl 1 rfl) ?_
    refine lv_iconst (v := 0) hx hb dX4_crossingY_33 (by decide) ?_
    refine cpS (rest := [.int 0, .ref (B 1)]) (As := [.ref (B 1), .int p1, .int 0]) E (c_X4_of l G B T 1 p1 0 (by decide) (by decide) (of_in 1 h1.1 w0)) (va_cwS 3 hts gX4_crossingY_X4_of rfl rfl rfl (by decide +kernel) ⟨Nat.le_of_ble_eq_true rfl, Nat.le_of_ble_eq_true rfl⟩) hK hP rfl hl.1 rfl (Nat.le_of_ble_eq_true rfl) dX4_crossingY_34 ⟨Nat.zero_le _, Nat.zero_le _⟩ ?_
    refine lv_iadd hx hb dX4_crossingY_37 ?_
    refine va_iald (D := G.1) hx hb hK.1 hP 1 0 (wM_j G B T 1 (by decide) (by decide)) rfl h1.2 dX4_crossingY_38 ?_
    refine lv_aload_n hx hb dX4_crossingY_39 rfl (lv_at hl 2 rfl) ?_
    refine va_get (D := G.1) (ci := 4) (v := .ref (B 1)) (C := RX4) (T := TX4) (N := 11) hx hb hts hinX4 hown hK.1 hP 0 (wM_o G B T) rfl 0 (by decide) (hts (.fieldLink RX4 7 "WireLoopsModel" "now" "[I") (List.mem_of_getElem? (i := 1) rfl)) (fun _ h9 => h9) rfl dX4_crossingY_40 ?_
    refine lv_iconst (v := 0) hx hb dX4_crossingY_43 (by decide) ?_
    refine lv_aload_n hx hb dX4_crossingY_44 rfl (lv_at hl 2 rfl) ?_
    refine va_get (D := G.1) (ci := 4) (v := .ref (B 1)) (C := RX4) (T := TX4) (N := 11) hx hb hts hinX4 hown hK.1 hP 0 (wM_o G B T) rfl 0 (by decide) (hts (.fieldLink RX4 7 "WireLoopsModel" "now" "[I") (List.mem_of_getElem? (i := 1) rfl)) (fun _ h9 => h9) rfl dX4_crossingY_45 ?_
    refine lv_iload hx hb dX4_crossingY_48 (lv_at hl 0 rfl) ?_
    refine lv_iconst (v := 0) hx hb dX4_crossingY_50 (by decide) ?_
    refine cpS (rest := [.int 0, .ref (B 1), .int ((T 1) (0 + (f_X4_of T 1 p1 0)).toNatClampNeg)]) (As := [.ref (B 1), .int p0, .int 0]) E (c_X4_of l G B T 1 p0 0 (by decide) (by decide) (of_in 1 h0.1 w0)) (va_cwS 3 hts gX4_crossingY_X4_of rfl rfl rfl (by decide +kernel) ⟨Nat.le_of_ble_eq_true rfl, Nat.le_of_ble_eq_true rfl⟩) hK hP rfl hl.1 rfl (Nat.le_of_ble_eq_true rfl) dX4_crossingY_51 ⟨Nat.zero_le _, Nat.zero_le _⟩ ?_
    refine lv_iadd hx hb dX4_crossingY_54 ?_
    refine va_iald (D := G.1) hx hb hK.1 hP 1 0 (wM_j G B T 1 (by decide) (by decide)) rfl h0.2 dX4_crossingY_55 ?_
    refine lv_isub hx hb dX4_crossingY_56 ?_
    refine lv_istore (lv' := [(5, .int (((T 1) (0 + (f_X4_of T 1 p1 0)).toNatClampNeg) - ((T 1) (0 + (f_X4_of T 1 p0 0)).toNatClampNeg))), (4, .int p0), (3, .int p1), (0, .ref (B 0)), (1, .int p0), (2, .int p1)]) hx hb dX4_crossingY_57 hl (by decide) rfl (fun ls hl => ?_)
    refine lv_iload hx hb dX4_crossingY_59 (lv_at hl 1 rfl) ?_
    refine cpS (rest := []) (As := [.int p0]) E (c_X4_padX l G B T p0) (va_cwS 1 hts gX4_crossingY_X4_padX rfl rfl rfl (by decide +kernel) ⟨Nat.le_of_ble_eq_true rfl, Nat.le_of_ble_eq_true rfl⟩) hK hP rfl hl.1 rfl (Nat.le_of_ble_eq_true rfl) dX4_crossingY_61 ⟨Nat.zero_le _, Nat.zero_le _⟩ ?_
    refine lv_iload_n hx hb dX4_crossingY_64 rfl (lv_at hl 2 rfl) ?_
    refine cpS (rest := [.int (f_X4_padX p0)]) (As := [.int p1]) E (c_X4_padX l G B T p1) (va_cwS 1 hts gX4_crossingY_X4_padX rfl rfl rfl (by decide +kernel) ⟨Nat.le_of_ble_eq_true rfl, Nat.le_of_ble_eq_true rfl⟩) hK hP rfl hl.1 rfl (Nat.le_of_ble_eq_true rfl) dX4_crossingY_65 ⟨Nat.zero_le _, Nat.zero_le _⟩ ?_
    refine lv_isub hx hb dX4_crossingY_68 ?_
    refine lv_istore (lv' := [(6, .int ((f_X4_padX p0) - (f_X4_padX p1))), (5, .int (((T 1) (0 + (f_X4_of T 1 p1 0)).toNatClampNeg) - ((T 1) (0 + (f_X4_of T 1 p0 0)).toNatClampNeg))), (4, .int p0), (3, .int p1), (0, .ref (B 0)), (1, .int p0), (2, .int p1)]) hx hb dX4_crossingY_69 hl (by decide) rfl (fun ls hl => ?_)
    refine lv_iload_n hx hb dX4_crossingY_71 rfl (lv_at hl 3 rfl) ?_
    refine lv_iload hx hb dX4_crossingY_72 (lv_at hl 2 rfl) ?_
    refine lv_icmp_eq (tgt := 82) hx hb dX4_crossingY_74 (by decide) (fun c3 => ?_) (fun c3 => ?_)
    · skip
      refine lv_bipush (v := (-5)) hx hb dX4_crossingY_82 (by decide) ?_
      refine lv_goto (tgt := 99) hx hb dX4_crossingY_84 (by decide) ?_
      exact endP hx hb hr hlocks rfl (Eq.symm (Eq.trans (e_X4_crossingY T p0 p1) (Eq.trans (if_pos c1) ((if_pos c3))))) dX4_crossingY_99
    · skip
      refine lv_iload hx hb dX4_crossingY_77 (lv_at hl 1 rfl) ?_
      refine lv_if_gt (tgt := 87) hx hb dX4_crossingY_79 (by decide) (fun c4 => ?_) (fun c4 => ?_)
      · skip
        refine lv_sipush (v := 200) hx hb dX4_crossingY_87 (by decide) ?_
        refine lv_iload hx hb dX4_crossingY_90 (lv_at hl 0 rfl) ?_
        refine lv_imul hx hb dX4_crossingY_92 ?_
        refine lv_iload hx hb dX4_crossingY_93 (lv_at hl 0 rfl) ?_
        refine lv_iload hx hb dX4_crossingY_95 (lv_at hl 1 rfl) ?_
        refine lv_iadd hx hb dX4_crossingY_97 ?_
        refine lv_idiv hx hb dX4_crossingY_98 (by first | exact cy_ne h0.1 h1.1 (Int32.le_of_lt (Int32.not_le.mp (by assumption))) (by assumption) | exact cy_ne h1.1 h0.1 (by assumption) (by assumption)) ?_
        exact endP hx hb hr hlocks rfl (Eq.symm (Eq.trans (e_X4_crossingY T p0 p1) (Eq.trans (if_pos c1) (Eq.trans (if_neg c3) ((if_pos c4)))))) dX4_crossingY_99
      · skip
        refine lv_bipush (v := (-5)) hx hb dX4_crossingY_82 (by decide) ?_
        refine lv_goto (tgt := 99) hx hb dX4_crossingY_84 (by decide) ?_
        exact endP hx hb hr hlocks rfl (Eq.symm (Eq.trans (e_X4_crossingY T p0 p1) (Eq.trans (if_pos c1) (Eq.trans (if_neg c3) ((if_neg c4)))))) dX4_crossingY_99
  · skip
    refine lv_iload_n hx hb dX4_crossingY_5 rfl (lv_at hl 1 rfl) ?_
    refine lv_goto (tgt := 10) hx hb dX4_crossingY_6 (by decide) ?_
    refine lv_istore_n (lv' := [(3, .int p0), (0, .ref (B 0)), (1, .int p0), (2, .int p1)]) hx hb dX4_crossingY_10 rfl hl (by decide) rfl (fun ls hl => ?_)
    refine lv_iload_n hx hb dX4_crossingY_11 rfl (lv_at hl 2 rfl) ?_
    refine lv_iload_n hx hb dX4_crossingY_12 rfl (lv_at hl 3 rfl) ?_
    refine lv_icmp_ge (tgt := 20) hx hb dX4_crossingY_13 (by decide) (fun c5 => absurd c5 (c1)) (fun c5 => ?_)
    refine lv_iload_n hx hb dX4_crossingY_16 rfl (lv_at hl 3 rfl) ?_
    refine lv_goto (tgt := 21) hx hb dX4_crossingY_17 (by decide) ?_
    refine lv_istore (lv' := [(4, .int p1), (3, .int p0), (0, .ref (B 0)), (1, .int p0), (2, .int p1)]) hx hb dX4_crossingY_21 hl (by decide) rfl (fun ls hl => ?_)
    refine lv_aload_n hx hb dX4_crossingY_23 rfl (lv_at hl 2 rfl) ?_
    refine va_get (D := G.1) (ci := 4) (v := .ref (B 1)) (C := RX4) (T := TX4) (N := 11) hx hb hts hinX4 hown hK.1 hP 0 (wM_o G B T) rfl 0 (by decide) (hts (.fieldLink RX4 7 "WireLoopsModel" "now" "[I") (List.mem_of_getElem? (i := 1) rfl)) (fun _ h9 => h9) rfl dX4_crossingY_24 ?_
    refine lv_iconst (v := 0) hx hb dX4_crossingY_27 (by decide) ?_
    refine lv_aload_n hx hb dX4_crossingY_28 rfl (lv_at hl 2 rfl) ?_
    refine va_get (D := G.1) (ci := 4) (v := .ref (B 1)) (C := RX4) (T := TX4) (N := 11) hx hb hts hinX4 hown hK.1 hP 0 (wM_o G B T) rfl 0 (by decide) (hts (.fieldLink RX4 7 "WireLoopsModel" "now" "[I") (List.mem_of_getElem? (i := 1) rfl)) (fun _ h9 => h9) rfl dX4_crossingY_29 ?_
    refine lv_iload_n hx hb dX4_crossingY_32 rfl (lv_at hl 1 rfl) ?_
    refine lv_iconst (v := 0) hx hb dX4_crossingY_33 (by decide) ?_
    refine cpS (rest := [.int 0, .ref (B 1)]) (As := [.ref (B 1), .int p0, .int 0]) E (c_X4_of l G B T 1 p0 0 (by decide) (by decide) (of_in 1 h0.1 w0)) (va_cwS 3 hts gX4_crossingY_X4_of rfl rfl rfl (by decide +kernel) ⟨Nat.le_of_ble_eq_true rfl, Nat.le_of_ble_eq_true rfl⟩) hK hP rfl hl.1 rfl (Nat.le_of_ble_eq_true rfl) dX4_crossingY_34 ⟨Nat.zero_le _, Nat.zero_le _⟩ ?_
    refine lv_iadd hx hb dX4_crossingY_37 ?_
    refine va_iald (D := G.1) hx hb hK.1 hP 1 0 (wM_j G B T 1 (by decide) (by decide)) rfl h0.2 dX4_crossingY_38 ?_
    refine lv_aload_n hx hb dX4_crossingY_39 rfl (lv_at hl 2 rfl) ?_
    refine va_get (D := G.1) (ci := 4) (v := .ref (B 1)) (C := RX4) (T := TX4) (N := 11) hx hb hts hinX4 hown hK.1 hP 0 (wM_o G B T) rfl 0 (by decide) (hts (.fieldLink RX4 7 "WireLoopsModel" "now" "[I") (List.mem_of_getElem? (i := 1) rfl)) (fun _ h9 => h9) rfl dX4_crossingY_40 ?_
    refine lv_iconst (v := 0) hx hb dX4_crossingY_43 (by decide) ?_
    refine lv_aload_n hx hb dX4_crossingY_44 rfl (lv_at hl 2 rfl) ?_
    refine va_get (D := G.1) (ci := 4) (v := .ref (B 1)) (C := RX4) (T := TX4) (N := 11) hx hb hts hinX4 hown hK.1 hP 0 (wM_o G B T) rfl 0 (by decide) (hts (.fieldLink RX4 7 "WireLoopsModel" "now" "[I") (List.mem_of_getElem? (i := 1) rfl)) (fun _ h9 => h9) rfl dX4_crossingY_45 ?_
    refine lv_iload hx hb dX4_crossingY_48 (lv_at hl 0 rfl) ?_
    refine lv_iconst (v := 0) hx hb dX4_crossingY_50 (by decide) ?_
    refine cpS (rest := [.int 0, .ref (B 1), .int ((T 1) (0 + (f_X4_of T 1 p0 0)).toNatClampNeg)]) (As := [.ref (B 1), .int p1, .int 0]) E (c_X4_of l G B T 1 p1 0 (by decide) (by decide) (of_in 1 h1.1 w0)) (va_cwS 3 hts gX4_crossingY_X4_of rfl rfl rfl (by decide +kernel) ⟨Nat.le_of_ble_eq_true rfl, Nat.le_of_ble_eq_true rfl⟩) hK hP rfl hl.1 rfl (Nat.le_of_ble_eq_true rfl) dX4_crossingY_51 ⟨Nat.zero_le _, Nat.zero_le _⟩ ?_
    refine lv_iadd hx hb dX4_crossingY_54 ?_
    refine va_iald (D := G.1) hx hb hK.1 hP 1 0 (wM_j G B T 1 (by decide) (by decide)) rfl h1.2 dX4_crossingY_55 ?_
    refine lv_isub hx hb dX4_crossingY_56 ?_
    refine lv_istore (lv' := [(5, .int (((T 1) (0 + (f_X4_of T 1 p0 0)).toNatClampNeg) - ((T 1) (0 + (f_X4_of T 1 p1 0)).toNatClampNeg))), (4, .int p1), (3, .int p0), (0, .ref (B 0)), (1, .int p0), (2, .int p1)]) hx hb dX4_crossingY_57 hl (by decide) rfl (fun ls hl => ?_)
    refine lv_iload hx hb dX4_crossingY_59 (lv_at hl 1 rfl) ?_
    refine cpS (rest := []) (As := [.int p1]) E (c_X4_padX l G B T p1) (va_cwS 1 hts gX4_crossingY_X4_padX rfl rfl rfl (by decide +kernel) ⟨Nat.le_of_ble_eq_true rfl, Nat.le_of_ble_eq_true rfl⟩) hK hP rfl hl.1 rfl (Nat.le_of_ble_eq_true rfl) dX4_crossingY_61 ⟨Nat.zero_le _, Nat.zero_le _⟩ ?_
    refine lv_iload_n hx hb dX4_crossingY_64 rfl (lv_at hl 2 rfl) ?_
    refine cpS (rest := [.int (f_X4_padX p1)]) (As := [.int p0]) E (c_X4_padX l G B T p0) (va_cwS 1 hts gX4_crossingY_X4_padX rfl rfl rfl (by decide +kernel) ⟨Nat.le_of_ble_eq_true rfl, Nat.le_of_ble_eq_true rfl⟩) hK hP rfl hl.1 rfl (Nat.le_of_ble_eq_true rfl) dX4_crossingY_65 ⟨Nat.zero_le _, Nat.zero_le _⟩ ?_
    refine lv_isub hx hb dX4_crossingY_68 ?_
    refine lv_istore (lv' := [(6, .int ((f_X4_padX p1) - (f_X4_padX p0))), (5, .int (((T 1) (0 + (f_X4_of T 1 p0 0)).toNatClampNeg) - ((T 1) (0 + (f_X4_of T 1 p1 0)).toNatClampNeg))), (4, .int p1), (3, .int p0), (0, .ref (B 0)), (1, .int p0), (2, .int p1)]) hx hb dX4_crossingY_69 hl (by decide) rfl (fun ls hl => ?_)
    refine lv_iload_n hx hb dX4_crossingY_71 rfl (lv_at hl 3 rfl) ?_
    refine lv_iload hx hb dX4_crossingY_72 (lv_at hl 2 rfl) ?_
    refine lv_icmp_eq (tgt := 82) hx hb dX4_crossingY_74 (by decide) (fun c6 => ?_) (fun c6 => ?_)
    · skip
      refine lv_bipush (v := (-5)) hx hb dX4_crossingY_82 (by decide) ?_
      refine lv_goto (tgt := 99) hx hb dX4_crossingY_84 (by decide) ?_
      exact endP hx hb hr hlocks rfl (Eq.symm (Eq.trans (e_X4_crossingY T p0 p1) (Eq.trans (if_neg c1) ((if_pos c6))))) dX4_crossingY_99
    · skip
      refine lv_iload hx hb dX4_crossingY_77 (lv_at hl 1 rfl) ?_
      refine lv_if_gt (tgt := 87) hx hb dX4_crossingY_79 (by decide) (fun c7 => ?_) (fun c7 => ?_)
      · skip
        refine lv_sipush (v := 200) hx hb dX4_crossingY_87 (by decide) ?_
        refine lv_iload hx hb dX4_crossingY_90 (lv_at hl 0 rfl) ?_
        refine lv_imul hx hb dX4_crossingY_92 ?_
        refine lv_iload hx hb dX4_crossingY_93 (lv_at hl 0 rfl) ?_
        refine lv_iload hx hb dX4_crossingY_95 (lv_at hl 1 rfl) ?_
        refine lv_iadd hx hb dX4_crossingY_97 ?_
        refine lv_idiv hx hb dX4_crossingY_98 (by first | exact cy_ne h0.1 h1.1 (Int32.le_of_lt (Int32.not_le.mp (by assumption))) (by assumption) | exact cy_ne h1.1 h0.1 (by assumption) (by assumption)) ?_
        exact endP hx hb hr hlocks rfl (Eq.symm (Eq.trans (e_X4_crossingY T p0 p1) (Eq.trans (if_neg c1) (Eq.trans (if_neg c6) ((if_pos c7)))))) dX4_crossingY_99
      · skip
        refine lv_bipush (v := (-5)) hx hb dX4_crossingY_82 (by decide) ?_
        refine lv_goto (tgt := 99) hx hb dX4_crossingY_84 (by decide) ?_
        exact endP hx hb hr hlocks rfl (Eq.symm (Eq.trans (e_X4_crossingY T p0 p1) (Eq.trans (if_neg c1) (Eq.trans (if_neg c6) ((if_neg c7)))))) dX4_crossingY_99
noncomputable def f_X4_gap (T : MS) (p0 p1 p2 : Int32) : Int32 := opq (f_X4_apart (f_X4_heightOf p1 (f_X4_crossingY T p0 p2)) (f_X4_heightOf (f_X4_of T 1 p2 1) (f_X4_crossingY T p0 p2)))
theorem e_X4_gap (T : MS) (p0 p1 p2 : Int32) : f_X4_gap T p0 p1 p2 = (f_X4_apart (f_X4_heightOf p1 (f_X4_crossingY T p0 p2)) (f_X4_heightOf (f_X4_of T 1 p2 1) (f_X4_crossingY T p0 p2))) := opq_eq _
set_option maxHeartbeats 4000000 in
set_option maxRecDepth 100000 in
theorem c_X4_gap (l : Launch) (G : GG) (B : Nat → Nat) (T : MS) (p0 p1 p2 : Int32) (h0 : wok T p0) (h2 : wok T p2) : Mp l yX4_gap wsX4_gap ({ frames := 2, cells := 0, slots := 0, locals := 48 } : Room) G [.ref (B 0), .int p0, .int p1, .int p2] (wM G B T) (f_X4_gap T p0 p1 p2) := by
  refine Mp.of (cc := cX4_gap) (maxL := 5) (ret := (some .int)) (by decide) rfl (Nat.le_of_ble_eq_true rfl) ?_
  intro p e s m args below meth c E hr hlocks hP hK ls hl
  have E : CallFix p m c cX4_gap 5 s args wsX4_gap RX4 := E
  have hx := E.1
  have hb := E.2.1
  have hml := E.2.2.1
  have hown := E.2.2.2.1
  have hts := E.2.2.2.2
  have hl : lv_has ls 5 [(0, .ref (B 0)), (1, .int p0), (2, .int p1), (3, .int p2)] := hl
  have hinX4 : ∀ w ∈ u_ws RX4 TX4 11, w ∈ wsX4_gap := fun _ h => List.mem_cons_of_mem _ (List.mem_append_right _ h)
  refine lv_aload_n hx hb dX4_gap_0 rfl (lv_at hl 0 rfl) ?_
  refine lv_iload_n hx hb dX4_gap_1 rfl (lv_at hl 1 rfl) ?_
  refine lv_iload_n hx hb dX4_gap_2 rfl (lv_at hl 3 rfl) ?_
  refine cpV (rest := []) (As := [.int p0, .int p2]) E (c_X4_crossingY l G B T p0 p2 h0 h2) (cwV 2 hts gX4_gap_X4_crossingY rfl rfl rfl (by decide +kernel) ⟨Nat.le_of_ble_eq_true rfl, Nat.le_of_ble_eq_true rfl⟩) hK hP 0 (wM_o G B T) rfl rfl hl.1 rfl (Nat.le_of_ble_eq_true rfl) dX4_gap_3 ⟨Nat.zero_le _, Nat.zero_le _⟩ ?_
  refine lv_istore (lv' := [(4, .int (f_X4_crossingY T p0 p2)), (0, .ref (B 0)), (1, .int p0), (2, .int p1), (3, .int p2)]) hx hb dX4_gap_6 hl (by decide) rfl (fun ls hl => ?_)
  refine lv_iload_n hx hb dX4_gap_8 rfl (lv_at hl 3 rfl) ?_
  refine lv_iload hx hb dX4_gap_9 (lv_at hl 0 rfl) ?_
  refine cpS (rest := []) (As := [.int p1, .int (f_X4_crossingY T p0 p2)]) E (c_X4_heightOf l G B T p1 (f_X4_crossingY T p0 p2)) (va_cwS 2 hts gX4_gap_X4_heightOf rfl rfl rfl (by decide +kernel) ⟨Nat.le_of_ble_eq_true rfl, Nat.le_of_ble_eq_true rfl⟩) hK hP rfl hl.1 rfl (Nat.le_of_ble_eq_true rfl) dX4_gap_11 ⟨Nat.zero_le _, Nat.zero_le _⟩ ?_
  refine lv_aload_n hx hb dX4_gap_14 rfl (lv_at hl 1 rfl) ?_
  refine va_get (D := G.1) (ci := 4) (v := .ref (B 1)) (C := RX4) (T := TX4) (N := 11) hx hb hts hinX4 hown hK.1 hP 0 (wM_o G B T) rfl 0 (by decide) (hts (.fieldLink RX4 7 "WireLoopsModel" "now" "[I") (List.mem_of_getElem? (i := 1) rfl)) (fun _ h9 => h9) rfl dX4_gap_15 ?_
  refine lv_iload_n hx hb dX4_gap_18 rfl (lv_at hl 4 rfl) ?_
  refine lv_iconst (v := 1) hx hb dX4_gap_19 (by decide) ?_
  refine cpS (rest := [.int (f_X4_heightOf p1 (f_X4_crossingY T p0 p2))]) (As := [.ref (B 1), .int p2, .int 1]) E (c_X4_of l G B T 1 p2 1 (by decide) (by decide) (of_in 1 h2.1 w1)) (va_cwS 3 hts gX4_gap_X4_of rfl rfl rfl (by decide +kernel) ⟨Nat.le_of_ble_eq_true rfl, Nat.le_of_ble_eq_true rfl⟩) hK hP rfl hl.1 rfl (Nat.le_of_ble_eq_true rfl) dX4_gap_20 ⟨Nat.zero_le _, Nat.zero_le _⟩ ?_
  refine lv_iload hx hb dX4_gap_23 (lv_at hl 0 rfl) ?_
  refine cpS (rest := [.int (f_X4_heightOf p1 (f_X4_crossingY T p0 p2))]) (As := [.int (f_X4_of T 1 p2 1), .int (f_X4_crossingY T p0 p2)]) E (c_X4_heightOf l G B T (f_X4_of T 1 p2 1) (f_X4_crossingY T p0 p2)) (va_cwS 2 hts gX4_gap_X4_heightOf rfl rfl rfl (by decide +kernel) ⟨Nat.le_of_ble_eq_true rfl, Nat.le_of_ble_eq_true rfl⟩) hK hP rfl hl.1 rfl (Nat.le_of_ble_eq_true rfl) dX4_gap_25 ⟨Nat.zero_le _, Nat.zero_le _⟩ ?_
  refine cpS (rest := []) (As := [.int (f_X4_heightOf p1 (f_X4_crossingY T p0 p2)), .int (f_X4_heightOf (f_X4_of T 1 p2 1) (f_X4_crossingY T p0 p2))]) E (c_X4_apart l G B T (f_X4_heightOf p1 (f_X4_crossingY T p0 p2)) (f_X4_heightOf (f_X4_of T 1 p2 1) (f_X4_crossingY T p0 p2))) (va_cwS 2 hts gX4_gap_X4_apart rfl rfl rfl (by decide +kernel) ⟨Nat.le_of_ble_eq_true rfl, Nat.le_of_ble_eq_true rfl⟩) hK hP rfl hl.1 rfl (Nat.le_of_ble_eq_true rfl) dX4_gap_28 ⟨Nat.zero_le _, Nat.zero_le _⟩ ?_
  exact endP hx hb hr hlocks rfl (Eq.symm ((e_X4_gap T p0 p1 p2))) dX4_gap_31
noncomputable def f_X4_cross (T : MS) (p0 p1 : Int32) : Int32 := opq (if (f_X4_hasWire T p0) = 0 then 0 else (if (f_X4_hasWire T p1) = 0 then 0 else (if (f_X4_crossingY T p0 p1) = (-5) then 0 else 1)))
theorem e_X4_cross (T : MS) (p0 p1 : Int32) : f_X4_cross T p0 p1 = (if (f_X4_hasWire T p0) = 0 then 0 else (if (f_X4_hasWire T p1) = 0 then 0 else (if (f_X4_crossingY T p0 p1) = (-5) then 0 else 1))) := opq_eq _
set_option maxHeartbeats 4000000 in
set_option maxRecDepth 100000 in
theorem c_X4_cross (l : Launch) (G : GG) (B : Nat → Nat) (T : MS) (p0 p1 : Int32) (hM : mok T) : Mp l yX4_cross wsX4_cross ({ frames := 3, cells := 0, slots := 0, locals := 63 } : Room) G [.ref (B 0), .int p0, .int p1] (wM G B T) (f_X4_cross T p0 p1) := by
  refine Mp.of (cc := cX4_cross) (maxL := 3) (ret := (some .boolean)) (by decide) rfl (Nat.le_of_ble_eq_true rfl) ?_
  intro p e s m args below meth c E hr hlocks hP hK ls hl
  have E : CallFix p m c cX4_cross 3 s args wsX4_cross RX4 := E
  have hx := E.1
  have hb := E.2.1
  have hml := E.2.2.1
  have hown := E.2.2.2.1
  have hts := E.2.2.2.2
  have hl : lv_has ls 3 [(0, .ref (B 0)), (1, .int p0), (2, .int p1)] := hl
  refine lv_aload_n hx hb dX4_cross_0 rfl (lv_at hl 0 rfl) ?_
  refine lv_iload_n hx hb dX4_cross_1 rfl (lv_at hl 1 rfl) ?_
  refine cpV (rest := []) (As := [.int p0]) E (c_X4_hasWire l G B T p0) (cwV 1 hts gX4_cross_X4_hasWire rfl rfl rfl (by decide +kernel) ⟨Nat.le_of_ble_eq_true rfl, Nat.le_of_ble_eq_true rfl⟩) hK hP 0 (wM_o G B T) rfl rfl hl.1 rfl (Nat.le_of_ble_eq_true rfl) dX4_cross_2 ⟨Nat.zero_le _, Nat.zero_le _⟩ ?_
  refine lv_if_eq (tgt := 31) hx hb dX4_cross_5 (by decide) (fun c1 => ?_) (fun c1 => ?_)
  · skip
    refine lv_iconst (v := 0) hx hb dX4_cross_31 (by decide) ?_
    exact endP hx hb hr hlocks rfl (Eq.symm (Eq.trans (e_X4_cross T p0 p1) ((if_pos c1)))) dX4_cross_32
  · skip
    refine lv_aload_n hx hb dX4_cross_8 rfl (lv_at hl 0 rfl) ?_
    refine lv_iload_n hx hb dX4_cross_9 rfl (lv_at hl 2 rfl) ?_
    refine cpV (rest := []) (As := [.int p1]) E (c_X4_hasWire l G B T p1) (cwV 1 hts gX4_cross_X4_hasWire rfl rfl rfl (by decide +kernel) ⟨Nat.le_of_ble_eq_true rfl, Nat.le_of_ble_eq_true rfl⟩) hK hP 0 (wM_o G B T) rfl rfl hl.1 rfl (Nat.le_of_ble_eq_true rfl) dX4_cross_10 ⟨Nat.zero_le _, Nat.zero_le _⟩ ?_
    refine lv_if_eq (tgt := 31) hx hb dX4_cross_13 (by decide) (fun c2 => ?_) (fun c2 => ?_)
    · skip
      refine lv_iconst (v := 0) hx hb dX4_cross_31 (by decide) ?_
      exact endP hx hb hr hlocks rfl (Eq.symm (Eq.trans (e_X4_cross T p0 p1) (Eq.trans (if_neg c1) ((if_pos c2))))) dX4_cross_32
    · skip
      refine lv_aload_n hx hb dX4_cross_16 rfl (lv_at hl 0 rfl) ?_
      refine lv_iload_n hx hb dX4_cross_17 rfl (lv_at hl 1 rfl) ?_
      refine lv_iload_n hx hb dX4_cross_18 rfl (lv_at hl 2 rfl) ?_
      refine cpV (rest := []) (As := [.int p0, .int p1]) E (c_X4_crossingY l G B T p0 p1 (wok_of hM c1) (wok_of hM c2)) (cwV 2 hts gX4_cross_X4_crossingY rfl rfl rfl (by decide +kernel) ⟨Nat.le_of_ble_eq_true rfl, Nat.le_of_ble_eq_true rfl⟩) hK hP 0 (wM_o G B T) rfl rfl hl.1 rfl (Nat.le_of_ble_eq_true rfl) dX4_cross_19 ⟨Nat.zero_le _, Nat.zero_le _⟩ ?_
      refine lv_bipush (v := (-5)) hx hb dX4_cross_22 (by decide) ?_
      refine lv_icmp_eq (tgt := 31) hx hb dX4_cross_24 (by decide) (fun c3 => ?_) (fun c3 => ?_)
      · skip
        refine lv_iconst (v := 0) hx hb dX4_cross_31 (by decide) ?_
        exact endP hx hb hr hlocks rfl (Eq.symm (Eq.trans (e_X4_cross T p0 p1) (Eq.trans (if_neg c1) (Eq.trans (if_neg c2) ((if_pos c3)))))) dX4_cross_32
      · skip
        refine lv_iconst (v := 1) hx hb dX4_cross_27 (by decide) ?_
        refine lv_goto (tgt := 32) hx hb dX4_cross_28 (by decide) ?_
        exact endP hx hb hr hlocks rfl (Eq.symm (Eq.trans (e_X4_cross T p0 p1) (Eq.trans (if_neg c1) (Eq.trans (if_neg c2) ((if_neg c3)))))) dX4_cross_32
theorem cross_wok {T : MS} {x y : Int32} (hM : mok T) (h : ¬ f_X4_cross T x y = 0) : wok T x ∧ wok T y := by
  rw [e_X4_cross] at h
  by_cases h0 : f_X4_hasWire T x = 0
  · exact absurd (if_pos h0) h
  rw [if_neg h0] at h
  by_cases h1 : f_X4_hasWire T y = 0
  · exact absurd (if_pos h1) h
  exact ⟨wok_of hM h0, wok_of hM h1⟩
noncomputable def g_X4_crossings_4 (T : MS) (p0 : Int32) : Nat → Nat → Int32 → Int32
  | 0, k, v => v
  | n + 1, k, v => opq (if 12 ≤ (nI k) then v else (if (f_X4_cross T p0 (nI k)) = 0 then (g_X4_crossings_4 T p0 n (k + 1) (v + 0)) else (g_X4_crossings_4 T p0 n (k + 1) (v + 1))))
theorem ge_X4_crossings_4 (T : MS) (p0 : Int32) (n : Nat) (k : Nat) (v : Int32) : g_X4_crossings_4 T p0 (n + 1) k v = (if 12 ≤ (nI k) then v else (if (f_X4_cross T p0 (nI k)) = 0 then (g_X4_crossings_4 T p0 n (k + 1) (v + 0)) else (g_X4_crossings_4 T p0 n (k + 1) (v + 1)))) := opq_eq _
noncomputable def f_X4_crossings (T : MS) (p0 : Int32) : Int32 := opq (g_X4_crossings_4 T p0 13 0 0)
theorem e_X4_crossings (T : MS) (p0 : Int32) : f_X4_crossings T p0 = (g_X4_crossings_4 T p0 13 0 0) := opq_eq _
set_option maxHeartbeats 4000000 in
set_option maxRecDepth 100000 in
theorem c_X4_crossings (l : Launch) (G : GG) (B : Nat → Nat) (T : MS) (p0 : Int32) (hM : mok T) : Mp l yX4_crossings wsX4_crossings ({ frames := 4, cells := 0, slots := 0, locals := 85 } : Room) G [.ref (B 0), .int p0] (wM G B T) (f_X4_crossings T p0) := by
  refine Mp.of (cc := cX4_crossings) (maxL := 4) (ret := (some .int)) (by decide) rfl (Nat.le_of_ble_eq_true rfl) ?_
  intro p e s m args below meth c E hr hlocks hP hK ls hl
  have E : CallFix p m c cX4_crossings 4 s args wsX4_crossings RX4 := E
  have hx := E.1
  have hb := E.2.1
  have hml := E.2.2.1
  have hown := E.2.2.2.1
  have hts := E.2.2.2.2
  have hl : lv_has ls 4 [(0, .ref (B 0)), (1, .int p0)] := hl
  have LOOP4 : ∀ (n : Nat) (k : Nat) (v : Int32) (Q : State → Prop), (k ≤ 12) → (12 < k + n) → ∀ V : Int32, g_X4_crossings_4 T p0 n k v = V → (∀ ls : Array Slot, lv_has ls 4 [(2, .int V)] → W p l e ({ frames := 4, cells := 0, slots := 0, locals := 85 } : Room) s m args below meth c s.heap [] 0 0 (Q) (F0 m 33 ls [])) → ∀ ls : Array Slot, lv_has ls 4 [(0, .ref (B 0)), (1, .int p0), (2, .int v), (3, .int (nI k))] → W p l e ({ frames := 4, cells := 0, slots := 0, locals := 85 } : Room) s m args below meth c s.heap [] 0 0 (Q) (F0 m 4 ls []) := by
    intro n
    induction n with
    | zero =>
      intro k v Q hk hn
      exact absurd hn (by omega)
    | succ n ih =>
      intro k v Q hk hn V hres kk ls hl
      have hl : lv_has ls 4 [(0, .ref (B 0)), (1, .int p0), (2, .int v), (3, .int (nI k))] := hl
      refine lv_iload_n hx hb dX4_crossings_4 rfl (lv_at hl 3 rfl) ?_
      refine lv_bipush (v := 12) hx hb dX4_crossings_5 (by decide) ?_
      refine lv_icmp_ge (tgt := 33) hx hb dX4_crossings_7 (by decide) (fun c1 => ?_) (fun c1 => ?_)
      · skip
        have hfin : v = V := Eq.trans (Eq.symm (Eq.trans (ge_X4_crossings_4 T p0 n k v) ((if_pos c1)))) hres
        subst hfin
        exact kk _ (lv_sub hl [2] rfl)
      · skip
        have hk2 : k < 12 := lt_of_nle (N := 12) rfl hk c1 (by decide)
        refine lv_iload_n hx hb dX4_crossings_10 rfl (lv_at hl 2 rfl) ?_
        refine lv_aload_n hx hb dX4_crossings_11 rfl (lv_at hl 0 rfl) ?_
        refine lv_iload_n hx hb dX4_crossings_12 rfl (lv_at hl 1 rfl) ?_
        refine lv_iload_n hx hb dX4_crossings_13 rfl (lv_at hl 3 rfl) ?_
        refine cpV (rest := [.int v]) (As := [.int p0, .int (nI k)]) E (c_X4_cross l G B T p0 (nI k) hM) (cwV 2 hts gX4_crossings_X4_cross rfl rfl rfl (by decide +kernel) ⟨Nat.le_of_ble_eq_true rfl, Nat.le_of_ble_eq_true rfl⟩) hK hP 0 (wM_o G B T) rfl rfl hl.1 rfl (Nat.le_of_ble_eq_true rfl) dX4_crossings_14 ⟨Nat.zero_le _, Nat.zero_le _⟩ ?_
        refine lv_if_eq (tgt := 24) hx hb dX4_crossings_17 (by decide) (fun c2 => ?_) (fun c2 => ?_)
        · skip
          refine lv_iconst (v := 0) hx hb dX4_crossings_24 (by decide) ?_
          refine lv_iadd hx hb dX4_crossings_25 ?_
          refine lv_istore_n (lv' := [(2, .int (v + 0)), (0, .ref (B 0)), (1, .int p0), (3, .int (nI k))]) hx hb dX4_crossings_26 rfl hl (by decide) rfl (fun ls hl => ?_)
          refine lv_iinc (v := (nI (k + 1))) (lv' := [(3, .int (nI (k + 1))), (2, .int (v + 0)), (0, .ref (B 0)), (1, .int p0)]) hx hb dX4_crossings_27 hl (k := 3) rfl (nI_1 k) (by decide) rfl (fun ls hl => ?_)
          refine lv_goto (tgt := 4) hx hb dX4_crossings_30 (by decide) ?_
          exact ih (k + 1) (v + 0) Q (by omega) (by omega) V (Eq.trans (Eq.symm (Eq.trans (ge_X4_crossings_4 T p0 n k v) (Eq.trans (if_neg c1) ((if_pos c2))))) hres) kk  _ (lv_sub hl [2, 3, 1, 0] rfl)
        · skip
          refine lv_iconst (v := 1) hx hb dX4_crossings_20 (by decide) ?_
          refine lv_goto (tgt := 25) hx hb dX4_crossings_21 (by decide) ?_
          refine lv_iadd hx hb dX4_crossings_25 ?_
          refine lv_istore_n (lv' := [(2, .int (v + 1)), (0, .ref (B 0)), (1, .int p0), (3, .int (nI k))]) hx hb dX4_crossings_26 rfl hl (by decide) rfl (fun ls hl => ?_)
          refine lv_iinc (v := (nI (k + 1))) (lv' := [(3, .int (nI (k + 1))), (2, .int (v + 1)), (0, .ref (B 0)), (1, .int p0)]) hx hb dX4_crossings_27 hl (k := 3) rfl (nI_1 k) (by decide) rfl (fun ls hl => ?_)
          refine lv_goto (tgt := 4) hx hb dX4_crossings_30 (by decide) ?_
          exact ih (k + 1) (v + 1) Q (by omega) (by omega) V (Eq.trans (Eq.symm (Eq.trans (ge_X4_crossings_4 T p0 n k v) (Eq.trans (if_neg c1) ((if_neg c2))))) hres) kk  _ (lv_sub hl [2, 3, 1, 0] rfl)
  refine lv_iconst (v := 0) hx hb dX4_crossings_0 (by decide) ?_
  refine lv_istore_n (lv' := [(2, .int 0), (0, .ref (B 0)), (1, .int p0)]) hx hb dX4_crossings_1 rfl hl (by decide) rfl (fun ls hl => ?_)
  refine lv_iconst (v := 0) hx hb dX4_crossings_2 (by decide) ?_
  refine lv_istore_n (lv' := [(3, .int 0), (2, .int 0), (0, .ref (B 0)), (1, .int p0)]) hx hb dX4_crossings_3 rfl hl (by decide) rfl (fun ls hl => ?_)
  refine LOOP4 13 0 0 _ (by omega) (by omega) _ rfl (fun ls hl => ?_)  _ (lv_sub hl [2, 3, 1, 0] rfl)
  have hl : lv_has ls 4 [(2, .int (g_X4_crossings_4 T p0 13 0 0))] := hl
  refine lv_iload_n hx hb dX4_crossings_33 rfl (lv_at hl 0 rfl) ?_
  exact endP hx hb hr hlocks rfl (Eq.symm ((e_X4_crossings T p0))) dX4_crossings_34
noncomputable def g_X4_shortOnes_5 (T : MS) (p0 p1 : Int32) : Nat → Nat → Int32 → Int32
  | 0, k, v => v
  | n + 1, k, v => opq (if 12 ≤ (nI k) then v else (if (f_X4_cross T p0 (nI k)) = 0 then (g_X4_shortOnes_5 T p0 p1 n (k + 1) (v + 0)) else (if ((T 1) 64) ≤ (f_X4_gap T p0 p1 (nI k)) then (g_X4_shortOnes_5 T p0 p1 n (k + 1) (v + 0)) else (g_X4_shortOnes_5 T p0 p1 n (k + 1) (v + 1)))))
theorem ge_X4_shortOnes_5 (T : MS) (p0 p1 : Int32) (n : Nat) (k : Nat) (v : Int32) : g_X4_shortOnes_5 T p0 p1 (n + 1) k v = (if 12 ≤ (nI k) then v else (if (f_X4_cross T p0 (nI k)) = 0 then (g_X4_shortOnes_5 T p0 p1 n (k + 1) (v + 0)) else (if ((T 1) 64) ≤ (f_X4_gap T p0 p1 (nI k)) then (g_X4_shortOnes_5 T p0 p1 n (k + 1) (v + 0)) else (g_X4_shortOnes_5 T p0 p1 n (k + 1) (v + 1))))) := opq_eq _
noncomputable def f_X4_shortOnes (T : MS) (p0 p1 : Int32) : Int32 := opq (g_X4_shortOnes_5 T p0 p1 13 0 0)
theorem e_X4_shortOnes (T : MS) (p0 p1 : Int32) : f_X4_shortOnes T p0 p1 = (g_X4_shortOnes_5 T p0 p1 13 0 0) := opq_eq _
set_option maxHeartbeats 4000000 in
set_option maxRecDepth 100000 in
theorem c_X4_shortOnes (l : Launch) (G : GG) (B : Nat → Nat) (T : MS) (p0 p1 : Int32) (hM : mok T) : Mp l yX4_shortOnes wsX4_shortOnes ({ frames := 4, cells := 0, slots := 0, locals := 85 } : Room) G [.ref (B 0), .int p0, .int p1] (wM G B T) (f_X4_shortOnes T p0 p1) := by
  refine Mp.of (cc := cX4_shortOnes) (maxL := 5) (ret := (some .int)) (by decide) rfl (Nat.le_of_ble_eq_true rfl) ?_
  intro p e s m args below meth c E hr hlocks hP hK ls hl
  have E : CallFix p m c cX4_shortOnes 5 s args wsX4_shortOnes RX4 := E
  have hx := E.1
  have hb := E.2.1
  have hml := E.2.2.1
  have hown := E.2.2.2.1
  have hts := E.2.2.2.2
  have hl : lv_has ls 5 [(0, .ref (B 0)), (1, .int p0), (2, .int p1)] := hl
  have hinX4 : ∀ w ∈ u_ws RX4 TX4 11, w ∈ wsX4_shortOnes := fun _ h => List.mem_cons_of_mem _ (List.mem_append_right _ h)
  have LOOP5 : ∀ (n : Nat) (k : Nat) (v : Int32) (Q : State → Prop), (k ≤ 12) → (12 < k + n) → ∀ V : Int32, g_X4_shortOnes_5 T p0 p1 n k v = V → (∀ ls : Array Slot, lv_has ls 5 [(3, .int V)] → W p l e ({ frames := 4, cells := 0, slots := 0, locals := 85 } : Room) s m args below meth c s.heap [] 0 0 (Q) (F0 m 54 ls [])) → ∀ ls : Array Slot, lv_has ls 5 [(0, .ref (B 0)), (1, .int p0), (2, .int p1), (3, .int v), (4, .int (nI k))] → W p l e ({ frames := 4, cells := 0, slots := 0, locals := 85 } : Room) s m args below meth c s.heap [] 0 0 (Q) (F0 m 5 ls []) := by
    intro n
    induction n with
    | zero =>
      intro k v Q hk hn
      exact absurd hn (by omega)
    | succ n ih =>
      intro k v Q hk hn V hres kk ls hl
      have hl : lv_has ls 5 [(0, .ref (B 0)), (1, .int p0), (2, .int p1), (3, .int v), (4, .int (nI k))] := hl
      refine lv_iload hx hb dX4_shortOnes_5 (lv_at hl 4 rfl) ?_
      refine lv_bipush (v := 12) hx hb dX4_shortOnes_7 (by decide) ?_
      refine lv_icmp_ge (tgt := 54) hx hb dX4_shortOnes_9 (by decide) (fun c1 => ?_) (fun c1 => ?_)
      · skip
        have hfin : v = V := Eq.trans (Eq.symm (Eq.trans (ge_X4_shortOnes_5 T p0 p1 n k v) ((if_pos c1)))) hres
        subst hfin
        exact kk _ (lv_sub hl [3] rfl)
      · skip
        have hk2 : k < 12 := lt_of_nle (N := 12) rfl hk c1 (by decide)
        refine lv_iload_n hx hb dX4_shortOnes_12 rfl (lv_at hl 3 rfl) ?_
        refine lv_aload_n hx hb dX4_shortOnes_13 rfl (lv_at hl 0 rfl) ?_
        refine lv_iload_n hx hb dX4_shortOnes_14 rfl (lv_at hl 1 rfl) ?_
        refine lv_iload hx hb dX4_shortOnes_15 (lv_at hl 4 rfl) ?_
        refine cpV (rest := [.int v]) (As := [.int p0, .int (nI k)]) E (c_X4_cross l G B T p0 (nI k) hM) (cwV 2 hts gX4_shortOnes_X4_cross rfl rfl rfl (by decide +kernel) ⟨Nat.le_of_ble_eq_true rfl, Nat.le_of_ble_eq_true rfl⟩) hK hP 0 (wM_o G B T) rfl rfl hl.1 rfl (Nat.le_of_ble_eq_true rfl) dX4_shortOnes_17 ⟨Nat.zero_le _, Nat.zero_le _⟩ ?_
        refine lv_if_eq (tgt := 45) hx hb dX4_shortOnes_20 (by decide) (fun c2 => ?_) (fun c2 => ?_)
        · skip
          refine lv_iconst (v := 0) hx hb dX4_shortOnes_45 (by decide) ?_
          refine lv_iadd hx hb dX4_shortOnes_46 ?_
          refine lv_istore_n (lv' := [(3, .int (v + 0)), (0, .ref (B 0)), (1, .int p0), (2, .int p1), (4, .int (nI k))]) hx hb dX4_shortOnes_47 rfl hl (by decide) rfl (fun ls hl => ?_)
          refine lv_iinc (v := (nI (k + 1))) (lv' := [(4, .int (nI (k + 1))), (3, .int (v + 0)), (0, .ref (B 0)), (1, .int p0), (2, .int p1)]) hx hb dX4_shortOnes_48 hl (k := 4) rfl (nI_1 k) (by decide) rfl (fun ls hl => ?_)
          refine lv_goto (tgt := 5) hx hb dX4_shortOnes_51 (by decide) ?_
          exact ih (k + 1) (v + 0) Q (by omega) (by omega) V (Eq.trans (Eq.symm (Eq.trans (ge_X4_shortOnes_5 T p0 p1 n k v) (Eq.trans (if_neg c1) ((if_pos c2))))) hres) kk  _ (lv_sub hl [2, 3, 4, 1, 0] rfl)
        · skip
          refine lv_aload_n hx hb dX4_shortOnes_23 rfl (lv_at hl 0 rfl) ?_
          refine lv_iload_n hx hb dX4_shortOnes_24 rfl (lv_at hl 1 rfl) ?_
          refine lv_iload_n hx hb dX4_shortOnes_25 rfl (lv_at hl 2 rfl) ?_
          refine lv_iload hx hb dX4_shortOnes_26 (lv_at hl 4 rfl) ?_
          refine cpV (rest := [.int v]) (As := [.int p0, .int p1, .int (nI k)]) E (c_X4_gap l G B T p0 p1 (nI k) (cross_wok hM c2).1 (cross_wok hM c2).2) (cwV 3 hts gX4_shortOnes_X4_gap rfl rfl rfl (by decide +kernel) ⟨Nat.le_of_ble_eq_true rfl, Nat.le_of_ble_eq_true rfl⟩) hK hP 0 (wM_o G B T) rfl rfl hl.1 rfl (Nat.le_of_ble_eq_true rfl) dX4_shortOnes_28 ⟨Nat.zero_le _, Nat.zero_le _⟩ ?_
          refine lv_aload_n hx hb dX4_shortOnes_31 rfl (lv_at hl 0 rfl) ?_
          refine va_get (D := G.1) (ci := 4) (v := .ref (B 1)) (C := RX4) (T := TX4) (N := 11) hx hb hts hinX4 hown hK.1 hP 0 (wM_o G B T) rfl 0 (by decide) (hts (.fieldLink RX4 7 "WireLoopsModel" "now" "[I") (List.mem_of_getElem? (i := 1) rfl)) (fun _ h9 => h9) rfl dX4_shortOnes_32 ?_
          refine lv_bipush (v := 64) hx hb dX4_shortOnes_35 (by decide) ?_
          refine va_iald (D := G.1) hx hb hK.1 hP 1 0 (wM_j G B T 1 (by decide) (by decide)) rfl (cin 64 1 (by decide)) dX4_shortOnes_37 ?_
          refine W.eq (g2 := F0 m 38 ls [.int ((T 1) 64), .int (f_X4_gap T p0 p1 (nI k)), .int v]) (by rw [show (64 : Int32).toNatClampNeg = 64 from by decide] <;> rfl) ?_
          refine lv_icmp_ge (tgt := 45) hx hb dX4_shortOnes_38 (by decide) (fun c3 => ?_) (fun c3 => ?_)
          · skip
            refine lv_iconst (v := 0) hx hb dX4_shortOnes_45 (by decide) ?_
            refine lv_iadd hx hb dX4_shortOnes_46 ?_
            refine lv_istore_n (lv' := [(3, .int (v + 0)), (0, .ref (B 0)), (1, .int p0), (2, .int p1), (4, .int (nI k))]) hx hb dX4_shortOnes_47 rfl hl (by decide) rfl (fun ls hl => ?_)
            refine lv_iinc (v := (nI (k + 1))) (lv' := [(4, .int (nI (k + 1))), (3, .int (v + 0)), (0, .ref (B 0)), (1, .int p0), (2, .int p1)]) hx hb dX4_shortOnes_48 hl (k := 4) rfl (nI_1 k) (by decide) rfl (fun ls hl => ?_)
            refine lv_goto (tgt := 5) hx hb dX4_shortOnes_51 (by decide) ?_
            exact ih (k + 1) (v + 0) Q (by omega) (by omega) V (Eq.trans (Eq.symm (Eq.trans (ge_X4_shortOnes_5 T p0 p1 n k v) (Eq.trans (if_neg c1) (Eq.trans (if_neg c2) ((if_pos c3)))))) hres) kk  _ (lv_sub hl [2, 3, 4, 1, 0] rfl)
          · skip
            refine lv_iconst (v := 1) hx hb dX4_shortOnes_41 (by decide) ?_
            refine lv_goto (tgt := 46) hx hb dX4_shortOnes_42 (by decide) ?_
            refine lv_iadd hx hb dX4_shortOnes_46 ?_
            refine lv_istore_n (lv' := [(3, .int (v + 1)), (0, .ref (B 0)), (1, .int p0), (2, .int p1), (4, .int (nI k))]) hx hb dX4_shortOnes_47 rfl hl (by decide) rfl (fun ls hl => ?_)
            refine lv_iinc (v := (nI (k + 1))) (lv' := [(4, .int (nI (k + 1))), (3, .int (v + 1)), (0, .ref (B 0)), (1, .int p0), (2, .int p1)]) hx hb dX4_shortOnes_48 hl (k := 4) rfl (nI_1 k) (by decide) rfl (fun ls hl => ?_)
            refine lv_goto (tgt := 5) hx hb dX4_shortOnes_51 (by decide) ?_
            exact ih (k + 1) (v + 1) Q (by omega) (by omega) V (Eq.trans (Eq.symm (Eq.trans (ge_X4_shortOnes_5 T p0 p1 n k v) (Eq.trans (if_neg c1) (Eq.trans (if_neg c2) ((if_neg c3)))))) hres) kk  _ (lv_sub hl [2, 3, 4, 1, 0] rfl)
  refine lv_iconst (v := 0) hx hb dX4_shortOnes_0 (by decide) ?_
  refine lv_istore_n (lv' := [(3, .int 0), (0, .ref (B 0)), (1, .int p0), (2, .int p1)]) hx hb dX4_shortOnes_1 rfl hl (by decide) rfl (fun ls hl => ?_)
  refine lv_iconst (v := 0) hx hb dX4_shortOnes_2 (by decide) ?_
  refine lv_istore (lv' := [(4, .int 0), (3, .int 0), (0, .ref (B 0)), (1, .int p0), (2, .int p1)]) hx hb dX4_shortOnes_3 hl (by decide) rfl (fun ls hl => ?_)
  refine LOOP5 13 0 0 _ (by omega) (by omega) _ rfl (fun ls hl => ?_)  _ (lv_sub hl [2, 3, 4, 1, 0] rfl)
  have hl : lv_has ls 5 [(3, .int (g_X4_shortOnes_5 T p0 p1 13 0 0))] := hl
  refine lv_iload_n hx hb dX4_shortOnes_54 rfl (lv_at hl 0 rfl) ?_
  exact endP hx hb hr hlocks rfl (Eq.symm ((e_X4_shortOnes T p0 p1))) dX4_shortOnes_55
noncomputable def g_X4_leastGap_5 (T : MS) (p0 : Int32) : Nat → Nat → Int32 → Int32
  | 0, k, v => v
  | n + 1, k, v => opq (if 12 ≤ (nI k) then v else (if (f_X4_cross T p0 (nI k)) = 0 then (g_X4_leastGap_5 T p0 n (k + 1) v) else (if v = (-5) then (g_X4_leastGap_5 T p0 n (k + 1) (f_X4_gap T p0 (f_X4_of T 1 p0 1) (nI k))) else (if v ≤ (f_X4_gap T p0 (f_X4_of T 1 p0 1) (nI k)) then (g_X4_leastGap_5 T p0 n (k + 1) v) else (g_X4_leastGap_5 T p0 n (k + 1) (f_X4_gap T p0 (f_X4_of T 1 p0 1) (nI k)))))))
theorem ge_X4_leastGap_5 (T : MS) (p0 : Int32) (n : Nat) (k : Nat) (v : Int32) : g_X4_leastGap_5 T p0 (n + 1) k v = (if 12 ≤ (nI k) then v else (if (f_X4_cross T p0 (nI k)) = 0 then (g_X4_leastGap_5 T p0 n (k + 1) v) else (if v = (-5) then (g_X4_leastGap_5 T p0 n (k + 1) (f_X4_gap T p0 (f_X4_of T 1 p0 1) (nI k))) else (if v ≤ (f_X4_gap T p0 (f_X4_of T 1 p0 1) (nI k)) then (g_X4_leastGap_5 T p0 n (k + 1) v) else (g_X4_leastGap_5 T p0 n (k + 1) (f_X4_gap T p0 (f_X4_of T 1 p0 1) (nI k))))))) := opq_eq _
noncomputable def f_X4_leastGap (T : MS) (p0 : Int32) : Int32 := opq (g_X4_leastGap_5 T p0 13 0 (-5))
theorem e_X4_leastGap (T : MS) (p0 : Int32) : f_X4_leastGap T p0 = (g_X4_leastGap_5 T p0 13 0 (-5)) := opq_eq _
set_option maxHeartbeats 4000000 in
set_option maxRecDepth 100000 in
theorem c_X4_leastGap (l : Launch) (G : GG) (B : Nat → Nat) (T : MS) (p0 : Int32) (hM : mok T) : Mp l yX4_leastGap wsX4_leastGap ({ frames := 4, cells := 0, slots := 0, locals := 85 } : Room) G [.ref (B 0), .int p0] (wM G B T) (f_X4_leastGap T p0) := by
  refine Mp.of (cc := cX4_leastGap) (maxL := 5) (ret := (some .int)) (by decide) rfl (Nat.le_of_ble_eq_true rfl) ?_
  intro p e s m args below meth c E hr hlocks hP hK ls hl
  have E : CallFix p m c cX4_leastGap 5 s args wsX4_leastGap RX4 := E
  have hx := E.1
  have hb := E.2.1
  have hml := E.2.2.1
  have hown := E.2.2.2.1
  have hts := E.2.2.2.2
  have hl : lv_has ls 5 [(0, .ref (B 0)), (1, .int p0)] := hl
  have hinX4 : ∀ w ∈ u_ws RX4 TX4 11, w ∈ wsX4_leastGap := fun _ h => List.mem_cons_of_mem _ (List.mem_append_right _ h)
  have LOOP5 : ∀ (n : Nat) (k : Nat) (v : Int32) (Q : State → Prop), (k ≤ 12) → (12 < k + n) → ∀ V : Int32, g_X4_leastGap_5 T p0 n k v = V → (∀ ls : Array Slot, lv_has ls 5 [(2, .int V)] → W p l e ({ frames := 4, cells := 0, slots := 0, locals := 85 } : Room) s m args below meth c s.heap [] 0 0 (Q) (F0 m 62 ls [])) → ∀ ls : Array Slot, lv_has ls 5 [(0, .ref (B 0)), (1, .int p0), (2, .int v), (3, .int (nI k))] → W p l e ({ frames := 4, cells := 0, slots := 0, locals := 85 } : Room) s m args below meth c s.heap [] 0 0 (Q) (F0 m 5 ls []) := by
    intro n
    induction n with
    | zero =>
      intro k v Q hk hn
      exact absurd hn (by omega)
    | succ n ih =>
      intro k v Q hk hn V hres kk ls hl
      have hl : lv_has ls 5 [(0, .ref (B 0)), (1, .int p0), (2, .int v), (3, .int (nI k))] := hl
      refine lv_iload_n hx hb dX4_leastGap_5 rfl (lv_at hl 3 rfl) ?_
      refine lv_bipush (v := 12) hx hb dX4_leastGap_6 (by decide) ?_
      refine lv_icmp_ge (tgt := 62) hx hb dX4_leastGap_8 (by decide) (fun c1 => ?_) (fun c1 => ?_)
      · skip
        have hfin : v = V := Eq.trans (Eq.symm (Eq.trans (ge_X4_leastGap_5 T p0 n k v) ((if_pos c1)))) hres
        subst hfin
        exact kk _ (lv_sub hl [2] rfl)
      · skip
        have hk2 : k < 12 := lt_of_nle (N := 12) rfl hk c1 (by decide)
        refine lv_aload_n hx hb dX4_leastGap_11 rfl (lv_at hl 0 rfl) ?_
        refine lv_iload_n hx hb dX4_leastGap_12 rfl (lv_at hl 1 rfl) ?_
        refine lv_iload_n hx hb dX4_leastGap_13 rfl (lv_at hl 3 rfl) ?_
        refine cpV (rest := []) (As := [.int p0, .int (nI k)]) E (c_X4_cross l G B T p0 (nI k) hM) (cwV 2 hts gX4_leastGap_X4_cross rfl rfl rfl (by decide +kernel) ⟨Nat.le_of_ble_eq_true rfl, Nat.le_of_ble_eq_true rfl⟩) hK hP 0 (wM_o G B T) rfl rfl hl.1 rfl (Nat.le_of_ble_eq_true rfl) dX4_leastGap_14 ⟨Nat.zero_le _, Nat.zero_le _⟩ ?_
        refine lv_if_eq (tgt := 56) hx hb dX4_leastGap_17 (by decide) (fun c2 => ?_) (fun c2 => ?_)
        · skip
          refine lv_iinc (v := (nI (k + 1))) (lv' := [(3, .int (nI (k + 1))), (0, .ref (B 0)), (1, .int p0), (2, .int v)]) hx hb dX4_leastGap_56 hl (k := 3) rfl (nI_1 k) (by decide) rfl (fun ls hl => ?_)
          refine lv_goto (tgt := 5) hx hb dX4_leastGap_59 (by decide) ?_
          exact ih (k + 1) v Q (by omega) (by omega) V (Eq.trans (Eq.symm (Eq.trans (ge_X4_leastGap_5 T p0 n k v) (Eq.trans (if_neg c1) ((if_pos c2))))) hres) kk  _ (lv_sub hl [1, 2, 3, 0] rfl)
        · skip
          refine lv_aload_n hx hb dX4_leastGap_20 rfl (lv_at hl 0 rfl) ?_
          refine lv_iload_n hx hb dX4_leastGap_21 rfl (lv_at hl 1 rfl) ?_
          refine lv_aload_n hx hb dX4_leastGap_22 rfl (lv_at hl 0 rfl) ?_
          refine va_get (D := G.1) (ci := 4) (v := .ref (B 1)) (C := RX4) (T := TX4) (N := 11) hx hb hts hinX4 hown hK.1 hP 0 (wM_o G B T) rfl 0 (by decide) (hts (.fieldLink RX4 7 "WireLoopsModel" "now" "[I") (List.mem_of_getElem? (i := 1) rfl)) (fun _ h9 => h9) rfl dX4_leastGap_23 ?_
          refine lv_iload_n hx hb dX4_leastGap_26 rfl (lv_at hl 1 rfl) ?_
          refine lv_iconst (v := 1) hx hb dX4_leastGap_27 (by decide) ?_
          refine cpS (rest := [.int p0, .ref (B 0)]) (As := [.ref (B 1), .int p0, .int 1]) E (c_X4_of l G B T 1 p0 1 (by decide) (by decide) (of_in 1 (cross_wok hM c2).1.1 w1)) (va_cwS 3 hts gX4_leastGap_X4_of rfl rfl rfl (by decide +kernel) ⟨Nat.le_of_ble_eq_true rfl, Nat.le_of_ble_eq_true rfl⟩) hK hP rfl hl.1 rfl (Nat.le_of_ble_eq_true rfl) dX4_leastGap_28 ⟨Nat.zero_le _, Nat.zero_le _⟩ ?_
          refine lv_iload_n hx hb dX4_leastGap_31 rfl (lv_at hl 3 rfl) ?_
          refine cpV (rest := []) (As := [.int p0, .int (f_X4_of T 1 p0 1), .int (nI k)]) E (c_X4_gap l G B T p0 (f_X4_of T 1 p0 1) (nI k) (cross_wok hM c2).1 (cross_wok hM c2).2) (cwV 3 hts gX4_leastGap_X4_gap rfl rfl rfl (by decide +kernel) ⟨Nat.le_of_ble_eq_true rfl, Nat.le_of_ble_eq_true rfl⟩) hK hP 0 (wM_o G B T) rfl rfl hl.1 rfl (Nat.le_of_ble_eq_true rfl) dX4_leastGap_32 ⟨Nat.zero_le _, Nat.zero_le _⟩ ?_
          refine lv_istore (lv' := [(4, .int (f_X4_gap T p0 (f_X4_of T 1 p0 1) (nI k))), (0, .ref (B 0)), (1, .int p0), (2, .int v), (3, .int (nI k))]) hx hb dX4_leastGap_35 hl (by decide) rfl (fun ls hl => ?_)
          refine lv_iload_n hx hb dX4_leastGap_37 rfl (lv_at hl 3 rfl) ?_
          refine lv_bipush (v := (-5)) hx hb dX4_leastGap_38 (by decide) ?_
          refine lv_icmp_eq (tgt := 49) hx hb dX4_leastGap_40 (by decide) (fun c3 => ?_) (fun c3 => ?_)
          · skip
            refine lv_iload hx hb dX4_leastGap_49 (lv_at hl 0 rfl) ?_
            refine lv_goto (tgt := 55) hx hb dX4_leastGap_51 (by decide) ?_
            refine lv_istore_n (lv' := [(2, .int (f_X4_gap T p0 (f_X4_of T 1 p0 1) (nI k))), (4, .int (f_X4_gap T p0 (f_X4_of T 1 p0 1) (nI k))), (0, .ref (B 0)), (1, .int p0), (3, .int (nI k))]) hx hb dX4_leastGap_55 rfl hl (by decide) rfl (fun ls hl => ?_)
            refine lv_iinc (v := (nI (k + 1))) (lv' := [(3, .int (nI (k + 1))), (2, .int (f_X4_gap T p0 (f_X4_of T 1 p0 1) (nI k))), (4, .int (f_X4_gap T p0 (f_X4_of T 1 p0 1) (nI k))), (0, .ref (B 0)), (1, .int p0)]) hx hb dX4_leastGap_56 hl (k := 4) rfl (nI_1 k) (by decide) rfl (fun ls hl => ?_)
            refine lv_goto (tgt := 5) hx hb dX4_leastGap_59 (by decide) ?_
            exact ih (k + 1) (f_X4_gap T p0 (f_X4_of T 1 p0 1) (nI k)) Q (by omega) (by omega) V (Eq.trans (Eq.symm (Eq.trans (ge_X4_leastGap_5 T p0 n k v) (Eq.trans (if_neg c1) (Eq.trans (if_neg c2) ((if_pos c3)))))) hres) kk  _ (lv_sub hl [3, 4, 1, 0] rfl)
          · skip
            refine lv_iload hx hb dX4_leastGap_43 (lv_at hl 0 rfl) ?_
            refine lv_iload_n hx hb dX4_leastGap_45 rfl (lv_at hl 3 rfl) ?_
            refine lv_icmp_ge (tgt := 54) hx hb dX4_leastGap_46 (by decide) (fun c4 => ?_) (fun c4 => ?_)
            · skip
              refine lv_iload_n hx hb dX4_leastGap_54 rfl (lv_at hl 3 rfl) ?_
              refine lv_istore_n (lv' := [(2, .int v), (4, .int (f_X4_gap T p0 (f_X4_of T 1 p0 1) (nI k))), (0, .ref (B 0)), (1, .int p0), (3, .int (nI k))]) hx hb dX4_leastGap_55 rfl hl (by decide) rfl (fun ls hl => ?_)
              refine lv_iinc (v := (nI (k + 1))) (lv' := [(3, .int (nI (k + 1))), (2, .int v), (4, .int (f_X4_gap T p0 (f_X4_of T 1 p0 1) (nI k))), (0, .ref (B 0)), (1, .int p0)]) hx hb dX4_leastGap_56 hl (k := 4) rfl (nI_1 k) (by decide) rfl (fun ls hl => ?_)
              refine lv_goto (tgt := 5) hx hb dX4_leastGap_59 (by decide) ?_
              exact ih (k + 1) v Q (by omega) (by omega) V (Eq.trans (Eq.symm (Eq.trans (ge_X4_leastGap_5 T p0 n k v) (Eq.trans (if_neg c1) (Eq.trans (if_neg c2) (Eq.trans (if_neg c3) ((if_pos c4))))))) hres) kk  _ (lv_sub hl [3, 4, 1, 0] rfl)
            · skip
              refine lv_iload hx hb dX4_leastGap_49 (lv_at hl 0 rfl) ?_
              refine lv_goto (tgt := 55) hx hb dX4_leastGap_51 (by decide) ?_
              refine lv_istore_n (lv' := [(2, .int (f_X4_gap T p0 (f_X4_of T 1 p0 1) (nI k))), (4, .int (f_X4_gap T p0 (f_X4_of T 1 p0 1) (nI k))), (0, .ref (B 0)), (1, .int p0), (3, .int (nI k))]) hx hb dX4_leastGap_55 rfl hl (by decide) rfl (fun ls hl => ?_)
              refine lv_iinc (v := (nI (k + 1))) (lv' := [(3, .int (nI (k + 1))), (2, .int (f_X4_gap T p0 (f_X4_of T 1 p0 1) (nI k))), (4, .int (f_X4_gap T p0 (f_X4_of T 1 p0 1) (nI k))), (0, .ref (B 0)), (1, .int p0)]) hx hb dX4_leastGap_56 hl (k := 4) rfl (nI_1 k) (by decide) rfl (fun ls hl => ?_)
              refine lv_goto (tgt := 5) hx hb dX4_leastGap_59 (by decide) ?_
              exact ih (k + 1) (f_X4_gap T p0 (f_X4_of T 1 p0 1) (nI k)) Q (by omega) (by omega) V (Eq.trans (Eq.symm (Eq.trans (ge_X4_leastGap_5 T p0 n k v) (Eq.trans (if_neg c1) (Eq.trans (if_neg c2) (Eq.trans (if_neg c3) ((if_neg c4))))))) hres) kk  _ (lv_sub hl [3, 4, 1, 0] rfl)
  refine lv_bipush (v := (-5)) hx hb dX4_leastGap_0 (by decide) ?_
  refine lv_istore_n (lv' := [(2, .int (-5)), (0, .ref (B 0)), (1, .int p0)]) hx hb dX4_leastGap_2 rfl hl (by decide) rfl (fun ls hl => ?_)
  refine lv_iconst (v := 0) hx hb dX4_leastGap_3 (by decide) ?_
  refine lv_istore_n (lv' := [(3, .int 0), (2, .int (-5)), (0, .ref (B 0)), (1, .int p0)]) hx hb dX4_leastGap_4 rfl hl (by decide) rfl (fun ls hl => ?_)
  refine LOOP5 13 0 (-5) _ (by omega) (by omega) _ rfl (fun ls hl => ?_)  _ (lv_sub hl [2, 3, 1, 0] rfl)
  have hl : lv_has ls 5 [(2, .int (g_X4_leastGap_5 T p0 13 0 (-5)))] := hl
  refine lv_iload_n hx hb dX4_leastGap_62 rfl (lv_at hl 0 rfl) ?_
  exact endP hx hb hr hlocks rfl (Eq.symm ((e_X4_leastGap T p0))) dX4_leastGap_63
noncomputable def g_X4_all_4 (T : MS) (p0 : Int32) : Nat → Nat → Int32 → Int32
  | 0, k, v => v
  | n + 1, k, v => opq (if 12 ≤ (nI k) then v else (if p0 = 0 then (g_X4_all_4 T p0 n (k + 1) (v + (f_X4_crossings T (nI k)))) else (g_X4_all_4 T p0 n (k + 1) (v + (f_X4_shortOnes T (nI k) (f_X4_of T 1 (nI k) 1))))))
theorem ge_X4_all_4 (T : MS) (p0 : Int32) (n : Nat) (k : Nat) (v : Int32) : g_X4_all_4 T p0 (n + 1) k v = (if 12 ≤ (nI k) then v else (if p0 = 0 then (g_X4_all_4 T p0 n (k + 1) (v + (f_X4_crossings T (nI k)))) else (g_X4_all_4 T p0 n (k + 1) (v + (f_X4_shortOnes T (nI k) (f_X4_of T 1 (nI k) 1)))))) := opq_eq _
noncomputable def f_X4_all (T : MS) (p0 : Int32) : Int32 := opq ((g_X4_all_4 T p0 13 0 0) / 2)
theorem e_X4_all (T : MS) (p0 : Int32) : f_X4_all T p0 = ((g_X4_all_4 T p0 13 0 0) / 2) := opq_eq _
set_option maxHeartbeats 4000000 in
set_option maxRecDepth 100000 in
theorem c_X4_all (l : Launch) (G : GG) (B : Nat → Nat) (T : MS) (p0 : Int32) (hM : mok T) : Mp l yX4_all wsX4_all ({ frames := 5, cells := 0, slots := 0, locals := 109 } : Room) G [.ref (B 0), .int p0] (wM G B T) (f_X4_all T p0) := by
  refine Mp.of (cc := cX4_all) (maxL := 4) (ret := (some .int)) (by decide) rfl (Nat.le_of_ble_eq_true rfl) ?_
  intro p e s m args below meth c E hr hlocks hP hK ls hl
  have E : CallFix p m c cX4_all 4 s args wsX4_all RX4 := E
  have hx := E.1
  have hb := E.2.1
  have hml := E.2.2.1
  have hown := E.2.2.2.1
  have hts := E.2.2.2.2
  have hl : lv_has ls 4 [(0, .ref (B 0)), (1, .int p0)] := hl
  have hinX4 : ∀ w ∈ u_ws RX4 TX4 11, w ∈ wsX4_all := fun _ h => List.mem_cons_of_mem _ (List.mem_append_right _ h)
  have LOOP4 : ∀ (n : Nat) (k : Nat) (v : Int32) (Q : State → Prop), (k ≤ 12) → (12 < k + n) → ∀ V : Int32, g_X4_all_4 T p0 n k v = V → (∀ ls : Array Slot, lv_has ls 4 [(2, .int V)] → W p l e ({ frames := 5, cells := 0, slots := 0, locals := 109 } : Room) s m args below meth c s.heap [] 0 0 (Q) (F0 m 45 ls [])) → ∀ ls : Array Slot, lv_has ls 4 [(0, .ref (B 0)), (1, .int p0), (2, .int v), (3, .int (nI k))] → W p l e ({ frames := 5, cells := 0, slots := 0, locals := 109 } : Room) s m args below meth c s.heap [] 0 0 (Q) (F0 m 4 ls []) := by
    intro n
    induction n with
    | zero =>
      intro k v Q hk hn
      exact absurd hn (by omega)
    | succ n ih =>
      intro k v Q hk hn V hres kk ls hl
      have hl : lv_has ls 4 [(0, .ref (B 0)), (1, .int p0), (2, .int v), (3, .int (nI k))] := hl
      refine lv_iload_n hx hb dX4_all_4 rfl (lv_at hl 3 rfl) ?_
      refine lv_bipush (v := 12) hx hb dX4_all_5 (by decide) ?_
      refine lv_icmp_ge (tgt := 45) hx hb dX4_all_7 (by decide) (fun c1 => ?_) (fun c1 => ?_)
      · skip
        have hfin : v = V := Eq.trans (Eq.symm (Eq.trans (ge_X4_all_4 T p0 n k v) ((if_pos c1)))) hres
        subst hfin
        exact kk _ (lv_sub hl [2] rfl)
      · skip
        have hk2 : k < 12 := lt_of_nle (N := 12) rfl hk c1 (by decide)
        refine lv_iload_n hx hb dX4_all_10 rfl (lv_at hl 2 rfl) ?_
        refine lv_iload_n hx hb dX4_all_11 rfl (lv_at hl 1 rfl) ?_
        refine lv_if_eq (tgt := 32) hx hb dX4_all_12 (by decide) (fun c2 => ?_) (fun c2 => ?_)
        · skip
          refine lv_aload_n hx hb dX4_all_32 rfl (lv_at hl 0 rfl) ?_
          refine lv_iload_n hx hb dX4_all_33 rfl (lv_at hl 3 rfl) ?_
          refine cpV (rest := [.int v]) (As := [.int (nI k)]) E (c_X4_crossings l G B T (nI k) hM) (cwV 1 hts gX4_all_X4_crossings rfl rfl rfl (by decide +kernel) ⟨Nat.le_of_ble_eq_true rfl, Nat.le_of_ble_eq_true rfl⟩) hK hP 0 (wM_o G B T) rfl rfl hl.1 rfl (Nat.le_of_ble_eq_true rfl) dX4_all_34 ⟨Nat.zero_le _, Nat.zero_le _⟩ ?_
          refine lv_iadd hx hb dX4_all_37 ?_
          refine lv_istore_n (lv' := [(2, .int (v + (f_X4_crossings T (nI k)))), (0, .ref (B 0)), (1, .int p0), (3, .int (nI k))]) hx hb dX4_all_38 rfl hl (by decide) rfl (fun ls hl => ?_)
          refine lv_iinc (v := (nI (k + 1))) (lv' := [(3, .int (nI (k + 1))), (2, .int (v + (f_X4_crossings T (nI k)))), (0, .ref (B 0)), (1, .int p0)]) hx hb dX4_all_39 hl (k := 3) rfl (nI_1 k) (by decide) rfl (fun ls hl => ?_)
          refine lv_goto (tgt := 4) hx hb dX4_all_42 (by decide) ?_
          exact ih (k + 1) (v + (f_X4_crossings T (nI k))) Q (by omega) (by omega) V (Eq.trans (Eq.symm (Eq.trans (ge_X4_all_4 T p0 n k v) (Eq.trans (if_neg c1) ((if_pos c2))))) hres) kk  _ (lv_sub hl [2, 3, 1, 0] rfl)
        · skip
          refine lv_aload_n hx hb dX4_all_15 rfl (lv_at hl 0 rfl) ?_
          refine lv_iload_n hx hb dX4_all_16 rfl (lv_at hl 3 rfl) ?_
          refine lv_aload_n hx hb dX4_all_17 rfl (lv_at hl 0 rfl) ?_
          refine va_get (D := G.1) (ci := 4) (v := .ref (B 1)) (C := RX4) (T := TX4) (N := 11) hx hb hts hinX4 hown hK.1 hP 0 (wM_o G B T) rfl 0 (by decide) (hts (.fieldLink RX4 7 "WireLoopsModel" "now" "[I") (List.mem_of_getElem? (i := 1) rfl)) (fun _ h9 => h9) rfl dX4_all_18 ?_
          refine lv_iload_n hx hb dX4_all_21 rfl (lv_at hl 3 rfl) ?_
          refine lv_iconst (v := 1) hx hb dX4_all_22 (by decide) ?_
          refine cpS (rest := [.int (nI k), .ref (B 0), .int v]) (As := [.ref (B 1), .int (nI k), .int 1]) E (c_X4_of l G B T 1 (nI k) 1 (by decide) (by decide) (of_in 1 (vp_in_nI hk2 (by decide)) w1)) (va_cwS 3 hts gX4_all_X4_of rfl rfl rfl (by decide +kernel) ⟨Nat.le_of_ble_eq_true rfl, Nat.le_of_ble_eq_true rfl⟩) hK hP rfl hl.1 rfl (Nat.le_of_ble_eq_true rfl) dX4_all_23 ⟨Nat.zero_le _, Nat.zero_le _⟩ ?_
          refine cpV (rest := [.int v]) (As := [.int (nI k), .int (f_X4_of T 1 (nI k) 1)]) E (c_X4_shortOnes l G B T (nI k) (f_X4_of T 1 (nI k) 1) hM) (cwV 2 hts gX4_all_X4_shortOnes rfl rfl rfl (by decide +kernel) ⟨Nat.le_of_ble_eq_true rfl, Nat.le_of_ble_eq_true rfl⟩) hK hP 0 (wM_o G B T) rfl rfl hl.1 rfl (Nat.le_of_ble_eq_true rfl) dX4_all_26 ⟨Nat.zero_le _, Nat.zero_le _⟩ ?_
          refine lv_goto (tgt := 37) hx hb dX4_all_29 (by decide) ?_
          refine lv_iadd hx hb dX4_all_37 ?_
          refine lv_istore_n (lv' := [(2, .int (v + (f_X4_shortOnes T (nI k) (f_X4_of T 1 (nI k) 1)))), (0, .ref (B 0)), (1, .int p0), (3, .int (nI k))]) hx hb dX4_all_38 rfl hl (by decide) rfl (fun ls hl => ?_)
          refine lv_iinc (v := (nI (k + 1))) (lv' := [(3, .int (nI (k + 1))), (2, .int (v + (f_X4_shortOnes T (nI k) (f_X4_of T 1 (nI k) 1)))), (0, .ref (B 0)), (1, .int p0)]) hx hb dX4_all_39 hl (k := 3) rfl (nI_1 k) (by decide) rfl (fun ls hl => ?_)
          refine lv_goto (tgt := 4) hx hb dX4_all_42 (by decide) ?_
          exact ih (k + 1) (v + (f_X4_shortOnes T (nI k) (f_X4_of T 1 (nI k) 1))) Q (by omega) (by omega) V (Eq.trans (Eq.symm (Eq.trans (ge_X4_all_4 T p0 n k v) (Eq.trans (if_neg c1) ((if_neg c2))))) hres) kk  _ (lv_sub hl [2, 3, 1, 0] rfl)
  refine lv_iconst (v := 0) hx hb dX4_all_0 (by decide) ?_
  refine lv_istore_n (lv' := [(2, .int 0), (0, .ref (B 0)), (1, .int p0)]) hx hb dX4_all_1 rfl hl (by decide) rfl (fun ls hl => ?_)
  refine lv_iconst (v := 0) hx hb dX4_all_2 (by decide) ?_
  refine lv_istore_n (lv' := [(3, .int 0), (2, .int 0), (0, .ref (B 0)), (1, .int p0)]) hx hb dX4_all_3 rfl hl (by decide) rfl (fun ls hl => ?_)
  refine LOOP4 13 0 0 _ (by omega) (by omega) _ rfl (fun ls hl => ?_)  _ (lv_sub hl [2, 3, 1, 0] rfl)
  have hl : lv_has ls 4 [(2, .int (g_X4_all_4 T p0 13 0 0))] := hl
  refine lv_iload_n hx hb dX4_all_45 rfl (lv_at hl 0 rfl) ?_
  refine lv_iconst (v := 2) hx hb dX4_all_46 (by decide) ?_
  refine lv_idiv hx hb dX4_all_47 (by decide) ?_
  exact endP hx hb hr hlocks rfl (Eq.symm ((e_X4_all T p0))) dX4_all_48
noncomputable def g_X4_weakest_5 (T : MS) : Nat → Nat → Int32 → Int32
  | 0, k, v => v
  | n + 1, k, v => opq (if 12 ≤ (nI k) then v else (if (f_X4_hasWire T (nI k)) = 0 then (g_X4_weakest_5 T n (k + 1) v) else (if v = (-5) then (g_X4_weakest_5 T n (k + 1) (nI k)) else (if (f_X4_of T 1 v 2) ≤ (f_X4_of T 1 (nI k) 2) then (g_X4_weakest_5 T n (k + 1) v) else (g_X4_weakest_5 T n (k + 1) (nI k))))))
theorem ge_X4_weakest_5 (T : MS) (n : Nat) (k : Nat) (v : Int32) : g_X4_weakest_5 T (n + 1) k v = (if 12 ≤ (nI k) then v else (if (f_X4_hasWire T (nI k)) = 0 then (g_X4_weakest_5 T n (k + 1) v) else (if v = (-5) then (g_X4_weakest_5 T n (k + 1) (nI k)) else (if (f_X4_of T 1 v 2) ≤ (f_X4_of T 1 (nI k) 2) then (g_X4_weakest_5 T n (k + 1) v) else (g_X4_weakest_5 T n (k + 1) (nI k)))))) := opq_eq _
noncomputable def f_X4_weakest (T : MS) : Int32 := opq (g_X4_weakest_5 T 13 0 (-5))
theorem e_X4_weakest (T : MS) : f_X4_weakest T = (g_X4_weakest_5 T 13 0 (-5)) := opq_eq _
set_option maxHeartbeats 4000000 in
set_option maxRecDepth 100000 in
theorem c_X4_weakest (l : Launch) (G : GG) (B : Nat → Nat) (T : MS)  : Mp l yX4_weakest wsX4_weakest ({ frames := 3, cells := 0, slots := 0, locals := 63 } : Room) G [.ref (B 0)] (wM G B T) (f_X4_weakest T) := by
  refine Mp.of (cc := cX4_weakest) (maxL := 3) (ret := (some .int)) (by decide) rfl (Nat.le_of_ble_eq_true rfl) ?_
  intro p e s m args below meth c E hr hlocks hP hK ls hl
  have E : CallFix p m c cX4_weakest 3 s args wsX4_weakest RX4 := E
  have hx := E.1
  have hb := E.2.1
  have hml := E.2.2.1
  have hown := E.2.2.2.1
  have hts := E.2.2.2.2
  have hl : lv_has ls 3 [(0, .ref (B 0))] := hl
  have hinX4 : ∀ w ∈ u_ws RX4 TX4 11, w ∈ wsX4_weakest := fun _ h => List.mem_cons_of_mem _ (List.mem_append_right _ h)
  have LOOP5 : ∀ (n : Nat) (k : Nat) (v : Int32) (Q : State → Prop), (k ≤ 12) → (v = (-5) ∨ ∃ j : Nat, j < 12 ∧ v = nI j) → (12 < k + n) → ∀ V : Int32, g_X4_weakest_5 T n k v = V → (∀ ls : Array Slot, lv_has ls 3 [(1, .int V)] → W p l e ({ frames := 3, cells := 0, slots := 0, locals := 63 } : Room) s m args below meth c s.heap [] 0 0 (Q) (F0 m 58 ls [])) → ∀ ls : Array Slot, lv_has ls 3 [(0, .ref (B 0)), (1, .int v), (2, .int (nI k))] → W p l e ({ frames := 3, cells := 0, slots := 0, locals := 63 } : Room) s m args below meth c s.heap [] 0 0 (Q) (F0 m 5 ls []) := by
    intro n
    induction n with
    | zero =>
      intro k v Q hk hv hn
      exact absurd hn (by omega)
    | succ n ih =>
      intro k v Q hk hv hn V hres kk ls hl
      have hl : lv_has ls 3 [(0, .ref (B 0)), (1, .int v), (2, .int (nI k))] := hl
      refine lv_iload_n hx hb dX4_weakest_5 rfl (lv_at hl 2 rfl) ?_
      refine lv_bipush (v := 12) hx hb dX4_weakest_6 (by decide) ?_
      refine lv_icmp_ge (tgt := 58) hx hb dX4_weakest_8 (by decide) (fun c1 => ?_) (fun c1 => ?_)
      · skip
        have hfin : v = V := Eq.trans (Eq.symm (Eq.trans (ge_X4_weakest_5 T n k v) ((if_pos c1)))) hres
        subst hfin
        exact kk _ (lv_sub hl [1] rfl)
      · skip
        have hk2 : k < 12 := lt_of_nle (N := 12) rfl hk c1 (by decide)
        refine lv_aload_n hx hb dX4_weakest_11 rfl (lv_at hl 0 rfl) ?_
        refine lv_iload_n hx hb dX4_weakest_12 rfl (lv_at hl 2 rfl) ?_
        refine cpV (rest := []) (As := [.int (nI k)]) E (c_X4_hasWire l G B T (nI k)) (cwV 1 hts gX4_weakest_X4_hasWire rfl rfl rfl (by decide +kernel) ⟨Nat.le_of_ble_eq_true rfl, Nat.le_of_ble_eq_true rfl⟩) hK hP 0 (wM_o G B T) rfl rfl hl.1 rfl (Nat.le_of_ble_eq_true rfl) dX4_weakest_13 ⟨Nat.zero_le _, Nat.zero_le _⟩ ?_
        refine lv_if_eq (tgt := 50) hx hb dX4_weakest_16 (by decide) (fun c2 => ?_) (fun c2 => ?_)
        · skip
          refine lv_iload_n hx hb dX4_weakest_50 rfl (lv_at hl 1 rfl) ?_
          refine lv_istore_n (lv' := [(1, .int v), (0, .ref (B 0)), (2, .int (nI k))]) hx hb dX4_weakest_51 rfl hl (by decide) rfl (fun ls hl => ?_)
          refine lv_iinc (v := (nI (k + 1))) (lv' := [(2, .int (nI (k + 1))), (1, .int v), (0, .ref (B 0))]) hx hb dX4_weakest_52 hl (k := 2) rfl (nI_1 k) (by decide) rfl (fun ls hl => ?_)
          refine lv_goto (tgt := 5) hx hb dX4_weakest_55 (by decide) ?_
          exact ih (k + 1) v Q (by omega) (by first | exact hv | exact Or.inr ⟨k, hk2, rfl⟩) (by omega) V (Eq.trans (Eq.symm (Eq.trans (ge_X4_weakest_5 T n k v) (Eq.trans (if_neg c1) ((if_pos c2))))) hres) kk  _ (lv_sub hl [2, 1, 0] rfl)
        · skip
          refine lv_iload_n hx hb dX4_weakest_19 rfl (lv_at hl 1 rfl) ?_
          refine lv_bipush (v := (-5)) hx hb dX4_weakest_20 (by decide) ?_
          refine lv_icmp_eq (tgt := 46) hx hb dX4_weakest_22 (by decide) (fun c3 => ?_) (fun c3 => ?_)
          · skip
            refine lv_iload_n hx hb dX4_weakest_46 rfl (lv_at hl 2 rfl) ?_
            refine lv_goto (tgt := 51) hx hb dX4_weakest_47 (by decide) ?_
            refine lv_istore_n (lv' := [(1, .int (nI k)), (0, .ref (B 0)), (2, .int (nI k))]) hx hb dX4_weakest_51 rfl hl (by decide) rfl (fun ls hl => ?_)
            refine lv_iinc (v := (nI (k + 1))) (lv' := [(2, .int (nI (k + 1))), (1, .int (nI k)), (0, .ref (B 0))]) hx hb dX4_weakest_52 hl (k := 2) rfl (nI_1 k) (by decide) rfl (fun ls hl => ?_)
            refine lv_goto (tgt := 5) hx hb dX4_weakest_55 (by decide) ?_
            exact ih (k + 1) (nI k) Q (by omega) (by first | exact hv | exact Or.inr ⟨k, hk2, rfl⟩) (by omega) V (Eq.trans (Eq.symm (Eq.trans (ge_X4_weakest_5 T n k v) (Eq.trans (if_neg c1) (Eq.trans (if_neg c2) ((if_pos c3)))))) hres) kk  _ (lv_sub hl [2, 1, 0] rfl)
          · skip
            refine lv_aload_n hx hb dX4_weakest_25 rfl (lv_at hl 0 rfl) ?_
            refine va_get (D := G.1) (ci := 4) (v := .ref (B 1)) (C := RX4) (T := TX4) (N := 11) hx hb hts hinX4 hown hK.1 hP 0 (wM_o G B T) rfl 0 (by decide) (hts (.fieldLink RX4 7 "WireLoopsModel" "now" "[I") (List.mem_of_getElem? (i := 1) rfl)) (fun _ h9 => h9) rfl dX4_weakest_26 ?_
            refine lv_iload_n hx hb dX4_weakest_29 rfl (lv_at hl 2 rfl) ?_
            refine lv_iconst (v := 2) hx hb dX4_weakest_30 (by decide) ?_
            refine cpS (rest := []) (As := [.ref (B 1), .int (nI k), .int 2]) E (c_X4_of l G B T 1 (nI k) 2 (by decide) (by decide) (of_in 1 (vp_in_nI hk2 (by decide)) w2)) (va_cwS 3 hts gX4_weakest_X4_of rfl rfl rfl (by decide +kernel) ⟨Nat.le_of_ble_eq_true rfl, Nat.le_of_ble_eq_true rfl⟩) hK hP rfl hl.1 rfl (Nat.le_of_ble_eq_true rfl) dX4_weakest_31 ⟨Nat.zero_le _, Nat.zero_le _⟩ ?_
            refine lv_aload_n hx hb dX4_weakest_34 rfl (lv_at hl 0 rfl) ?_
            refine va_get (D := G.1) (ci := 4) (v := .ref (B 1)) (C := RX4) (T := TX4) (N := 11) hx hb hts hinX4 hown hK.1 hP 0 (wM_o G B T) rfl 0 (by decide) (hts (.fieldLink RX4 7 "WireLoopsModel" "now" "[I") (List.mem_of_getElem? (i := 1) rfl)) (fun _ h9 => h9) rfl dX4_weakest_35 ?_
            refine lv_iload_n hx hb dX4_weakest_38 rfl (lv_at hl 1 rfl) ?_
            refine lv_iconst (v := 2) hx hb dX4_weakest_39 (by decide) ?_
            refine cpS (rest := [.int (f_X4_of T 1 (nI k) 2)]) (As := [.ref (B 1), .int v, .int 2]) E (c_X4_of l G B T 1 v 2 (by decide) (by decide) (of_in 1 (in_or hv c3) w2)) (va_cwS 3 hts gX4_weakest_X4_of rfl rfl rfl (by decide +kernel) ⟨Nat.le_of_ble_eq_true rfl, Nat.le_of_ble_eq_true rfl⟩) hK hP rfl hl.1 rfl (Nat.le_of_ble_eq_true rfl) dX4_weakest_40 ⟨Nat.zero_le _, Nat.zero_le _⟩ ?_
            refine lv_icmp_ge (tgt := 50) hx hb dX4_weakest_43 (by decide) (fun c4 => ?_) (fun c4 => ?_)
            · skip
              refine lv_iload_n hx hb dX4_weakest_50 rfl (lv_at hl 1 rfl) ?_
              refine lv_istore_n (lv' := [(1, .int v), (0, .ref (B 0)), (2, .int (nI k))]) hx hb dX4_weakest_51 rfl hl (by decide) rfl (fun ls hl => ?_)
              refine lv_iinc (v := (nI (k + 1))) (lv' := [(2, .int (nI (k + 1))), (1, .int v), (0, .ref (B 0))]) hx hb dX4_weakest_52 hl (k := 2) rfl (nI_1 k) (by decide) rfl (fun ls hl => ?_)
              refine lv_goto (tgt := 5) hx hb dX4_weakest_55 (by decide) ?_
              exact ih (k + 1) v Q (by omega) (by first | exact hv | exact Or.inr ⟨k, hk2, rfl⟩) (by omega) V (Eq.trans (Eq.symm (Eq.trans (ge_X4_weakest_5 T n k v) (Eq.trans (if_neg c1) (Eq.trans (if_neg c2) (Eq.trans (if_neg c3) ((if_pos c4))))))) hres) kk  _ (lv_sub hl [2, 1, 0] rfl)
            · skip
              refine lv_iload_n hx hb dX4_weakest_46 rfl (lv_at hl 2 rfl) ?_
              refine lv_goto (tgt := 51) hx hb dX4_weakest_47 (by decide) ?_
              refine lv_istore_n (lv' := [(1, .int (nI k)), (0, .ref (B 0)), (2, .int (nI k))]) hx hb dX4_weakest_51 rfl hl (by decide) rfl (fun ls hl => ?_)
              refine lv_iinc (v := (nI (k + 1))) (lv' := [(2, .int (nI (k + 1))), (1, .int (nI k)), (0, .ref (B 0))]) hx hb dX4_weakest_52 hl (k := 2) rfl (nI_1 k) (by decide) rfl (fun ls hl => ?_)
              refine lv_goto (tgt := 5) hx hb dX4_weakest_55 (by decide) ?_
              exact ih (k + 1) (nI k) Q (by omega) (by first | exact hv | exact Or.inr ⟨k, hk2, rfl⟩) (by omega) V (Eq.trans (Eq.symm (Eq.trans (ge_X4_weakest_5 T n k v) (Eq.trans (if_neg c1) (Eq.trans (if_neg c2) (Eq.trans (if_neg c3) ((if_neg c4))))))) hres) kk  _ (lv_sub hl [2, 1, 0] rfl)
  refine lv_bipush (v := (-5)) hx hb dX4_weakest_0 (by decide) ?_
  refine lv_istore_n (lv' := [(1, .int (-5)), (0, .ref (B 0))]) hx hb dX4_weakest_2 rfl hl (by decide) rfl (fun ls hl => ?_)
  refine lv_iconst (v := 0) hx hb dX4_weakest_3 (by decide) ?_
  refine lv_istore_n (lv' := [(2, .int 0), (1, .int (-5)), (0, .ref (B 0))]) hx hb dX4_weakest_4 rfl hl (by decide) rfl (fun ls hl => ?_)
  refine LOOP5 13 0 (-5) _ (by omega) (Or.inl rfl) (by omega) _ rfl (fun ls hl => ?_)  _ (lv_sub hl [2, 1, 0] rfl)
  have hl : lv_has ls 3 [(1, .int (g_X4_weakest_5 T 13 0 (-5)))] := hl
  refine lv_iload_n hx hb dX4_weakest_58 rfl (lv_at hl 0 rfl) ?_
  exact endP hx hb hr hlocks rfl (Eq.symm ((e_X4_weakest T))) dX4_weakest_59
noncomputable def g_X4_strengths_4 (T : MS) : Nat → Nat → Int32 → Int32
  | 0, k, v => v
  | n + 1, k, v => opq (if 12 ≤ (nI k) then v else (g_X4_strengths_4 T n (k + 1) (v + (f_X4_of T 1 (nI k) 2))))
theorem ge_X4_strengths_4 (T : MS) (n : Nat) (k : Nat) (v : Int32) : g_X4_strengths_4 T (n + 1) k v = (if 12 ≤ (nI k) then v else (g_X4_strengths_4 T n (k + 1) (v + (f_X4_of T 1 (nI k) 2)))) := opq_eq _
noncomputable def f_X4_strengths (T : MS) : Int32 := opq (g_X4_strengths_4 T 13 0 0)
theorem e_X4_strengths (T : MS) : f_X4_strengths T = (g_X4_strengths_4 T 13 0 0) := opq_eq _
set_option maxHeartbeats 4000000 in
set_option maxRecDepth 100000 in
theorem c_X4_strengths (l : Launch) (G : GG) (B : Nat → Nat) (T : MS)  : Mp l yX4_strengths wsX4_strengths ({ frames := 1, cells := 0, slots := 0, locals := 22 } : Room) G [.ref (B 0)] (wM G B T) (f_X4_strengths T) := by
  refine Mp.of (cc := cX4_strengths) (maxL := 3) (ret := (some .int)) (by decide) rfl (Nat.le_of_ble_eq_true rfl) ?_
  intro p e s m args below meth c E hr hlocks hP hK ls hl
  have E : CallFix p m c cX4_strengths 3 s args wsX4_strengths RX4 := E
  have hx := E.1
  have hb := E.2.1
  have hml := E.2.2.1
  have hown := E.2.2.2.1
  have hts := E.2.2.2.2
  have hl : lv_has ls 3 [(0, .ref (B 0))] := hl
  have hinX4 : ∀ w ∈ u_ws RX4 TX4 11, w ∈ wsX4_strengths := fun _ h => List.mem_cons_of_mem _ (List.mem_append_right _ h)
  have LOOP4 : ∀ (n : Nat) (k : Nat) (v : Int32) (Q : State → Prop), (k ≤ 12) → (12 < k + n) → ∀ V : Int32, g_X4_strengths_4 T n k v = V → (∀ ls : Array Slot, lv_has ls 3 [(1, .int V)] → W p l e ({ frames := 1, cells := 0, slots := 0, locals := 22 } : Room) s m args below meth c s.heap [] 0 0 (Q) (F0 m 28 ls [])) → ∀ ls : Array Slot, lv_has ls 3 [(0, .ref (B 0)), (1, .int v), (2, .int (nI k))] → W p l e ({ frames := 1, cells := 0, slots := 0, locals := 22 } : Room) s m args below meth c s.heap [] 0 0 (Q) (F0 m 4 ls []) := by
    intro n
    induction n with
    | zero =>
      intro k v Q hk hn
      exact absurd hn (by omega)
    | succ n ih =>
      intro k v Q hk hn V hres kk ls hl
      have hl : lv_has ls 3 [(0, .ref (B 0)), (1, .int v), (2, .int (nI k))] := hl
      refine lv_iload_n hx hb dX4_strengths_4 rfl (lv_at hl 2 rfl) ?_
      refine lv_bipush (v := 12) hx hb dX4_strengths_5 (by decide) ?_
      refine lv_icmp_ge (tgt := 28) hx hb dX4_strengths_7 (by decide) (fun c1 => ?_) (fun c1 => ?_)
      · skip
        have hfin : v = V := Eq.trans (Eq.symm (Eq.trans (ge_X4_strengths_4 T n k v) ((if_pos c1)))) hres
        subst hfin
        exact kk _ (lv_sub hl [1] rfl)
      · skip
        have hk2 : k < 12 := lt_of_nle (N := 12) rfl hk c1 (by decide)
        refine lv_iload_n hx hb dX4_strengths_10 rfl (lv_at hl 1 rfl) ?_
        refine lv_aload_n hx hb dX4_strengths_11 rfl (lv_at hl 0 rfl) ?_
        refine va_get (D := G.1) (ci := 4) (v := .ref (B 1)) (C := RX4) (T := TX4) (N := 11) hx hb hts hinX4 hown hK.1 hP 0 (wM_o G B T) rfl 0 (by decide) (hts (.fieldLink RX4 7 "WireLoopsModel" "now" "[I") (List.mem_of_getElem? (i := 1) rfl)) (fun _ h9 => h9) rfl dX4_strengths_12 ?_
        refine lv_iload_n hx hb dX4_strengths_15 rfl (lv_at hl 2 rfl) ?_
        refine lv_iconst (v := 2) hx hb dX4_strengths_16 (by decide) ?_
        refine cpS (rest := [.int v]) (As := [.ref (B 1), .int (nI k), .int 2]) E (c_X4_of l G B T 1 (nI k) 2 (by decide) (by decide) (of_in 1 (vp_in_nI hk2 (by decide)) w2)) (va_cwS 3 hts gX4_strengths_X4_of rfl rfl rfl (by decide +kernel) ⟨Nat.le_of_ble_eq_true rfl, Nat.le_of_ble_eq_true rfl⟩) hK hP rfl hl.1 rfl (Nat.le_of_ble_eq_true rfl) dX4_strengths_17 ⟨Nat.zero_le _, Nat.zero_le _⟩ ?_
        refine lv_iadd hx hb dX4_strengths_20 ?_
        refine lv_istore_n (lv' := [(1, .int (v + (f_X4_of T 1 (nI k) 2))), (0, .ref (B 0)), (2, .int (nI k))]) hx hb dX4_strengths_21 rfl hl (by decide) rfl (fun ls hl => ?_)
        refine lv_iinc (v := (nI (k + 1))) (lv' := [(2, .int (nI (k + 1))), (1, .int (v + (f_X4_of T 1 (nI k) 2))), (0, .ref (B 0))]) hx hb dX4_strengths_22 hl (k := 2) rfl (nI_1 k) (by decide) rfl (fun ls hl => ?_)
        refine lv_goto (tgt := 4) hx hb dX4_strengths_25 (by decide) ?_
        exact ih (k + 1) (v + (f_X4_of T 1 (nI k) 2)) Q (by omega) (by omega) V (Eq.trans (Eq.symm (Eq.trans (ge_X4_strengths_4 T n k v) ((if_neg c1)))) hres) kk  _ (lv_sub hl [2, 1, 0] rfl)
  refine lv_iconst (v := 0) hx hb dX4_strengths_0 (by decide) ?_
  refine lv_istore_n (lv' := [(1, .int 0), (0, .ref (B 0))]) hx hb dX4_strengths_1 rfl hl (by decide) rfl (fun ls hl => ?_)
  refine lv_iconst (v := 0) hx hb dX4_strengths_2 (by decide) ?_
  refine lv_istore_n (lv' := [(2, .int 0), (1, .int 0), (0, .ref (B 0))]) hx hb dX4_strengths_3 rfl hl (by decide) rfl (fun ls hl => ?_)
  refine LOOP4 13 0 0 _ (by omega) (by omega) _ rfl (fun ls hl => ?_)  _ (lv_sub hl [2, 1, 0] rfl)
  have hl : lv_has ls 3 [(1, .int (g_X4_strengths_4 T 13 0 0))] := hl
  refine lv_iload_n hx hb dX4_strengths_28 rfl (lv_at hl 0 rfl) ?_
  exact endP hx hb hr hlocks rfl (Eq.symm ((e_X4_strengths T))) dX4_strengths_29
