/-! ACTS, side by side -/
def CRsc (N : Nat) (c : Nat → Nat → Int32) (f : Nat → Int32) : Prop :=
  (∃ w : Nat, 1 ≤ w ∧ w ≤ 50 ∧ c 0 1 = nI w ∧ f 64 = nI w) ∧ (∃ w : Nat, w ≤ 205 ∧ c 0 2 = nI w ∧ f 65 = nI w) ∧ ((c 0 4 = 0 ∧ f 66 = 0) ∨ (c 0 4 = 1 ∧ f 66 = 1)) ∧ f 67 = c 0 5 ∧ (∃ d : Nat, d ≤ N ∧ c 0 0 = nI d ∧ f 68 = nI d) ∧ f 69 = c 0 6 ∧ f 70 = c 0 3
theorem CR.sc {N : Nat} {c : Nat → Nat → Int32} {f : Nat → Int32} (h : CR N c f) : CRsc N c f := h.2.2.2
theorem CRsc.same {N : Nat} {c c' : Nat → Nat → Int32} {f F : Nat → Int32} (h : CRsc N c f) (e : c' 0 = c 0) (eF : ∀ x, 64 ≤ x → x < 71 → F x = f x) : CRsc N c' F := by
  unfold CRsc at h ⊢
  rw [e, eF 64 (by omega) (by omega), eF 65 (by omega) (by omega), eF 66 (by omega) (by omega), eF 67 (by omega) (by omega), eF 68 (by omega) (by omega), eF 69 (by omega) (by omega), eF 70 (by omega) (by omega)]
  exact h
theorem CR.up {N M : Nat} {c c' : Nat → Nat → Int32} {f F : Nat → Int32} {k : Nat} (h : CR N c f) (e1 : c' 1 = c 1) (eo : ∀ p, p < 12 → p ≠ k → c' 2 p = c 2 p ∧ c' 3 p = c 3 p ∧ c' 4 p = c 4 p ∧ c' 5 p = c 5 p) (eF : ∀ x, x < 64 → (x < 16 + 4 * k ∨ 16 + 4 * k + 3 < x) → F x = f x) (hw : wOK c' F k) (hd : ∀ p, p < 12 → p ≠ k → c 2 p = c' 2 k → c' 2 k = (-1)) (hs : CRsc M c' F) : CR M c' F := by
  refine ⟨fun l hl => ?_, fun p hp => ?_, fun p q hp hq hpq e => ?_, hs⟩
  · rw [e1, eF l (by omega) (by omega)]; exact h.x l hl
  · by_cases e : p = k
    · rw [e]; exact hw
    · obtain ⟨a2, a3, a4, a5⟩ := eo p hp e
      have := h.w p hp
      unfold wOK at this ⊢
      rw [a2, a3, a4, a5, eF _ (by omega) (by omega), eF _ (by omega) (by omega), eF _ (by omega) (by omega), eF _ (by omega) (by omega)]
      exact this
  · by_cases ep : p = k
    · subst ep
      rw [(eo q hq (fun z => hpq z.symm)).1] at e
      exact hd q hq (fun z => hpq z.symm) e.symm
    · by_cases eq : q = k
      · subst eq
        rw [(eo p hp ep).1] at e ⊢
        exact e.trans (hd p hp ep e)
      · rw [(eo p hp ep).1] at e ⊢
        rw [(eo q hq eq).1] at e
        exact h.d p q hp hq hpq e
/-- scalars or leads alone -/
theorem CR.up0 {N M : Nat} {c c' : Nat → Nat → Int32} {f F : Nat → Int32} (h : CR N c f) (ec : ∀ i, 1 ≤ i → i < 6 → c' i = c i) (eF : ∀ x, x < 64 → F x = f x) (hs : CRsc M c' F) : CR M c' F := by
  refine ⟨fun l hl => ?_, fun p hp => ?_, fun p q hp hq hpq e => ?_, hs⟩
  · rw [ec 1 (by omega) (by omega), eF l (by omega)]; exact h.x l hl
  · have := h.w p hp
    unfold wOK at this ⊢
    rw [ec 2 (by omega) (by omega), ec 3 (by omega) (by omega), ec 4 (by omega) (by omega), ec 5 (by omega) (by omega), eF _ (by omega), eF _ (by omega), eF _ (by omega), eF _ (by omega)]
    exact this
  · rw [ec 2 (by omega) (by omega)] at e ⊢
    exact h.d p q hp hq hpq e
theorem RH.c0 {N : Nat} {S S' : XS} {T T' : MS} (h : RH N S T) (hi : ∀ i, i ≠ 0 → S' i = S i) (hj : ∀ j, j ≠ 1 → T' j = T j) : RH N S' T' := by
  refine h.cong (fun i h2 _ => hi i (by omega)) ?_ ?_ ?_ ?_ (rot_8 (hi 8 (by decide))) ?_ ?_ ?_ (hj 3 (by decide)) (hj 4 (by decide)) (hj 5 (by decide)) ?_
  · rw [hi 7 (by decide)]
  · rw [hi 7 (by decide)]
  · rw [hi 7 (by decide)]
  · rw [hi 7 (by decide)]
  · rw [hj 0 (by decide)]
  · rw [hj 0 (by decide)]
  · rw [hj 0 (by decide)]
  · rw [hi 1 (by decide)]; exact h.2.2.2.2 1 (by omega) (by omega)
/-- recorded: the same again, one state more to go back to -/
theorem RS.rec {N : Nat} {S : XS} {T : MS} (h : RS N S T) : RS N (recS S 0) (f_X4_records T) ∧ recS S 0 0 = S 0 ∧ f_X4_records T 1 = T 1 := by
  obtain ⟨q, q4, -, b2, -⟩ := h.2.2.1
  have e0 := recS_lo S 0 0 (by omega)
  have e1 := (rec_o T b2 q4).1 1 (by decide) (by decide)
  refine ⟨⟨by rw [e0, e1]; exact h.1, rec_RH h.2 (by omega) h.1⟩, e0, e1⟩
theorem in_nat {x : Int32} {a b : Nat} (ha : a < 1000000) (hb : b < 1000000) (h : ¬ f_X4_in x (nI a) (nI b) = 0) : ∃ g : Nat, a ≤ g ∧ g ≤ b ∧ x = nI g := by
  rw [e_X4_in] at h
  by_cases h0 : x < nI a
  · exact absurd (if_pos h0) h
  · rw [if_neg h0] at h
    by_cases h1 : nI b < x
    · exact absurd (if_pos h1) h
    · have hn : ¬ x < 0 := fun q => h0 (Int32.lt_iff_toInt_lt.mpr (by
        have := Int32.lt_iff_toInt_lt.mp q
        rw [Int32.toInt_zero] at this
        rw [nI_toInt (by omega)]; omega))
      obtain ⟨g, hg, e⟩ := nI_of hn
      subst e
      exact ⟨g, Nat.not_lt.mp (fun q => h0 (nI_lt q (by omega))), Nat.not_lt.mp (fun q => h1 (nI_lt q hg)), rfl⟩
section ACTS
variable {N : Nat} {S : XS} {T : MS}
theorem a_takeOff (h : RS N S T) (a : Int32) : (f_X3_takeOff S a).1 = (f_X4_takeOff T a).1 ∧ RS N (f_X3_takeOff S a).2 (f_X4_takeOff T a).2 := by
  rw [e_X3_takeOff, e_X4_takeOff]
  by_cases hp : f_X0_hasWire S a = 0
  · rw [if_pos hp, if_pos (nohas h.1 hp)]; exact ⟨rfl, h⟩
  · obtain ⟨k, hk, rfl, hh⟩ := has_k h.1 hp
    obtain ⟨r, eU, eV⟩ := h.rec
    rw [if_neg hp, if_neg (fun q => hp ((has_eq h.1 _).trans q)), e_X3_takeOff_k1, e_X3_takeOff_k2, e_X4_takeOff_k1, e_X4_takeOff_k2, e_X0_removeWire, pad_nat hk, if_neg one_ne, nI_cl (by omega), e_X4_goes, show f_X4_of (f_X4_records T) 1 (nI k) 2 = _ from of_nat _ 1 k 2 hk (by omega), strengthX_nat hk]
    generalize recS S 0 = U at r eU ⊢
    generalize f_X4_records T = V at r eV ⊢
    dsimp only
    obtain ⟨_, _, t, _, _, _, _, _, _, _, _, w5, w6, _⟩ := wire_of (r.1.w k hk) (by rw [eU]; exact hh)
    refine ⟨w5.trans w6.symm, ?_, r.2.c0 (fun i hi => su_ne _ _ _ _ hi) (fun j hj => ?_)⟩
    · have e := (show ((16 + (4 * nI k)) + 0).toNatClampNeg = 16 + 4 * k from at_nat k 0 hk (by omega))
      have e1 := (show ((16 + (4 * nI k)) + 1).toNatClampNeg = 16 + 4 * k + 1 from at_nat k 1 hk (by omega))
      have e2 := (show ((16 + (4 * nI k)) + 2).toNatClampNeg = 16 + 4 * k + 2 from at_nat k 2 hk (by omega))
      have e3 := (show ((16 + (4 * nI k)) + 3).toNatClampNeg = 16 + 4 * k + 3 from at_nat k 3 hk (by omega))
      rw [e, e1, e2, e3, tu_s]
      refine r.1.up (k := k) rfl (fun p _ hne => ⟨pk_un hne, rfl, rfl, rfl⟩) (fun x _ hx => ((pk_un (by omega)).trans ((pk_un (by omega)).trans ((pk_un (by omega)).trans (pk_un (by omega)))))) (Or.inl ⟨pk_us, ((pk_un (by omega)).trans ((pk_un (by omega)).trans ((pk_un (by omega)).trans pk_us))), ((pk_un (by omega)).trans ((pk_un (by omega)).trans pk_us)), ((pk_un (by omega)).trans pk_us), pk_us⟩) (fun p _ _ _ => pk_us) (r.1.sc.same rfl (fun x _ _ => ((pk_un (by omega)).trans ((pk_un (by omega)).trans ((pk_un (by omega)).trans (pk_un (by omega)))))))
    · rw [tu_n _ _ _ hj, tu_n _ _ _ hj, tu_n _ _ _ hj, tu_n _ _ _ hj]
theorem becomes_eq (T : MS) (x y : Int32) : f_X4_becomes T x y = if T 1 x.toNatClampNeg = y then ((-5), T) else (T 1 x.toNatClampNeg, tu (f_X4_records T) 1 (upd (f_X4_records T 1) x.toNatClampNeg y)) := by
  rw [e_X4_becomes, e_X4_becomes_k1]
theorem a_bend (h : RS N S T) (a b : Int32) : (f_X3_bend S a b).1 = (f_X4_bend T a b).1 ∧ RS N (f_X3_bend S a b).2 (f_X4_bend T a b).2 := by
  rw [e_X3_bend, e_X4_bend, height_eq]
  by_cases hp : f_X0_hasWire S a = 0
  · rw [if_pos hp, if_pos (nohas h.1 hp)]; exact ⟨rfl, h⟩
  · obtain ⟨k, hk, rfl, hh⟩ := has_k h.1 hp
    rw [if_neg hp, if_neg (fun q => hp ((has_eq h.1 _).trans q))]
    by_cases hq : f_X4_isHeight b = 0
    · rw [if_pos hq, if_pos hq]; exact ⟨rfl, h⟩
    · rw [if_neg hq, if_neg hq, becomes_eq, show ((16 + (4 * nI k)) + 1).toNatClampNeg = 16 + 4 * k + 1 from at_nat k 1 hk (by omega), heightX_nat hk]
      rw [e_X4_isHeight] at hq
      obtain ⟨g, g1, g2, rfl⟩ := in_nat (a := 10) (b := 200) (by omega) (by omega) hq
      obtain ⟨r, eU, eV⟩ := h.rec
      obtain ⟨_, hg0, t, _, _, _, _, _, _, w3, w4, _⟩ := wire_of (h.1.w k hk) hh
      rw [w3, w4]
      by_cases e : nI hg0 = nI g
      · rw [if_pos e, if_pos e]; exact ⟨rfl, h⟩
      · rw [if_neg e, if_neg e, e_X3_bend_k1, e_X3_bend_k2, e_X0_changeHeight, pad_nat hk, if_neg one_ne, nI_cl (by omega), heightX_nat hk, w3]
        generalize recS S 0 = U at r eU ⊢
        generalize f_X4_records T = V at r eV ⊢
        dsimp only
        obtain ⟨l, _, t, hl, _, _, ht, v1, v2, _, _, v5, v6, v7⟩ := wire_of (r.1.w k hk) (by rw [eU]; exact hh)
        refine ⟨rfl, ?_, r.2.c0 (fun i hi => su_ne _ _ _ _ hi) (fun j hj => tu_n _ _ _ hj)⟩
        rw [tu_s]
        exact r.1.up (k := k) rfl (fun p _ hne => ⟨rfl, pk_un hne, rfl, rfl⟩) (fun x _ hx => pk_un (by omega)) (Or.inr ⟨l, g, t, hl, g1, g2, ht, v1, (pk_un (by omega)).trans v2, pk_us, pk_us, v5, (pk_un (by omega)).trans v6, (pk_un (by omega)).trans v7⟩) (fun p hp2 hne e => r.1.d k p hk hp2 (fun z => hne z.symm) e.symm) (r.1.sc.same rfl (fun x _ _ => pk_un (by omega)))
theorem a_moveLead (h : RS N S T) (a b : Int32) : (f_X3_moveLead S a b).1 = (f_X4_moveLead T a b).1 ∧ RS N (f_X3_moveLead S a b).2 (f_X4_moveLead T a b).2 := by
  rw [e_X3_moveLead, e_X4_moveLead, lead_eq, in_eq]
  by_cases hp : f_X4_isLead a = 0
  · rw [if_pos hp, if_pos hp]; exact ⟨rfl, h⟩
  · rw [if_neg hp, if_neg hp]
    rw [← lead_eq] at hp
    obtain ⟨k, hk, rfl⟩ := lead_of hp
    by_cases hq : f_X4_in b 0 600 = 0
    · rw [if_pos hq, if_pos hq]; exact ⟨rfl, h⟩
    · rw [if_neg hq, if_neg hq, padOf_eq h.1 hk]
      obtain ⟨g, -, g2, rfl⟩ := in_nat (a := 0) (b := 600) (by omega) (by omega) hq
      by_cases hr : f_X4_padOf T 1 (nI k) = (-5)
      · have e0 : ((0 : Int32) + nI k).toNatClampNeg = k := by rw [show (0 : Int32) = nI 0 from rfl, nI_add, nI_cl (by omega), Nat.zero_add]
        obtain ⟨x, hx, x1, x2⟩ := h.1.x k hk
        rw [if_pos hr, if_pos hr, becomes_eq, e0, xlead_nat hk, x1, x2]
        obtain ⟨r, eU, eV⟩ := h.rec
        by_cases e : nI x = nI g
        · rw [if_pos e, if_pos e]; exact ⟨rfl, h⟩
        · rw [if_neg e, if_neg e, e_X3_moveLead_k1, e_X3_moveLead_k2, e_X0_placeLead, lead_nat hk, if_neg one_ne, nI_cl (by omega), xlead_nat hk, x1]
          generalize recS S 0 = U at r eU ⊢
          generalize f_X4_records T = V at r eV ⊢
          dsimp only
          refine ⟨rfl, ?_, r.2.c0 (fun i hi => su_ne _ _ _ _ hi) (fun j hj => tu_n _ _ _ hj)⟩
          rw [tu_s]
          refine ⟨fun l hl => ?_, fun p hp => ?_, r.1.d, r.1.sc.same rfl (fun x _ _ => pk_un (by omega))⟩
          · by_cases el : l = k
            · exact ⟨g, g2, by rw [el]; exact pk_us, by rw [el]; exact pk_us⟩
            · obtain ⟨y, hy, y1, y2⟩ := r.1.x l hl
              exact ⟨y, hy, (pk_un el).trans y1, (pk_un el).trans y2⟩
          · have := r.1.w p hp
            unfold wOK at this ⊢
            rw [show upd (V 1) k (nI g) (16 + 4 * p) = V 1 (16 + 4 * p) from pk_un (by omega), show upd (V 1) k (nI g) (16 + 4 * p + 1) = V 1 (16 + 4 * p + 1) from pk_un (by omega), show upd (V 1) k (nI g) (16 + 4 * p + 2) = V 1 (16 + 4 * p + 2) from pk_un (by omega), show upd (V 1) k (nI g) (16 + 4 * p + 3) = V 1 (16 + 4 * p + 3) from pk_un (by omega)]
            exact this
      · rw [if_neg hr, if_neg hr]; exact ⟨rfl, h⟩
theorem a_setWidth (h : RS N S T) (a : Int32) : (f_X3_setWidth S a).1 = (f_X4_setWidth T a).1 ∧ RS N (f_X3_setWidth S a).2 (f_X4_setWidth T a).2 := by
  rw [e_X3_setWidth, e_X4_setWidth, in_eq]
  by_cases hq : f_X4_in a 1 50 = 0
  · rw [if_pos hq, if_pos hq]; exact ⟨rfl, h⟩
  · rw [if_neg hq, if_neg hq, becomes_eq, show (64 : Int32).toNatClampNeg = 64 from by decide]
    obtain ⟨g, g1, g2, rfl⟩ := in_nat (a := 1) (b := 50) (by omega) (by omega) hq
    obtain ⟨w, -, -, w1, w2⟩ := h.1.width
    obtain ⟨r, eU, eV⟩ := h.rec
    rw [w1, w2]
    by_cases e : nI w = nI g
    · rw [if_pos e, if_pos e]; exact ⟨rfl, h⟩
    · rw [if_neg e, if_neg e, e_X3_setWidth_k1, w1]
      generalize recS S 0 = U at r eU ⊢
      generalize f_X4_records T = V at r eV ⊢
      dsimp only
      refine ⟨rfl, ?_, r.2.c0 (fun i hi => su_ne _ _ _ _ hi) (fun j hj => tu_n _ _ _ hj)⟩
      rw [tu_s]
      obtain ⟨-, c2, c3, c4, c5, c6, c7⟩ := r.1.sc
      exact r.1.up0 (fun i h1 _ => su_c _ _ _ _ (by omega)) (fun x _ => pk_un (by omega)) ⟨⟨g, g1, g2, (show upd (U 0 0) 1 (nI g) 1 = nI g from pk_us), pk_us⟩, c2, c3, c4, c5, c6, c7⟩
theorem a_changeTool (h : RS N S T) : (f_X3_changeTool S).1 = (f_X4_changeTool T).1 ∧ RS N (f_X3_changeTool S).2 (f_X4_changeTool T).2 := by
  obtain ⟨w, -, w1, w2⟩ := h.1.wear
  obtain ⟨r, eU, eV⟩ := h.rec
  rw [e_X3_changeTool, e_X4_changeTool, w1, w2]
  by_cases e : nI w = 0
  · rw [if_pos e, if_pos e]; exact ⟨rfl, h⟩
  · rw [if_neg e, if_neg e, e_X3_changeTool_k1, e_X4_changeTool_k1, w1, w2]
    generalize recS S 0 = U at r eU ⊢
    generalize f_X4_records T = V at r eV ⊢
    dsimp only
    refine ⟨rfl, ?_, r.2.c0 (fun i hi => (su_ne _ _ _ _ hi).trans (su_ne _ _ _ _ hi)) (fun j hj => (tu_n _ _ _ hj).trans (tu_n _ _ _ hj))⟩
    obtain ⟨c1, -, c3, c4, c5, c6, c7⟩ := r.1.sc
    exact r.1.up0 (fun i h1 _ => (su_c _ _ _ _ (by omega)).trans (su_c _ _ _ _ (by omega))) (fun x _ => (pk_un (by omega)).trans (pk_un (by omega))) ⟨c1, ⟨0, by omega, rfl, rfl⟩, c3, c4, c5, c6, congrArg (fun z : Int32 => z + 1) c7⟩
theorem a_thread (h : RS N S T) : (f_X3_thread S).1 = (f_X4_thread T).1 ∧ RS N (f_X3_thread S).2 (f_X4_thread T).2 := by
  obtain ⟨r, eU, eV⟩ := h.rec
  rw [e_X3_thread, e_X4_thread]
  rcases h.1.lost with ⟨l1, l2⟩ | ⟨l1, l2⟩
  · rw [l1, l2, if_pos rfl, if_pos rfl]; exact ⟨rfl, h⟩
  · rw [l1, l2, if_neg one_ne, if_neg one_ne, e_X3_thread_k1, e_X4_thread_k1]
    generalize recS S 0 = U at r eU ⊢
    generalize f_X4_records T = V at r eV ⊢
    dsimp only
    refine ⟨r.1.losses.symm, ?_, r.2.c0 (fun i hi => su_ne _ _ _ _ hi) (fun j hj => tu_n _ _ _ hj)⟩
    obtain ⟨c1, c2, -, c4, c5, c6, c7⟩ := r.1.sc
    exact r.1.up0 (fun i h1 _ => su_c _ _ _ _ (by omega)) (fun x _ => pk_un (by omega)) ⟨c1, c2, Or.inl ⟨rfl, rfl⟩, c4, c5, c6, c7⟩
/-- a pull of a wire -/
theorem pulls_eq (h : CR N (S 0) (T 1)) {k g : Nat} (hk : k < 12) (hh : has (S 0) k) (g1 : 1 ≤ g) (g2 : g ≤ 100) : (((f_X0_breaksUnder S (nI k) (nI g)).1 = 0 ∧ (f_X4_pulls T (nI k) (nI g)).1 = f_X0_strengthOf (f_X0_breaksUnder S (nI k) (nI g)).2 (nI k) ∧ (f_X4_pulls T (nI k) (nI g)).1 ≠ 1000) ∨ ((f_X0_breaksUnder S (nI k) (nI g)).1 = 1 ∧ (f_X4_pulls T (nI k) (nI g)).1 = 1000)) ∧ CR N ((f_X0_breaksUnder S (nI k) (nI g)).2 0) ((f_X4_pulls T (nI k) (nI g)).2 1) ∧ (∀ i, i ≠ 0 → (f_X0_breaksUnder S (nI k) (nI g)).2 i = S i) ∧ (∀ j, j ≠ 1 → (f_X4_pulls T (nI k) (nI g)).2 j = T j) := by
  obtain ⟨l, hg, t, hl, a1, a2, ht, v1, v2, v3, v4, v5, v6, v7⟩ := wire_of (h.w k hk) hh
  have e := (show ((16 + (4 * nI k)) + 0).toNatClampNeg = 16 + 4 * k from at_nat k 0 hk (by omega))
  have e1 := (show ((16 + (4 * nI k)) + 1).toNatClampNeg = 16 + 4 * k + 1 from at_nat k 1 hk (by omega))
  have e2 := (show ((16 + (4 * nI k)) + 2).toNatClampNeg = 16 + 4 * k + 2 from at_nat k 2 hk (by omega))
  have e3 := (show ((16 + (4 * nI k)) + 3).toNatClampNeg = 16 + 4 * k + 3 from at_nat k 3 hk (by omega))
  rw [e_X0_breaksUnder, e_X4_pulls, hasX hk, if_pos hh, if_neg one_ne, nI_cl (by omega), e2, v5, v6, pk_us, e_X0_removeWire, pad_nat hk, if_neg one_ne, nI_cl (by omega), e_X4_goes, e, e1, e2, e3, tu_s]
  by_cases hd : g ≤ t
  · have hle : nI g ≤ nI t := nI_le hd (by omega)
    have hx : (if 0 < nI t - nI g / 10 then nI t - nI g / 10 else 0) = nI (t - g / 10) ∧ nI t - nI g / 10 = nI (t - g / 10) := by
      rw [show (10 : Int32) = nI 10 from rfl, pk_div (by omega) (by omega) (by omega), pk_sub (by omega)]
      by_cases h0 : 0 < t - g / 10
      · rw [if_pos (show (0 : Int32) < nI (t - g / 10) from nI_lt (a := 0) h0 (by omega))]; exact ⟨rfl, rfl⟩
      · rw [if_neg (show ¬ (0 : Int32) < nI (t - g / 10) from nI_nlt (a := 0) (by omega) (by omega)), show t - g / 10 = 0 by omega]; exact ⟨rfl, rfl⟩
    rw [if_pos hle, if_pos hle, hx.1, hx.2]
    dsimp only
    refine ⟨Or.inl ⟨rfl, ?_, ?_⟩, ?_, fun i hi => su_ne _ _ _ _ hi, fun j hj => tu_n _ _ _ hj⟩
    · rw [strengthX_nat hk, su_s, pk_us]
    · exact fun z => by have := (nI_eq (b := 1000) (by omega) (by omega)).mp z; omega
    · rw [tu_s]
      exact h.up (k := k) rfl (fun p _ hne => ⟨rfl, rfl, pk_un hne, rfl⟩) (fun x _ hx => pk_un (by omega)) (Or.inr ⟨l, hg, t - g / 10, hl, a1, a2, by omega, v1, (pk_un (by omega)).trans v2, v3, (pk_un (by omega)).trans v4, pk_us, pk_us, (pk_un (by omega)).trans v7⟩) (fun p hp2 hne e => h.d k p hk hp2 (fun z => hne z.symm) e.symm) (h.sc.same rfl (fun x _ _ => pk_un (by omega)))
  · have hle : ¬ nI g ≤ nI t := nI_ge (by omega) (by omega)
    rw [if_neg hle, if_neg hle]
    dsimp only
    refine ⟨Or.inr ⟨rfl, rfl⟩, ?_, fun i hi => (su_ne _ _ _ _ hi).trans (su_ne _ _ _ _ hi), fun j hj => ?_⟩
    · rw [tu_s]
      obtain ⟨c1, c2, c3, c4, c5, c6, c7⟩ := h.sc
      exact h.up (k := k) rfl (fun p _ hne => ⟨pk_un hne, rfl, rfl, rfl⟩) (fun x _ hx => ((pk_un (by omega)).trans ((pk_un (by omega)).trans ((pk_un (by omega)).trans ((pk_un (by omega)).trans (pk_un (by omega))))))) (Or.inl ⟨pk_us, ((pk_un (by omega)).trans ((pk_un (by omega)).trans ((pk_un (by omega)).trans ((pk_un (by omega)).trans pk_us)))), ((pk_un (by omega)).trans ((pk_un (by omega)).trans ((pk_un (by omega)).trans pk_us))), ((pk_un (by omega)).trans ((pk_un (by omega)).trans pk_us)), ((pk_un (by omega)).trans pk_us)⟩) (fun p _ _ _ => pk_us) ⟨by obtain ⟨w, b1, b2, b3, b4⟩ := c1; exact ⟨w, b1, b2, b3, ((pk_un (by omega)).trans ((pk_un (by omega)).trans ((pk_un (by omega)).trans ((pk_un (by omega)).trans ((pk_un (by omega)).trans b4)))))⟩, by obtain ⟨w, b1, b3, b4⟩ := c2; exact ⟨w, b1, b3, ((pk_un (by omega)).trans ((pk_un (by omega)).trans ((pk_un (by omega)).trans ((pk_un (by omega)).trans ((pk_un (by omega)).trans b4)))))⟩, c3.imp (fun b => ⟨b.1, ((pk_un (by omega)).trans ((pk_un (by omega)).trans ((pk_un (by omega)).trans ((pk_un (by omega)).trans ((pk_un (by omega)).trans b.2)))))⟩) (fun b => ⟨b.1, ((pk_un (by omega)).trans ((pk_un (by omega)).trans ((pk_un (by omega)).trans ((pk_un (by omega)).trans ((pk_un (by omega)).trans b.2)))))⟩), ((pk_un (by omega)).trans ((pk_un (by omega)).trans ((pk_un (by omega)).trans ((pk_un (by omega)).trans ((pk_un (by omega)).trans c4))))), by obtain ⟨w, b1, b3, b4⟩ := c5; exact ⟨w, b1, b3, ((pk_un (by omega)).trans ((pk_un (by omega)).trans ((pk_un (by omega)).trans ((pk_un (by omega)).trans ((pk_un (by omega)).trans b4)))))⟩, pk_us.trans (congrArg (fun z : Int32 => z + 1) ((pk_un (by omega)).trans ((pk_un (by omega)).trans ((pk_un (by omega)).trans ((pk_un (by omega)).trans c6))))), ((pk_un (by omega)).trans ((pk_un (by omega)).trans ((pk_un (by omega)).trans ((pk_un (by omega)).trans ((pk_un (by omega)).trans c7)))))⟩
    · rw [tu_n _ _ _ hj, tu_n _ _ _ hj, tu_n _ _ _ hj, tu_n _ _ _ hj, tu_n _ _ _ hj]
theorem a_pull (h : RS N S T) (a b : Int32) : (f_X3_pull S a b).1 = (f_X4_pull T a b).1 ∧ RS N (f_X3_pull S a b).2 (f_X4_pull T a b).2 := by
  rw [e_X3_pull, e_X4_pull, in_eq]
  by_cases hp : f_X0_hasWire S a = 0
  · rw [if_pos hp, if_pos (nohas h.1 hp)]; exact ⟨rfl, h⟩
  · obtain ⟨k, hk, rfl, hh⟩ := has_k h.1 hp
    rw [if_neg hp, if_neg (fun q => hp ((has_eq h.1 _).trans q))]
    by_cases hq : f_X4_in b 1 100 = 0
    · rw [if_pos hq, if_pos hq]; exact ⟨rfl, h⟩
    · rw [if_neg hq, if_neg hq]
      obtain ⟨g, g1, g2, rfl⟩ := in_nat (a := 1) (b := 100) (by omega) (by omega) hq
      obtain ⟨r, eU, eV⟩ := h.rec
      rw [e_X3_pull_k1, e_X3_pull_k2, e_X4_pull_k1, e_X4_pull_k2]
      generalize recS S 0 = U at r eU ⊢
      generalize f_X4_records T = V at r eV ⊢
      dsimp only
      obtain ⟨A, B, C, D⟩ := pulls_eq r.1 hk (by rw [eU]; exact hh) g1 g2
      generalize f_X0_breaksUnder U (nI k) (nI g) = X at A B C ⊢
      generalize f_X4_pulls V (nI k) (nI g) = Y at A B D ⊢
      rcases A with ⟨x1, x2, -⟩ | ⟨x1, x2⟩
      · rw [if_pos x1]; exact ⟨x2.symm, B, r.2.c0 C D⟩
      · rw [if_neg (by rw [x1]; decide)]; exact ⟨x2.symm, B, r.2.c0 C D⟩
theorem modn {rk e : Nat} (e1 : 1 ≤ e) (e2 : e ≤ 12) : (rk + 1) % e = if rk % e + 1 = e then 0 else rk % e + 1 := by
  rcases (show e = 1 ∨ e = 2 ∨ e = 3 ∨ e = 4 ∨ e = 5 ∨ e = 6 ∨ e = 7 ∨ e = 8 ∨ e = 9 ∨ e = 10 ∨ e = 11 ∨ e = 12 by omega) with rfl | rfl | rfl | rfl | rfl | rfl | rfl | rfl | rfl | rfl | rfl | rfl <;> split <;> omega
theorem sample_g {e g : Nat} (e1 : 1 ≤ e) (e2 : e ≤ 12) (g1 : 1 ≤ g) (g2 : g ≤ 100) : ∀ (n k rk : Nat) (v : Int32) (S : XS) (T : MS), k ≤ 12 → 12 < k + n → rk ≤ k → CR N (S 0) (T 1) → (g_X0_breakingOfSample_8 (nI e) (nI g) n k v (nI (rk % e)) S).1 = (g_X4_sample_45 (nI e) (nI g) n k v (nI rk) T).1 ∧ CR N ((g_X0_breakingOfSample_8 (nI e) (nI g) n k v (nI (rk % e)) S).2 0) ((g_X4_sample_45 (nI e) (nI g) n k v (nI rk) T).2 1) ∧ (∀ i, i ≠ 0 → (g_X0_breakingOfSample_8 (nI e) (nI g) n k v (nI (rk % e)) S).2 i = S i) ∧ (∀ j, j ≠ 1 → (g_X4_sample_45 (nI e) (nI g) n k v (nI rk) T).2 j = T j) := by
  intro n
  induction n with
  | zero => intro k rk v S T hk hn; exact absurd hn (by omega)
  | succ n ih =>
    intro k rk v S T hk hn hrk h
    rw [ge_X0_breakingOfSample_8, ge_X4_sample_45]
    by_cases c : 12 ≤ k
    · rw [if_pos (le12 c hk), if_pos (le12 c hk)]; exact ⟨rfl, h, fun _ _ => rfl, fun _ _ => rfl⟩
    · have hk2 : k < 12 := by omega
      rw [if_neg (ge12 hk2), if_neg (ge12 hk2), hasX hk2, hasM hk2 (h.w k hk2)]
      by_cases hh : has (S 0) k
      · have hm := Nat.mod_lt rk (show 0 < e by omega)
        have step : (if nI (rk % e) + 1 = nI e then (0 : Int32) else nI (rk % e) + 1) = nI ((rk + 1) % e) := by
          rw [nI_1]
          by_cases q : rk % e + 1 = e
          · rw [if_pos (by rw [q]), modn e1 e2, if_pos q]; rfl
          · rw [if_neg (fun z => q ((nI_eq (by omega) (by omega)).mp z)), modn e1 e2, if_neg q]
        have pick : ∀ (w : Int32) (Z : XS), (if nI (rk % e) + 1 = nI e then g_X0_breakingOfSample_8 (nI e) (nI g) n (k + 1) w 0 Z else g_X0_breakingOfSample_8 (nI e) (nI g) n (k + 1) w (nI (rk % e) + 1) Z) = g_X0_breakingOfSample_8 (nI e) (nI g) n (k + 1) w (nI ((rk + 1) % e)) Z := fun w Z => by
          rw [← step]
          by_cases q : nI (rk % e) + 1 = nI e
          · rw [if_pos q, if_pos q]
          · rw [if_neg q, if_neg q]
        rw [if_pos hh, if_neg one_ne, if_neg one_ne, pk_rem (by omega) (by omega) (by omega), pick, pick, pick, nI_1, Int32.add_zero]
        by_cases hz : nI (rk % e) = 0
        · rw [if_pos hz, if_pos hz]
          obtain ⟨A, B, C, D⟩ := pulls_eq h hk2 hh g1 g2
          generalize f_X0_breaksUnder S (nI k) (nI g) = X at A B C ⊢
          generalize f_X4_pulls T (nI k) (nI g) = Y at A B D ⊢
          have key : ∀ w : Int32, _ := fun w => ih (k + 1) (rk + 1) w X.2 Y.2 (by omega) (by omega) (by omega) B
          rcases A with ⟨x1, -, x3⟩ | ⟨x1, x2⟩
          · rw [if_pos x1, if_neg x3]
            obtain ⟨p1, p2, p3, p4⟩ := key v
            exact ⟨p1, p2, fun i hi => (p3 i hi).trans (C i hi), fun j hj => (p4 j hj).trans (D j hj)⟩
          · rw [if_neg (by rw [x1]; decide), if_pos x2]
            obtain ⟨p1, p2, p3, p4⟩ := key (v + 1)
            exact ⟨p1, p2, fun i hi => (p3 i hi).trans (C i hi), fun j hj => (p4 j hj).trans (D j hj)⟩
        · rw [if_neg hz, if_neg hz]
          exact ih (k + 1) (rk + 1) v S T (by omega) (by omega) (by omega) h
      · rw [if_neg hh, if_pos rfl, if_pos rfl]
        exact ih (k + 1) rk v S T (by omega) (by omega) (by omega) h
theorem a_sample (h : RS N S T) (a b : Int32) : (f_X3_sample S a b).1 = (f_X4_sample T a b).1 ∧ RS N (f_X3_sample S a b).2 (f_X4_sample T a b).2 := by
  rw [e_X3_sample, e_X4_sample, in_eq, in_eq, wires_eq h.1]
  by_cases hp : f_X4_in a 1 12 = 0
  · rw [if_pos hp, if_pos hp]; exact ⟨rfl, h⟩
  rw [if_neg hp, if_neg hp]
  by_cases hq : f_X4_in b 1 100 = 0
  · rw [if_pos hq, if_pos hq]; exact ⟨rfl, h⟩
  rw [if_neg hq, if_neg hq]
  by_cases hw : f_X4_wires T = 0
  · rw [if_pos hw, if_pos hw]; exact ⟨rfl, h⟩
  rw [if_neg hw, if_neg hw]
  obtain ⟨e, e1, e2, rfl⟩ := in_nat (a := 1) (b := 12) (by omega) (by omega) hp
  obtain ⟨g, g1, g2, rfl⟩ := in_nat (a := 1) (b := 100) (by omega) (by omega) hq
  obtain ⟨r, eU, eV⟩ := h.rec
  rw [e_X3_sample_k1, e_X3_sample_k2, e_X4_sample_k1, e_X0_breakingOfSample]
  generalize recS S 0 = U at r eU ⊢
  generalize f_X4_records T = V at r eV ⊢
  dsimp only
  obtain ⟨p1, p2, p3, p4⟩ := sample_g e1 e2 g1 g2 13 0 0 0 U V (by omega) (by omega) (by omega) r.1
  rw [Nat.zero_mod] at p1 p2 p3
  exact ⟨p1, p2, r.2.c0 p3 p4⟩
theorem a_type (h : RS N S T) (a : Int32) : (f_X3_type S a).1 = (f_X4_type T a).1 ∧ RS N (f_X3_type S a).2 (f_X4_type T a).2 := by
  obtain ⟨hc, a1, a2, ⟨L, L8, l1, l2⟩, ht, hb⟩ := h
  rw [e_X3_type, e_X3_type_k1, e_X4_type, e_X2_append, l1, l2]
  by_cases e : L < 80
  · rw [if_pos (show nI L < (80 : Int32) from nI_lt (b := 80) e (by omega)), if_neg (show ¬ nI L = (80 : Int32) from fun z => by have := (nI_eq (b := 80) (by omega) (by omega)).mp z; omega)]
    dsimp only
    rw [if_neg one_ne, e_X2_length, nI_cl (by omega), nI_1, ht]
    refine ⟨rfl, ?_, ?_⟩
    · exact hc
    · refine ⟨a1, ?_, ⟨L + 1, by omega, rfl, rfl⟩, rfl, fun b h1 h7 => ?_⟩
      · obtain ⟨q, q4, b1, b2, b3⟩ := a2
        refine ⟨q, q4, b1, b2, fun k hk => ?_⟩
        have mk4 := Nat.mod_lt (k + rot S) (show 0 < 4 by omega)
        have er : rot (su (su S 7 1 (upd (T 5) L (vp_nar .char a))) 7 0 (upd (S 7 0) 2 (nI (L + 1)))) = rot S := rot_8 (by rw [su_ne _ _ _ _ (show (8 : Nat) ≠ 7 by decide), su_ne _ _ _ _ (show (8 : Nat) ≠ 7 by decide)])
        show CR N (su (su S 7 1 (upd (T 5) L (vp_nar .char a))) 7 0 (upd (S 7 0) 2 (nI (L + 1))) (3 + (k + rot (su (su S 7 1 (upd (T 5) L (vp_nar .char a))) 7 0 (upd (S 7 0) 2 (nI (L + 1))))) % 4)) _
        rw [er, su_ne _ _ _ _ (show 3 + (k + rot S) % 4 ≠ 7 by omega), su_ne _ _ _ _ (show 3 + (k + rot S) % 4 ≠ 7 by omega)]
        exact b3 k hk
      · show su (su S 7 1 _) 7 0 _ b 0 4 = 0 ∨ su (su S 7 1 _) 7 0 _ b 0 4 = 1
        rw [su_ne _ _ _ _ (show b ≠ 7 by omega), su_ne _ _ _ _ (show b ≠ 7 by omega)]; exact hb b h1 h7
  · rw [if_neg (show ¬ nI L < (80 : Int32) from nI_nlt (b := 80) (by omega) (by omega)), if_pos (show nI L = (80 : Int32) by rw [show L = 80 by omega]; rfl)]
    dsimp only
    rw [if_pos rfl]
    exact ⟨rfl, hc, a1, a2, ⟨L, L8, l1, l2⟩, ht, hb⟩
theorem a_clearText (h : RS N S T) : (f_X3_clearText S).1 = (f_X4_clearText T).1 ∧ RS N (f_X3_clearText S).2 (f_X4_clearText T).2 := by
  obtain ⟨hc, hr⟩ := h
  obtain ⟨L, L8, l1, l2⟩ := hr.2.2.1
  have hr2 := hr
  obtain ⟨a1, ⟨q, q4, b1, b2, b3⟩, -, ht, hb⟩ := hr2
  rw [e_X3_clearText, e_X3_clearText_k1, e_X4_clearText, e_X2_length, e_X2_empty]
  have er : rot (su S 7 0 (upd (S 7 0) 2 0)) = rot S := rot_8 (su_ne _ _ _ _ (by decide))
  dsimp only
  refine ⟨l1.trans l2.symm, hc, a1, ⟨q, q4, b1, b2, fun k hk => ?_⟩, ⟨0, by omega, rfl, rfl⟩, ht, fun b h1 h7 => ?_⟩
  · have mk4 := Nat.mod_lt (k + rot S) (show 0 < 4 by omega)
    rw [er, su_ne _ _ _ _ (show 3 + (k + rot S) % 4 ≠ 7 by omega)]
    exact b3 k hk
  · rw [su_ne _ _ _ _ (show b ≠ 7 by omega)]; exact hb b h1 h7
theorem a_undo (h : RS N S T) : (f_X3_undo S).1 = (f_X4_undo T).1 ∧ RS N (f_X3_undo S).2 (f_X4_undo T).2 := by
  obtain ⟨hc, a1, ⟨q, q4, b1, b2, b3⟩, l0, ht, hb⟩ := h
  rw [e_X3_undo, e_X4_undo, e_X1_states, b1, b2]
  by_cases e : q = 0
  · rw [e, if_pos (show nI 0 = 0 from rfl), if_pos (show nI 0 = 0 from rfl)]; exact ⟨rfl, hc, a1, ⟨q, q4, b1, b2, b3⟩, l0, ht, hb⟩
  · obtain ⟨q1, rfl⟩ : ∃ q1, q = q1 + 1 := ⟨q - 1, by omega⟩
    have hne : ¬ nI (q1 + 1) = 0 := nI_ne0 (by omega) (by omega)
    rw [if_neg hne, if_neg hne, e_X3_undo_k1, e_X4_undo_k1, e_X1_states, nI_pred, show (71 : Int32) * nI q1 = nI (71 * q1) from pk_mul 71 q1]
    have mk4 := Nat.mod_lt (q1 + rot S) (show 0 < 4 by omega)
    have et : tkS S = su (sc S 0 (3 + (q1 + rot S) % 4)) 7 0 (upd (S 7 0) 1 (nI q1)) := by
      unfold tkS
      rw [b1, nI_cl (by omega), Nat.add_sub_cancel, nI_pred]
    have er : rot (tkS S) = rot S := by
      rw [et]
      exact rot_8 (by rw [su_ne _ _ _ _ (show (8 : Nat) ≠ 7 by decide), sc_ne _ _ _ (show (8 : Nat) ≠ 0 by decide)])
    rw [show f_X4_lays (tu T 0 (upd (T 0) 0 (nI q1))) 3 1 (nI (71 * q1)) 0 = _ from lays_eq (b := 0) (by decide) (by omega) (by omega)]
    dsimp only
    refine ⟨?_, ?_, ?_⟩
    · rw [et, su_s]
      exact pk_us
    · rw [et, su_ne _ _ _ _ (show (0 : Nat) ≠ 7 by decide), show sc S 0 (3 + (q1 + rot S) % 4) 0 = S (3 + (q1 + rot S) % 4) from if_pos rfl, tu_s]
      refine (b3 q1 (by omega)).row (fun j hj => ?_)
      show (if 0 ≤ j ∧ j < 0 + 71 then T 3 (71 * q1 + (j - 0)) else T 1 j) = T 3 (71 * q1 + j)
      rw [if_pos (by omega), Nat.sub_zero]
    · have h0 : ∀ i, 1 ≤ i → i < 7 → tkS S i = S i := fun i h1 h7 => by rw [et, su_ne _ _ _ _ (show i ≠ 7 by omega), sc_ne _ _ _ (show i ≠ 0 by omega)]
      have h7 : ∀ k, k ≠ 1 → tkS S 7 0 k = S 7 0 k := fun k hk => by rw [et, su_s]; exact pk_un hk
      refine ⟨?_, ⟨q1, by omega, by rw [et, su_s]; exact pk_us, (show upd (T 0) 0 (nI q1) 0 = nI q1 from pk_us), fun k hk => ?_⟩, ?_, ?_, fun b h1 h7 => by rw [h0 b h1 h7]; exact hb b h1 h7⟩
      · rw [h7 0 (by decide), h0 2 (by omega) (by omega)]; exact a1
      · have mk := Nat.mod_lt (k + rot S) (show 0 < 4 by omega)
        rw [er, h0 (3 + (k + rot S) % 4) (by omega) (by omega)]
        exact b3 k (by omega)
      · obtain ⟨L, L8, l1, l2⟩ := l0
        exact ⟨L, L8, (h7 2 (by decide)).trans l1, l2⟩
      · rw [et, su_c _ _ _ _ (show (1 : Nat) ≠ 0 by decide), sc_ne _ _ _ (show (7 : Nat) ≠ 0 by decide)]; exact ht
theorem a_keep (h : RS N S T) : (f_X3_keep S).1 = (f_X4_keep T).1 ∧ RS N (f_X3_keep S).2 (f_X4_keep T).2 := by
  rw [e_X3_keep, e_X3_keep_k1, e_X4_keep, e_X4_keep_k1, e_X0_copyFrom_2_0, lays0 (by decide)]
  obtain ⟨hc, a1, ⟨q, q4, b1, b2, b3⟩, l0, ht, hb⟩ := h
  have c0 : CR N (su (sc S 2 0) 7 0 (upd (sc S 2 0 7 0) 0 1) 0) (tu (tu T 4 (fun x => if x < 71 then T 1 x else T 4 x)) 0 (upd (tu T 4 (fun x => if x < 71 then T 1 x else T 4 x) 0) 1 1) 1) := hc
  have er : rot (su (sc S 2 0) 7 0 (upd (sc S 2 0 7 0) 0 1)) = rot S := rot_8 rfl
  dsimp only
  refine ⟨wires_eq c0, c0, Or.inr ⟨rfl, rfl, hc.row (fun j hj => if_pos hj)⟩, ⟨q, q4, b1, b2, fun k hk => ?_⟩, l0, ht, fun b h1 h7 => ?_⟩
  · have mk := Nat.mod_lt (k + rot S) (show 0 < 4 by omega)
    rw [er, su_ne _ _ _ _ (show 3 + (k + rot S) % 4 ≠ 7 by omega), sc_ne _ _ _ (show 3 + (k + rot S) % 4 ≠ 2 by omega)]
    exact b3 k hk
  · rw [su_ne _ _ _ _ (show b ≠ 7 by omega)]
    by_cases e : b = 2
    · rw [e, show sc S 2 0 2 = S 0 from if_pos rfl]; exact hc.bit
    · rw [sc_ne _ _ _ e]; exact hb b h1 h7
theorem a_restore (h : RS N S T) : (f_X3_restore S).1 = (f_X4_restore T).1 ∧ RS N (f_X3_restore S).2 (f_X4_restore T).2 := by
  obtain ⟨r, -, -⟩ := h.rec
  rw [e_X3_restore, e_X4_restore]
  rcases h.2.1 with ⟨s1, s2⟩ | ⟨s1, s2, s3⟩
  · rw [s1, s2, if_pos rfl, if_pos rfl]; exact ⟨rfl, h⟩
  · obtain ⟨q, q4, -, b2, -⟩ := h.2.2.1
    have e2 : recS S 0 2 = S 2 := recS_lo S 0 2 (by omega)
    have e4 := (rec_o T b2 q4).1 4 (by decide) (by decide)
    rw [s1, s2, if_neg one_ne, if_neg one_ne, e_X3_restore_k1, e_X3_restore_k2, e_X4_restore_k1, e_X4_restore_k2, e_X0_copyFrom_0_2, lays0 (by decide)]
    rw [← e2, ← e4] at s3
    generalize recS S 0 = U at r s3 ⊢
    generalize f_X4_records T = V at r s3 ⊢
    dsimp only
    have c0 : CR N (sc U 0 2 0) (tu V 1 (fun x => if x < 71 then V 4 x else V 1 x) 1) := by
      rw [tu_s]
      exact s3.row (fun j hj => if_pos hj)
    exact ⟨wires_eq c0, c0, r.2.c0 (fun i hi => sc_ne _ _ _ hi) (fun j hj => tu_n _ _ _ hj)⟩
end ACTS
