/-! what an act does, for any state of the law's loop -/
def CI (N : Nat) (c : Nat → Nat → Int32) : Prop :=
  (∀ k, k < 16 → ¬ c 1 k < 0) ∧ (∀ k, k < 12 → ¬ c 3 k < 0) ∧ (∀ k, k < 12 → ¬ c 4 k < 0) ∧ ¬ c 0 1 < 0 ∧ (∃ w : Nat, w ≤ 300 ∧ c 0 2 = nI w) ∧ (c 0 4 = 0 ∨ c 0 4 = 1) ∧ (∃ t : Nat, t ≤ N ∧ c 0 5 = nI t)
def AI (N : Nat) (S : XS) : Prop := ∀ b, b < 7 → CI N (S b)
def Pu (S U : XS) : Prop := ∀ i, i ≠ 0 → U i = recS S 0 i
def AO (N : Nat) (S : XS) (z : Int32 × XS) : Prop := (z.1 < 0 ∧ z.2 = S) ∨ (¬ z.1 < 0 ∧ Pu S z.2 ∧ CI (N + 1) (z.2 0))
theorem ao_no {N : Nat} {S : XS} {v : Int32} (h : v < 0) : AO N S (v, S) := Or.inl ⟨h, rfl⟩
theorem CI.mono {N M : Nat} {c : Nat → Nat → Int32} (h : CI N c) (hM : N ≤ M) : CI M c := by
  obtain ⟨h1, h2, h3, h4, h5, h6, t, h7, h8⟩ := h
  exact ⟨h1, h2, h3, h4, h5, h6, t, Nat.le_trans h7 hM, h8⟩
theorem rec0 (S : XS) : recS S 0 0 = S 0 := recS_lo S 0 0 (by decide)
theorem rec2 (S : XS) : recS S 0 2 = S 2 := recS_lo S 0 2 (by decide)
theorem in_lt {x : Int32} {n : Nat} (h : vp_in x n) : x.toNatClampNeg < n := Nat.not_le.mp (fun q => h (Or.inr q))
theorem upd_nn {f : Nat → Int32} {n j : Nat} {v : Int32} (h : ∀ k, k < n → ¬ f k < 0) (hv : ¬ v < 0) : ∀ k, k < n → ¬ upd f j v k < 0 := by
  intro k hk
  unfold upd
  split
  · exact hv
  · exact h k hk
theorem pos_nn {x : Int32} (h : 0 < x) : ¬ x < 0 := by
  rw [Int32.lt_iff_toInt_lt] at h ⊢
  omega
theorem wi_rng {x a b : Int32} (h : ¬ f_X3_isWithin x a b = 0) : ¬ x < a ∧ ¬ b < x := by
  rw [e_X3_isWithin] at h
  refine ⟨fun q => h (if_pos q), fun q => h ?_⟩
  by_cases q1 : x < a
  · rw [if_pos q1]
  · rw [if_neg q1, if_pos q]
theorem nn_ge {x a : Int32} (ha : ¬ a < 0) (h : ¬ x < a) : ¬ x < 0 := by
  rw [Int32.lt_iff_toInt_lt] at h ha ⊢
  omega
theorem st_nn {N : Nat} {U : XS} (h : CI N (U 0)) (p : Int32) : ¬ f_X0_strengthOf U p < 0 := by
  rw [e_X0_strengthOf]
  by_cases c : f_X3_isPad p = 0
  · rw [if_pos c]; decide
  · rw [if_neg c]; exact h.2.2.1 _ (in_lt (in_pad c))
theorem ht_nn {N : Nat} {U : XS} (h : CI N (U 0)) (p : Int32) : ¬ f_X0_heightOf U p < 0 := by
  rw [e_X0_heightOf]
  by_cases c : f_X3_isPad p = 0
  · rw [if_pos c]; decide
  · rw [if_neg c]; exact h.2.1 _ (in_lt (in_pad c))
theorem xl_nn {N : Nat} {U : XS} (h : CI N (U 0)) (p : Int32) : ¬ f_X0_xOfLead U p < 0 := by
  rw [e_X0_xOfLead]
  by_cases c : f_X3_isLead p = 0
  · rw [if_pos c]; decide
  · rw [if_neg c]; exact h.1 _ (in_lt (in_lead c))
theorem mx_nn (X : Int32) : ¬ (if 0 < X then X else 0) < 0 := by
  by_cases h : 0 < X
  · rw [if_pos h]; exact pos_nn h
  · rw [if_neg h]; decide
theorem ns_nn (S : XS) (a b : Int32) : ¬ f_X0_newStrength S a b < 0 := by
  rw [e_X0_newStrength]
  exact mx_nn _
theorem err_neg {S : XS} {a b : Int32} (h : ¬ f_X0_errorOfLaying S a b = 0) : f_X0_errorOfLaying S a b < 0 := by
  rw [e_X0_errorOfLaying] at h ⊢
  repeat' split
  all_goals first | decide | (rename_i q1 q2 q3 q4; exact absurd (by rw [if_pos q1, if_pos q2, if_pos q3, if_pos q4]) h)
theorem err_0 {S : XS} {a b : Int32} (h : f_X0_errorOfLaying S a b = 0) : S 0 0 2 < 200 := by
  rw [e_X0_errorOfLaying] at h
  by_cases c1 : f_X0_hasWire S a = 0
  · rw [if_pos c1] at h
    by_cases c2 : f_X0_padAtLead S b = (-5)
    · rw [if_pos c2] at h
      by_cases c3 : S 0 0 4 = 0
      · rw [if_pos c3] at h
        by_cases c4 : S 0 0 2 < 200
        · exact c4
        · rw [if_neg c4] at h; exact absurd h (by decide)
      · rw [if_neg c3] at h; exact absurd h (by decide)
    · rw [if_neg c2] at h; exact absurd h (by decide)
  · rw [if_neg c1] at h; exact absurd h (by decide)
theorem aw_rows (U : XS) {a b : Int32} (c : Int32) (h1 : ¬ f_X3_isPad a = 0) (h2 : ¬ f_X3_isLead b = 0) :
    f_X0_addWire U a b c 0 1 = U 0 1 ∧ f_X0_addWire U a b c 0 3 = upd (U 0 3) a.toNatClampNeg c ∧ (∃ v : Int32, ¬ v < 0 ∧ f_X0_addWire U a b c 0 4 = upd (U 0 4) a.toNatClampNeg v) ∧ f_X0_addWire U a b c 0 0 1 = U 0 0 1 ∧ f_X0_addWire U a b c 0 0 2 = U 0 0 2 + f_X0_wearOfLaying c ∧ ((f_X0_addWire U a b c 0 0 4 = U 0 0 4 ∧ f_X0_addWire U a b c 0 0 5 = U 0 0 5) ∨ (f_X0_addWire U a b c 0 0 4 = 1 ∧ f_X0_addWire U a b c 0 0 5 = U 0 0 5 + 1)) := by
  rw [e_X0_addWire, if_neg h1, if_neg h2]
  split
  · exact ⟨rfl, rfl, ⟨_, ns_nn _ _ _, rfl⟩, rfl, rfl, Or.inl ⟨rfl, rfl⟩⟩
  · exact ⟨rfl, rfl, ⟨_, ns_nn _ _ _, rfl⟩, rfl, rfl, Or.inr ⟨rfl, rfl⟩⟩
theorem ci_addWire {N : Nat} {U : XS} {a b c : Int32} (h : CI N (U 0)) (h1 : ¬ f_X3_isPad a = 0) (h2 : ¬ f_X3_isLead b = 0) (h3 : ¬ f_X3_isHeight c = 0) (hw : U 0 0 2 < 200) : CI (N + 1) (f_X0_addWire U a b c 0) := by
  rw [e_X3_isHeight] at h3
  obtain ⟨q1, q2⟩ := wi_rng h3
  have hc : ¬ c < 0 := nn_ge (by decide) q1
  obtain ⟨g, hg, eg⟩ := nI_of2 (n := 200) (M := 200) (by decide) hc (Int32.not_lt.mp q2)
  obtain ⟨k1, k3, k4, kw, ⟨w, w300, ew⟩, kb, t, ht, et⟩ := h
  obtain ⟨r1, r3, ⟨v, hv, r4⟩, r01, r02, r45⟩ := aw_rows U c h1 h2
  have hw2 : w < 200 := by
    rw [ew] at hw
    exact (nI_ltI (a := w) (b := 200) (by omega) (by omega)).mp hw
  refine ⟨by rw [r1]; exact k1, by rw [r3]; exact upd_nn k3 hc, by rw [r4]; exact upd_nn k4 hv, by rw [r01]; exact kw, ?_, ?_, ?_⟩
  · rw [r02, ew, eg, e_X0_wearOfLaying, show (50 : Int32) = nI 50 from rfl, pk_div (by omega) (by omega) (by omega), show (2 : Int32) = nI 2 from rfl, nI_add, nI_add]
    exact ⟨w + (2 + g / 50), by omega, rfl⟩
  · rcases r45 with ⟨e4, e5⟩ | ⟨e4, e5⟩
    · rw [e4]; exact kb
    · exact Or.inr e4
  · rcases r45 with ⟨e4, e5⟩ | ⟨e4, e5⟩
    · exact ⟨t, by omega, by rw [e5]; exact et⟩
    · exact ⟨t + 1, by omega, by rw [e5, et, nI_1]⟩
theorem ao_lay {N : Nat} {S : XS} (h : AI N S) (a b c : Int32) : AO N S (f_X3_lay S a b c) := by
  rw [e_X3_lay]
  by_cases c1 : f_X3_isPad a = 0
  · rw [if_pos c1]; exact ao_no (by decide)
  by_cases c2 : f_X3_isLead b = 0
  · rw [if_neg c1, if_pos c2]; exact ao_no (by decide)
  by_cases c3 : f_X3_isHeight c = 0
  · rw [if_neg c1, if_neg c2, if_pos c3]; exact ao_no (by decide)
  by_cases c4 : f_X0_errorOfLaying S a b = 0
  · rw [if_neg c1, if_neg c2, if_neg c3, if_pos c4, e_X3_lay_k1, e_X3_lay_k2]
    have h0 : CI N (recS S 0 0) := by rw [rec0]; exact h 0 (by decide)
    have h9 := ci_addWire (U := recS S 0) h0 c1 c2 c3 (by rw [rec0]; exact err_0 c4)
    exact Or.inr ⟨st_nn h9 a, fun i hi => c_addWire _ _ _ _ hi, h9⟩
  · rw [if_neg c1, if_neg c2, if_neg c3, if_neg c4]; exact Or.inl ⟨err_neg c4, rfl⟩
theorem rw_ne (U : XS) (p : Int32) {i : Nat} (h : i ≠ 0) : f_X0_removeWire U p i = U i := by
  rw [e_X0_removeWire]
  split
  · rfl
  · exact su_ne _ _ _ _ h
theorem ci_rw {N : Nat} {U : XS} (p : Int32) (h : CI N (U 0)) : CI N (f_X0_removeWire U p 0) := by
  rw [e_X0_removeWire]
  split
  · exact h
  · exact ⟨h.1, h.2.1, h.2.2.1, h.2.2.2.1, h.2.2.2.2.1, h.2.2.2.2.2.1, h.2.2.2.2.2.2⟩
theorem ao_takeOff {N : Nat} {S : XS} (h : AI N S) (a : Int32) : AO N S (f_X3_takeOff S a) := by
  rw [e_X3_takeOff]
  by_cases c1 : f_X0_hasWire S a = 0
  · rw [if_pos c1]; exact ao_no (by decide)
  · rw [if_neg c1, e_X3_takeOff_k1, e_X3_takeOff_k2]
    have h0 : CI N (recS S 0 0) := by rw [rec0]; exact h 0 (by decide)
    exact Or.inr ⟨st_nn h0 a, fun i hi => rw_ne _ _ hi, (ci_rw a h0).mono (by omega)⟩
theorem ao_bend {N : Nat} {S : XS} (h : AI N S) (a b : Int32) : AO N S (f_X3_bend S a b) := by
  rw [e_X3_bend]
  by_cases c1 : f_X0_hasWire S a = 0
  · rw [if_pos c1]; exact ao_no (by decide)
  by_cases c2 : f_X3_isHeight b = 0
  · rw [if_neg c1, if_pos c2]; exact ao_no (by decide)
  by_cases c3 : f_X0_heightOf S a = b
  · rw [if_neg c1, if_neg c2, if_pos c3]; exact ao_no (by decide)
  · rw [if_neg c1, if_neg c2, if_neg c3, e_X3_bend_k1, e_X3_bend_k2]
    have h0 : CI N (recS S 0 0) := by rw [rec0]; exact h 0 (by decide)
    have hb : ¬ b < 0 := by
      rw [e_X3_isHeight] at c2
      exact nn_ge (by decide) (wi_rng c2).1
    refine Or.inr ⟨ht_nn (h 0 (by decide)) a, fun i hi => ?_, ?_⟩
    · show f_X0_changeHeight (recS S 0) a b i = _
      rw [e_X0_changeHeight]
      split
      · rfl
      · exact su_ne _ _ _ _ hi
    · show CI (N + 1) (f_X0_changeHeight (recS S 0) a b 0)
      rw [e_X0_changeHeight]
      split
      · exact h0.mono (by omega)
      · exact CI.mono (N := N) ⟨h0.1, upd_nn h0.2.1 hb, h0.2.2.1, h0.2.2.2.1, h0.2.2.2.2.1, h0.2.2.2.2.2.1, h0.2.2.2.2.2.2⟩ (by omega)
theorem ao_moveLead {N : Nat} {S : XS} (h : AI N S) (a b : Int32) : AO N S (f_X3_moveLead S a b) := by
  rw [e_X3_moveLead]
  by_cases c1 : f_X3_isLead a = 0
  · rw [if_pos c1]; exact ao_no (by decide)
  by_cases c2 : f_X3_isWithin b 0 600 = 0
  · rw [if_neg c1, if_pos c2]; exact ao_no (by decide)
  by_cases c3 : f_X0_padAtLead S a = (-5)
  · by_cases c4 : f_X0_xOfLead S a = b
    · rw [if_neg c1, if_neg c2, if_pos c3, if_pos c4]; exact ao_no (by decide)
    · rw [if_neg c1, if_neg c2, if_pos c3, if_neg c4, e_X3_moveLead_k1, e_X3_moveLead_k2]
      have h0 : CI N (recS S 0 0) := by rw [rec0]; exact h 0 (by decide)
      have hb : ¬ b < 0 := (wi_rng c2).1
      refine Or.inr ⟨xl_nn (h 0 (by decide)) a, fun i hi => ?_, ?_⟩
      · show f_X0_placeLead (recS S 0) a b i = _
        rw [e_X0_placeLead]
        split
        · rfl
        · exact su_ne _ _ _ _ hi
      · show CI (N + 1) (f_X0_placeLead (recS S 0) a b 0)
        rw [e_X0_placeLead]
        split
        · exact h0.mono (by omega)
        · exact CI.mono (N := N) ⟨upd_nn h0.1 hb, h0.2.1, h0.2.2.1, h0.2.2.2.1, h0.2.2.2.2.1, h0.2.2.2.2.2.1, h0.2.2.2.2.2.2⟩ (by omega)
  · rw [if_neg c1, if_neg c2, if_neg c3]; exact ao_no (by decide)
theorem ao_setWidth {N : Nat} {S : XS} (h : AI N S) (a : Int32) : AO N S (f_X3_setWidth S a) := by
  rw [e_X3_setWidth]
  by_cases c1 : f_X3_isWithin a 1 50 = 0
  · rw [if_pos c1]; exact ao_no (by decide)
  by_cases c2 : S 0 0 1 = a
  · rw [if_neg c1, if_pos c2]; exact ao_no (by decide)
  · rw [if_neg c1, if_neg c2, e_X3_setWidth_k1]
    have h0 : CI N (recS S 0 0) := by rw [rec0]; exact h 0 (by decide)
    have ha : ¬ a < 0 := nn_ge (by decide) (wi_rng c1).1
    exact Or.inr ⟨(h 0 (by decide)).2.2.2.1, fun i hi => su_ne _ _ _ _ hi, CI.mono (N := N) ⟨h0.1, h0.2.1, h0.2.2.1, ha, h0.2.2.2.2.1, h0.2.2.2.2.2.1, h0.2.2.2.2.2.2⟩ (by omega)⟩
theorem nI_nn {w : Nat} (h : w ≤ 1000000) : ¬ nI w < 0 := nI_pos (by omega)
theorem ao_changeTool {N : Nat} {S : XS} (h : AI N S) : AO N S (f_X3_changeTool S) := by
  rw [e_X3_changeTool]
  by_cases c1 : S 0 0 2 = 0
  · rw [if_pos c1]; exact ao_no (by decide)
  · rw [if_neg c1, e_X3_changeTool_k1]
    have h0 : CI N (recS S 0 0) := by rw [rec0]; exact h 0 (by decide)
    obtain ⟨w, hw, ew⟩ := (h 0 (by decide)).2.2.2.2.1
    refine Or.inr ⟨?_, fun i hi => (su_ne _ _ _ _ hi).trans (su_ne _ _ _ _ hi), CI.mono (N := N) ⟨h0.1, h0.2.1, h0.2.2.1, h0.2.2.2.1, ⟨0, by omega, rfl⟩, h0.2.2.2.2.2.1, h0.2.2.2.2.2.2⟩ (by omega)⟩
    show ¬ S 0 0 2 < 0
    rw [ew]; exact nI_nn (by omega)
theorem ao_thread {N : Nat} {S : XS} (hN : N ≤ 1000) (h : AI N S) : AO N S (f_X3_thread S) := by
  rw [e_X3_thread]
  by_cases c1 : S 0 0 4 = 0
  · rw [if_pos c1]; exact ao_no (by decide)
  · rw [if_neg c1, e_X3_thread_k1]
    have h0 : CI N (recS S 0 0) := by rw [rec0]; exact h 0 (by decide)
    obtain ⟨t, ht, et⟩ := h0.2.2.2.2.2.2
    refine Or.inr ⟨?_, fun i hi => su_ne _ _ _ _ hi, CI.mono (N := N) ⟨h0.1, h0.2.1, h0.2.2.1, h0.2.2.2.1, h0.2.2.2.2.1, Or.inl rfl, h0.2.2.2.2.2.2⟩ (by omega)⟩
    show ¬ recS S 0 0 0 5 < 0
    rw [et]; exact nI_nn (by omega)
theorem bu_ne (U : XS) (p q : Int32) {i : Nat} (h : i ≠ 0) : (f_X0_breaksUnder U p q).2 i = U i := by
  rw [e_X0_breaksUnder]
  split
  · rfl
  · split
    · exact su_ne _ _ _ _ h
    · exact (su_ne _ _ _ _ h).trans (rw_ne _ _ h)
theorem bu_ci {N : Nat} {U : XS} (p q : Int32) (h : CI N (U 0)) : CI N ((f_X0_breaksUnder U p q).2 0) := by
  rw [e_X0_breaksUnder]
  split
  · exact h
  · split
    · refine ⟨h.1, h.2.1, upd_nn h.2.2.1 ?_, h.2.2.2.1, h.2.2.2.2.1, h.2.2.2.2.2.1, h.2.2.2.2.2.2⟩
      split
      · rename_i hh; exact pos_nn hh
      · decide
    · have h9 := ci_rw p h
      exact ⟨h9.1, h9.2.1, h9.2.2.1, h9.2.2.2.1, h9.2.2.2.2.1, h9.2.2.2.2.2.1, h9.2.2.2.2.2.2⟩
theorem ao_pull {N : Nat} {S : XS} (h : AI N S) (a b : Int32) : AO N S (f_X3_pull S a b) := by
  rw [e_X3_pull]
  by_cases c1 : f_X0_hasWire S a = 0
  · rw [if_pos c1]; exact ao_no (by decide)
  by_cases c2 : f_X3_isWithin b 1 100 = 0
  · rw [if_neg c1, if_pos c2]; exact ao_no (by decide)
  · rw [if_neg c1, if_neg c2, e_X3_pull_k1, e_X3_pull_k2]
    have h0 : CI N (recS S 0 0) := by rw [rec0]; exact h 0 (by decide)
    have h9 := bu_ci a b h0
    split
    · exact Or.inr ⟨st_nn h9 a, fun i hi => bu_ne _ _ _ hi, h9.mono (by omega)⟩
    · exact Or.inr ⟨(show ¬ (1000 : Int32) < 0 by decide), fun i hi => bu_ne _ _ _ hi, h9.mono (by omega)⟩
theorem g_bos {N : Nat} (p q : Int32) : ∀ (n k : Nat) (v u : Int32) (U : XS) (a : Nat), v = nI a → a + n ≤ 100 → CI N (U 0) → ¬ (g_X0_breakingOfSample_8 p q n k v u U).1 < 0 ∧ (∀ i, i ≠ 0 → (g_X0_breakingOfSample_8 p q n k v u U).2 i = U i) ∧ CI N ((g_X0_breakingOfSample_8 p q n k v u U).2 0) := by
  intro n
  induction n with
  | zero => intro k v u U a hv ha h; exact ⟨by show ¬ v < 0; rw [hv]; exact nI_nn (by omega), fun i hi => rfl, h⟩
  | succ n ih =>
    intro k v u U a hv ha h
    have hv1 : v + 1 = nI (a + 1) := by rw [hv, nI_1]
    have hb := bu_ci (nI k) q h
    have go : ∀ (v1 u1 : Int32) (U1 : XS) (a1 : Nat), v1 = nI a1 → a1 + n ≤ 100 → CI N (U1 0) → (∀ i, i ≠ 0 → U1 i = U i) → ¬ (g_X0_breakingOfSample_8 p q n (k + 1) v1 u1 U1).1 < 0 ∧ (∀ i, i ≠ 0 → (g_X0_breakingOfSample_8 p q n (k + 1) v1 u1 U1).2 i = U i) ∧ CI N ((g_X0_breakingOfSample_8 p q n (k + 1) v1 u1 U1).2 0) := fun v1 u1 U1 a1 e1 e2 e3 e4 => by
      obtain ⟨x1, x2, x3⟩ := ih (k + 1) v1 u1 U1 a1 e1 e2 e3
      exact ⟨x1, fun i hi => (x2 i hi).trans (e4 i hi), x3⟩
    rw [ge_X0_breakingOfSample_8]
    repeat' split
    all_goals first | exact ⟨by show ¬ v < 0; rw [hv]; exact nI_nn (by omega), fun i hi => rfl, h⟩ | exact go _ _ _ a hv (by omega) h (fun i hi => rfl) | exact go _ _ _ a hv (by omega) hb (fun i hi => bu_ne _ _ _ hi) | exact go _ _ _ (a + 1) hv1 (by omega) hb (fun i hi => bu_ne _ _ _ hi)
theorem ao_sample {N : Nat} {S : XS} (h : AI N S) (a b : Int32) : AO N S (f_X3_sample S a b) := by
  rw [e_X3_sample]
  by_cases c1 : f_X3_isWithin a 1 12 = 0
  · rw [if_pos c1]; exact ao_no (by decide)
  by_cases c2 : f_X3_isWithin b 1 100 = 0
  · rw [if_neg c1, if_pos c2]; exact ao_no (by decide)
  by_cases c3 : f_X0_wires S = 0
  · rw [if_neg c1, if_neg c2, if_pos c3]; exact ao_no (by decide)
  · rw [if_neg c1, if_neg c2, if_neg c3, e_X3_sample_k1, e_X3_sample_k2, e_X0_breakingOfSample]
    have h0 : CI N (recS S 0 0) := by rw [rec0]; exact h 0 (by decide)
    obtain ⟨x1, x2, x3⟩ := g_bos a b 13 0 0 0 (recS S 0) 0 nI_0.symm (by omega) h0
    exact Or.inr ⟨x1, x2, x3.mono (by omega)⟩
theorem g_wi (S : XS) : ∀ (n k : Nat) (v : Int32) (a : Nat), v = nI a → a + n ≤ 100 → ¬ g_X0_wires_4 S n k v < 0 := by
  intro n
  induction n with
  | zero => intro k v a hv ha; show ¬ v < 0; rw [hv]; exact nI_nn (by omega)
  | succ n ih =>
    intro k v a hv ha
    have hv1 : v + 1 = nI (a + 1) := by rw [hv, nI_1]
    rw [ge_X0_wires_4]
    by_cases c1 : 12 ≤ nI k
    · rw [if_pos c1, hv]; exact nI_nn (by omega)
    · by_cases c2 : f_X0_hasWire S (nI k) = 0
      · rw [if_neg c1, if_pos c2]; exact ih _ _ a hv (by omega)
      · rw [if_neg c1, if_neg c2]; exact ih _ _ (a + 1) hv1 (by omega)
theorem wires_nn (S : XS) : ¬ f_X0_wires S < 0 := by
  rw [e_X0_wires]
  exact g_wi S 13 0 0 0 nI_0.symm (by omega)
theorem ao_restore {N : Nat} {S : XS} (h : AI N S) : AO N S (f_X3_restore S) := by
  rw [e_X3_restore]
  by_cases c1 : S 7 0 0 = 0
  · rw [if_pos c1]; exact ao_no (by decide)
  · rw [if_neg c1, e_X3_restore_k1, e_X3_restore_k2]
    refine Or.inr ⟨wires_nn _, fun i hi => sc_ne _ _ _ hi, ?_⟩
    show CI (N + 1) (recS S 0 2)
    rw [rec2]
    exact (h 2 (by decide)).mono (by omega)
