/-! LAYING, side by side -/
/-- the row behind a laying -/
def FB (f : Nat → Int32) (k : Nat) (l g t w : Int32) : Nat → Int32 := upd (upd (upd (upd (upd (upd f (16 + 4 * k) l) (16 + 4 * k + 1) g) (16 + 4 * k + 2) t) (16 + 4 * k + 3) (f 68)) 65 w) 68 (f 68 + 1)
def FF (f : Nat → Int32) (k : Nat) (l g t w : Int32) : Nat → Int32 := if (f 68 + 1) - (f 68 + 1) / 7 * 7 = 0 then upd (upd (upd (upd (upd (upd (upd (upd f (16 + 4 * k) l) (16 + 4 * k + 1) g) (16 + 4 * k + 2) t) (16 + 4 * k + 3) (f 68)) 65 w) 68 (f 68 + 1)) 66 1) 67 (f 67 + 1) else upd (upd (upd (upd (upd (upd f (16 + 4 * k) l) (16 + 4 * k + 1) g) (16 + 4 * k + 2) t) (16 + 4 * k + 3) (f 68)) 65 w) 68 (f 68 + 1)
theorem laid1_eq (T : MS) {k l g w : Nat} (hk : k < 12) (hg : g ≤ 200) (hw : T 1 65 = nI w) (hw2 : w < 200) : f_X4_laid_1 T (nI k) (nI l) (nI g) = (f_X4_strengthFor T 1 (nI k) (nI l), tu T 1 (FF (T 1) k (nI l) (nI g) (f_X4_strengthFor T 1 (nI k) (nI l)) (nI (w + (2 + g / 50))))) := by
  have i0 := (show ((16 + (4 * nI k)) + 0).toNatClampNeg = 16 + 4 * k from at_nat k 0 hk (by omega))
  have i1 := (show ((16 + (4 * nI k)) + 1).toNatClampNeg = 16 + 4 * k + 1 from at_nat k 1 hk (by omega))
  have i2 := (show ((16 + (4 * nI k)) + 2).toNatClampNeg = 16 + 4 * k + 2 from at_nat k 2 hk (by omega))
  have i3 := (show ((16 + (4 * nI k)) + 3).toNatClampNeg = 16 + 4 * k + 3 from at_nat k 3 hk (by omega))
  have a65 : ∀ x0 x1 x2 x3 : Int32, upd (upd (upd (upd (T 1) (16 + 4 * k) x0) (16 + 4 * k + 1) x1) (16 + 4 * k + 2) x2) (16 + 4 * k + 3) x3 65 = nI w := fun _ _ _ _ => ((pk_un (by omega)).trans ((pk_un (by omega)).trans ((pk_un (by omega)).trans ((pk_un (by omega)).trans hw))))
  have a68 : ∀ x0 x1 x2 : Int32, upd (upd (upd (T 1) (16 + 4 * k) x0) (16 + 4 * k + 1) x1) (16 + 4 * k + 2) x2 68 = T 1 68 := fun _ _ _ => ((pk_un (by omega)).trans ((pk_un (by omega)).trans (pk_un (by omega))))
  have b68 : ∀ x0 x1 x2 x3 x4 : Int32, upd (upd (upd (upd (upd (T 1) (16 + 4 * k) x0) (16 + 4 * k + 1) x1) (16 + 4 * k + 2) x2) (16 + 4 * k + 3) x3) 65 x4 68 = T 1 68 := fun _ _ _ _ _ => ((pk_un (by omega)).trans ((pk_un (by omega)).trans ((pk_un (by omega)).trans ((pk_un (by omega)).trans (pk_un (by omega))))))
  have c67 : ∀ x0 x1 x2 x3 x4 x5 x6 : Int32, upd (upd (upd (upd (upd (upd (upd (T 1) (16 + 4 * k) x0) (16 + 4 * k + 1) x1) (16 + 4 * k + 2) x2) (16 + 4 * k + 3) x3) 65 x4) 68 x5) 66 x6 67 = T 1 67 := fun _ _ _ _ _ _ _ => ((pk_un (by omega)).trans ((pk_un (by omega)).trans ((pk_un (by omega)).trans ((pk_un (by omega)).trans ((pk_un (by omega)).trans ((pk_un (by omega)).trans (pk_un (by omega))))))))
  have hsum : (nI w + 2) + nI g / 50 = nI (w + (2 + g / 50)) := by
    rw [show (50 : Int32) = nI 50 from rfl, pk_div (by omega) (by omega) (by omega), show (2 : Int32) = nI 2 from rfl, nI_add, nI_add, Nat.add_assoc]
  have hle : nI (w + (2 + g / 50)) ≤ (999 : Int32) := nI_le (b := 999) (by omega) (by omega)
  rw [e_X4_laid_1, e_X4_laid_1_k1, e_X4_laid_1_k2]
  simp only [tu_s, tu_tu, i0, i1, i2, i3, a65, a68, hsum]
  rw [if_pos hle, e_X4_laid_1_k3, e_X4_laid_1_k4]
  simp only [tu_s, tu_tu, b68, c67, pk_us]
  unfold FF
  by_cases hz : (T 1 68 + 1) - (T 1 68 + 1) / 7 * 7 = 0
  · rw [if_pos hz, if_pos hz]
  · rw [if_neg hz, if_neg hz]
theorem laid2_eq (T : MS) {k l g w : Nat} (hk : k < 12) (hg : g ≤ 200) (hw : T 2 65 = nI w) (hw2 : w < 200) : f_X4_laid_2 T (nI k) (nI l) (nI g) = (f_X4_strengthFor T 2 (nI k) (nI l), tu T 2 (FF (T 2) k (nI l) (nI g) (f_X4_strengthFor T 2 (nI k) (nI l)) (nI (w + (2 + g / 50))))) := by
  have i0 := (show ((16 + (4 * nI k)) + 0).toNatClampNeg = 16 + 4 * k from at_nat k 0 hk (by omega))
  have i1 := (show ((16 + (4 * nI k)) + 1).toNatClampNeg = 16 + 4 * k + 1 from at_nat k 1 hk (by omega))
  have i2 := (show ((16 + (4 * nI k)) + 2).toNatClampNeg = 16 + 4 * k + 2 from at_nat k 2 hk (by omega))
  have i3 := (show ((16 + (4 * nI k)) + 3).toNatClampNeg = 16 + 4 * k + 3 from at_nat k 3 hk (by omega))
  have a65 : ∀ x0 x1 x2 x3 : Int32, upd (upd (upd (upd (T 2) (16 + 4 * k) x0) (16 + 4 * k + 1) x1) (16 + 4 * k + 2) x2) (16 + 4 * k + 3) x3 65 = nI w := fun _ _ _ _ => ((pk_un (by omega)).trans ((pk_un (by omega)).trans ((pk_un (by omega)).trans ((pk_un (by omega)).trans hw))))
  have a68 : ∀ x0 x1 x2 : Int32, upd (upd (upd (T 2) (16 + 4 * k) x0) (16 + 4 * k + 1) x1) (16 + 4 * k + 2) x2 68 = T 2 68 := fun _ _ _ => ((pk_un (by omega)).trans ((pk_un (by omega)).trans (pk_un (by omega))))
  have b68 : ∀ x0 x1 x2 x3 x4 : Int32, upd (upd (upd (upd (upd (T 2) (16 + 4 * k) x0) (16 + 4 * k + 1) x1) (16 + 4 * k + 2) x2) (16 + 4 * k + 3) x3) 65 x4 68 = T 2 68 := fun _ _ _ _ _ => ((pk_un (by omega)).trans ((pk_un (by omega)).trans ((pk_un (by omega)).trans ((pk_un (by omega)).trans (pk_un (by omega))))))
  have c67 : ∀ x0 x1 x2 x3 x4 x5 x6 : Int32, upd (upd (upd (upd (upd (upd (upd (T 2) (16 + 4 * k) x0) (16 + 4 * k + 1) x1) (16 + 4 * k + 2) x2) (16 + 4 * k + 3) x3) 65 x4) 68 x5) 66 x6 67 = T 2 67 := fun _ _ _ _ _ _ _ => ((pk_un (by omega)).trans ((pk_un (by omega)).trans ((pk_un (by omega)).trans ((pk_un (by omega)).trans ((pk_un (by omega)).trans ((pk_un (by omega)).trans (pk_un (by omega))))))))
  have hsum : (nI w + 2) + nI g / 50 = nI (w + (2 + g / 50)) := by
    rw [show (50 : Int32) = nI 50 from rfl, pk_div (by omega) (by omega) (by omega), show (2 : Int32) = nI 2 from rfl, nI_add, nI_add, Nat.add_assoc]
  have hle : nI (w + (2 + g / 50)) ≤ (999 : Int32) := nI_le (b := 999) (by omega) (by omega)
  rw [e_X4_laid_2, e_X4_laid_2_k1, e_X4_laid_2_k2]
  simp only [tu_s, tu_tu, i0, i1, i2, i3, a65, a68, hsum]
  rw [if_pos hle, e_X4_laid_2_k3, e_X4_laid_2_k4]
  simp only [tu_s, tu_tu, b68, c67, pk_us]
  unfold FF
  by_cases hz : (T 2 68 + 1) - (T 2 68 + 1) / 7 * 7 = 0
  · rw [if_pos hz, if_pos hz]
  · rw [if_neg hz, if_neg hz]
section LAY
variable {N : Nat} {S : XS} {T : MS}
theorem err_eq {c : Nat} (h : CR N (S 0) (T c)) {k l : Nat} (hk : k < 12) (hl : l < 16) : f_X0_errorOfLaying S (nI k) (nI l) = f_X4_mayLay T c (nI k) (nI l) := by
  obtain ⟨w, -, w1, w2⟩ := h.wear
  rw [e_X0_errorOfLaying, e_X4_mayLay, hasX hk, padOf_eq h hl, show f_X4_of T c (nI k) 0 = _ from of_nat T c k 0 hk (by omega), Nat.add_zero, w1, w2]
  by_cases hh : has (S 0) k
  · rw [if_pos hh, if_neg one_ne, if_neg (fun e => (has_iff (h.w k hk)).mp e hh)]
  · rw [if_neg hh, if_pos rfl, if_pos ((has_iff (h.w k hk)).mpr hh)]
    by_cases hp : f_X4_padOf T c (nI l) = (-5)
    · rw [if_pos hp, if_pos hp]
      rcases h.lost with ⟨a, b⟩ | ⟨a, b⟩
      · rw [a, b, if_pos rfl, if_neg (show ¬ (0 : Int32) = 1 by decide)]
      · rw [a, b, if_neg one_ne, if_pos rfl]
    · rw [if_neg hp, if_neg hp]
/-- no error: no wire, no lead in use, the tool sharp -/
theorem err_0 {c : Nat} (h : CR N (S 0) (T c)) {k l : Nat} (hk : k < 12) (hl : l < 16) (e : f_X0_errorOfLaying S (nI k) (nI l) = 0) : ¬ has (S 0) k ∧ (∀ p, p < 12 → ¬ S 0 2 p = nI l) ∧ S 0 0 4 = 0 ∧ ∃ w : Nat, w < 200 ∧ S 0 0 2 = nI w ∧ T c 65 = nI w := by
  obtain ⟨w, w5, w1, w2⟩ := h.wear
  rw [e_X0_errorOfLaying, hasX hk] at e
  by_cases hh : has (S 0) k
  · rw [if_pos hh, if_neg one_ne] at e; exact absurd e (by decide)
  · rw [if_neg hh, if_pos rfl] at e
    by_cases hp : f_X0_padAtLead S (nI l) = (-5)
    · rw [if_pos hp] at e
      by_cases hz : S 0 0 4 = 0
      · rw [if_pos hz] at e
        by_cases hw : S 0 0 2 < 200
        · refine ⟨hh, fun p hp2 e2 => ?_, hz, w, ?_, w1, w2⟩
          · have hx : ∀ (n j : Nat), j ≤ p → p < j + n → g_X0_padAtLead_2 S (nI l) n j = (-5) → False := by
              intro n
              induction n with
              | zero => intro j a b; omega
              | succ n ih =>
                intro j a b q
                rw [ge_X0_padAtLead_2, if_neg (ge12 (by omega)), hasX (by omega)] at q
                by_cases hj : has (S 0) j
                · rw [if_pos hj, if_neg one_ne] at q
                  by_cases ej : S 0 2 j = nI l
                  · rw [if_pos ej] at q; exact nat_ne5 (by omega) q
                  · rw [if_neg ej] at q
                    rcases Nat.eq_or_lt_of_le a with z | z
                    · rw [z] at ej; exact ej e2
                    · exact ih (j + 1) z (by omega) q
                · rw [if_neg hj, if_pos rfl] at q
                  rcases Nat.eq_or_lt_of_le a with z | z
                  · rw [z] at hj; exact hj (fun y => nI_ne_m1 (n := l) (by omega) (e2.symm.trans y))
                  · exact ih (j + 1) z (by omega) q
            rw [e_X0_padAtLead] at hp
            exact hx 13 0 (Nat.zero_le _) (by omega) hp
          · rw [w1] at hw
            exact Nat.not_le.mp (fun q => nI_nlt (a := w) (b := 200) q (by omega) hw)
        · rw [if_neg hw] at e; exact absurd e (by decide)
      · rw [if_neg hz] at e; exact absurd e (by decide)
    · rw [if_neg hp] at e; exact absurd e (by decide)
theorem by_eq (z d : Int32) : (if 0 < ((if 0 < z then z else 0) - d) then ((if 0 < z then z else 0) - d) else 0) = (if 0 ≤ z then (if 0 ≤ z - d then z - d else 0) else (if 0 ≤ 0 - d then 0 - d else 0)) := by
  have key : ∀ y : Int32, (if 0 < y then y else 0) = (if 0 ≤ y then y else 0) := fun y => by
    by_cases h : 0 < y
    · rw [if_pos h, if_pos (Int32.le_of_lt h)]
    · rw [if_neg h]
      by_cases h2 : 0 ≤ y
      · rw [if_pos h2]; exact Int32.le_antisymm h2 (Int32.not_lt.mp h)
      · rw [if_neg h2]
  rw [key, key z]
  by_cases h : 0 ≤ z
  · rw [if_pos h, if_pos h]
  · rw [if_neg h, if_neg h]
theorem strength_eq {c : Nat} (h : CR N (S 0) (T c)) {k l : Nat} (hk : k < 12) (hl : l < 16) (a b : Nat → Int32) : ∃ t : Nat, t ≤ 100 ∧ f_X4_strengthFor T c (nI k) (nI l) = nI t ∧ f_X0_newStrength (su (su S 0 2 a) 0 3 b) (nI k) (nI l) = nI t := by
  obtain ⟨x, hx, x1, x2⟩ := h.x l hl
  obtain ⟨w, hw, w1, w2⟩ := h.wear
  have e : f_X0_newStrength (su (su S 0 2 a) 0 3 b) (nI k) (nI l) = f_X4_strengthFor T c (nI k) (nI l) := by
    rw [e_X0_newStrength, e_X4_strengthFor, xlead_nat hl, padX_nat, padXM_nat, show (0 : Int32) + nI l = nI l from (nI_add 0 l).trans (by rw [Nat.zero_add]), nI_cl (by omega), x2]
    rw [show (su (su S 0 2 a) 0 3 b) 0 1 l = nI x from x1, abs_eq _ _ (by omega) (by omega), ap_eq _ _ (by omega) (by omega), show (su (su S 0 2 a) 0 3 b) 0 0 2 = nI w from w1, w2]
    exact by_eq _ _
  refine ⟨100 - w / 4 - ds (100 + 20 * k) x / 20, by omega, ?_, ?_⟩
  · rw [e_X4_strengthFor, padXM_nat, show (0 : Int32) + nI l = nI l from (nI_add 0 l).trans (by rw [Nat.zero_add]), nI_cl (by omega), x2, ap_eq _ _ (by omega) (by omega), w2]
    have hb : ds (100 + 20 * k) x ≤ 1000 := by unfold ds; omega
    show (if 0 ≤ (100 - nI w / 4) then (if 0 ≤ ((100 - nI w / 4) - nI (ds (100 + 20 * k) x) / 20) then ((100 - nI w / 4) - nI (ds (100 + 20 * k) x) / 20) else 0) else _) = _
    rw [show (4 : Int32) = nI 4 from rfl, pk_div (by omega) (by omega) (by omega), show (20 : Int32) = nI 20 from rfl, pk_div (by omega) (by omega) (by omega), show (100 : Int32) = nI 100 from rfl, pk_sub (by omega), if_pos (nI_pos' (by omega))]
    by_cases hd : ds (100 + 20 * k) x / 20 ≤ 100 - w / 4
    · rw [pk_sub hd, if_pos (nI_pos' (by omega))]
    · have hn : ¬ (0 : Int32) ≤ nI (100 - w / 4) - nI (ds (100 + 20 * k) x / 20) := by
        rw [Int32.le_iff_toInt_le, pk_sub_toInt (by omega) (by omega), Int32.toInt_zero]
        omega
      rw [if_neg hn, show 100 - w / 4 - ds (100 + 20 * k) x / 20 = 0 by omega]; rfl
  · rw [e]
    rw [e_X4_strengthFor, padXM_nat, show (0 : Int32) + nI l = nI l from (nI_add 0 l).trans (by rw [Nat.zero_add]), nI_cl (by omega), x2, ap_eq _ _ (by omega) (by omega), w2]
    have hb : ds (100 + 20 * k) x ≤ 1000 := by unfold ds; omega
    show (if 0 ≤ (100 - nI w / 4) then (if 0 ≤ ((100 - nI w / 4) - nI (ds (100 + 20 * k) x) / 20) then ((100 - nI w / 4) - nI (ds (100 + 20 * k) x) / 20) else 0) else _) = _
    rw [show (4 : Int32) = nI 4 from rfl, pk_div (by omega) (by omega) (by omega), show (20 : Int32) = nI 20 from rfl, pk_div (by omega) (by omega) (by omega), show (100 : Int32) = nI 100 from rfl, pk_sub (by omega), if_pos (nI_pos' (by omega))]
    by_cases hd : ds (100 + 20 * k) x / 20 ≤ 100 - w / 4
    · rw [pk_sub hd, if_pos (nI_pos' (by omega))]
    · have hn : ¬ (0 : Int32) ≤ nI (100 - w / 4) - nI (ds (100 + 20 * k) x / 20) := by
        rw [Int32.le_iff_toInt_le, pk_sub_toInt (by omega) (by omega), Int32.toInt_zero]
        omega
      rw [if_neg hn, show 100 - w / 4 - ds (100 + 20 * k) x / 20 = 0 by omega]; rfl
/-- one wire is laid on both sides -/
theorem add_CR {c : Nat} (h : CR N (S 0) (T c)) (hN : N ≤ 900000) {k l g : Nat} (hk : k < 12) (hl : l < 16) (g1 : 10 ≤ g) (g2 : g ≤ 200) (e : f_X0_errorOfLaying S (nI k) (nI l) = 0) : ∃ (t w : Nat), w < 200 ∧ T c 65 = nI w ∧ f_X4_strengthFor T c (nI k) (nI l) = nI t ∧ f_X0_strengthOf (f_X0_addWire S (nI k) (nI l) (nI g)) (nI k) = nI t ∧ CR (N + 1) (f_X0_addWire S (nI k) (nI l) (nI g) 0) (FF (T c) k (nI l) (nI g) (nI t) (nI (w + (2 + g / 50)))) ∧ (∀ i, i ≠ 0 → f_X0_addWire S (nI k) (nI l) (nI g) i = S i) := by
  obtain ⟨n1, n2, n3, w, w1, w2, w3⟩ := err_0 h hk hl e
  obtain ⟨t, t1, t2, t3⟩ := strength_eq h hk hl (upd (S 0 2) k (nI l)) (upd (S 0 3) k (nI g))
  obtain ⟨d, d1, d2, d3⟩ := h.laid
  refine ⟨t, w, w1, w3, t2, ?_⟩
  have hwear : nI w + f_X0_wearOfLaying (nI g) = nI (w + (2 + g / 50)) := by
    rw [e_X0_wearOfLaying, show (50 : Int32) = nI 50 from rfl, pk_div (by omega) (by omega) (by omega), show (2 : Int32) = nI 2 from rfl, nI_add, nI_add]
  rw [e_X0_addWire, pad_nat hk, lead_nat hl, if_neg one_ne, if_neg one_ne, nI_cl (by omega), t3, w2, hwear, d2, show f_X0_losesTail (nI d + 1) = _ from seven (n := 1) (by omega), nI_1]
  unfold FF
  rw [d3, nI_1, show (7 : Int32) = nI 7 from rfl, pk_rem (by omega) (by omega) (by omega)]
  obtain ⟨c1, -, -, c4, -, c6, c7⟩ := h.sc
  have hd : ∀ (c' : Nat → Nat → Int32), c' 2 = upd (S 0 2) k (nI l) → ∀ p, p < 12 → p ≠ k → S 0 2 p = c' 2 k → c' 2 k = (-1) := fun c' e2 p hp hne q => by
    rw [e2, pk_us] at q
    exact absurd q (n2 p hp)
  by_cases hz : (d + 1) % 7 = 0
  · rw [if_pos hz, if_neg one_ne, if_pos (show nI ((d + 1) % 7) = 0 by rw [hz]; rfl)]
    refine ⟨?_, ?_, fun i hi => ?_⟩
    · rw [strengthX_nat hk]; exact pk_us
    · exact h.up (k := k) rfl (fun p _ hne => ⟨pk_un hne, pk_un hne, pk_un hne, pk_un hne⟩) (fun x hx hx2 => ((pk_un (by omega)).trans ((pk_un (by omega)).trans ((pk_un (by omega)).trans ((pk_un (by omega)).trans ((pk_un (by omega)).trans ((pk_un (by omega)).trans ((pk_un (by omega)).trans (pk_un (by omega)))))))))) (Or.inr ⟨l, g, t, hl, g1, g2, t1, pk_us, ((pk_un (by omega)).trans ((pk_un (by omega)).trans ((pk_un (by omega)).trans ((pk_un (by omega)).trans ((pk_un (by omega)).trans ((pk_un (by omega)).trans ((pk_un (by omega)).trans pk_us))))))), pk_us, ((pk_un (by omega)).trans ((pk_un (by omega)).trans ((pk_un (by omega)).trans ((pk_un (by omega)).trans ((pk_un (by omega)).trans ((pk_un (by omega)).trans pk_us)))))), pk_us, ((pk_un (by omega)).trans ((pk_un (by omega)).trans ((pk_un (by omega)).trans ((pk_un (by omega)).trans ((pk_un (by omega)).trans pk_us))))), (((pk_un (by omega)).trans ((pk_un (by omega)).trans ((pk_un (by omega)).trans ((pk_un (by omega)).trans (pk_us.trans (pk_us (f := S 0 5) (k := k) (x := nI d)).symm))))))⟩) (hd _ rfl) ⟨by obtain ⟨y, y1, y2, y3, y4⟩ := c1; exact ⟨y, y1, y2, y3, ((pk_un (by omega)).trans ((pk_un (by omega)).trans ((pk_un (by omega)).trans ((pk_un (by omega)).trans ((pk_un (by omega)).trans ((pk_un (by omega)).trans ((pk_un (by omega)).trans ((pk_un (by omega)).trans y4))))))))⟩, ⟨w + (2 + g / 50), by omega, rfl, ((pk_un (by omega)).trans ((pk_un (by omega)).trans ((pk_un (by omega)).trans pk_us)))⟩, Or.inr ⟨rfl, ((pk_un (by omega)).trans pk_us)⟩, pk_us.trans (congrArg (fun z : Int32 => z + 1) c4), ⟨d + 1, by omega, rfl, ((pk_un (by omega)).trans ((pk_un (by omega)).trans pk_us))⟩, ((pk_un (by omega)).trans ((pk_un (by omega)).trans ((pk_un (by omega)).trans ((pk_un (by omega)).trans ((pk_un (by omega)).trans ((pk_un (by omega)).trans ((pk_un (by omega)).trans ((pk_un (by omega)).trans c6)))))))), ((pk_un (by omega)).trans ((pk_un (by omega)).trans ((pk_un (by omega)).trans ((pk_un (by omega)).trans ((pk_un (by omega)).trans ((pk_un (by omega)).trans ((pk_un (by omega)).trans ((pk_un (by omega)).trans c7))))))))⟩
    · simp only [su_ne _ _ _ _ hi]
  · rw [if_neg hz, if_pos rfl, if_neg (show ¬ nI ((d + 1) % 7) = 0 from fun q => hz ((nI_ne_0 (by omega)).mp q))]
    refine ⟨?_, ?_, fun i hi => ?_⟩
    · rw [strengthX_nat hk]; exact pk_us
    · exact h.up (k := k) rfl (fun p _ hne => ⟨pk_un hne, pk_un hne, pk_un hne, pk_un hne⟩) (fun x hx hx2 => ((pk_un (by omega)).trans ((pk_un (by omega)).trans ((pk_un (by omega)).trans ((pk_un (by omega)).trans ((pk_un (by omega)).trans (pk_un (by omega)))))))) (Or.inr ⟨l, g, t, hl, g1, g2, t1, pk_us, ((pk_un (by omega)).trans ((pk_un (by omega)).trans ((pk_un (by omega)).trans ((pk_un (by omega)).trans ((pk_un (by omega)).trans pk_us))))), pk_us, ((pk_un (by omega)).trans ((pk_un (by omega)).trans ((pk_un (by omega)).trans ((pk_un (by omega)).trans pk_us)))), pk_us, ((pk_un (by omega)).trans ((pk_un (by omega)).trans ((pk_un (by omega)).trans pk_us))), (((pk_un (by omega)).trans ((pk_un (by omega)).trans (pk_us.trans (pk_us (f := S 0 5) (k := k) (x := nI d)).symm))))⟩) (hd _ rfl) ⟨by obtain ⟨y, y1, y2, y3, y4⟩ := c1; exact ⟨y, y1, y2, y3, ((pk_un (by omega)).trans ((pk_un (by omega)).trans ((pk_un (by omega)).trans ((pk_un (by omega)).trans ((pk_un (by omega)).trans ((pk_un (by omega)).trans y4))))))⟩, ⟨w + (2 + g / 50), by omega, rfl, ((pk_un (by omega)).trans pk_us)⟩, (h.lost.elim (fun q => Or.inl ⟨q.1, ((pk_un (by omega)).trans ((pk_un (by omega)).trans ((pk_un (by omega)).trans ((pk_un (by omega)).trans ((pk_un (by omega)).trans ((pk_un (by omega)).trans q.2))))))⟩) (fun q => absurd (n3.symm.trans q.1) (by decide))), ((pk_un (by omega)).trans ((pk_un (by omega)).trans ((pk_un (by omega)).trans ((pk_un (by omega)).trans ((pk_un (by omega)).trans ((pk_un (by omega)).trans c4)))))), ⟨d + 1, by omega, rfl, pk_us⟩, ((pk_un (by omega)).trans ((pk_un (by omega)).trans ((pk_un (by omega)).trans ((pk_un (by omega)).trans ((pk_un (by omega)).trans ((pk_un (by omega)).trans c6)))))), ((pk_un (by omega)).trans ((pk_un (by omega)).trans ((pk_un (by omega)).trans ((pk_un (by omega)).trans ((pk_un (by omega)).trans ((pk_un (by omega)).trans c7))))))⟩
    · simp only [su_ne _ _ _ _ hi]
theorem a_lay (h : RS N S T) (hN : N ≤ 900000) (a b z : Int32) : (f_X3_lay S a b z).1 = (f_X4_lay T a b z).1 ∧ RS (N + 1) (f_X3_lay S a b z).2 (f_X4_lay T a b z).2 := by
  have hup : RS (N + 1) S T := ⟨h.1.mono (Nat.le_succ _), h.2.mono (Nat.le_succ _)⟩
  rw [e_X3_lay, e_X4_lay, ← pad_eq, ← lead_eq, height_eq]
  by_cases hp : f_X3_isPad a = 0
  · rw [if_pos hp, if_pos hp]; exact ⟨rfl, hup⟩
  rw [if_neg hp, if_neg hp]
  by_cases hl : f_X3_isLead b = 0
  · rw [if_pos hl, if_pos hl]; exact ⟨rfl, hup⟩
  rw [if_neg hl, if_neg hl]
  by_cases hz : f_X4_isHeight z = 0
  · rw [if_pos hz, if_pos hz]; exact ⟨rfl, hup⟩
  rw [if_neg hz, if_neg hz]
  obtain ⟨k, hk, rfl⟩ := pad_of hp
  obtain ⟨l, hl2, rfl⟩ := lead_of hl
  rw [e_X4_isHeight] at hz
  obtain ⟨g, g1, g2, rfl⟩ := in_nat (a := 10) (b := 200) (by omega) (by omega) hz
  have ee := err_eq h.1 hk hl2
  by_cases he : f_X0_errorOfLaying S (nI k) (nI l) = 0
  · rw [if_pos he, ← ee, he, if_pos (show (0 : Int32) ≤ 0 by decide), e_X3_lay_k1, e_X3_lay_k2, e_X4_lay_k1, e_X4_lay_k2]
    obtain ⟨r, eU, eV⟩ := h.rec
    have he2 : f_X0_errorOfLaying (recS S 0) (nI k) (nI l) = 0 := by
      rw [err_eq r.1 hk hl2]
      rw [err_eq h.1 hk hl2] at he
      rw [← he, e_X4_mayLay, e_X4_mayLay, e_X4_of, e_X4_of, eV]
      have hpo : f_X4_padOf (f_X4_records T) 1 (nI l) = f_X4_padOf T 1 (nI l) := by
        have G : ∀ (n j : Nat) (v : Int32), g_X4_padOf_5 (f_X4_records T) 1 (nI l) n j v = g_X4_padOf_5 T 1 (nI l) n j v := by
          intro n
          induction n with
          | zero => intro j v; rfl
          | succ n ih =>
            intro j v
            rw [ge_X4_padOf_5, ge_X4_padOf_5, e_X4_of, e_X4_of, eV, ih, ih]
        rw [e_X4_padOf, e_X4_padOf, G]
      rw [hpo]
    generalize recS S 0 = U at r eU he2 ⊢
    generalize f_X4_records T = V at r eV ⊢
    obtain ⟨t, w, w1, w2, t1, t2, hc, ho⟩ := add_CR r.1 hN hk hl2 g1 g2 he2
    rw [laid1_eq V hk g2 w2 w1, t1]
    dsimp only
    exact ⟨t2, by rw [tu_s]; exact hc, (r.2.mono (Nat.le_succ _)).c0 ho (fun j hj => tu_n _ _ _ hj)⟩
  · have hneg : ¬ (0 : Int32) ≤ f_X4_mayLay T 1 (nI k) (nI l) := by
      intro q
      apply he
      rw [ee]
      rw [e_X4_mayLay] at q ⊢
      repeat' split at q
      all_goals first | (exact absurd q (by decide)) | (simp only [*]; rfl) | skip
      all_goals simp_all
    rw [if_neg he, if_neg hneg, ee]
    exact ⟨rfl, hup⟩
end LAY
