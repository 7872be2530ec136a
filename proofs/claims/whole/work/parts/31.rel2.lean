/-! what is told, equal on both sides -/
theorem ge12 {k : Nat} (h : k < 12) : ¬ (12 : Int32) ≤ nI k := nI_ge (b := 12) h (by omega)
theorem le12 {k : Nat} (h : 12 ≤ k) (h2 : k ≤ 12) : (12 : Int32) ≤ nI k := by rw [show k = 12 by omega]; decide
theorem one_ne : ¬ (1 : Int32) = 0 := by decide
section READS
variable {N : Nat} {S : XS} {T : MS}
theorem wires_g (h : CR N (S 0) (T 1)) : ∀ (n k : Nat) (v : Int32), k ≤ 12 → 12 < k + n → g_X0_wires_4 S n k v = g_X4_wires_4 T n k v := by
  intro n
  induction n with
  | zero => intro k v hk hn; exact absurd hn (by omega)
  | succ n ih =>
    intro k v hk hn
    rw [ge_X0_wires_4, ge_X4_wires_4, has_eq h, Int32.add_zero]
    by_cases c : 12 ≤ k
    · rw [if_pos (le12 c hk), if_pos (le12 c hk)]
    · rw [if_neg (ge12 (by omega)), if_neg (ge12 (by omega)), ih (k + 1) v (by omega) (by omega), ih (k + 1) (v + 1) (by omega) (by omega)]
theorem wires_eq (h : CR N (S 0) (T 1)) : f_X0_wires S = f_X4_wires T := by
  rw [e_X0_wires, e_X4_wires]
  exact wires_g h 13 0 0 (by omega) (by omega)
theorem crossings_g (h : CR N (S 0) (T 1)) {p : Nat} (hp : p < 12) : ∀ (n k : Nat) (v : Int32), k ≤ 12 → 12 < k + n → g_X0_crossingsOf_4 S (nI p) n k v = g_X4_crossings_4 T (nI p) n k v := by
  intro n
  induction n with
  | zero => intro k v hk hn; exact absurd hn (by omega)
  | succ n ih =>
    intro k v hk hn
    rw [ge_X0_crossingsOf_4, ge_X4_crossings_4, Int32.add_zero]
    by_cases c : 12 ≤ k
    · rw [if_pos (le12 c hk), if_pos (le12 c hk)]
    · rw [if_neg (ge12 (by omega)), if_neg (ge12 (by omega)), cross_eq h hp (by omega), ih (k + 1) v (by omega) (by omega), ih (k + 1) (v + 1) (by omega) (by omega)]
theorem crossings_eq (h : CR N (S 0) (T 1)) {p : Nat} (hp : p < 12) : f_X0_crossingsOf S (nI p) = f_X4_crossings T (nI p) := by
  rw [e_X0_crossingsOf, e_X4_crossings]
  exact crossings_g h hp 13 0 0 (by omega) (by omega)
theorem short_g (h : CR N (S 0) (T 1)) {p g : Nat} (hp : p < 12) (hg : g ≤ 200) : ∀ (n k : Nat) (v : Int32), k ≤ 12 → 12 < k + n → g_X0_shortOnes_5 S (nI p) (nI g) n k v = g_X4_shortOnes_5 T (nI p) (nI g) n k v := by
  intro n
  induction n with
  | zero => intro k v hk hn; exact absurd hn (by omega)
  | succ n ih =>
    intro k v hk hn
    rw [ge_X0_shortOnes_5, ge_X4_shortOnes_5, Int32.add_zero, e_X0_isShort]
    by_cases c : 12 ≤ k
    · rw [if_pos (le12 c hk), if_pos (le12 c hk)]
    · obtain ⟨w, -, -, hw1, hw2⟩ := h.width
      rw [if_neg (ge12 (by omega)), if_neg (ge12 (by omega)), ih (k + 1) v (by omega) (by omega), ih (k + 1) (v + 1) (by omega) (by omega), crossX h hp (by omega), crossM h hp (by omega), hw1, hw2]
      by_cases hc : crs (S 0) p k
      · rw [if_pos hc, if_neg one_ne, if_neg one_ne, gapX h hp (by omega) hg hc, gapM h hp (by omega) hg hc]
        by_cases hd : nI w ≤ nI (gp (S 0) p g k)
        · rw [if_pos hd, if_pos rfl, if_pos hd]
        · rw [if_neg hd, if_neg one_ne, if_neg hd]
      · rw [if_neg hc, if_pos rfl, if_pos rfl, if_pos rfl]
theorem short_eq (h : CR N (S 0) (T 1)) {p g : Nat} (hp : p < 12) (hg : g ≤ 200) : f_X0_shortOnes S (nI p) (nI g) = f_X4_shortOnes T (nI p) (nI g) := by
  rw [e_X0_shortOnes, e_X4_shortOnes]
  exact short_g h hp hg 13 0 0 (by omega) (by omega)
theorem least_g (h : CR N (S 0) (T 1)) {p : Nat} (hp : p < 12) (hh : has (S 0) p) : ∀ (n k : Nat) (v : Int32), k ≤ 12 → 12 < k + n → g_X0_leastGap_5 S (nI p) n k v = g_X4_leastGap_5 T (nI p) n k v := by
  obtain ⟨e1, e2, -, hb⟩ := Hx_of h hp hh
  intro n
  induction n with
  | zero => intro k v hk hn; exact absurd hn (by omega)
  | succ n ih =>
    intro k v hk hn
    rw [ge_X0_leastGap_5, ge_X4_leastGap_5, heightX_nat hp, e1, show f_X4_of T 1 (nI p) 1 = _ from of_nat T 1 p 1 hp (by omega), e2]
    by_cases c : 12 ≤ k
    · rw [if_pos (le12 c hk), if_pos (le12 c hk)]
    · rw [if_neg (ge12 (by omega)), if_neg (ge12 (by omega)), crossX h hp (by omega), crossM h hp (by omega)]
      by_cases hc : crs (S 0) p k
      · rw [if_pos hc, if_neg one_ne, if_neg one_ne, gapX h hp (by omega) hb hc, gapM h hp (by omega) hb hc]
        by_cases hv : v = (-5)
        · rw [if_pos hv, if_pos hv]; exact ih _ _ (by omega) (by omega)
        · rw [if_neg hv, if_neg hv]
          by_cases hd : v ≤ nI (gp (S 0) p (Hx (S 0) p) k)
          · rw [if_pos hd, if_neg (Int32.not_lt.mpr hd)]; exact ih _ _ (by omega) (by omega)
          · rw [if_neg hd, if_pos (Int32.not_le.mp hd)]; exact ih _ _ (by omega) (by omega)
      · rw [if_neg hc, if_pos rfl, if_pos rfl]; exact ih _ _ (by omega) (by omega)
theorem least_eq (h : CR N (S 0) (T 1)) {p : Nat} (hp : p < 12) (hh : has (S 0) p) : f_X0_leastGap S (nI p) = f_X4_leastGap T (nI p) := by
  rw [e_X0_leastGap, e_X4_leastGap]
  exact least_g h hp hh 13 0 (-5) (by omega) (by omega)
theorem best_g (h : CR N (S 0) (T 1)) {p : Nat} (hp : p < 12) (z : Int32) : ∀ (n k g : Nat), k ≤ 201 → 201 < k + n → g ≤ 200 → (g_X4_bestHeight_38 T (nI p) z n k (nI g) (f_X4_shortOnes T (nI p) (nI g))).1 = g_X0_clearestHeight_14 S (nI p) n k (nI g) (f_X4_shortOnes T (nI p) (nI g)) ∧ (∃ b : Nat, b ≤ 200 ∧ g_X0_clearestHeight_14 S (nI p) n k (nI g) (f_X4_shortOnes T (nI p) (nI g)) = nI b ∧ (g_X4_bestHeight_38 T (nI p) z n k (nI g) (f_X4_shortOnes T (nI p) (nI g))).2 = f_X4_shortOnes T (nI p) (nI b)) := by
  intro n
  induction n with
  | zero => intro k g hk hn; exact absurd hn (by omega)
  | succ n ih =>
    intro k g hk hn hg
    rw [ge_X0_clearestHeight_14, ge_X4_bestHeight_38]
    by_cases c : 200 < k
    · have : (200 : Int32) < nI k := nI_lt (a := 200) c (by omega)
      rw [if_pos this, if_pos this]
      exact ⟨rfl, g, hg, rfl, rfl⟩
    · have : ¬ (200 : Int32) < nI k := nI_nlt (a := 200) (by omega) (by omega)
      rw [if_neg this, if_neg this, short_eq h hp (show k ≤ 200 by omega)]
      by_cases hd : f_X4_shortOnes T (nI p) (nI g) ≤ f_X4_shortOnes T (nI p) (nI k)
      · rw [if_pos hd, if_pos hd]; exact ih (k + 1) g (by omega) (by omega) hg
      · rw [if_neg hd, if_neg hd]; exact ih (k + 1) k (by omega) (by omega) (by omega)
/-- the pad of a lead: the first is the last -/
theorem padOf_eq {c : Nat} (h : CR N (S 0) (T c)) {l : Nat} (hl : l < 16) : f_X0_padAtLead S (nI l) = f_X4_padOf T c (nI l) := by
  have lw : ∀ k, k < 12 → (T c (16 + 4 * k) = nI l ↔ S 0 2 k = nI l) := fun k hk => by
    rcases h.w k hk with ⟨a, b, _⟩ | ⟨l2, _, _, hl2, _, _, _, a, b, _⟩
    · rw [a, b]
      exact ⟨fun q => absurd q.symm (lead_ne hl), fun q => absurd q.symm (nI_ne_m1 (by omega))⟩
    · rw [a, b]
  have hh : ∀ k, k < 12 → S 0 2 k = nI l → has (S 0) k := fun k _ e q => nI_ne_m1 (n := l) (by omega) (e.symm.trans q)
  have X0 : ∀ (n k : Nat), k ≤ 12 → 12 < k + n → (∀ p, k ≤ p → p < 12 → ¬ S 0 2 p = nI l) → g_X0_padAtLead_2 S (nI l) n k = (-5) := by
    intro n
    induction n with
    | zero => intro k hk hn; exact absurd hn (by omega)
    | succ n ih =>
      intro k hk hn hp
      rw [ge_X0_padAtLead_2]
      by_cases e : 12 ≤ k
      · rw [if_pos (le12 e hk)]
      · rw [if_neg (ge12 (by omega)), if_neg (hp k (Nat.le_refl _) (by omega)), ih (k + 1) (by omega) (by omega) (fun p a b => hp p (by omega) b)]
        split <;> rfl
  have X1 : ∀ (n k p : Nat), k ≤ 12 → 12 < k + n → k ≤ p → p < 12 → S 0 2 p = nI l → (∀ q, k ≤ q → q < 12 → S 0 2 q = nI l → q = p) → g_X0_padAtLead_2 S (nI l) n k = nI p := by
    intro n
    induction n with
    | zero => intro k p hk hn; exact absurd hn (by omega)
    | succ n ih =>
      intro k p hk hn hkp hp e u
      rw [ge_X0_padAtLead_2, if_neg (ge12 (by omega)), hasX (by omega)]
      by_cases ek : k = p
      · subst ek
        rw [if_pos (hh k hp e), if_neg one_ne, if_pos e]
      · have hne : ¬ S 0 2 k = nI l := fun q => ek (u k (Nat.le_refl _) (by omega) q)
        rw [if_neg hne, ih (k + 1) p (by omega) (by omega) (by omega) hp e (fun q a b => u q (by omega) b)]
        split <;> rfl
  have M0 : ∀ (n k : Nat) (v : Int32), k ≤ 12 → 12 < k + n → (∀ p, k ≤ p → p < 12 → ¬ S 0 2 p = nI l) → g_X4_padOf_5 T c (nI l) n k v = v := by
    intro n
    induction n with
    | zero => intro k v hk hn; exact absurd hn (by omega)
    | succ n ih =>
      intro k v hk hn hp
      rw [ge_X4_padOf_5]
      by_cases e : 12 ≤ k
      · rw [if_pos (le12 e hk)]
      · rw [if_neg (ge12 (by omega)), show f_X4_of T c (nI k) 0 = _ from of_nat T c k 0 (by omega) (by omega), Nat.add_zero, if_neg (fun q => hp k (Nat.le_refl _) (by omega) ((lw k (by omega)).mp q))]
        exact ih (k + 1) v (by omega) (by omega) (fun p a b => hp p (by omega) b)
  have M1 : ∀ (n k p : Nat) (v : Int32), k ≤ 12 → 12 < k + n → k ≤ p → p < 12 → S 0 2 p = nI l → (∀ q, k ≤ q → q < 12 → S 0 2 q = nI l → q = p) → g_X4_padOf_5 T c (nI l) n k v = nI p := by
    intro n
    induction n with
    | zero => intro k p v hk hn; exact absurd hn (by omega)
    | succ n ih =>
      intro k p v hk hn hkp hp e u
      rw [ge_X4_padOf_5, if_neg (ge12 (by omega)), show f_X4_of T c (nI k) 0 = _ from of_nat T c k 0 (by omega) (by omega), Nat.add_zero]
      by_cases ek : k = p
      · subst ek
        rw [if_pos ((lw k hp).mpr e)]
        exact M0 n (k + 1) (nI k) (by omega) (by omega) (fun q a b z => by have := u q (by omega) b z; omega)
      · rw [if_neg (fun q => ek (u k (Nat.le_refl _) (by omega) ((lw k (by omega)).mp q)))]
        exact ih (k + 1) p v (by omega) (by omega) (by omega) hp e (fun q a b => u q (by omega) b)
  rw [e_X0_padAtLead, e_X4_padOf]
  by_cases ex : ∃ p, p < 12 ∧ S 0 2 p = nI l
  · obtain ⟨p, hp, e⟩ := ex
    have u : ∀ q, 0 ≤ q → q < 12 → S 0 2 q = nI l → q = p := fun q _ hq eq => by
      by_cases en : q = p
      · exact en
      · exact absurd (h.d q p hq hp en (eq.trans e.symm)) (hh q hq eq)
    rw [X1 13 0 p (by omega) (by omega) (by omega) hp e u, M1 13 0 p (-5) (by omega) (by omega) (by omega) hp e u]
  · have u : ∀ p, 0 ≤ p → p < 12 → ¬ S 0 2 p = nI l := fun p _ hp e => ex ⟨p, hp, e⟩
    rw [X0 13 0 (by omega) (by omega) u, M0 13 0 (-5) (by omega) (by omega) u]
theorem weak_g (h : CR N (S 0) (T 1)) : ∀ (n k : Nat) (v : Int32), k ≤ 12 → 12 < k + n → (v = (-5) ∨ ∃ p : Nat, p < 12 ∧ has (S 0) p ∧ v = nI p) → g_X0_weakestPad_5 S n k v = g_X4_weakest_5 T n k v := by
  intro n
  induction n with
  | zero => intro k v hk hn; exact absurd hn (by omega)
  | succ n ih =>
    intro k v hk hn hv
    rw [ge_X0_weakestPad_5, ge_X4_weakest_5]
    by_cases c : 12 ≤ k
    · rw [if_pos (le12 c hk), if_pos (le12 c hk)]
    · have hk2 : k < 12 := by omega
      rw [if_neg (ge12 hk2), if_neg (ge12 hk2), hasX hk2, hasM hk2 (h.w k hk2)]
      by_cases hh : has (S 0) k
      · rw [if_pos hh, if_neg one_ne, if_neg one_ne]
        by_cases e : v = (-5)
        · rw [if_pos e, if_pos e]; exact ih _ _ (by omega) (by omega) (Or.inr ⟨k, hk2, hh, rfl⟩)
        · rw [if_neg e, if_neg e]
          rcases hv with q | ⟨p, hp, hhp, rfl⟩
          · exact absurd q e
          · obtain ⟨_, _, t1, _, _, _, _, _, _, _, _, a1, b1, _⟩ := wire_of (h.w p hp) hhp
            obtain ⟨_, _, t2, _, _, _, _, _, _, _, _, a2, b2, _⟩ := wire_of (h.w k hk2) hh
            rw [strengthX_nat hp, show f_X4_of T 1 (nI p) 2 = _ from of_nat T 1 p 2 hp (by omega), show f_X4_of T 1 (nI k) 2 = _ from of_nat T 1 k 2 hk2 (by omega), a1, b1, a2, b2]
            by_cases hd : nI t1 ≤ nI t2
            · rw [if_pos hd, if_pos hd]; exact ih _ _ (by omega) (by omega) (Or.inr ⟨p, hp, hhp, rfl⟩)
            · rw [if_neg hd, if_neg hd]; exact ih _ _ (by omega) (by omega) (Or.inr ⟨k, hk2, hh, rfl⟩)
      · rw [if_neg hh, if_pos rfl, if_pos rfl]; exact ih _ _ (by omega) (by omega) hv
theorem weak_eq (h : CR N (S 0) (T 1)) : f_X0_weakestPad S = f_X4_weakest T := by
  rw [e_X0_weakestPad, e_X4_weakest]
  exact weak_g h 13 0 (-5) (by omega) (by omega) (Or.inl rfl)
theorem str_g (h : CR N (S 0) (T 1)) : ∀ (n k : Nat) (v : Int32), k ≤ 12 → 12 < k + n → g_X0_allStrengths_4 S n k v = g_X4_strengths_4 T n k v := by
  intro n
  induction n with
  | zero => intro k v hk hn; exact absurd hn (by omega)
  | succ n ih =>
    intro k v hk hn
    rw [ge_X0_allStrengths_4, ge_X4_strengths_4]
    by_cases c : 12 ≤ k
    · rw [if_pos (le12 c hk), if_pos (le12 c hk)]
    · have hk2 : k < 12 := by omega
      rw [if_neg (ge12 hk2), if_neg (ge12 hk2), hasX hk2, show f_X4_of T 1 (nI k) 2 = _ from of_nat T 1 k 2 hk2 (by omega)]
      rcases h.w k hk2 with ⟨a, _, _, b, _⟩ | ⟨l, _, t, _, _, _, _, a, _, _, _, b1, b2, _⟩
      · rw [if_neg (show ¬ has (S 0) k from fun q => q a), if_pos rfl, b, Int32.add_zero]; exact ih _ _ (by omega) (by omega)
      · rw [if_pos (fun q => nI_ne_m1 (n := l) (by omega) (a.symm.trans q)), if_neg one_ne, b1, b2]; exact ih _ _ (by omega) (by omega)
theorem str_eq (h : CR N (S 0) (T 1)) : f_X0_allStrengths S = f_X4_strengths T := by
  rw [e_X0_allStrengths, e_X4_strengths]
  exact str_g h 13 0 0 (by omega) (by omega)
/-! how many lays are left -/
theorem seven {d n : Nat} (hd : d + n < 1000000) : f_X0_losesTail (nI d + nI n) = if (d + n) % 7 = 0 then 1 else 0 := by
  rw [e_X0_losesTail, nI_add, show (7 : Int32) = nI 7 from rfl, pk_rem (by omega) (by omega) (by omega)]
  by_cases h : (d + n) % 7 = 0
  · rw [if_pos h, if_pos (by rw [h]; rfl)]
  · rw [if_neg h, if_neg (fun q => h ((nI_ne_0 (by omega)).mp q))]
theorem lays_g {d g : Nat} (hd : d ≤ 900000) (hg : g ≤ 200) (e1 : S 0 0 0 = nI d) (e2 : T 1 68 = nI d) : ∀ (n m k w : Nat) (u : Int32), k ≤ 7 → 7 < k + n → 7 < k + m → w ≤ 100000 + 100 * k → (k = 0 ∨ u = if (d + k) % 7 = 0 then 1 else 0) → (∀ j, 1 ≤ j → j < k → ¬ (d + j) % 7 = 0) → g_X0_laysUntilStop_13 S (nI g) n k (nI w) u = g_X4_laysLeft_38 T (nI g) m (nI k) (nI w) u := by
  have hw : ∀ w : Nat, nI w + (2 + nI g / 50) = nI (w + (2 + g / 50)) := fun w => by
    rw [show (50 : Int32) = nI 50 from rfl, pk_div (by omega) (by omega) (by omega), show (2 : Int32) = nI 2 from rfl, nI_add, nI_add]
  intro n
  induction n with
  | zero => intro m k w u hk hn; exact absurd hn (by omega)
  | succ n ih =>
    intro m k w u hk hn hm hww hu hno
    obtain ⟨m, rfl⟩ : ∃ m', m = m' + 1 := ⟨m - 1, by omega⟩
    rw [ge_X0_laysUntilStop_13, ge_X4_laysLeft_38]
    by_cases c : 7 ≤ k
    · have h7 : (7 : Int32) ≤ nI k := nI_le (a := 7) c (by omega)
      rw [if_pos h7]
      have hz : (d + k) % 7 = 0 := by
        have a1 := hno 1 (by omega) (by omega)
        have a2 := hno 2 (by omega) (by omega)
        have a3 := hno 3 (by omega) (by omega)
        have a4 := hno 4 (by omega) (by omega)
        have a5 := hno 5 (by omega) (by omega)
        have a6 := hno 6 (by omega) (by omega)
        omega
      rcases hu with q | q
      · omega
      · rw [if_pos hz] at q
        rw [q, if_neg one_ne]
    · have h7 : ¬ (7 : Int32) ≤ nI k := nI_ge (b := 7) (by omega) (by omega)
      rw [if_neg h7]
      by_cases hu0 : u = 0
      · rw [if_pos hu0, if_pos hu0]
        by_cases h2 : (200 : Int32) ≤ nI w
        · rw [if_pos h2, if_pos h2]
        · rw [if_neg h2, if_neg h2, e_X0_wearOfLaying, hw, e1, e2, seven (by omega), nI_1, nI_add, show (7 : Int32) = nI 7 from rfl, pk_rem (by omega) (by omega) (by omega)]
          have hno2 : ∀ j, 1 ≤ j → j < k + 1 → ¬ (d + j) % 7 = 0 := fun j a b => by
            by_cases ej : j = k
            · subst ej
              rcases hu with q | q
              · omega
              · intro hz
                rw [if_pos hz] at q
                rw [q] at hu0
                exact one_ne hu0
            · exact hno j a (by omega)
          have hI := fun u' hq => ih m (k + 1) (w + (2 + g / 50)) u' (by omega) (by omega) (by omega) (by omega) hq hno2
          by_cases hz : (d + (k + 1)) % 7 = 0
          · rw [if_pos hz, if_pos (by rw [hz]; rfl)]
            exact hI 1 (Or.inr (by rw [if_pos hz]))
          · rw [if_neg hz, if_neg (fun q => hz ((nI_ne_0 (by omega)).mp q))]
            exact hI 0 (Or.inr (by rw [if_neg hz]))
      · rw [if_neg hu0, if_neg hu0]
theorem laysLeft_eq (h : CR N (S 0) (T 1)) (hN : N ≤ 900000) {g : Nat} (hg : g ≤ 200) : f_X0_laysUntilStop S (nI g) = (if T 1 66 = 1 then g_X4_laysLeft_38 T (nI g) 201 0 (T 1 65) 1 else g_X4_laysLeft_38 T (nI g) 201 0 (T 1 65) 0) := by
  obtain ⟨d, hd, e1, e2⟩ := h.laid
  obtain ⟨w, hw, w1, w2⟩ := h.wear
  rw [e_X0_laysUntilStop, w1, w2]
  have hI := fun u => lays_g (S := S) (T := T) (d := d) (g := g) (by omega) hg e1 e2 8 201 0 w u (by omega) (by omega) (by omega) (by omega) (Or.inl rfl) (fun j a b => absurd b (by omega))
  rcases h.lost with ⟨a, b⟩ | ⟨a, b⟩
  · rw [a, b, if_neg (show ¬ (0 : Int32) = 1 by decide)]; exact hI 0
  · rw [a, b, if_pos rfl]; exact hI 1
end READS
