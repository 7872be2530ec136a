/-! THE TWO STATES, side by side -/
def wOK (c : Nat → Nat → Int32) (f : Nat → Int32) (p : Nat) : Prop :=
  (c 2 p = (-1) ∧ f (16 + 4 * p) = (-5) ∧ f (16 + 4 * p + 1) = 0 ∧ f (16 + 4 * p + 2) = 0 ∧ f (16 + 4 * p + 3) = 0) ∨
  ∃ l h t : Nat, l < 16 ∧ 10 ≤ h ∧ h ≤ 200 ∧ t ≤ 100 ∧ c 2 p = nI l ∧ f (16 + 4 * p) = nI l ∧ c 3 p = nI h ∧ f (16 + 4 * p + 1) = nI h ∧ c 4 p = nI t ∧ f (16 + 4 * p + 2) = nI t ∧ f (16 + 4 * p + 3) = c 5 p
/-- a chip of the class and a row of the model tell the same -/
def CR (N : Nat) (c : Nat → Nat → Int32) (f : Nat → Int32) : Prop :=
  (∀ l, l < 16 → ∃ x : Nat, x ≤ 600 ∧ c 1 l = nI x ∧ f l = nI x) ∧ (∀ p, p < 12 → wOK c f p) ∧ (∀ p q, p < 12 → q < 12 → p ≠ q → c 2 p = c 2 q → c 2 p = (-1)) ∧
  (∃ w : Nat, 1 ≤ w ∧ w ≤ 50 ∧ c 0 1 = nI w ∧ f 64 = nI w) ∧ (∃ w : Nat, w ≤ 205 ∧ c 0 2 = nI w ∧ f 65 = nI w) ∧ ((c 0 4 = 0 ∧ f 66 = 0) ∨ (c 0 4 = 1 ∧ f 66 = 1)) ∧ f 67 = c 0 5 ∧ (∃ d : Nat, d ≤ N ∧ c 0 0 = nI d ∧ f 68 = nI d) ∧ f 69 = c 0 6 ∧ f 70 = c 0 3
theorem CR.x {N : Nat} {c : Nat → Nat → Int32} {f : Nat → Int32} (h : CR N c f) : ∀ l, l < 16 → ∃ x : Nat, x ≤ 600 ∧ c 1 l = nI x ∧ f l = nI x := h.1
theorem CR.w {N : Nat} {c : Nat → Nat → Int32} {f : Nat → Int32} (h : CR N c f) : ∀ p, p < 12 → wOK c f p := h.2.1
theorem CR.d {N : Nat} {c : Nat → Nat → Int32} {f : Nat → Int32} (h : CR N c f) : ∀ p q, p < 12 → q < 12 → p ≠ q → c 2 p = c 2 q → c 2 p = (-1) := h.2.2.1
theorem CR.width {N : Nat} {c : Nat → Nat → Int32} {f : Nat → Int32} (h : CR N c f) : ∃ w : Nat, 1 ≤ w ∧ w ≤ 50 ∧ c 0 1 = nI w ∧ f 64 = nI w := h.2.2.2.1
theorem CR.wear {N : Nat} {c : Nat → Nat → Int32} {f : Nat → Int32} (h : CR N c f) : ∃ w : Nat, w ≤ 205 ∧ c 0 2 = nI w ∧ f 65 = nI w := h.2.2.2.2.1
theorem CR.lost {N : Nat} {c : Nat → Nat → Int32} {f : Nat → Int32} (h : CR N c f) : (c 0 4 = 0 ∧ f 66 = 0) ∨ (c 0 4 = 1 ∧ f 66 = 1) := h.2.2.2.2.2.1
theorem CR.losses {N : Nat} {c : Nat → Nat → Int32} {f : Nat → Int32} (h : CR N c f) : f 67 = c 0 5 := h.2.2.2.2.2.2.1
theorem CR.laid {N : Nat} {c : Nat → Nat → Int32} {f : Nat → Int32} (h : CR N c f) : ∃ d : Nat, d ≤ N ∧ c 0 0 = nI d ∧ f 68 = nI d := h.2.2.2.2.2.2.2.1
theorem CR.broke {N : Nat} {c : Nat → Nat → Int32} {f : Nat → Int32} (h : CR N c f) : f 69 = c 0 6 := h.2.2.2.2.2.2.2.2.1
theorem CR.tools {N : Nat} {c : Nat → Nat → Int32} {f : Nat → Int32} (h : CR N c f) : f 70 = c 0 3 := h.2.2.2.2.2.2.2.2.2
theorem CR.mono {N M : Nat} {c : Nat → Nat → Int32} {f : Nat → Int32} (h : CR N c f) (hM : N ≤ M) : CR M c f := by
  obtain ⟨d, h1, h2⟩ := h.laid
  exact ⟨h.x, h.w, h.d, h.width, h.wear, h.lost, h.losses, ⟨d, Nat.le_trans h1 hM, h2⟩, h.broke, h.tools⟩
theorem CR.row {N : Nat} {c : Nat → Nat → Int32} {f g : Nat → Int32} (h : CR N c f) (e : ∀ k, k < 71 → g k = f k) : CR N c g := by
  obtain ⟨h1, h2, h3, h4, h5, h6, h7, h8, h9, h10⟩ := h
  refine ⟨fun l hl => by rw [e l (by omega)]; exact h1 l hl, fun p hp => ?_, h3, by rw [e 64 (by omega)]; exact h4, by rw [e 65 (by omega)]; exact h5, by rw [e 66 (by omega)]; exact h6, by rw [e 67 (by omega)]; exact h7, by rw [e 68 (by omega)]; exact h8, by rw [e 69 (by omega)]; exact h9, by rw [e 70 (by omega)]; exact h10⟩
  have := h2 p hp
  unfold wOK at this ⊢
  rw [e _ (by omega), e _ (by omega), e _ (by omega), e _ (by omega)]
  exact this
theorem CR.mok {N : Nat} {S : XS} {T : MS} (h : CR N (S 0) (T 1)) : mok T := fun k hk => by
  rcases h.w k hk with a | ⟨l, _, _, hl, _, _, _, _, e, _⟩
  · exact Or.inl a.2.1
  · exact Or.inr ⟨l, hl, e⟩
theorem le_of_nlt {a b : Int32} (h : ¬ a < b) : b ≤ a := Int32.not_lt.mp h
/-! ranges: the same on both sides -/
theorem in_eq (x a b : Int32) : f_X3_isWithin x a b = f_X4_in x a b := by rw [e_X3_isWithin, e_X4_in]
theorem lt_next {n : Nat} (hn : n + 1 < 2147483648) (x : Int32) : nI (n + 1) ≤ x ↔ nI n < x := by
  rw [Int32.le_iff_toInt_le, Int32.lt_iff_toInt_lt, nI_toInt (by omega), nI_toInt (by omega)]
  omega
theorem ite_iff {α : Type} {p q : Prop} [Decidable p] [Decidable q] (h : p ↔ q) (a b : α) : (if p then a else b) = (if q then a else b) := by
  by_cases hp : p
  · rw [if_pos hp, if_pos (h.mp hp)]
  · rw [if_neg hp, if_neg (fun e => hp (h.mpr e))]
theorem pad_eq (x : Int32) : f_X3_isPad x = f_X4_isPad x := by
  rw [e_X3_isPad, e_X4_isPad, e_X4_in]
  exact congrArg (fun z => if x < 0 then 0 else z) (ite_iff (lt_next (n := 11) (by omega) x) 0 1)
theorem lead_eq (x : Int32) : f_X3_isLead x = f_X4_isLead x := by
  rw [e_X3_isLead, e_X4_isLead, e_X4_in]
  exact congrArg (fun z => if x < 0 then 0 else z) (ite_iff (lt_next (n := 15) (by omega) x) 0 1)
theorem height_eq (x : Int32) : f_X3_isHeight x = f_X4_isHeight x := by
  rw [e_X3_isHeight, e_X4_isHeight, in_eq]
theorem pad_nat {k : Nat} (h : k < 12) : f_X3_isPad (nI k) = 1 := by
  rw [e_X3_isPad, if_neg (nI_pos (by omega)), if_neg (show ¬ (12 : Int32) ≤ nI k from nI_ge (b := 12) h (by omega))]
theorem lead_nat {k : Nat} (h : k < 16) : f_X3_isLead (nI k) = 1 := by
  rw [e_X3_isLead, if_neg (nI_pos (by omega)), if_neg (show ¬ (16 : Int32) ≤ nI k from nI_ge (b := 16) h (by omega))]
theorem pad_of {x : Int32} (h : ¬ f_X3_isPad x = 0) : ∃ k : Nat, k < 12 ∧ x = nI k := by
  rw [e_X3_isPad] at h
  by_cases h0 : x < 0
  · exact absurd (if_pos h0) h
  · rw [if_neg h0] at h
    by_cases h1 : (12 : Int32) ≤ x
    · exact absurd (if_pos h1) h
    · obtain ⟨k, hk, e⟩ := nI_of h0
      subst e
      exact ⟨k, Nat.not_le.mp (fun q => h1 (nI_le (a := 12) q hk)), rfl⟩
theorem lead_of {x : Int32} (h : ¬ f_X3_isLead x = 0) : ∃ k : Nat, k < 16 ∧ x = nI k := by
  rw [e_X3_isLead] at h
  by_cases h0 : x < 0
  · exact absurd (if_pos h0) h
  · rw [if_neg h0] at h
    by_cases h1 : (16 : Int32) ≤ x
    · exact absurd (if_pos h1) h
    · obtain ⟨k, hk, e⟩ := nI_of h0
      subst e
      exact ⟨k, Nat.not_le.mp (fun q => h1 (nI_le (a := 16) q hk)), rfl⟩
theorem at_nat (k w : Nat) (hk : k < 12) (hw : w < 4) : ((16 + (4 * nI k)) + nI w).toNatClampNeg = 16 + 4 * k + w := by
  rw [show (4 : Int32) * nI k = nI (4 * k) from pk_mul 4 k, show (16 : Int32) = nI 16 from rfl, nI_add, nI_add, nI_cl (by omega)]
theorem of_nat (T : MS) (j k w : Nat) (hk : k < 12) (hw : w < 4) : f_X4_of T j (nI k) (nI w) = T j (16 + 4 * k + w) := by
  rw [e_X4_of, at_nat k w hk hw]
abbrev has (c : Nat → Nat → Int32) (k : Nat) : Prop := ¬ c 2 k = (-1)
theorem hasX {S : XS} {k : Nat} (hk : k < 12) : f_X0_hasWire S (nI k) = if has (S 0) k then 1 else 0 := by
  rw [e_X0_hasWire, pad_nat hk, if_neg (show ¬ (1 : Int32) = 0 by decide), nI_cl (by omega)]
  by_cases h : S 0 2 k = (-1)
  · rw [if_pos h, if_neg (fun q => q h)]
  · rw [if_neg h, if_pos h]
theorem lead_ne {l : Nat} (h : l < 16) : nI l ≠ (-5) := by
  intro e
  have e1 := congrArg Int32.toInt e
  rw [nI_toInt (by omega)] at e1
  have e2 : ((-5) : Int32).toInt = -5 := by decide
  omega
theorem nat_ne5 {l : Nat} (h : l < 1000000) : nI l ≠ (-5) := by
  intro e
  have e1 := congrArg Int32.toInt e
  rw [nI_toInt (by omega)] at e1
  have e2 : ((-5) : Int32).toInt = -5 := by decide
  omega
theorem has_iff {c : Nat → Nat → Int32} {f : Nat → Int32} {k : Nat} (h : wOK c f k) : (f (16 + 4 * k) = (-5)) ↔ ¬ has c k := by
  rcases h with ⟨a, b, _⟩ | ⟨l, _, _, hl, _, _, _, a, b, _⟩
  · exact ⟨fun _ q => q a, fun _ => b⟩
  · constructor
    · intro e; rw [b] at e; exact absurd e (lead_ne hl)
    · intro q; exact absurd (fun e => nI_ne_m1 (by omega) (a.symm.trans e)) q
theorem hasM {T : MS} {c : Nat → Nat → Int32} {k : Nat} (hk : k < 12) (h : wOK c (T 1) k) : f_X4_hasWire T (nI k) = if has c k then 1 else 0 := by
  rw [e_X4_hasWire, ← pad_eq, pad_nat hk, if_neg (show ¬ (1 : Int32) = 0 by decide), show (0 : Int32) = nI 0 from rfl, of_nat T 1 k 0 hk (by omega), Nat.add_zero]
  by_cases hh : has c k
  · rw [if_neg (fun e => (has_iff h).mp e hh), if_pos hh]
  · rw [if_pos ((has_iff h).mpr hh), if_neg hh]
section REL
variable {N : Nat} {S : XS} {T : MS}
theorem has_eq (h : CR N (S 0) (T 1)) (p : Int32) : f_X0_hasWire S p = f_X4_hasWire T p := by
  by_cases hp : f_X3_isPad p = 0
  · rw [e_X0_hasWire, e_X4_hasWire, ← pad_eq, if_pos hp, if_pos hp]
  · obtain ⟨k, hk, rfl⟩ := pad_of hp
    rw [hasX hk, hasM hk (h.w k hk)]
theorem has_k (h : CR N (S 0) (T 1)) {p : Int32} (hp : ¬ f_X0_hasWire S p = 0) : ∃ k : Nat, k < 12 ∧ p = nI k ∧ has (S 0) k := by
  by_cases hq : f_X3_isPad p = 0
  · rw [e_X0_hasWire, if_pos hq] at hp; exact absurd rfl hp
  · obtain ⟨k, hk, rfl⟩ := pad_of hq
    rw [hasX hk] at hp
    by_cases hh : has (S 0) k
    · exact ⟨k, hk, rfl, hh⟩
    · rw [if_neg hh] at hp; exact absurd rfl hp
theorem wire_of {c : Nat → Nat → Int32} {f : Nat → Int32} {k : Nat} (h : wOK c f k) (hh : has c k) : ∃ l h t : Nat, l < 16 ∧ 10 ≤ h ∧ h ≤ 200 ∧ t ≤ 100 ∧ c 2 k = nI l ∧ f (16 + 4 * k) = nI l ∧ c 3 k = nI h ∧ f (16 + 4 * k + 1) = nI h ∧ c 4 k = nI t ∧ f (16 + 4 * k + 2) = nI t ∧ f (16 + 4 * k + 3) = c 5 k := by
  rcases h with ⟨a, _⟩ | h
  · exact absurd a hh
  · exact h
theorem ap_eq (a b : Nat) (ha : a < 1000000) (hb : b < 1000000) : f_X4_apart (nI a) (nI b) = nI ((a - b) + (b - a)) := by
  rw [e_X4_apart]
  by_cases h : b ≤ a
  · rw [if_pos (nI_le h (by omega)), pk_sub h, show b - a = 0 by omega, Nat.add_zero]
  · rw [if_neg (nI_ge (by omega) (by omega)), pk_sub (by omega), show a - b = 0 by omega, Nat.zero_add]
theorem abs_eq (a b : Nat) (ha : a < 1000000) (hb : b < 1000000) : (if 0 ≤ (nI a - nI b) then (nI a - nI b) else 0 - (nI a - nI b)) = nI ((a - b) + (b - a)) := by
  by_cases h : b ≤ a
  · rw [pk_sub h, if_pos (nI_pos' (by omega)), show b - a = 0 by omega, Nat.add_zero]
  · have h2 : ¬ (0 : Int32) ≤ nI a - nI b := by
      rw [Int32.le_iff_toInt_le, pk_sub_toInt (by omega) (by omega), Int32.toInt_zero]
      omega
    rw [if_neg h2, show a - b = 0 by omega, Nat.zero_add]
    have : (0 : Int32) - (nI a - nI b) = nI b - nI a := by simp
    rw [this, pk_sub (by omega)]
theorem padX_nat (k : Nat) : f_X3_padX (nI k) = nI (100 + 20 * k) := by
  rw [e_X3_padX, show (20 : Int32) * nI k = nI (20 * k) from pk_mul 20 k, show (100 : Int32) = nI 100 from rfl, nI_add]
theorem padXM_nat (k : Nat) : f_X4_padX (nI k) = nI (100 + 20 * k) := by
  rw [e_X4_padX, show (20 : Int32) * nI k = nI (20 * k) from pk_mul 20 k, show (100 : Int32) = nI 100 from rfl, nI_add]
def lp (h y : Nat) : Nat := h * y * (200 - y) * 4 / 40000
theorem lp_bound {h y : Nat} (hh : h ≤ 200) (hy : y ≤ 200) : h * y * (200 - y) * 4 ≤ 32000000 := by
  have h1 : h * y ≤ 200 * 200 := Nat.mul_le_mul hh hy
  have h2 : h * y * (200 - y) ≤ 200 * 200 * 200 := Nat.mul_le_mul h1 (by omega)
  omega
theorem lpI {h y : Nat} (hh : h ≤ 200) (hy : y ≤ 200) : ((((nI h * nI y) * (200 - nI y)) * 4) / 40000) = nI (lp h y) := by
  have hb := lp_bound hh hy
  rw [pk_mul, show (200 : Int32) = nI 200 from rfl, pk_sub hy, pk_mul, show (4 : Int32) = nI 4 from rfl, pk_mul, show (40000 : Int32) = nI 40000 from rfl, pk_div (by omega) (by omega) (by omega)]
  rfl
theorem lp_le {h y : Nat} (hh : h ≤ 200) (hy : y ≤ 200) : lp h y ≤ 800 := by
  have hb := lp_bound hh hy
  unfold lp
  omega
theorem loopX {h y : Nat} (hh : h ≤ 200) (hy : y ≤ 200) : f_X3_loopAt (nI h) (nI y) = nI (lp h y) := by rw [e_X3_loopAt, lpI hh hy]
theorem loopM {h y : Nat} (hh : h ≤ 200) (hy : y ≤ 200) : f_X4_heightOf (nI h) (nI y) = nI (lp h y) := by rw [e_X4_heightOf, lpI hh hy]
/-! crossings, in numbers -/
def Lx (c : Nat → Nat → Int32) (k : Nat) : Nat := (c 1 (c 2 k).toNatClampNeg).toNatClampNeg
def Hx (c : Nat → Nat → Int32) (k : Nat) : Nat := (c 3 k).toNatClampNeg
abbrev crs (c : Nat → Nat → Int32) (k j : Nat) : Prop := has c k ∧ has c j ∧ ((k < j ∧ Lx c j < Lx c k) ∨ (j < k ∧ Lx c k < Lx c j))
def ds (a b : Nat) : Nat := (a - b) + (b - a)
def cy (c : Nat → Nat → Int32) (k j : Nat) : Nat := 200 * (20 * ds k j) / (20 * ds k j + ds (Lx c k) (Lx c j))
def gp (c : Nat → Nat → Int32) (k h j : Nat) : Nat := ds (lp h (cy c k j)) (lp (Hx c j) (cy c k j))
theorem ds_comm (a b : Nat) : ds a b = ds b a := Nat.add_comm _ _
theorem Lx_of (h : CR N (S 0) (T 1)) {k : Nat} (hk : k < 12) (hh : has (S 0) k) : ∃ l : Nat, l < 16 ∧ S 0 2 k = nI l ∧ T 1 (16 + 4 * k) = nI l ∧ S 0 1 l = nI (Lx (S 0) k) ∧ T 1 l = nI (Lx (S 0) k) ∧ Lx (S 0) k ≤ 600 := by
  obtain ⟨l, hg, t, hl, -, -, -, e1, e2, -⟩ := wire_of (h.w k hk) hh
  obtain ⟨x, hx, ex, fx⟩ := h.x l hl
  have : Lx (S 0) k = x := by
    unfold Lx
    rw [e1, nI_cl (by omega), ex, nI_cl (by omega)]
  rw [this]
  exact ⟨l, hl, e1, e2, ex, fx, hx⟩
theorem Hx_of (h : CR N (S 0) (T 1)) {k : Nat} (hk : k < 12) (hh : has (S 0) k) : S 0 3 k = nI (Hx (S 0) k) ∧ T 1 (16 + 4 * k + 1) = nI (Hx (S 0) k) ∧ 10 ≤ Hx (S 0) k ∧ Hx (S 0) k ≤ 200 := by
  obtain ⟨l, hg, t, hl, g1, g2, -, e1, e2, e3, e4, -⟩ := wire_of (h.w k hk) hh
  have : Hx (S 0) k = hg := by
    unfold Hx
    rw [e3, nI_cl (by omega)]
  rw [this]
  exact ⟨e3, e4, g1, g2⟩
theorem endX_nat (h : CR N (S 0) (T 1)) {k : Nat} (hk : k < 12) (hh : has (S 0) k) : f_X0_endX S (nI k) = nI (Lx (S 0) k) := by
  obtain ⟨l, hl, e1, -, e2, -⟩ := Lx_of h hk hh
  rw [e_X0_endX, if_neg (nI_pos (by omega)), if_neg (show ¬ (12 : Int32) ≤ nI k from nI_ge (b := 12) hk (by omega)), nI_cl (by omega), e1, if_neg (nI_pos (by omega)), if_neg (show ¬ (16 : Int32) ≤ nI l from nI_ge (b := 16) hl (by omega)), nI_cl (by omega), e2]
theorem heightX_nat {k : Nat} (hk : k < 12) : f_X0_heightOf S (nI k) = S 0 3 k := by
  rw [e_X0_heightOf, pad_nat hk, if_neg (show ¬ (1 : Int32) = 0 by decide), nI_cl (by omega)]
theorem strengthX_nat {k : Nat} (hk : k < 12) : f_X0_strengthOf S (nI k) = S 0 4 k := by
  rw [e_X0_strengthOf, pad_nat hk, if_neg (show ¬ (1 : Int32) = 0 by decide), nI_cl (by omega)]
theorem xlead_nat {k : Nat} (hk : k < 16) : f_X0_xOfLead S (nI k) = S 0 1 k := by
  rw [e_X0_xOfLead, lead_nat hk, if_neg (show ¬ (1 : Int32) = 0 by decide), nI_cl (by omega)]
theorem crossX (h : CR N (S 0) (T 1)) {k j : Nat} (hk : k < 12) (hj : j < 12) : f_X0_cross S (nI k) (nI j) = if crs (S 0) k j then 1 else 0 := by
  rw [e_X0_cross, hasX hk, hasX hj]
  by_cases h1 : has (S 0) k
  · by_cases h2 : has (S 0) j
    · obtain ⟨-, -, -, -, -, -, b1⟩ := Lx_of h hk h1
      obtain ⟨-, -, -, -, -, -, b2⟩ := Lx_of h hj h2
      rw [if_pos h1, if_pos h2, if_neg (show ¬ (1 : Int32) = 0 by decide), if_neg (show ¬ (1 : Int32) = 0 by decide), endX_nat h hk h1, endX_nat h hj h2]
      by_cases e : k = j
      · rw [if_pos (by rw [e]), if_neg (fun q => by have := q.2.2; omega)]
      · rw [if_neg (fun q => e ((nI_eq (by omega) (by omega)).mp q))]
        by_cases e2 : j ≤ k
        · rw [if_pos (nI_le e2 (by omega))]
          by_cases e3 : Lx (S 0) j ≤ Lx (S 0) k
          · rw [if_pos (nI_le e3 (by omega)), if_neg (fun q => by have := q.2.2; omega)]
          · rw [if_neg (nI_ge (by omega) (by omega)), if_pos ⟨h1, h2, by omega⟩]
        · rw [if_neg (nI_ge (by omega) (by omega))]
          by_cases e3 : Lx (S 0) k ≤ Lx (S 0) j
          · rw [if_pos (nI_le e3 (by omega)), if_neg (fun q => by have := q.2.2; omega)]
          · rw [if_neg (nI_ge (by omega) (by omega)), if_pos ⟨h1, h2, by omega⟩]
    · rw [if_neg h2, if_pos h1, if_neg (show ¬ (1 : Int32) = 0 by decide), if_pos rfl, if_neg (fun q => h2 q.2.1)]
  · rw [if_neg h1, if_pos rfl, if_neg (fun q => h1 q.1)]
theorem cy_le (c : Nat → Nat → Int32) (k j : Nat) : cy c k j ≤ 200 := by
  unfold cy
  generalize 20 * ds k j = a
  generalize ds (Lx c k) (Lx c j) = b
  rcases Nat.eq_zero_or_pos (a + b) with h | h
  · rw [h, Nat.div_zero]; omega
  · exact Nat.div_le_of_le_mul (by rw [Nat.mul_comm (a + b)]; exact Nat.mul_le_mul (Nat.le_refl _) (Nat.le_add_right _ _))
theorem crossYX (h : CR N (S 0) (T 1)) {k j : Nat} (hk : k < 12) (hj : j < 12) (hc : crs (S 0) k j) : f_X0_crossingY S (nI k) (nI j) = nI (cy (S 0) k j) := by
  obtain ⟨h1, h2, h3⟩ := hc
  obtain ⟨-, -, -, -, -, -, b1⟩ := Lx_of h hk h1
  obtain ⟨-, -, -, -, -, -, b2⟩ := Lx_of h hj h2
  rw [e_X0_crossingY, padX_nat, padX_nat, endX_nat h hk h1, endX_nat h hj h2, abs_eq _ _ (by omega) (by omega), abs_eq _ _ (by omega) (by omega), nI_add]
  have e1 : (100 + 20 * k - (100 + 20 * j) + (100 + 20 * j - (100 + 20 * k))) = 20 * ds k j := by unfold ds; omega
  have e2 : (Lx (S 0) k - Lx (S 0) j + (Lx (S 0) j - Lx (S 0) k)) = ds (Lx (S 0) k) (Lx (S 0) j) := rfl
  have hp : 0 < 20 * ds k j := by unfold ds; omega
  have hb : 20 * ds k j ≤ 240 := by unfold ds; omega
  have hb2 : ds (Lx (S 0) k) (Lx (S 0) j) ≤ 600 := by unfold ds; omega
  rw [e1, e2, if_neg (nI_nle (by omega) (by omega)), show (200 : Int32) = nI 200 from rfl, pk_mul, pk_div (by omega) (by omega) (by omega)]
  rfl
theorem crossYM (h : CR N (S 0) (T 1)) {k j : Nat} (hk : k < 12) (hj : j < 12) (h1 : has (S 0) k) (h2 : has (S 0) j) : f_X4_crossingY T (nI k) (nI j) = if crs (S 0) k j then nI (cy (S 0) k j) else (-5) := by
  obtain ⟨l1, hl1, -, a1, -, c1, b1⟩ := Lx_of h hk h1
  obtain ⟨l2, hl2, -, a2, -, c2, b2⟩ := Lx_of h hj h2
  have r1 : T 1 (0 + f_X4_of T 1 (nI k) 0).toNatClampNeg = nI (Lx (S 0) k) := by
    rw [show f_X4_of T 1 (nI k) 0 = _ from of_nat T 1 k 0 hk (by omega), Nat.add_zero, a1, show (0 : Int32) = nI 0 from rfl, nI_add, nI_cl (by omega), Nat.zero_add, c1]
  have r2 : T 1 (0 + f_X4_of T 1 (nI j) 0).toNatClampNeg = nI (Lx (S 0) j) := by
    rw [show f_X4_of T 1 (nI j) 0 = _ from of_nat T 1 j 0 hj (by omega), Nat.add_zero, a2, show (0 : Int32) = nI 0 from rfl, nI_add, nI_cl (by omega), Nat.zero_add, c2]
  have pos : ∀ a b : Nat, a ≤ 600 → b ≤ 600 → (0 < nI a - nI b ↔ b < a) := fun a b ha hb => by
    rw [Int32.lt_iff_toInt_lt, pk_sub_toInt (by omega) (by omega), Int32.toInt_zero]
    omega
  rw [e_X4_crossingY, r1, r2, padXM_nat, padXM_nat]
  by_cases e2 : j ≤ k
  · rw [if_pos (nI_le e2 (by omega))]
    by_cases e : j = k
    · rw [if_pos (by rw [e]), if_neg (fun q => by have := q.2.2; omega)]
    · rw [if_neg (fun q => e ((nI_eq (by omega) (by omega)).mp q))]
      by_cases e3 : Lx (S 0) k < Lx (S 0) j
      · rw [if_pos ((pos _ _ b2 b1).mpr e3), if_pos ⟨h1, h2, by omega⟩, pk_sub (by omega), pk_sub (by omega), nI_add, show (200 : Int32) = nI 200 from rfl, pk_mul, pk_div (by omega) (by omega) (by omega)]
        have d1 : 20 * ds k j = 100 + 20 * k - (100 + 20 * j) := by unfold ds; omega
        have d2 : ds (Lx (S 0) k) (Lx (S 0) j) = Lx (S 0) j - Lx (S 0) k := by unfold ds; omega
        unfold cy
        rw [d1, d2]
      · rw [if_neg (fun q => e3 ((pos _ _ b2 b1).mp q)), if_neg (fun q => by have := q.2.2; omega)]
  · rw [if_neg (nI_ge (by omega) (by omega)), if_neg (fun q => e2 (Nat.le_of_eq ((nI_eq (by omega) (by omega)).mp q).symm))]
    by_cases e3 : Lx (S 0) j < Lx (S 0) k
    · rw [if_pos ((pos _ _ b1 b2).mpr e3), if_pos ⟨h1, h2, by omega⟩, pk_sub (by omega), pk_sub (by omega), nI_add, show (200 : Int32) = nI 200 from rfl, pk_mul, pk_div (by omega) (by omega) (by omega)]
      have d1 : 20 * ds k j = 100 + 20 * j - (100 + 20 * k) := by unfold ds; omega
      have d2 : ds (Lx (S 0) k) (Lx (S 0) j) = Lx (S 0) k - Lx (S 0) j := by unfold ds; omega
      unfold cy
      rw [d1, d2]
    · rw [if_neg (fun q => e3 ((pos _ _ b1 b2).mp q)), if_neg (fun q => by have := q.2.2; omega)]
theorem crossM (h : CR N (S 0) (T 1)) {k j : Nat} (hk : k < 12) (hj : j < 12) : f_X4_cross T (nI k) (nI j) = if crs (S 0) k j then 1 else 0 := by
  rw [e_X4_cross, hasM hk (h.w k hk), hasM hj (h.w j hj)]
  by_cases h1 : has (S 0) k
  · by_cases h2 : has (S 0) j
    · rw [if_pos h1, if_pos h2, if_neg (show ¬ (1 : Int32) = 0 by decide), if_neg (show ¬ (1 : Int32) = 0 by decide), crossYM h hk hj h1 h2]
      by_cases hc : crs (S 0) k j
      · rw [if_pos hc, if_neg (nat_ne5 (by have := cy_le (S 0) k j; omega)), if_pos hc]
      · rw [if_neg hc, if_pos rfl, if_neg hc]
    · rw [if_neg h2, if_pos h1, if_neg (show ¬ (1 : Int32) = 0 by decide), if_pos rfl, if_neg (fun q => h2 q.2.1)]
  · rw [if_neg h1, if_pos rfl, if_neg (fun q => h1 q.1)]
theorem cross_eq (h : CR N (S 0) (T 1)) {k j : Nat} (hk : k < 12) (hj : j < 12) : f_X0_cross S (nI k) (nI j) = f_X4_cross T (nI k) (nI j) := by rw [crossX h hk hj, crossM h hk hj]
theorem gapX (h : CR N (S 0) (T 1)) {k j g : Nat} (hk : k < 12) (hj : j < 12) (hg : g ≤ 200) (hc : crs (S 0) k j) : f_X0_gap S (nI k) (nI g) (nI j) = nI (gp (S 0) k g j) := by
  obtain ⟨e1, -, -, b⟩ := Hx_of h hj hc.2.1
  have l1 := lp_le hg (cy_le (S 0) k j)
  have l2 := lp_le b (cy_le (S 0) k j)
  rw [e_X0_gap, crossYX h hk hj hc, heightX_nat hj, e1, loopX hg (cy_le _ _ _), loopX b (cy_le _ _ _), abs_eq _ _ (by omega) (by omega)]
  rfl
theorem gapM (h : CR N (S 0) (T 1)) {k j g : Nat} (hk : k < 12) (hj : j < 12) (hg : g ≤ 200) (hc : crs (S 0) k j) : f_X4_gap T (nI k) (nI g) (nI j) = nI (gp (S 0) k g j) := by
  obtain ⟨-, e1, -, b⟩ := Hx_of h hj hc.2.1
  have l1 := lp_le hg (cy_le (S 0) k j)
  have l2 := lp_le b (cy_le (S 0) k j)
  rw [e_X4_gap, crossYM h hk hj hc.1 hc.2.1, if_pos hc, show f_X4_of T 1 (nI j) 1 = _ from of_nat T 1 j 1 hj (by omega), e1, loopM hg (cy_le _ _ _), loopM b (cy_le _ _ _), ap_eq _ _ (by omega) (by omega)]
  rfl
end REL
