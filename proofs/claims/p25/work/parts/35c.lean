/-! what is told depends on chip 0 alone -/
theorem v_X0_hasWire {S S' : XS} (h : S 0 = S' 0) (p0 : Int32) : f_X0_hasWire S p0 = f_X0_hasWire S' p0 := by rw [e_X0_hasWire S p0, e_X0_hasWire S' p0]; simp only [h]
theorem v_X0_leadAtPad {S S' : XS} (h : S 0 = S' 0) (p0 : Int32) : f_X0_leadAtPad S p0 = f_X0_leadAtPad S' p0 := by rw [e_X0_leadAtPad S p0, e_X0_leadAtPad S' p0]; simp only [h]
theorem v_X0_heightOf {S S' : XS} (h : S 0 = S' 0) (p0 : Int32) : f_X0_heightOf S p0 = f_X0_heightOf S' p0 := by rw [e_X0_heightOf S p0, e_X0_heightOf S' p0]; simp only [h]
theorem v_X0_strengthOf {S S' : XS} (h : S 0 = S' 0) (p0 : Int32) : f_X0_strengthOf S p0 = f_X0_strengthOf S' p0 := by rw [e_X0_strengthOf S p0, e_X0_strengthOf S' p0]; simp only [h]
theorem v_X0_numberOf {S S' : XS} (h : S 0 = S' 0) (p0 : Int32) : f_X0_numberOf S p0 = f_X0_numberOf S' p0 := by rw [e_X0_numberOf S p0, e_X0_numberOf S' p0]; simp only [h]
theorem v_X0_xOfLead {S S' : XS} (h : S 0 = S' 0) (p0 : Int32) : f_X0_xOfLead S p0 = f_X0_xOfLead S' p0 := by rw [e_X0_xOfLead S p0, e_X0_xOfLead S' p0]; simp only [h]
theorem vg_X0_padAtLead_2 {S S' : XS} (h : S 0 = S' 0) (p0 : Int32) : ∀ (n : Nat) (k : Nat), g_X0_padAtLead_2 S p0 n k = g_X0_padAtLead_2 S' p0 n k := by
  intro n
  induction n with
  | zero => intro k; rfl
  | succ n ih =>
    intro k
    rw [ge_X0_padAtLead_2 S p0 n k, ge_X0_padAtLead_2 S' p0 n k]
    simp only [v_X0_hasWire h, h, ih]
theorem v_X0_padAtLead {S S' : XS} (h : S 0 = S' 0) (p0 : Int32) : f_X0_padAtLead S p0 = f_X0_padAtLead S' p0 := by rw [e_X0_padAtLead S p0, e_X0_padAtLead S' p0]; simp only [vg_X0_padAtLead_2 h, h]
theorem v_X0_endX {S S' : XS} (h : S 0 = S' 0) (p0 : Int32) : f_X0_endX S p0 = f_X0_endX S' p0 := by rw [e_X0_endX S p0, e_X0_endX S' p0]; simp only [h]
theorem v_X0_cross {S S' : XS} (h : S 0 = S' 0) (p0 p1 : Int32) : f_X0_cross S p0 p1 = f_X0_cross S' p0 p1 := by rw [e_X0_cross S p0 p1, e_X0_cross S' p0 p1]; simp only [v_X0_hasWire h, v_X0_endX h, h]
theorem v_X0_crossingY {S S' : XS} (h : S 0 = S' 0) (p0 p1 : Int32) : f_X0_crossingY S p0 p1 = f_X0_crossingY S' p0 p1 := by rw [e_X0_crossingY S p0 p1, e_X0_crossingY S' p0 p1]; simp only [v_X0_endX h, h]
theorem v_X0_gap {S S' : XS} (h : S 0 = S' 0) (p0 p1 p2 : Int32) : f_X0_gap S p0 p1 p2 = f_X0_gap S' p0 p1 p2 := by rw [e_X0_gap S p0 p1 p2, e_X0_gap S' p0 p1 p2]; simp only [v_X0_crossingY h, v_X0_heightOf h, h]
theorem v_X0_isShort {S S' : XS} (h : S 0 = S' 0) (p0 p1 p2 : Int32) : f_X0_isShort S p0 p1 p2 = f_X0_isShort S' p0 p1 p2 := by rw [e_X0_isShort S p0 p1 p2, e_X0_isShort S' p0 p1 p2]; simp only [v_X0_cross h, v_X0_gap h, h]
theorem vg_X0_crossingsOf_4 {S S' : XS} (h : S 0 = S' 0) (p0 : Int32) : ∀ (n : Nat) (k : Nat) (v : Int32), g_X0_crossingsOf_4 S p0 n k v = g_X0_crossingsOf_4 S' p0 n k v := by
  intro n
  induction n with
  | zero => intro k v; rfl
  | succ n ih =>
    intro k v
    rw [ge_X0_crossingsOf_4 S p0 n k v, ge_X0_crossingsOf_4 S' p0 n k v]
    simp only [v_X0_cross h, h, ih]
theorem v_X0_crossingsOf {S S' : XS} (h : S 0 = S' 0) (p0 : Int32) : f_X0_crossingsOf S p0 = f_X0_crossingsOf S' p0 := by rw [e_X0_crossingsOf S p0, e_X0_crossingsOf S' p0]; simp only [vg_X0_crossingsOf_4 h, h]
theorem vg_X0_shortOnes_5 {S S' : XS} (h : S 0 = S' 0) (p0 p1 : Int32) : ∀ (n : Nat) (k : Nat) (v : Int32), g_X0_shortOnes_5 S p0 p1 n k v = g_X0_shortOnes_5 S' p0 p1 n k v := by
  intro n
  induction n with
  | zero => intro k v; rfl
  | succ n ih =>
    intro k v
    rw [ge_X0_shortOnes_5 S p0 p1 n k v, ge_X0_shortOnes_5 S' p0 p1 n k v]
    simp only [v_X0_isShort h, h, ih]
theorem v_X0_shortOnes {S S' : XS} (h : S 0 = S' 0) (p0 p1 : Int32) : f_X0_shortOnes S p0 p1 = f_X0_shortOnes S' p0 p1 := by rw [e_X0_shortOnes S p0 p1, e_X0_shortOnes S' p0 p1]; simp only [vg_X0_shortOnes_5 h, h]
theorem vg_X0_leastGap_5 {S S' : XS} (h : S 0 = S' 0) (p0 : Int32) : ∀ (n : Nat) (k : Nat) (v : Int32), g_X0_leastGap_5 S p0 n k v = g_X0_leastGap_5 S' p0 n k v := by
  intro n
  induction n with
  | zero => intro k v; rfl
  | succ n ih =>
    intro k v
    rw [ge_X0_leastGap_5 S p0 n k v, ge_X0_leastGap_5 S' p0 n k v]
    simp only [v_X0_cross h, v_X0_gap h, v_X0_heightOf h, h, ih]
theorem v_X0_leastGap {S S' : XS} (h : S 0 = S' 0) (p0 : Int32) : f_X0_leastGap S p0 = f_X0_leastGap S' p0 := by rw [e_X0_leastGap S p0, e_X0_leastGap S' p0]; simp only [vg_X0_leastGap_5 h, h]
theorem vg_X0_wires_4 {S S' : XS} (h : S 0 = S' 0)  : ∀ (n : Nat) (k : Nat) (v : Int32), g_X0_wires_4 S  n k v = g_X0_wires_4 S'  n k v := by
  intro n
  induction n with
  | zero => intro k v; rfl
  | succ n ih =>
    intro k v
    rw [ge_X0_wires_4 S  n k v, ge_X0_wires_4 S'  n k v]
    simp only [v_X0_hasWire h, h, ih]
theorem v_X0_wires {S S' : XS} (h : S 0 = S' 0)  : f_X0_wires S  = f_X0_wires S'  := by rw [e_X0_wires S , e_X0_wires S' ]; simp only [vg_X0_wires_4 h, h]
theorem vg_X0_allCrossings_14 {S S' : XS} (h : S 0 = S' 0)  : ∀ (n : Nat) (k : Nat) (j : Nat) (v : Int32), g_X0_allCrossings_14 S  n k j v = g_X0_allCrossings_14 S'  n k j v := by
  intro n
  induction n with
  | zero => intro k j v; rfl
  | succ n ih =>
    intro k j v
    rw [ge_X0_allCrossings_14 S  n k j v, ge_X0_allCrossings_14 S'  n k j v]
    simp only [v_X0_cross h, h, ih]
theorem vg_X0_allCrossings_4 {S S' : XS} (h : S 0 = S' 0)  : ∀ (n : Nat) (k : Nat) (v : Int32), g_X0_allCrossings_4 S  n k v = g_X0_allCrossings_4 S'  n k v := by
  intro n
  induction n with
  | zero => intro k v; rfl
  | succ n ih =>
    intro k v
    rw [ge_X0_allCrossings_4 S  n k v, ge_X0_allCrossings_4 S'  n k v]
    simp only [vg_X0_allCrossings_14 h, h, ih]
theorem v_X0_allCrossings {S S' : XS} (h : S 0 = S' 0)  : f_X0_allCrossings S  = f_X0_allCrossings S'  := by rw [e_X0_allCrossings S , e_X0_allCrossings S' ]; simp only [vg_X0_allCrossings_4 h, h]
theorem vg_X0_allShortOnes_14 {S S' : XS} (h : S 0 = S' 0)  : ∀ (n : Nat) (k : Nat) (j : Nat) (v : Int32), g_X0_allShortOnes_14 S  n k j v = g_X0_allShortOnes_14 S'  n k j v := by
  intro n
  induction n with
  | zero => intro k j v; rfl
  | succ n ih =>
    intro k j v
    rw [ge_X0_allShortOnes_14 S  n k j v, ge_X0_allShortOnes_14 S'  n k j v]
    simp only [v_X0_isShort h, v_X0_heightOf h, h, ih]
theorem vg_X0_allShortOnes_4 {S S' : XS} (h : S 0 = S' 0)  : ∀ (n : Nat) (k : Nat) (v : Int32), g_X0_allShortOnes_4 S  n k v = g_X0_allShortOnes_4 S'  n k v := by
  intro n
  induction n with
  | zero => intro k v; rfl
  | succ n ih =>
    intro k v
    rw [ge_X0_allShortOnes_4 S  n k v, ge_X0_allShortOnes_4 S'  n k v]
    simp only [vg_X0_allShortOnes_14 h, h, ih]
theorem v_X0_allShortOnes {S S' : XS} (h : S 0 = S' 0)  : f_X0_allShortOnes S  = f_X0_allShortOnes S'  := by rw [e_X0_allShortOnes S , e_X0_allShortOnes S' ]; simp only [vg_X0_allShortOnes_4 h, h]
theorem vg_X0_allStrengths_4 {S S' : XS} (h : S 0 = S' 0)  : ∀ (n : Nat) (k : Nat) (v : Int32), g_X0_allStrengths_4 S  n k v = g_X0_allStrengths_4 S'  n k v := by
  intro n
  induction n with
  | zero => intro k v; rfl
  | succ n ih =>
    intro k v
    rw [ge_X0_allStrengths_4 S  n k v, ge_X0_allStrengths_4 S'  n k v]
    simp only [v_X0_hasWire h, h, ih]
theorem v_X0_allStrengths {S S' : XS} (h : S 0 = S' 0)  : f_X0_allStrengths S  = f_X0_allStrengths S'  := by rw [e_X0_allStrengths S , e_X0_allStrengths S' ]; simp only [vg_X0_allStrengths_4 h, h]
theorem vg_X0_weakestPad_5 {S S' : XS} (h : S 0 = S' 0)  : ∀ (n : Nat) (k : Nat) (v : Int32), g_X0_weakestPad_5 S  n k v = g_X0_weakestPad_5 S'  n k v := by
  intro n
  induction n with
  | zero => intro k v; rfl
  | succ n ih =>
    intro k v
    rw [ge_X0_weakestPad_5 S  n k v, ge_X0_weakestPad_5 S'  n k v]
    simp only [v_X0_hasWire h, v_X0_strengthOf h, h, ih]
theorem v_X0_weakestPad {S S' : XS} (h : S 0 = S' 0)  : f_X0_weakestPad S  = f_X0_weakestPad S'  := by rw [e_X0_weakestPad S , e_X0_weakestPad S' ]; simp only [vg_X0_weakestPad_5 h, h]
theorem vg_X0_laysUntilStop_13 {S S' : XS} (h : S 0 = S' 0) (p0 : Int32) : ∀ (n : Nat) (k : Nat) (w : Int32) (u : Int32), g_X0_laysUntilStop_13 S p0 n k w u = g_X0_laysUntilStop_13 S' p0 n k w u := by
  intro n
  induction n with
  | zero => intro k w u; rfl
  | succ n ih =>
    intro k w u
    rw [ge_X0_laysUntilStop_13 S p0 n k w u, ge_X0_laysUntilStop_13 S' p0 n k w u]
    simp only [h, ih]
theorem v_X0_laysUntilStop {S S' : XS} (h : S 0 = S' 0) (p0 : Int32) : f_X0_laysUntilStop S p0 = f_X0_laysUntilStop S' p0 := by rw [e_X0_laysUntilStop S p0, e_X0_laysUntilStop S' p0]; simp only [vg_X0_laysUntilStop_13 h, h]
theorem v_X3_wire {S S' : XS} (h : S 0 = S' 0) (p0 p1 : Int32) : f_X3_wire S p0 p1 = f_X3_wire S' p0 p1 := by rw [e_X3_wire S p0 p1, e_X3_wire S' p0 p1]; simp only [v_X0_hasWire h, v_X0_leadAtPad h, v_X0_heightOf h, v_X0_strengthOf h, v_X0_crossingsOf h, v_X0_shortOnes h, v_X0_leastGap h, v_X0_numberOf h, h]
theorem v_X3_lead {S S' : XS} (h : S 0 = S' 0) (p0 p1 : Int32) : f_X3_lead S p0 p1 = f_X3_lead S' p0 p1 := by rw [e_X3_lead S p0 p1, e_X3_lead S' p0 p1]; simp only [v_X0_xOfLead h, v_X0_padAtLead h, h]
theorem v_X3_laysLeft {S S' : XS} (h : S 0 = S' 0) (p0 : Int32) : f_X3_laysLeft S p0 = f_X3_laysLeft S' p0 := by rw [e_X3_laysLeft S p0, e_X3_laysLeft S' p0]; simp only [v_X0_laysUntilStop h, h]
theorem v_X3_count {S S' : XS} (h : S 0 = S' 0) (p0 : Int32) (h12 : ¬ p0 = 12) (h13 : ¬ p0 = 13) : f_X3_count S p0 = f_X3_count S' p0 := by rw [e_X3_count S p0, e_X3_count S' p0]; simp only [v_X0_wires h, v_X0_allCrossings h, v_X0_allShortOnes h, v_X0_weakestPad h, v_X0_allStrengths h, h, if_neg h12, if_neg h13]
theorem nIne {a b : Nat} (h : a ≠ b) (ha : a < 1000) (hb : b < 1000) : ¬ nI a = nI b := fun e => h (by have h1 := congrArg Int32.toInt e; rw [nI_toInt (by omega), nI_toInt (by omega)] at h1; omega)
theorem vs1 {S S' : XS} (h : S 0 = S' 0) : ∀ (n k : Nat) (x : Int64), k + n ≤ 12 → sn1 S n k x = sn1 S' n k x := by
  intro n
  induction n with
  | zero => intro k x _; rfl
  | succ n ih =>
    intro k x hk
    show sn1 S n (k + 1) (31 * x + (f_X3_count S (nI k)).toInt64) = sn1 S' n (k + 1) (31 * x + (f_X3_count S' (nI k)).toInt64)
    have e12 : ¬ nI k = 12 := nIne (b := 12) (by omega) (by omega) (by omega)
    have e13 : ¬ nI k = 13 := nIne (b := 13) (by omega) (by omega) (by omega)
    rw [v_X3_count h _ e12 e13]
    exact ih _ _ (by omega)
theorem vs2 {S S' : XS} (h : S 0 = S' 0) : ∀ (n k : Nat) (x : Int64), sn2 S n k x = sn2 S' n k x := by
  intro n
  induction n with
  | zero => intro k x; rfl
  | succ n ih =>
    intro k x
    show sn2 S n (k + 1) (31 * x + (f_X3_wire S (nI k / 7) (nI k - nI k / 7 * 7)).toInt64) = sn2 S' n (k + 1) (31 * x + (f_X3_wire S' (nI k / 7) (nI k - nI k / 7 * 7)).toInt64)
    rw [v_X3_wire h]
    exact ih _ _
theorem vs3 {S S' : XS} (h : S 0 = S' 0) : ∀ (n k : Nat) (x : Int64), sn3 S n k x = sn3 S' n k x := by
  intro n
  induction n with
  | zero => intro k x; rfl
  | succ n ih =>
    intro k x
    show sn3 S n (k + 1) (31 * x + (f_X3_lead S (nI k / 2) (nI k - nI k / 2 * 2)).toInt64) = sn3 S' n (k + 1) (31 * x + (f_X3_lead S' (nI k / 2) (nI k - nI k / 2 * 2)).toInt64)
    rw [v_X3_lead h]
    exact ih _ _
theorem v_seen {S S' : XS} (h : S 0 = S' 0) : f_seen S = f_seen S' := by
  rw [e_seen, e_seen, vs1 h _ _ _ (by omega), vs2 h, vs3 h, v_X3_laysLeft h]
/-- what is seen of a chip -/
noncomputable def sC (c : Nat → Nat → Int32) : Int64 := f_seen (fun _ => c)
theorem seen_sC {S : XS} {c : Nat → Nat → Int32} (h : S 0 = c) : f_seen S = sC c := v_seen (S' := fun _ => c) h
