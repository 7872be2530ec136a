/-! pairs: counted once by the class, twice by the model -/
def sm (f : Nat → Nat) : Nat → Nat
  | 0 => 0
  | n + 1 => sm f n + f n
theorem sm_le (f : Nat → Nat) {a b : Nat} (h : a ≤ b) : sm f a ≤ sm f b := by
  induction h with
  | refl => exact Nat.le_refl _
  | step _ ih => exact Nat.le_trans ih (Nat.le_add_right _ _)
theorem sm_congr {f g : Nat → Nat} : ∀ n, (∀ k, k < n → f k = g k) → sm f n = sm g n
  | 0, _ => rfl
  | n + 1, h => by
    show sm f n + f n = sm g n + g n
    rw [sm_congr n (fun k hk => h k (by omega)), h n (by omega)]
theorem sm_add (f g : Nat → Nat) : ∀ n, sm (fun k => f k + g k) n = sm f n + sm g n
  | 0 => rfl
  | n + 1 => by
    show sm (fun k => f k + g k) n + (f n + g n) = sm f n + f n + (sm g n + g n)
    rw [sm_add f g n]; omega
theorem sm_bound (f : Nat → Nat) (B : Nat) (h : ∀ k, f k ≤ B) : ∀ n, sm f n ≤ B * n
  | 0 => Nat.zero_le _
  | n + 1 => by
    show sm f n + f n ≤ B * (n + 1)
    have := sm_bound f B h n
    have := h n
    rw [Nat.mul_succ]; omega
/-- the lower half is the upper half -/
theorem sm_half (a : Nat → Nat → Nat) (sy : ∀ k j, a k j = a j k) (dz : ∀ k, a k k = 0) : ∀ n, sm (fun k => sm (a k) n - sm (a k) (k + 1)) n = sm (fun k => sm (a k) k) n
  | 0 => rfl
  | n + 1 => by
    have ih := sm_half a sy dz n
    show sm (fun k => sm (a k) n + a k n - sm (a k) (k + 1)) n + (sm (a n) (n + 1) - sm (a n) (n + 1)) = sm (fun k => sm (a k) k) n + sm (a n) n
    have e : sm (fun k => sm (a k) n + a k n - sm (a k) (k + 1)) n = sm (fun k => (sm (a k) n - sm (a k) (k + 1)) + a n k) n := sm_congr n (fun k hk => by
      have := sm_le (a k) (show k + 1 ≤ n by omega)
      show sm (a k) n + a k n - sm (a k) (k + 1) = sm (a k) n - sm (a k) (k + 1) + a n k
      rw [sy k n]; omega)
    rw [e, sm_add, ih]
    omega
theorem sm_twice (a : Nat → Nat → Nat) (sy : ∀ k j, a k j = a j k) (dz : ∀ k, a k k = 0) (n : Nat) : sm (fun k => sm (a k) n) n = 2 * sm (fun k => sm (a k) n - sm (a k) (k + 1)) n := by
  have e : sm (fun k => sm (a k) n) n = sm (fun k => (sm (a k) n - sm (a k) (k + 1)) + sm (a k) k) n := sm_congr n (fun k hk => by
    have := sm_le (a k) (show k + 1 ≤ n by omega)
    have h2 : sm (a k) (k + 1) = sm (a k) k := by
      show sm (a k) k + a k k = sm (a k) k
      rw [dz k, Nat.add_zero]
    show sm (a k) n = sm (a k) n - sm (a k) (k + 1) + sm (a k) k
    omega)
  rw [e, sm_add, ← sm_half a sy dz n]
  omega
section ALL
variable {N : Nat} {S : XS} {T : MS}
def aC (c : Nat → Nat → Int32) (k j : Nat) : Nat := if crs c k j then 1 else 0
abbrev srt (c : Nat → Nat → Int32) (k j : Nat) : Prop := crs c k j ∧ gp c k (Hx c k) j < (c 0 1).toNatClampNeg
def aS (c : Nat → Nat → Int32) (k j : Nat) : Nat := if srt c k j then 1 else 0
theorem crs_sy (c : Nat → Nat → Int32) (k j : Nat) : crs c k j ↔ crs c j k := by
  constructor <;> exact fun ⟨a, b, d⟩ => ⟨b, a, by omega⟩
theorem cy_sy (c : Nat → Nat → Int32) (k j : Nat) : cy c k j = cy c j k := by
  unfold cy
  rw [ds_comm k j, ds_comm (Lx c k) (Lx c j)]
theorem srt_sy (c : Nat → Nat → Int32) (k j : Nat) : srt c k j ↔ srt c j k := by
  have e : gp c k (Hx c k) j = gp c j (Hx c j) k := by
    unfold gp
    rw [cy_sy c k j, ds_comm]
  unfold srt
  rw [e]
  exact ⟨fun ⟨a, b⟩ => ⟨(crs_sy c k j).mp a, b⟩, fun ⟨a, b⟩ => ⟨(crs_sy c k j).mpr a, b⟩⟩
theorem aC_sy (c : Nat → Nat → Int32) (k j : Nat) : aC c k j = aC c j k := by
  unfold aC; exact ite_iff (crs_sy c k j) 1 0
theorem aS_sy (c : Nat → Nat → Int32) (k j : Nat) : aS c k j = aS c j k := by
  unfold aS; exact ite_iff (srt_sy c k j) 1 0
theorem aC_dz (c : Nat → Nat → Int32) (k : Nat) : aC c k k = 0 := if_neg (fun q => by have := q.2.2; omega)
theorem aS_dz (c : Nat → Nat → Int32) (k : Nat) : aS c k k = 0 := if_neg (fun q => by have := q.1.2.2; omega)
theorem aC_le (c : Nat → Nat → Int32) (k j : Nat) : aC c k j ≤ 1 := by unfold aC; split <;> omega
theorem aS_le (c : Nat → Nat → Int32) (k j : Nat) : aS c k j ≤ 1 := by unfold aS; split <;> omega
theorem isShort_nat (h : CR N (S 0) (T 1)) {k j : Nat} (hk : k < 12) (hj : j < 12) : f_X0_isShort S (nI k) (f_X0_heightOf S (nI k)) (nI j) = if srt (S 0) k j then 1 else 0 := by
  obtain ⟨w, w1, w2, e1, e2⟩ := h.width
  rw [e_X0_isShort, crossX h hk hj]
  by_cases hc : crs (S 0) k j
  · obtain ⟨e3, -, -, hb⟩ := Hx_of h hk hc.1
    have hg : gp (S 0) k (Hx (S 0) k) j ≤ 1600 := by
      have l1 := lp_le hb (cy_le (S 0) k j)
      have l2 := lp_le (Hx_of h hj hc.2.1).2.2.2 (cy_le (S 0) k j)
      unfold gp ds; omega
    rw [if_pos hc, if_neg one_ne, heightX_nat hk, e3, gapX h hk hj hb hc]
    by_cases hd : w ≤ gp (S 0) k (Hx (S 0) k) j
    · rw [if_pos (show S 0 0 1 ≤ nI _ by rw [e1]; exact nI_le hd (by omega)), if_neg (fun q => by have := q.2; rw [e1, nI_cl (by omega)] at this; omega)]
    · rw [if_neg (show ¬ S 0 0 1 ≤ nI _ by rw [e1]; exact nI_ge (by omega) (by omega)), if_pos ⟨hc, by rw [e1, nI_cl (by omega)]; omega⟩]
  · rw [if_neg hc, if_pos rfl, if_neg (fun q => hc q.1)]
/-- one more or not -/
theorem up1 {p : Prop} [Decidable p] (v : Nat) : (if (if p then (1 : Int32) else 0) = 0 then nI v else nI v + 1) = nI (v + (if p then 1 else 0)) := by
  by_cases h : p
  · rw [if_pos h, if_neg one_ne, if_pos h, nI_1]
  · rw [if_neg h, if_pos rfl, if_neg h, Nat.add_zero]
theorem innerC (h : CR N (S 0) (T 1)) {k : Nat} (hk : k < 12) : ∀ (n j v : Nat), j ≤ 12 → 12 < j + n → g_X0_allCrossings_14 S n k j (nI v) = nI (v + (sm (aC (S 0) k) 12 - sm (aC (S 0) k) j)) := by
  intro n
  induction n with
  | zero => intro j v hj hn; exact absurd hn (by omega)
  | succ n ih =>
    intro j v hj hn
    rw [ge_X0_allCrossings_14]
    by_cases c : 12 ≤ j
    · rw [if_pos (le12 c hj), show j = 12 by omega, Nat.sub_self, Nat.add_zero]
    · have hs : sm (aC (S 0) k) (j + 1) = sm (aC (S 0) k) j + aC (S 0) k j := rfl
      have hl := sm_le (aC (S 0) k) (show j + 1 ≤ 12 by omega)
      rw [if_neg (ge12 (by omega)), crossX h hk (by omega), nI_1, ih (j + 1) v (by omega) (by omega), ih (j + 1) (v + 1) (by omega) (by omega)]
      by_cases hc : crs (S 0) k j
      · have e : aC (S 0) k j = 1 := if_pos hc
        rw [if_pos hc, if_neg one_ne]
        congr 1; omega
      · have e : aC (S 0) k j = 0 := if_neg hc
        rw [if_neg hc, if_pos rfl]
        congr 1; omega
theorem outerC (h : CR N (S 0) (T 1)) : ∀ (n k v : Nat), k ≤ 12 → 12 < k + n → g_X0_allCrossings_4 S n k (nI v) = nI (v + (sm (fun k => sm (aC (S 0) k) 12 - sm (aC (S 0) k) (k + 1)) 12 - sm (fun k => sm (aC (S 0) k) 12 - sm (aC (S 0) k) (k + 1)) k)) := by
  intro n
  induction n with
  | zero => intro k v hk hn; exact absurd hn (by omega)
  | succ n ih =>
    intro k v hk hn
    rw [ge_X0_allCrossings_4]
    by_cases c : 12 ≤ k
    · rw [if_pos (le12 c hk), show k = 12 by omega, Nat.sub_self, Nat.add_zero]
    · have hl := sm_le (fun k => sm (aC (S 0) k) 12 - sm (aC (S 0) k) (k + 1)) (show k + 1 ≤ 12 by omega)
      have hs : sm (fun k => sm (aC (S 0) k) 12 - sm (aC (S 0) k) (k + 1)) (k + 1) = sm (fun k => sm (aC (S 0) k) 12 - sm (aC (S 0) k) (k + 1)) k + (sm (aC (S 0) k) 12 - sm (aC (S 0) k) (k + 1)) := rfl
      rw [if_neg (ge12 (by omega)), innerC h (by omega) 13 (k + 1) v (by omega) (by omega), ih (k + 1) _ (by omega) (by omega)]
      congr 1; omega
theorem innerS (h : CR N (S 0) (T 1)) {k : Nat} (hk : k < 12) : ∀ (n j v : Nat), j ≤ 12 → 12 < j + n → g_X0_allShortOnes_14 S n k j (nI v) = nI (v + (sm (aS (S 0) k) 12 - sm (aS (S 0) k) j)) := by
  intro n
  induction n with
  | zero => intro j v hj hn; exact absurd hn (by omega)
  | succ n ih =>
    intro j v hj hn
    rw [ge_X0_allShortOnes_14]
    by_cases c : 12 ≤ j
    · rw [if_pos (le12 c hj), show j = 12 by omega, Nat.sub_self, Nat.add_zero]
    · have hs : sm (aS (S 0) k) (j + 1) = sm (aS (S 0) k) j + aS (S 0) k j := rfl
      have hl := sm_le (aS (S 0) k) (show j + 1 ≤ 12 by omega)
      rw [if_neg (ge12 (by omega)), isShort_nat h hk (by omega), nI_1, ih (j + 1) v (by omega) (by omega), ih (j + 1) (v + 1) (by omega) (by omega)]
      by_cases hc : srt (S 0) k j
      · have e : aS (S 0) k j = 1 := if_pos hc
        rw [if_pos hc, if_neg one_ne]
        congr 1; omega
      · have e : aS (S 0) k j = 0 := if_neg hc
        rw [if_neg hc, if_pos rfl]
        congr 1; omega
theorem outerS (h : CR N (S 0) (T 1)) : ∀ (n k v : Nat), k ≤ 12 → 12 < k + n → g_X0_allShortOnes_4 S n k (nI v) = nI (v + (sm (fun k => sm (aS (S 0) k) 12 - sm (aS (S 0) k) (k + 1)) 12 - sm (fun k => sm (aS (S 0) k) 12 - sm (aS (S 0) k) (k + 1)) k)) := by
  intro n
  induction n with
  | zero => intro k v hk hn; exact absurd hn (by omega)
  | succ n ih =>
    intro k v hk hn
    rw [ge_X0_allShortOnes_4]
    by_cases c : 12 ≤ k
    · rw [if_pos (le12 c hk), show k = 12 by omega, Nat.sub_self, Nat.add_zero]
    · have hl := sm_le (fun k => sm (aS (S 0) k) 12 - sm (aS (S 0) k) (k + 1)) (show k + 1 ≤ 12 by omega)
      have hs : sm (fun k => sm (aS (S 0) k) 12 - sm (aS (S 0) k) (k + 1)) (k + 1) = sm (fun k => sm (aS (S 0) k) 12 - sm (aS (S 0) k) (k + 1)) k + (sm (aS (S 0) k) 12 - sm (aS (S 0) k) (k + 1)) := rfl
      rw [if_neg (ge12 (by omega)), innerS h (by omega) 13 (k + 1) v (by omega) (by omega), ih (k + 1) _ (by omega) (by omega)]
      congr 1; omega
/-- the model's counts of one wire -/
theorem oneC (h : CR N (S 0) (T 1)) {p : Nat} (hp : p < 12) : f_X4_crossings T (nI p) = nI (sm (aC (S 0) p) 12) := by
  have G : ∀ (n k v : Nat), k ≤ 12 → 12 < k + n → g_X4_crossings_4 T (nI p) n k (nI v) = nI (v + (sm (aC (S 0) p) 12 - sm (aC (S 0) p) k)) := by
    intro n
    induction n with
    | zero => intro j v hj hn; exact absurd hn (by omega)
    | succ n ih =>
      intro j v hj hn
      rw [ge_X4_crossings_4]
      by_cases c : 12 ≤ j
      · rw [if_pos (le12 c hj), show j = 12 by omega, Nat.sub_self, Nat.add_zero]
      · have hs : sm (aC (S 0) p) (j + 1) = sm (aC (S 0) p) j + aC (S 0) p j := rfl
        have hl := sm_le (aC (S 0) p) (show j + 1 ≤ 12 by omega)
        rw [if_neg (ge12 (by omega)), crossM h hp (by omega), nI_1, Int32.add_zero, ih (j + 1) v (by omega) (by omega), ih (j + 1) (v + 1) (by omega) (by omega)]
        by_cases hc : crs (S 0) p j
        · have e : aC (S 0) p j = 1 := if_pos hc
          rw [if_pos hc, if_neg one_ne]
          congr 1; omega
        · have e : aC (S 0) p j = 0 := if_neg hc
          rw [if_neg hc, if_pos rfl]
          congr 1; omega
  rw [e_X4_crossings]
  exact (G 13 0 0 (by omega) (by omega)).trans (by rw [Nat.zero_add]; rfl)
theorem oneS (h : CR N (S 0) (T 1)) {p : Nat} (hp : p < 12) : f_X4_shortOnes T (nI p) (f_X4_of T 1 (nI p) 1) = nI (sm (aS (S 0) p) 12) := by
  by_cases hh : has (S 0) p
  · obtain ⟨e1, e2, -, hb⟩ := Hx_of h hp hh
    rw [show f_X4_of T 1 (nI p) 1 = _ from of_nat T 1 p 1 hp (by omega), e2, ← short_eq h hp hb, ← e1]
    have G : ∀ (n k v : Nat), k ≤ 12 → 12 < k + n → g_X0_shortOnes_5 S (nI p) (S 0 3 p) n k (nI v) = nI (v + (sm (aS (S 0) p) 12 - sm (aS (S 0) p) k)) := by
      intro n
      induction n with
      | zero => intro j v hj hn; exact absurd hn (by omega)
      | succ n ih =>
        intro j v hj hn
        rw [ge_X0_shortOnes_5]
        by_cases c : 12 ≤ j
        · rw [if_pos (le12 c hj), show j = 12 by omega, Nat.sub_self, Nat.add_zero]
        · have hs : sm (aS (S 0) p) (j + 1) = sm (aS (S 0) p) j + aS (S 0) p j := rfl
          have hl := sm_le (aS (S 0) p) (show j + 1 ≤ 12 by omega)
          have hi := isShort_nat h hp (show j < 12 by omega)
          rw [heightX_nat hp] at hi
          rw [if_neg (ge12 (by omega)), hi, nI_1, ih (j + 1) v (by omega) (by omega), ih (j + 1) (v + 1) (by omega) (by omega)]
          by_cases hc : srt (S 0) p j
          · have e : aS (S 0) p j = 1 := if_pos hc
            rw [if_pos hc, if_neg one_ne]
            congr 1; omega
          · have e : aS (S 0) p j = 0 := if_neg hc
            rw [if_neg hc, if_pos rfl]
            congr 1; omega
    rw [e_X0_shortOnes]
    exact (G 13 0 0 (by omega) (by omega)).trans (by rw [Nat.zero_add]; rfl)
  · have z : sm (aS (S 0) p) 12 = 0 := by
      have := sm_congr (f := aS (S 0) p) (g := fun _ => 0) 12 (fun k _ => if_neg (fun q => hh q.1.1))
      rw [this]; rfl
    rw [z, e_X4_shortOnes]
    have G : ∀ (n k : Nat) (y : Int32), k ≤ 12 → 12 < k + n → g_X4_shortOnes_5 T (nI p) y n k 0 = 0 := by
      intro n
      induction n with
      | zero => intro j y hj hn; exact absurd hn (by omega)
      | succ n ih =>
        intro j y hj hn
        rw [ge_X4_shortOnes_5]
        by_cases c : 12 ≤ j
        · rw [if_pos (le12 c hj)]
        · rw [if_neg (ge12 (by omega)), crossM h hp (by omega), if_neg (show ¬ crs (S 0) p j from fun q => hh q.1), if_pos rfl, Int32.add_zero]
          exact ih (j + 1) y (by omega) (by omega)
    exact G 13 0 _ (by omega) (by omega)
theorem all_g (a : Nat → Nat) (z : Int32) (h0 : ∀ k, k < 12 → (if z = 0 then f_X4_crossings T (nI k) else f_X4_shortOnes T (nI k) (f_X4_of T 1 (nI k) 1)) = nI (a k)) : ∀ (n k v : Nat), k ≤ 12 → 12 < k + n → g_X4_all_4 T z n k (nI v) = nI (v + (sm a 12 - sm a k)) := by
  intro n
  induction n with
  | zero => intro j v hj hn; exact absurd hn (by omega)
  | succ n ih =>
    intro j v hj hn
    rw [ge_X4_all_4]
    by_cases c : 12 ≤ j
    · rw [if_pos (le12 c hj), show j = 12 by omega, Nat.sub_self, Nat.add_zero]
    · have hs : sm a (j + 1) = sm a j + a j := rfl
      have hl := sm_le a (show j + 1 ≤ 12 by omega)
      have e := h0 j (by omega)
      rw [if_neg (ge12 (by omega))]
      by_cases hz : z = 0
      · rw [if_pos hz] at e ⊢
        rw [e, nI_add, ih (j + 1) _ (by omega) (by omega)]
        congr 1; omega
      · rw [if_neg hz] at e ⊢
        rw [e, nI_add, ih (j + 1) _ (by omega) (by omega)]
        congr 1; omega
theorem half {n : Nat} (h : n < 1000) : nI (2 * n) / 2 = nI n := by
  rw [show (2 : Int32) = nI 2 from rfl, pk_div (by omega) (by omega) (by omega), Nat.mul_div_cancel_left _ (by omega)]
theorem all_eq (h : CR N (S 0) (T 1)) : f_X0_allCrossings S = f_X4_all T 0 := by
  have e := all_g (T := T) (fun k => sm (aC (S 0) k) 12) 0 (fun k hk => by rw [if_pos rfl]; exact oneC h hk) 13 0 0 (by omega) (by omega)
  have t := sm_twice (aC (S 0)) (aC_sy _) (aC_dz _) 12
  have b : sm (fun k => sm (aC (S 0) k) 12 - sm (aC (S 0) k) (k + 1)) 12 ≤ 12 * 12 := sm_bound _ 12 (fun k => by have := sm_bound (aC (S 0) k) 1 (aC_le _ k) 12; omega) 12
  rw [e_X0_allCrossings, e_X4_all, show g_X4_all_4 T 0 13 0 0 = _ from e, show g_X0_allCrossings_4 S 13 0 0 = _ from outerC h 13 0 0 (by omega) (by omega)]
  show nI (0 + (_ - 0)) = nI (0 + (sm (fun k => sm (aC (S 0) k) 12) 12 - 0)) / 2
  rw [Nat.zero_add, Nat.zero_add, Nat.sub_zero, Nat.sub_zero, t, half (by omega)]
theorem allShort_eq (h : CR N (S 0) (T 1)) : f_X0_allShortOnes S = f_X4_all T 1 := by
  have e := all_g (T := T) (fun k => sm (aS (S 0) k) 12) 1 (fun k hk => by rw [if_neg one_ne]; exact oneS h hk) 13 0 0 (by omega) (by omega)
  have t := sm_twice (aS (S 0)) (aS_sy _) (aS_dz _) 12
  have b : sm (fun k => sm (aS (S 0) k) 12 - sm (aS (S 0) k) (k + 1)) 12 ≤ 12 * 12 := sm_bound _ 12 (fun k => by have := sm_bound (aS (S 0) k) 1 (aS_le _ k) 12; omega) 12
  rw [e_X0_allShortOnes, e_X4_all, show g_X4_all_4 T 1 13 0 0 = _ from e, show g_X0_allShortOnes_4 S 13 0 0 = _ from outerS h 13 0 0 (by omega) (by omega)]
  show nI (0 + (_ - 0)) = nI (0 + (sm (fun k => sm (aS (S 0) k) 12) 12 - 0)) / 2
  rw [Nat.zero_add, Nat.zero_add, Nat.sub_zero, Nat.sub_zero, t, half (by omega)]
/-! the calls that tell -/
theorem nohas (h : CR N (S 0) (T 1)) {p : Int32} (hp : f_X0_hasWire S p = 0) : f_X4_hasWire T p = 0 := (has_eq h p).symm.trans hp
theorem q_wire (h : CR N (S 0) (T 1)) (a b : Int32) : f_X3_wire S a b = f_X4_wire T a b := by
  rw [e_X3_wire, e_X4_wire]
  by_cases hp : f_X0_hasWire S a = 0
  · rw [if_pos hp, if_pos (nohas h hp)]
  · obtain ⟨k, hk, rfl, hh⟩ := has_k h hp
    obtain ⟨l, g, t, hl, g1, g2, ht, w1, w2, w3, w4, w5, w6, w7⟩ := wire_of (h.w k hk) hh
    rw [if_neg hp, if_neg (fun q => hp ((has_eq h _).trans q)), heightX_nat hk, strengthX_nat hk, crossings_eq h hk, least_eq h hk hh, show f_X4_of T 1 (nI k) 1 = _ from of_nat T 1 k 1 hk (by omega), show f_X4_of T 1 (nI k) 3 = _ from of_nat T 1 k 3 hk (by omega), w3, w4, w5, w7, short_eq h hk g2, show f_X0_leadAtPad S (nI k) = S 0 2 k by rw [e_X0_leadAtPad, pad_nat hk, if_neg one_ne, nI_cl (by omega)], show f_X0_numberOf S (nI k) = S 0 5 k by rw [e_X0_numberOf, pad_nat hk, if_neg one_ne, nI_cl (by omega)], w1]
    by_cases c0 : b = 0
    · rw [if_pos c0, if_pos c0, c0, show f_X4_of T 1 (nI k) 0 = _ from of_nat T 1 k 0 hk (by omega)]; exact w2.symm
    rw [if_neg c0, if_neg c0]
    by_cases c1 : b = 1
    · rw [if_pos c1, if_pos c1, c1, show f_X4_of T 1 (nI k) 1 = _ from of_nat T 1 k 1 hk (by omega)]; exact w4.symm
    rw [if_neg c1, if_neg c1]
    by_cases c2 : b = 2
    · rw [if_pos c2, if_pos c2, c2, show f_X4_of T 1 (nI k) 2 = _ from of_nat T 1 k 2 hk (by omega)]; exact w6.symm
    rw [if_neg c2, if_neg c2]
theorem q_heightAt (h : CR N (S 0) (T 1)) (a b : Int32) : f_X3_heightAt S a b = f_X4_heightAt T a b := by
  rw [e_X3_heightAt, e_X4_heightAt, in_eq]
  by_cases hp : f_X0_hasWire S a = 0
  · rw [if_pos hp, if_pos (nohas h hp)]
  · obtain ⟨k, hk, rfl, hh⟩ := has_k h hp
    obtain ⟨e1, e2, -⟩ := Hx_of h hk hh
    rw [if_neg hp, if_neg (fun q => hp ((has_eq h _).trans q)), heightX_nat hk, show f_X4_of T 1 (nI k) 1 = _ from of_nat T 1 k 1 hk (by omega), e1, e2, e_X3_loopAt, e_X4_heightOf]
theorem q_crossing (h : CR N (S 0) (T 1)) (a b z : Int32) : f_X3_crossing S a b z = f_X4_crossing T a b z := by
  rw [e_X3_crossing, e_X4_crossing, in_eq]
  by_cases hp : f_X0_hasWire S a = 0
  · rw [if_pos hp, if_pos (nohas h hp)]
  · obtain ⟨k, hk, rfl, hh⟩ := has_k h hp
    rw [if_neg hp, if_neg (fun q => hp ((has_eq h _).trans q))]
    by_cases hq : f_X0_hasWire S b = 0
    · rw [if_pos hq, if_pos (nohas h hq)]
    · obtain ⟨j, hj, rfl, hh2⟩ := has_k h hq
      obtain ⟨w, w1, w2, v1, v2⟩ := h.width
      obtain ⟨e1, e2, -, hb⟩ := Hx_of h hk hh
      rw [if_neg hq, if_neg (fun q => hq ((has_eq h _).trans q)), crossX h hk hj, crossYM h hk hj hh hh2, heightX_nat hk, e_X0_isShort, crossX h hk hj, show f_X4_of T 1 (nI k) 1 = _ from of_nat T 1 k 1 hk (by omega), e1, e2, v1, v2]
      by_cases hz : f_X4_in z 0 2 = 0
      · rw [if_pos hz, if_pos hz]
      · rw [if_neg hz, if_neg hz]
        by_cases hc : crs (S 0) k j
        · rw [if_pos hc, if_neg one_ne, if_pos hc, if_neg (nat_ne5 (by have := cy_le (S 0) k j; omega)), crossYX h hk hj hc, gapX h hk hj hb hc, gapM h hk hj hb hc, if_neg one_ne]
          by_cases hd : nI w ≤ nI (gp (S 0) k (Hx (S 0) k) j)
          · rw [if_pos hd, if_pos rfl]
          · rw [if_neg hd, if_neg one_ne]
        · rw [if_neg hc, if_pos rfl, if_neg hc, if_pos rfl]
theorem q_lead (h : CR N (S 0) (T 1)) (a b : Int32) : f_X3_lead S a b = f_X4_lead T a b := by
  rw [e_X3_lead, e_X4_lead, ← lead_eq]
  by_cases hp : f_X3_isLead a = 0
  · rw [if_pos hp, if_pos hp]
  · obtain ⟨k, hk, rfl⟩ := lead_of hp
    obtain ⟨x, -, e1, e2⟩ := h.x k hk
    rw [if_neg hp, if_neg hp, xlead_nat hk, padOf_eq h hk, e1, show (0 : Int32) = nI 0 from rfl, nI_add, Nat.zero_add, nI_cl (by omega), e2]
theorem q_bestHeight (h : CR N (S 0) (T 1)) (a b : Int32) : f_X3_bestHeight S a b = f_X4_bestHeight T a b := by
  rw [e_X3_bestHeight, e_X4_bestHeight, in_eq]
  by_cases hp : f_X0_hasWire S a = 0
  · rw [if_pos hp, if_pos (nohas h hp)]
  · obtain ⟨k, hk, rfl, hh⟩ := has_k h hp
    obtain ⟨B1, g, hg, B2, B3⟩ := best_g h hk b 202 11 10 (by omega) (by omega) (by omega)
    have s10 : f_X0_shortOnes S (nI k) 10 = f_X4_shortOnes T (nI k) (nI 10) := short_eq h hk (g := 10) (by omega)
    rw [if_neg hp, if_neg (fun q => hp ((has_eq h _).trans q)), e_X0_clearestHeight, s10]
    rw [show g_X0_clearestHeight_14 S (nI k) 202 11 10 (f_X4_shortOnes T (nI k) (nI 10)) = nI g from B2] 
    rw [show (g_X4_bestHeight_38 T (nI k) b 202 11 10 (f_X4_shortOnes T (nI k) 10)).2 = _ from B3, show (g_X4_bestHeight_38 T (nI k) b 202 11 10 (f_X4_shortOnes T (nI k) 10)).1 = _ from B1.trans B2, short_eq h hk hg]
theorem q_laysLeft (h : CR N (S 0) (T 1)) (hN : N ≤ 900000) (a : Int32) : f_X3_laysLeft S a = f_X4_laysLeft T a := by
  rw [e_X3_laysLeft, e_X4_laysLeft, height_eq]
  by_cases hp : f_X4_isHeight a = 0
  · rw [if_pos hp, if_pos hp]
  · have hg : ∃ g : Nat, g ≤ 200 ∧ a = nI g := by
      rw [e_X4_isHeight, e_X4_in] at hp
      by_cases h0 : a < 10
      · exact absurd (if_pos h0) hp
      · rw [if_neg h0] at hp
        by_cases h1 : (200 : Int32) < a
        · exact absurd (if_pos h1) hp
        · have hn : ¬ a < 0 := fun q => h0 (Int32.lt_trans q (by decide))
          exact nI_of2 (M := 200) (n := 200) rfl hn (Int32.not_lt.mp h1)
    obtain ⟨g, hg, rfl⟩ := hg
    rw [if_neg hp, if_neg hp]
    exact laysLeft_eq h hN hg
theorem q_count (h : CR N (S 0) (T 1)) (h12 : S 7 0 1 = T 0 0) (h13 : S 7 0 2 = T 0 2) (a : Int32) : f_X3_count S a = f_X4_count T a := by
  obtain ⟨w, -, -, w1, w2⟩ := h.width
  obtain ⟨r, -, r1, r2⟩ := h.wear
  obtain ⟨d, -, d1, d2⟩ := h.laid
  have hl : (if S 0 0 4 = 0 then (0 : Int32) else 1) = T 1 66 := by
    rcases h.lost with ⟨a, b⟩ | ⟨a, b⟩
    · rw [a, b, if_pos rfl]
    · rw [a, b, if_neg one_ne]
  rw [e_X3_count, e_X4_count, wires_eq h, all_eq h, allShort_eq h, weak_eq h, str_eq h, hl, h.losses, h.broke, h.tools, w1, w2, r1, r2, d1, d2, e_X1_states, e_X2_length, h12, h13]
end ALL
