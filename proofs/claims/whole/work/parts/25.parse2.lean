/-! PURE: a whole wire of the text, in the class -/
def wireP (c : Nat → Int32) (L q : Nat) : Option (Nat × Nat × Nat) × Nat := match num c L q 11 with
  | none => (none, q)
  | some (p, q1) => if q1 < L ∧ c q1 = 45 then (match num c L (q1 + 1) 15 with
    | none => (none, q1 + 1)
    | some (l, q2) => if q2 < L ∧ c q2 = 58 then (match hgt c L (q2 + 1) with
      | (none, q3) => (none, q3)
      | (some h, q3) => (some (p, l, h), q3)) else (some (p, l, 60), q2)) else (none, q1)
theorem more_le {c : Nat → Int32} {L q v M : Nat} (h : q ≤ L) : q ≤ (more c L q v M).2 ∧ (more c L q v M).2 ≤ L := by
  unfold more
  split
  · next e => exact ⟨by show q ≤ q + 1; omega, e.1.1⟩
  · exact ⟨Nat.le_refl _, h⟩
theorem more_v {c : Nat → Int32} {L q v M : Nat} (h : v ≤ M) : v ≤ (more c L q v M).1 ∧ (more c L q v M).1 ≤ M := by
  unfold more
  split
  · next e => exact ⟨by show v ≤ 10 * v + _; omega, e.2⟩
  · exact ⟨Nat.le_refl _, h⟩
theorem num_spec {c : Nat → Int32} {L q M : Nat} (hM : 9 ≤ M) {v q' : Nat} (h : num c L q M = some (v, q')) : v ≤ M ∧ q + 1 ≤ q' ∧ q' ≤ L := by
  unfold num at h
  by_cases hd : isd c L q
  · rw [if_pos hd] at h
    by_cases h0 : dv c q = 0
    · rw [if_pos h0] at h
      cases h
      exact ⟨Nat.zero_le _, Nat.le_refl _, hd.1⟩
    · rw [if_neg h0] at h
      have a := more_le (c := c) (L := L) (q := q + 1) (v := dv c q) (M := M) hd.1
      have b := more_v (c := c) (L := L) (q := q + 1) (v := dv c q) (M := M) (Nat.le_trans (isd_spec hd).2 hM)
      rw [Option.some.inj h] at a b
      exact ⟨b.2, a.1, a.2⟩
  · rw [if_neg hd] at h
    cases h
theorem hgt_spec {c : Nat → Int32} {L q : Nat} {v q' : Nat} (h : hgt c L q = (some v, q')) : 10 ≤ v ∧ v ≤ 200 ∧ q + 2 ≤ q' ∧ q' ≤ L := by
  by_cases hd : isd c L q ∧ dv c q ≠ 0
  · by_cases hd2 : isd c L (q + 1)
    · rw [hgt_2 hd hd2] at h
      have h9 := (isd_spec hd.1).2
      have h92 := (isd_spec hd2).2
      have h0 := hd.2
      have a := more_le (c := c) (L := L) (q := q + 2) (v := 10 * dv c q + dv c (q + 1)) (M := 200) hd2.1
      have b := more_v (c := c) (L := L) (q := q + 2) (v := 10 * dv c q + dv c (q + 1)) (M := 200) (by omega)
      cases h
      exact ⟨Nat.le_trans (by omega) b.1, b.2, a.1, a.2⟩
    · rw [hgt_1 hd hd2] at h; cases h
  · rw [hgt_0 hd] at h; cases h
theorem wireP_spec {c : Nat → Int32} {L q : Nat} {p l h q' : Nat} (e : wireP c L q = (some (p, l, h), q')) : p ≤ 11 ∧ l ≤ 15 ∧ 10 ≤ h ∧ h ≤ 200 ∧ q + 3 ≤ q' ∧ q' ≤ L := by
  unfold wireP at e
  cases h1 : num c L q 11 with
  | none => rw [h1] at e; cases e
  | some r =>
    obtain ⟨p1, q1⟩ := r
    have s1 := num_spec (by omega) h1
    rw [h1] at e
    dsimp only at e
    by_cases c1 : q1 < L ∧ c q1 = 45
    · rw [if_pos c1] at e
      cases h2 : num c L (q1 + 1) 15 with
      | none => rw [h2] at e; cases e
      | some r =>
        obtain ⟨l1, q2⟩ := r
        have s2 := num_spec (by omega) h2
        rw [h2] at e
        dsimp only at e
        by_cases c2 : q2 < L ∧ c q2 = 58
        · rw [if_pos c2] at e
          cases h3 : hgt c L (q2 + 1) with
          | mk o q3 =>
            rw [h3] at e
            cases o with
            | none => cases e
            | some hh =>
              have s3 := hgt_spec h3
              cases e
              exact ⟨s1.1, s2.1, s3.1, s3.2.1, by omega, s3.2.2.2⟩
        · rw [if_neg c2] at e
          cases e
          exact ⟨s1.1, s2.1, by omega, by omega, by omega, s2.2.2⟩
    · rw [if_neg c1] at e; cases e
theorem hgt_le {c : Nat → Int32} {L q : Nat} (h : q ≤ L) : (hgt c L q).2 ≤ L := by
  by_cases hd : isd c L q ∧ dv c q ≠ 0
  · by_cases hd2 : isd c L (q + 1)
    · rw [hgt_2 hd hd2]; exact (more_le hd2.1).2
    · rw [hgt_1 hd hd2]; exact hd.1.1
  · rw [hgt_0 hd]; exact h
theorem wireP_le {c : Nat → Int32} {L q : Nat} (hq : q ≤ L) : (wireP c L q).2 ≤ L := by
  unfold wireP
  cases h1 : num c L q 11 with
  | none => exact hq
  | some r =>
    obtain ⟨p1, q1⟩ := r
    have s1 := num_spec (by omega) h1
    dsimp only
    by_cases c1 : q1 < L ∧ c q1 = 45
    · rw [if_pos c1]
      cases h2 : num c L (q1 + 1) 15 with
      | none => exact c1.1
      | some r =>
        obtain ⟨l1, q2⟩ := r
        have s2 := num_spec (by omega) h2
        dsimp only
        by_cases c2 : q2 < L ∧ c q2 = 58
        · rw [if_pos c2]
          have s3 := hgt_le (c := c) (L := L) (q := q2 + 1) c2.1
          cases h3 : hgt c L (q2 + 1) with
          | mk o q3 =>
            rw [h3] at s3
            cases o with
            | none => exact s3
            | some hh => exact s3
        · rw [if_neg c2]; exact s2.2.2
    · rw [if_neg c1]; exact s1.2.2
/-- a wire is listed at t -/
def wr (S : XS) (t p l h : Nat) : XS := su (su (su (su S 7 2 (upd (S 7 2) t (nI p))) 7 3 (upd (S 7 3) t (nI l))) 7 4 (upd (S 7 4) t (nI h))) 7 0 (upd (S 7 0) 4 (nI (t + 1)))
theorem wr_of {S : XS} {t p l h : Nat} (ht : S 7 0 4 = nI t) (h20 : t < 20) {a b d : Int32} (ha : a = nI p) (hb : b = nI l) (hd : d = nI h) : (if (S 7 0 4) < 20 then ((1 : Int32), (su (su (su (su S 7 2 (upd (S 7 2) (S 7 0 4).toNatClampNeg a)) 7 3 (upd (S 7 3) (S 7 0 4).toNatClampNeg b)) 7 4 (upd (S 7 4) (S 7 0 4).toNatClampNeg d)) 7 0 (upd (S 7 0) 4 ((S 7 0 4) + 1)))) else (0, S)) = (1, wr S t p l h) := by
  rw [ht, if_pos (show nI t < 20 from nI_lt (b := 20) h20 (by omega)), nI_cl (by omega), nI_1, ha, hb, hd]; rfl
theorem readWire_eq {S : XS} {L q t : Nat} (hL : S 7 0 2 = nI L) (h8 : L ≤ 80) (hq : S 7 0 3 = nI q) (hqL : q ≤ L) (ht : S 7 0 4 = nI t) (h20 : t < 20) : f_X2_readWire S = match wireP (S 7 1) L q with
    | (none, q') => (0, sa S q')
    | (some (p, l, h), q') => (1, wr (sa S q') t p l h) := by
  unfold wireP
  rw [e_X2_readWire, show (11 : Int32) = nI 11 from rfl, readNumber_eq hL h8 hq hqL (by omega), e_X2_readWire_k1]
  cases h1 : num (S 7 1) L q 11 with
  | none => dsimp only; rw [if_pos rfl, sa_self hq]
  | some r =>
    obtain ⟨p, q1⟩ := r
    obtain ⟨s1, -, s1L⟩ := num_spec (by omega) h1
    dsimp only
    rw [if_neg (nI_ne_m1 (by omega)), passBy_eq (S := sa S q1) (L := L) (q := q1) hL h8 rfl s1L 45, e_X2_readWire_k2]
    by_cases c1 : q1 < L ∧ S 7 1 q1 = 45
    · rw [if_pos c1, if_pos (show q1 < L ∧ sa S q1 7 1 q1 = 45 from c1), sa_sa]
      dsimp only
      rw [if_neg (show ¬ (1 : Int32) = 0 by decide), show (15 : Int32) = nI 15 from rfl, readNumber_eq (S := sa S (q1 + 1)) (L := L) (q := q1 + 1) hL h8 rfl c1.1 (by omega), e_X2_readWire_k3, show sa S (q1 + 1) 7 1 = S 7 1 from rfl]
      cases h2 : num (S 7 1) L (q1 + 1) 15 with
      | none => dsimp only; rw [if_pos rfl]
      | some r =>
        obtain ⟨l, q2⟩ := r
        obtain ⟨s2, -, s2L⟩ := num_spec (by omega) h2
        dsimp only
        rw [if_neg (nI_ne_m1 (by omega)), sa_sa, passBy_eq (S := sa S q2) (L := L) (q := q2) hL h8 rfl s2L 58, e_X2_readWire_k4]
        by_cases c2 : q2 < L ∧ S 7 1 q2 = 58
        · rw [if_pos c2, if_pos (show q2 < L ∧ sa S q2 7 1 q2 = 58 from c2), sa_sa]
          dsimp only
          rw [if_neg (show ¬ (1 : Int32) = 0 by decide), readHeight_eq (S := sa S (q2 + 1)) (L := L) (q := q2 + 1) hL h8 rfl c2.1, e_X2_readWire_k5, show sa S (q2 + 1) 7 1 = S 7 1 from rfl]
          cases h3 : hgt (S 7 1) L (q2 + 1) with
          | mk o q3 =>
            cases o with
            | none => dsimp only [opt1]; rw [if_pos rfl, sa_sa]
            | some h =>
              have s3 := hgt_spec h3
              dsimp only [opt1]
              rw [if_neg (nI_ne_m1 (by omega)), sa_sa]
              exact wr_of (S := sa S q3) ht h20 rfl rfl rfl
        · rw [if_neg c2, if_neg (show ¬ (q2 < L ∧ sa S q2 7 1 q2 = 58) from c2)]
          dsimp only
          rw [if_pos rfl]
          exact wr_of (S := sa S q2) ht h20 rfl rfl rfl
    · rw [if_neg c1, if_neg (show ¬ (q1 < L ∧ sa S q1 7 1 q1 = 45) from c1)]
      dsimp only
      rw [if_pos rfl]
/-! the model -/
theorem sees_d {T : MS} {L q : Nat} (hL : T 0 2 = nI L) (h8 : L ≤ 80) (hq : T 0 3 = nI q) (hqL : q ≤ L) : f_X4_sees T 48 57 = if isd (T 5) L q then 1 else 0 := by
  rw [e_X4_sees, hL, hq, nI_cl (by omega), e_X4_in]
  by_cases h : q < L
  · rw [if_neg (show ¬ nI L ≤ nI q from nI_ge h (by omega))]
    by_cases h1 : T 5 q < 48
    · rw [if_pos h1, if_pos rfl, if_neg (fun e => Int32.not_lt.mpr e.2.1 h1)]
    · rw [if_neg h1]
      by_cases h2 : (57 : Int32) < T 5 q
      · rw [if_pos h2, if_pos rfl, if_neg (fun e => Int32.not_lt.mpr e.2.2 h2)]
      · rw [if_neg h2, if_neg (show ¬ (1 : Int32) = 0 by decide), if_pos ⟨h, Int32.not_lt.mp h1, Int32.not_lt.mp h2⟩]
  · rw [if_pos (show nI L ≤ nI q from nI_le (by omega) (by omega)), if_neg (fun e => h e.1)]
theorem sees_d1 {T : MS} {L q : Nat} (hL : T 0 2 = nI L) (h8 : L ≤ 80) (hq : T 0 3 = nI q) (hqL : q ≤ L) : f_X4_sees T 49 57 = if isd (T 5) L q ∧ dv (T 5) q ≠ 0 then 1 else 0 := by
  have hx : isd (T 5) L q → (T 5 q < 49 ↔ dv (T 5) q = 0) := by
    intro hd
    obtain ⟨a, b⟩ := isd_spec hd
    constructor
    · intro e
      rw [a] at e
      rcases Nat.eq_zero_or_pos (dv (T 5) q) with h | h
      · exact h
      · exact absurd e (nI_nlt (b := 49) (by omega) (by omega))
    · intro e
      rw [a, e]; decide
  have h48 : ¬ T 5 q < 49 → (48 : Int32) ≤ T 5 q := by
    intro h
    have a := Int32.le_iff_toInt_le.mp (Int32.not_lt.mp h)
    apply Int32.le_iff_toInt_le.mpr
    rw [show (49 : Int32) = nI 49 from rfl, nI_toInt (by omega)] at a
    rw [show (48 : Int32) = nI 48 from rfl, nI_toInt (by omega)]
    omega
  rw [e_X4_sees, hL, hq, nI_cl (by omega), e_X4_in]
  by_cases h : q < L
  · rw [if_neg (show ¬ nI L ≤ nI q from nI_ge h (by omega))]
    by_cases h1 : T 5 q < 49
    · rw [if_pos h1, if_pos rfl, if_neg (fun e => e.2 ((hx e.1).mp h1))]
    · rw [if_neg h1]
      by_cases h2 : (57 : Int32) < T 5 q
      · rw [if_pos h2, if_pos rfl, if_neg (fun e => Int32.not_lt.mpr e.1.2.2 h2)]
      · have hd : isd (T 5) L q := ⟨h, h48 h1, Int32.not_lt.mp h2⟩
        rw [if_neg h2, if_neg (show ¬ (1 : Int32) = 0 by decide), if_pos ⟨hd, fun e => h1 ((hx hd).mpr e)⟩]
  · rw [if_pos (show nI L ≤ nI q from nI_le (by omega) (by omega)), if_neg (fun e => h e.1.1)]
theorem takes_eq {T : MS} {L q : Nat} (hL : T 0 2 = nI L) (h8 : L ≤ 80) (hq : T 0 3 = nI q) (hqL : q ≤ L) (x : Int32) : f_X4_takes T x = if q < L ∧ T 5 q = x then (1, stq T (q + 1)) else (0, T) := by
  have hs : f_X4_sees T x x = if q < L ∧ T 5 q = x then 1 else 0 := by
    rw [e_X4_sees, hL, hq, nI_cl (by omega), e_X4_in]
    by_cases h : q < L
    · rw [if_neg (show ¬ nI L ≤ nI q from nI_ge h (by omega))]
      by_cases h1 : T 5 q < x
      · rw [if_pos h1, if_pos rfl, if_neg (fun e => by rw [e.2] at h1; exact Int32.lt_irrefl h1)]
      · rw [if_neg h1]
        by_cases h2 : x < T 5 q
        · rw [if_pos h2, if_pos rfl, if_neg (fun e => by rw [e.2] at h2; exact Int32.lt_irrefl h2)]
        · rw [if_neg h2, if_neg (show ¬ (1 : Int32) = 0 by decide), if_pos ⟨h, Int32.le_antisymm (Int32.not_lt.mp h2) (Int32.not_lt.mp h1)⟩]
    · rw [if_pos (show nI L ≤ nI q from nI_le (by omega) (by omega)), if_neg (fun e => h e.1)]
  rw [e_X4_takes, hs]
  by_cases h : q < L ∧ T 5 q = x
  · rw [if_pos h, if_neg (show ¬ (1 : Int32) = 0 by decide), if_pos h, hq, nI_1]; rfl
  · rw [if_neg h, if_pos rfl, if_neg h]
    have : T 0 3 + 0 = nI q := by rw [hq]; exact nI_add q 0
    rw [this]
    exact congrArg (fun z => ((0 : Int32), z)) (stq_self hq)
theorem ten_c {c : Int32} {v d : Nat} (h : c = nI (48 + d)) : ((10 * nI v) + c) - 48 = nI (10 * v + d) := by
  rw [h, ten_add, show 10 * v + (48 + d) = 48 + (10 * v + d) by omega, show (48 : Int32) = nI 48 from rfl, pk_sub (by omega), Nat.add_sub_cancel_left]
theorem lp_stop {T : MS} {L q v M : Nat} (x lo : Int32) (n : Nat) (hL : T 0 2 = nI L) (h8 : L ≤ 80) (hq : T 0 3 = nI q) (hqL : q ≤ L) (hv : v ≤ 1000) (hM : M ≤ 1000) (h : v = 0 ∨ ¬ (isd (T 5) L q ∧ 10 * v + dv (T 5) q ≤ M)) : g_X4_isNumber_46 x lo (nI M) (n + 1) (nI v) T = (nI v, T) := by
  rw [ge_X4_isNumber_46, sees_d hL h8 hq hqL]
  by_cases h0 : v = 0
  · rw [if_pos (by rw [h0]; decide)]
  · rw [if_neg (nI_nle (Nat.pos_of_ne_zero h0) (by omega))]
    by_cases hd : isd (T 5) L q
    · obtain ⟨a, b⟩ := isd_spec hd
      rw [if_pos hd, if_neg (show ¬ (1 : Int32) = 0 by decide), hq, nI_cl (by omega), ten_c a]
      rcases h with h | h
      · exact absurd h h0
      · rw [if_pos (nI_lt (Nat.not_le.mp (fun e => h ⟨hd, e⟩)) (by omega))]
    · rw [if_neg hd, if_pos rfl]
theorem lp_go {T : MS} {L q v M : Nat} (x lo : Int32) (n : Nat) (hL : T 0 2 = nI L) (h8 : L ≤ 80) (hq : T 0 3 = nI q) (hqL : q ≤ L) (hv : v ≤ 1000) (hM : M ≤ 1000) (h0 : v ≠ 0) (hd : isd (T 5) L q) (h : 10 * v + dv (T 5) q ≤ M) : g_X4_isNumber_46 x lo (nI M) (n + 1) (nI v) T = g_X4_isNumber_46 x lo (nI M) n (nI (10 * v + dv (T 5) q)) (stq T (q + 1)) := by
  obtain ⟨a, b⟩ := isd_spec hd
  rw [ge_X4_isNumber_46, sees_d hL h8 hq hqL, if_neg (nI_nle (Nat.pos_of_ne_zero h0) (by omega)), if_pos hd, if_neg (show ¬ (1 : Int32) = 0 by decide), hq, nI_cl (by omega), ten_c a, if_neg (nI_nlt h (by omega)), nI_1]
  rfl
theorem lp_more {T : MS} {L q v M : Nat} (x lo : Int32) (n : Nat) (hL : T 0 2 = nI L) (h8 : L ≤ 80) (hq : T 0 3 = nI q) (hqL : q ≤ L) (hv : v ≤ M) (hM : M ≤ 200) (h0 : v ≠ 0) (h100 : M < 100 * v) : g_X4_isNumber_46 x lo (nI M) (n + 2) (nI v) T = (nI (more (T 5) L q v M).1, stq T (more (T 5) L q v M).2) := by
  unfold more
  by_cases h : isd (T 5) L q ∧ 10 * v + dv (T 5) q ≤ M
  · rw [if_pos h, lp_go x lo (n + 1) hL h8 hq hqL (by omega) (by omega) h0 h.1 h.2]
    exact lp_stop (T := stq T (q + 1)) (L := L) (q := q + 1) x lo n hL h8 rfl h.1.1 (by omega) (by omega) (Or.inr (fun e => by have := e.2; omega))
  · rw [if_neg h, lp_stop x lo (n + 1) hL h8 hq hqL (by omega) (by omega) (Or.inr h), stq_self hq]
theorem dv_sub {c : Nat → Int32} {L q : Nat} (h : isd c L q) : c q - 48 = nI (dv c q) := isd_sub h
theorem tpl (t x : Nat) : (3 * nI t) + nI x = nI (3 * t + x) := by
  rw [show (3 : Int32) = nI 3 from rfl, pk_mul, nI_add]
/-- told at t's place x becomes v, the reader at q -/
def tw (T : MS) (q k v : Nat) : MS := tu (stq T q) 6 (upd (T 6) k (nI v))
theorem isNum_eq {T : MS} {L q t : Nat} (hL : T 0 2 = nI L) (h8 : L ≤ 80) (hq : T 0 3 = nI q) (hqL : q ≤ L) (ht : T 0 4 = nI t) (ht2 : t ≤ 20) {x M : Nat} (hx : x < 3) (hM : 9 ≤ M) (hM2 : M < 100) : f_X4_isNumber T (nI x) 0 (nI M) = match num (T 5) L q M with
    | none => (0, T)
    | some (v, q') => (1, tw T q' (3 * t + x) v) := by
  rw [e_X4_isNumber, if_pos (show (0 : Int32) ≤ 0 by decide), sees_d hL h8 hq hqL]
  unfold num
  by_cases hd : isd (T 5) L q
  · have h9 := (isd_spec hd).2
    simp only [if_pos hd]
    rw [if_neg (show ¬ (1 : Int32) = 0 by decide), hq, nI_cl (by omega), isd_sub hd, nI_1]
    have hg : g_X4_isNumber_46 (nI x) 0 (nI M) 81 (nI (dv (T 5) q)) (tu T 0 (upd (T 0) 3 (nI (q + 1)))) = (nI (if dv (T 5) q = 0 then (0, q + 1) else more (T 5) L (q + 1) (dv (T 5) q) M).1, stq T (if dv (T 5) q = 0 then (0, q + 1) else more (T 5) L (q + 1) (dv (T 5) q) M).2) := by
      by_cases h0 : dv (T 5) q = 0
      · rw [if_pos h0, h0]
        exact lp_stop (T := stq T (q + 1)) (L := L) (q := q + 1) (v := 0) _ _ 80 hL h8 rfl hd.1 (by omega) (by omega) (Or.inl rfl)
      · rw [if_neg h0]
        have := lp_more (T := stq T (q + 1)) (L := L) (q := q + 1) (v := dv (T 5) q) (M := M) (nI x) 0 79 hL h8 rfl hd.1 (by omega) (by omega) h0 (by omega)
        rw [stq_stq] at this
        exact this
    have hv : (if dv (T 5) q = 0 then (0, q + 1) else more (T 5) L (q + 1) (dv (T 5) q) M).1 < 1000000 := by
      by_cases h0 : dv (T 5) q = 0
      · rw [if_pos h0]; show (0 : Nat) < 1000000; omega
      · rw [if_neg h0]
        have := (more_v (c := T 5) (L := L) (q := q + 1) (v := dv (T 5) q) (M := M) (by omega)).2
        omega
    have hs : (if dv (T 5) q = 0 then some (0, q + 1) else some (more (T 5) L (q + 1) (dv (T 5) q) M)) = some (if dv (T 5) q = 0 then (0, q + 1) else more (T 5) L (q + 1) (dv (T 5) q) M) := by
      by_cases h0 : dv (T 5) q = 0
      · rw [if_pos h0, if_pos h0]
      · rw [if_neg h0, if_neg h0]
    rw [hg, hs]
    generalize (if dv (T 5) q = 0 then (0, q + 1) else more (T 5) L (q + 1) (dv (T 5) q) M) = w at hv ⊢
    obtain ⟨v, q'⟩ := w
    dsimp only at hv ⊢
    rw [if_neg (nI_pos (by omega)), show stq T q' 0 4 = nI t from ht, tpl, nI_cl (by omega)]
    rfl
  · simp only [if_neg hd]
    rw [if_pos trivial]
theorem isHgt_eq {T : MS} {L q t : Nat} (hL : T 0 2 = nI L) (h8 : L ≤ 80) (hq : T 0 3 = nI q) (hqL : q ≤ L) (ht : T 0 4 = nI t) (ht2 : t ≤ 20) : ∃ f : Nat → Int32, (∀ k, k ≠ 3 * t + 2 → f k = T 6 k) ∧ f_X4_isNumber T 2 10 200 = match hgt (T 5) L q with
    | (none, q') => (0, tu (stq T q') 6 f)
    | (some v, q') => (1, tw T q' (3 * t + 2) v) := by
  rw [e_X4_isNumber, if_neg (show ¬ (10 : Int32) ≤ 0 by decide), sees_d1 hL h8 hq hqL]
  by_cases hd : isd (T 5) L q ∧ dv (T 5) q ≠ 0
  · have h9 := (isd_spec hd.1).2
    have h0 := hd.2
    rw [if_pos hd, if_neg (show ¬ (1 : Int32) = 0 by decide), hq, nI_cl (by omega), isd_sub hd.1, nI_1]
    by_cases hd2 : isd (T 5) L (q + 1)
    · have h92 := (isd_spec hd2).2
      refine ⟨T 6, fun _ _ => rfl, ?_⟩
      rw [hgt_2 hd hd2]
      have hg : g_X4_isNumber_46 2 10 200 81 (nI (dv (T 5) q)) (tu T 0 (upd (T 0) 3 (nI (q + 1)))) = (nI (more (T 5) L (q + 2) (10 * dv (T 5) q + dv (T 5) (q + 1)) 200).1, stq T (more (T 5) L (q + 2) (10 * dv (T 5) q + dv (T 5) (q + 1)) 200).2) := by
        refine (lp_go (T := stq T (q + 1)) (L := L) (q := q + 1) (v := dv (T 5) q) (M := 200) 2 10 80 hL h8 rfl hd.1.1 (by omega) (by omega) hd.2 hd2 (show 10 * dv (T 5) q + dv (T 5) (q + 1) ≤ 200 by omega)).trans ?_
        rw [stq_stq]
        have := lp_more (T := stq T (q + 1 + 1)) (L := L) (q := q + 1 + 1) (v := 10 * dv (T 5) q + dv (T 5) (q + 1)) (M := 200) 2 10 78 hL h8 rfl hd2.1 (by omega) (by omega) (by omega) (by omega)
        rw [stq_stq] at this
        exact this
      have hm := more_v (c := T 5) (L := L) (q := q + 2) (v := 10 * dv (T 5) q + dv (T 5) (q + 1)) (M := 200) (by omega)
      rw [hg]
      dsimp only
      rw [if_neg (show ¬ nI _ < (10 : Int32) from nI_nlt (b := 10) (Nat.le_trans (by omega) hm.1) (by omega)), show stq T _ 0 4 = nI t from ht, show (2 : Int32) = nI 2 from rfl, tpl, nI_cl (by omega)]
      rfl
    · rw [hgt_1 hd hd2]
      refine ⟨upd (T 6) (3 * t + 2) (nI (dv (T 5) q)), fun k hk => pk_un hk, ?_⟩
      have hg : g_X4_isNumber_46 2 10 200 81 (nI (dv (T 5) q)) (tu T 0 (upd (T 0) 3 (nI (q + 1)))) = (nI (dv (T 5) q), stq T (q + 1)) :=
        lp_stop (T := stq T (q + 1)) (L := L) (q := q + 1) (v := dv (T 5) q) (M := 200) 2 10 80 hL h8 rfl hd.1.1 (by omega) (by omega) (Or.inr (fun e => hd2 e.1))
      rw [hg]
      dsimp only
      rw [if_pos (show nI _ < (10 : Int32) from nI_lt (b := 10) (by omega) (by omega)), show stq T _ 0 4 = nI t from ht, show (2 : Int32) = nI 2 from rfl, tpl, nI_cl (by omega)]
      rfl
  · refine ⟨T 6, fun _ _ => rfl, ?_⟩
    rw [if_neg hd, if_pos rfl, hgt_0 hd]
    dsimp only
    rw [stq_self hq, tu_self rfl]
/-- the state after a wire was read: the reader's place and what was told change alone -/
def tq (T : MS) (q : Nat) (f : Nat → Int32) : MS := tu (stq T q) 6 f
theorem tq_tq (T : MS) (q q' : Nat) (f f' : Nat → Int32) : tq (tq T q f) q' f' = tq T q' f' := by
  funext j
  show tu (tu (tu (tu T 0 (upd (T 0) 3 (nI q))) 6 f) 0 (upd (upd (T 0) 3 (nI q)) 3 (nI q'))) 6 f' j = tu (tu T 0 (upd (T 0) 3 (nI q'))) 6 f' j
  unfold tu
  by_cases h6 : j = 6
  · rw [if_pos h6, if_pos h6]
  · rw [if_neg h6, if_neg h6]
    by_cases h0 : j = 0
    · rw [if_pos h0, if_pos h0, if_neg h6, upd_upd]
    · rw [if_neg h0, if_neg h6, if_neg h0, if_neg h0]
theorem tq_self {T : MS} {q : Nat} (h : T 0 3 = nI q) : tq T q (T 6) = T := by
  unfold tq
  rw [stq_self h, tu_self rfl]
theorem isWire_eq {T : MS} {L q t : Nat} (hL : T 0 2 = nI L) (h8 : L ≤ 80) (hq : T 0 3 = nI q) (hqL : q ≤ L) (ht : T 0 4 = nI t) (ht2 : t ≤ 20) : ∃ f : Nat → Int32, (∀ k, k < 3 * t → f k = T 6 k) ∧ (∀ p l h q', wireP (T 5) L q = (some (p, l, h), q') → f (3 * t) = nI p ∧ f (3 * t + 1) = nI l ∧ f (3 * t + 2) = nI h) ∧ f_X4_isWire T = (match wireP (T 5) L q with
    | (none, _) => 0
    | (some _, _) => 1, tq T (wireP (T 5) L q).2 f) := by
  have h1 := isNum_eq (x := 0) (M := 11) hL h8 hq hqL ht ht2 (by omega) (by omega) (by omega)
  rw [e_X4_isWire, show f_X4_isNumber T 0 0 11 = _ from h1, e_X4_isWire_k1]
  unfold wireP
  cases c1 : num (T 5) L q 11 with
  | none =>
    dsimp only
    rw [if_pos rfl, e_X4_isWire_k2, ht, show (2 : Int32) = nI 2 from rfl, tpl, nI_cl (by omega)]
    refine ⟨upd (T 6) (3 * t + 2) 60, fun k hk => pk_un (by omega), fun p l h q' e => (by cases e), ?_⟩
    show (0, tu T 6 _) = (0, tu (stq T q) 6 _)
    rw [stq_self hq]
  | some r =>
    obtain ⟨p, q1⟩ := r
    obtain ⟨s1, -, s1L⟩ := num_spec (by omega) c1
    dsimp only
    rw [if_neg (show ¬ (1 : Int32) = 0 by decide), takes_eq (T := tw T q1 (3 * t + 0) p) (L := L) (q := q1) hL h8 rfl s1L 45, e_X4_isWire_k3]
    by_cases d1 : q1 < L ∧ T 5 q1 = 45
    · rw [if_pos d1, if_pos (show q1 < L ∧ tw T q1 (3 * t + 0) p 5 q1 = 45 from d1)]
      have hw1 : stq (tw T q1 (3 * t + 0) p) (q1 + 1) = tq T (q1 + 1) (upd (T 6) (3 * t) (nI p)) := (by
        have := tq_tq T q1 (q1 + 1) (upd (T 6) (3 * t) (nI p)) (upd (T 6) (3 * t) (nI p))
        rw [← this]
        show _ = tu (stq (tq T q1 (upd (T 6) (3 * t) (nI p))) (q1 + 1)) 6 (upd (T 6) (3 * t) (nI p))
        rw [tu_self]
        · rfl
        · rfl)
      dsimp only
      rw [if_neg (show ¬ (1 : Int32) = 0 by decide), hw1]
      have h2 := isNum_eq (T := tq T (q1 + 1) (upd (T 6) (3 * t) (nI p))) (L := L) (q := q1 + 1) (t := t) (x := 1) (M := 15) hL h8 rfl d1.1 ht ht2 (by omega) (by omega) (by omega)
      rw [show f_X4_isNumber (tq T (q1 + 1) (upd (T 6) (3 * t) (nI p))) 1 0 15 = _ from h2, e_X4_isWire_k5, show tq T (q1 + 1) (upd (T 6) (3 * t) (nI p)) 5 = T 5 from rfl]
      cases c2 : num (T 5) L (q1 + 1) 15 with
      | none =>
        dsimp only
        rw [if_pos rfl, e_X4_isWire_k6, show tq T (q1 + 1) (upd (T 6) (3 * t) (nI p)) 0 4 = nI t from ht, show (2 : Int32) = nI 2 from rfl, tpl, nI_cl (by omega)]
        refine ⟨upd (upd (T 6) (3 * t) (nI p)) (3 * t + 2) 60, fun k hk => (pk_un (by omega)).trans (pk_un (by omega)), fun p l h q' e => (by cases e), ?_⟩
        show (0, tu (tu (stq T (q1 + 1)) 6 _) 6 _) = _
        rw [tu_tu]; rfl
      | some r =>
        obtain ⟨l, q2⟩ := r
        obtain ⟨s2, -, s2L⟩ := num_spec (by omega) c2
        dsimp only
        have hw2 : tw (tq T (q1 + 1) (upd (T 6) (3 * t) (nI p))) q2 (3 * t + 1) l = tq T q2 (upd (upd (T 6) (3 * t) (nI p)) (3 * t + 1) (nI l)) := tq_tq T (q1 + 1) q2 _ _
        rw [if_neg (show ¬ (1 : Int32) = 0 by decide), hw2, e_X4_isWire_k7, show tq T q2 (upd (upd (T 6) (3 * t) (nI p)) (3 * t + 1) (nI l)) 0 4 = nI t from ht, show (2 : Int32) = nI 2 from rfl, tpl, nI_cl (by omega)]
        have hw3 : tu (tq T q2 (upd (upd (T 6) (3 * t) (nI p)) (3 * t + 1) (nI l))) 6 (upd (tq T q2 (upd (upd (T 6) (3 * t) (nI p)) (3 * t + 1) (nI l)) 6) (3 * t + 2) 60) = tq T q2 (upd (upd (upd (T 6) (3 * t) (nI p)) (3 * t + 1) (nI l)) (3 * t + 2) 60) := tu_tu _ _ _ _
        rw [hw3]
        generalize hF : upd (upd (upd (T 6) (3 * t) (nI p)) (3 * t + 1) (nI l)) (3 * t + 2) 60 = F
        have hFk : ∀ k, k < 3 * t → F k = T 6 k := fun k hk => by rw [← hF]; exact (pk_un (by omega)).trans ((pk_un (by omega)).trans (pk_un (by omega)))
        have hF0 : F (3 * t) = nI p := by rw [← hF]; exact (pk_un (by omega)).trans ((pk_un (by omega)).trans pk_us)
        have hF1 : F (3 * t + 1) = nI l := by rw [← hF]; exact (pk_un (by omega)).trans pk_us
        have hF2 : F (3 * t + 2) = nI 60 := by rw [← hF]; exact pk_us
        rw [takes_eq (T := tq T q2 F) (L := L) (q := q2) hL h8 rfl s2L 58, e_X4_isWire_k8]
        by_cases d2 : q2 < L ∧ T 5 q2 = 58
        · rw [if_pos d2, if_pos (show q2 < L ∧ tq T q2 F 5 q2 = 58 from d2)]
          have hw4 : stq (tq T q2 F) (q2 + 1) = tq T (q2 + 1) F := (by
            rw [← tq_tq T q2 (q2 + 1) F F]
            show _ = tu (stq (tq T q2 F) (q2 + 1)) 6 F
            rw [tu_self]; rfl)
          dsimp only
          rw [if_neg (show ¬ (1 : Int32) = 0 by decide), hw4]
          obtain ⟨f, hf, h3⟩ := isHgt_eq (T := tq T (q2 + 1) F) (L := L) (q := q2 + 1) (t := t) hL h8 rfl d2.1 ht ht2
          rw [h3, show tq T (q2 + 1) F 5 = T 5 from rfl, e_X4_isWire_k9]
          cases c3 : hgt (T 5) L (q2 + 1) with
          | mk o q3 =>
            cases o with
            | none =>
              dsimp only
              rw [if_pos rfl]
              exact ⟨f, fun k hk => (hf k (by omega)).trans (hFk k hk), fun p l h q' e => (by cases e), congrArg (fun z => ((0 : Int32), z)) (tq_tq T (q2 + 1) q3 F f)⟩
            | some h =>
              dsimp only
              rw [if_neg (show ¬ (1 : Int32) = 0 by decide)]
              refine ⟨upd F (3 * t + 2) (nI h), fun k hk => (pk_un (by omega)).trans (hFk k hk), fun p' l' h' q' e => ?_, congrArg (fun z => ((1 : Int32), z)) (tq_tq T (q2 + 1) q3 F _)⟩
              cases e
              exact ⟨(pk_un (by omega)).trans hF0, (pk_un (by omega)).trans hF1, pk_us⟩
        · rw [if_neg d2, if_neg (show ¬ (q2 < L ∧ tq T q2 F 5 q2 = 58) from d2)]
          dsimp only
          rw [if_pos rfl]
          refine ⟨F, hFk, fun p' l' h' q' e => ?_, rfl⟩
          cases e
          exact ⟨hF0, hF1, hF2⟩
    · rw [if_neg d1, if_neg (show ¬ (q1 < L ∧ tw T q1 (3 * t + 0) p 5 q1 = 45) from d1)]
      dsimp only
      rw [if_pos rfl, e_X4_isWire_k4, show tw T q1 (3 * t + 0) p 0 4 = nI t from ht, show (2 : Int32) = nI 2 from rfl, tpl, nI_cl (by omega)]
      refine ⟨upd (upd (T 6) (3 * t) (nI p)) (3 * t + 2) 60, fun k hk => (pk_un (by omega)).trans (pk_un (by omega)), fun p l h q' e => (by cases e), ?_⟩
      show (0, tu (tu (stq T q1) 6 _) 6 _) = _
      rw [tu_tu]; rfl
