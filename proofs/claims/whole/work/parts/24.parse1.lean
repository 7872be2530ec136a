/-! PURE: how both sides read the text -/
theorem upd_upd (f : Nat → Int32) (k : Nat) (x y : Int32) : upd (upd f k x) k y = upd f k y := by
  funext j
  unfold upd
  by_cases h : j = k
  · rw [if_pos h, if_pos h]
  · rw [if_neg h, if_neg h, if_neg h]
theorem upd_self {f : Nat → Int32} {k : Nat} {x : Int32} (h : f k = x) : upd f k x = f := by
  funext j
  unfold upd
  by_cases e : j = k
  · rw [if_pos e, e, h]
  · rw [if_neg e]
theorem su_su (S : XS) (i c : Nat) (f g : Nat → Int32) : su (su S i c f) i c g = su S i c g := by
  funext i' c'
  unfold su
  by_cases h : i' = i ∧ c' = c
  · rw [if_pos h, if_pos h]
  · rw [if_neg h, if_neg h, if_neg h]
theorem su_self {S : XS} {i c : Nat} {f : Nat → Int32} (h : S i c = f) : su S i c f = S := by
  funext i' c'
  unfold su
  by_cases e : i' = i ∧ c' = c
  · rw [if_pos e, e.1, e.2, h]
  · rw [if_neg e]
theorem tu_tu (T : MS) (j : Nat) (f g : Nat → Int32) : tu (tu T j f) j g = tu T j g := by
  funext j'
  unfold tu
  by_cases h : j' = j
  · rw [if_pos h, if_pos h]
  · rw [if_neg h, if_neg h, if_neg h]
theorem tu_self {T : MS} {j : Nat} {f : Nat → Int32} (h : T j = f) : tu T j f = T := by
  funext j'
  unfold tu
  by_cases e : j' = j
  · rw [if_pos e, e, h]
  · rw [if_neg e]
/-- the reader's place becomes q -/
def sa (S : XS) (q : Nat) : XS := su S 7 0 (upd (S 7 0) 3 (nI q))
theorem sa_self {S : XS} {q : Nat} (h : S 7 0 3 = nI q) : sa S q = S := su_self (upd_self h).symm
theorem sa_sa (S : XS) (q q' : Nat) : sa (sa S q) q' = sa S q' := by
  show su (su S 7 0 (upd (S 7 0) 3 (nI q))) 7 0 (upd (upd (S 7 0) 3 (nI q)) 3 (nI q')) = _
  rw [su_su, upd_upd]; rfl
def stq (T : MS) (q : Nat) : MS := tu T 0 (upd (T 0) 3 (nI q))
theorem stq_self {T : MS} {q : Nat} (h : T 0 3 = nI q) : stq T q = T := tu_self (upd_self h).symm
theorem stq_stq (T : MS) (q q' : Nat) : stq (stq T q) q' = stq T q' := by
  show tu (tu T 0 (upd (T 0) 3 (nI q))) 0 (upd (upd (T 0) 3 (nI q)) 3 (nI q')) = _
  rw [tu_tu, upd_upd]; rfl
abbrev isd (c : Nat → Int32) (L q : Nat) : Prop := q < L ∧ (48 : Int32) ≤ c q ∧ c q ≤ 57
def dv (c : Nat → Int32) (q : Nat) : Nat := (c q).toInt.toNat - 48
theorem dv_spec {x : Int32} (h1 : (48 : Int32) ≤ x) (h2 : x ≤ 57) : x = nI (48 + (x.toInt.toNat - 48)) ∧ x.toInt.toNat - 48 ≤ 9 := by
  have a := Int32.le_iff_toInt_le.mp h1
  have b := Int32.le_iff_toInt_le.mp h2
  rw [show (48 : Int32) = nI 48 from rfl, nI_toInt (by omega)] at a
  rw [show (57 : Int32) = nI 57 from rfl, nI_toInt (by omega)] at b
  refine ⟨Int32.toInt_inj.mp ?_, by omega⟩
  rw [nI_toInt (by omega)]
  omega
theorem isd_spec {c : Nat → Int32} {L q : Nat} (h : isd c L q) : c q = nI (48 + dv c q) ∧ dv c q ≤ 9 := dv_spec h.2.1 h.2.2
theorem isd_sub {c : Nat → Int32} {L q : Nat} (h : isd c L q) : c q - 48 = nI (dv c q) := by
  rw [(isd_spec h).1, show (48 : Int32) = nI 48 from rfl, pk_sub (by omega), Nat.add_sub_cancel_left]
theorem nI_ne_m1 {n : Nat} (h : n < 1000000) : ¬ nI n = (-1) := by
  intro e
  have e1 := congrArg Int32.toInt e
  rw [nI_toInt (by omega)] at e1
  have e2 : ((-1) : Int32).toInt = -1 := by decide
  omega
theorem nI_ne_0 {n : Nat} (h : n < 1000000) : nI n = 0 ↔ n = 0 := (nI_eq (b := 0) (by omega) (by omega))
theorem within_d (x : Int32) : (f_X3_isWithin (x - 48) 0 9 = 0) ↔ ¬ ((48 : Int32) ≤ x ∧ x ≤ 57) := by
  rw [e_X3_isWithin]
  constructor
  · intro h ⟨h1, h2⟩
    obtain ⟨e, hd⟩ := dv_spec h1 h2
    have e2 : x - 48 = nI (x.toInt.toNat - 48) := by
      conv => lhs; rw [e]
      rw [show (48 : Int32) = nI 48 from rfl, pk_sub (by omega), Nat.add_sub_cancel_left]
    rw [e2, if_neg (nI_pos (by omega)), if_neg (show ¬ (9 : Int32) < nI _ from nI_nlt (a := 9) (by omega) (by omega))] at h
    exact absurd h (by decide)
  · intro h
    by_cases h0 : x - 48 < 0
    · rw [if_pos h0]
    · rw [if_neg h0]
      by_cases h1 : (9 : Int32) < x - 48
      · rw [if_pos h1]
      · exfalso
        apply h
        obtain ⟨j, hj, e⟩ := nI_of2 (M := 9) (n := 9) rfl h0 (Int32.not_lt.mp h1)
        have e2 : x = nI (j + 48) := by
          have : x = (x - 48) + 48 := by simp
          rw [this, e]; exact nI_add j 48
        rw [e2]
        exact ⟨nI_le (a := 48) (by omega) (by omega), nI_le (b := 57) (by omega) (by omega)⟩
/-! the class -/
theorem at_eq {S : XS} {L q : Nat} (hL : S 7 0 2 = nI L) (h8 : L ≤ 80) (hq : S 7 0 3 = nI q) (hqL : q ≤ L) : f_X2_isAtCharacter S = if q < L then 1 else 0 := by
  rw [e_X2_isAtCharacter, hq, hL, if_neg (nI_pos (by omega))]
  by_cases h : q < L
  · rw [if_pos h, if_neg (nI_ge h (by omega)), if_neg (show ¬ (80 : Int32) ≤ nI q from nI_ge (b := 80) (by omega) (by omega))]
  · rw [if_neg h, if_pos (nI_le (by omega) (by omega))]
theorem digit_eq {S : XS} {L q : Nat} (hL : S 7 0 2 = nI L) (h8 : L ≤ 80) (hq : S 7 0 3 = nI q) (hqL : q ≤ L) : f_X2_digitHere S = if isd (S 7 1) L q then nI (dv (S 7 1) q) else (-1) := by
  rw [e_X2_digitHere, at_eq hL h8 hq hqL, hq, nI_cl (by omega)]
  by_cases h : q < L
  · rw [if_pos h, if_neg (show ¬ (1 : Int32) = 0 by decide)]
    by_cases hd : isd (S 7 1) L q
    · rw [if_pos hd, if_neg (fun e => (within_d _).mp e hd.2), isd_sub hd]
    · rw [if_neg hd, if_pos ((within_d _).mpr (fun e => hd ⟨h, e⟩))]
  · rw [if_neg h, if_pos rfl, if_neg (fun e => h e.1)]
theorem passBy_eq {S : XS} {L q : Nat} (hL : S 7 0 2 = nI L) (h8 : L ≤ 80) (hq : S 7 0 3 = nI q) (hqL : q ≤ L) (x : Int32) : f_X2_passBy S x = if q < L ∧ S 7 1 q = x then (1, sa S (q + 1)) else (0, S) := by
  rw [e_X2_passBy, at_eq hL h8 hq hqL, hq, nI_cl (by omega), nI_1]
  by_cases h : q < L
  · rw [if_pos h, if_neg (show ¬ (1 : Int32) = 0 by decide)]
    by_cases hx : S 7 1 q = x
    · rw [if_pos hx, if_pos ⟨h, hx⟩]; rfl
    · rw [if_neg hx, if_neg (fun e => hx e.2)]
  · rw [if_neg h, if_pos rfl, if_neg (fun e => h e.1)]
def more (c : Nat → Int32) (L q v M : Nat) : Nat × Nat := if isd c L q ∧ 10 * v + dv c q ≤ M then (10 * v + dv c q, q + 1) else (v, q)
theorem ten_add (v d : Nat) : (10 * nI v) + nI d = nI (10 * v + d) := by
  rw [show (10 : Int32) = nI 10 from rfl, pk_mul, nI_add]
theorem withDigit_eq {S : XS} {L q : Nat} (hL : S 7 0 2 = nI L) (h8 : L ≤ 80) (hq : S 7 0 3 = nI q) (hqL : q ≤ L) {v M : Nat} (hv : v ≤ 1000) (hM : M ≤ 1000) : f_X2_withDigit S (nI v) (nI M) = (nI (more (S 7 1) L q v M).1, sa S (more (S 7 1) L q v M).2) := by
  rw [e_X2_withDigit, digit_eq hL h8 hq hqL]
  unfold more
  by_cases hd : isd (S 7 1) L q
  · have h9 := (isd_spec hd).2
    rw [if_pos hd, if_neg (nI_ne_m1 (by omega)), ten_add, hq, nI_1]
    by_cases h : 10 * v + dv (S 7 1) q ≤ M
    · rw [if_pos (nI_le h (by omega)), if_pos ⟨hd, h⟩]; rfl
    · rw [if_neg (nI_ge (by omega) (by omega)), if_neg (fun e => h e.2), sa_self hq]
  · rw [if_neg hd, if_pos rfl, if_neg (fun e => hd e.1), sa_self hq]
def num (c : Nat → Int32) (L q M : Nat) : Option (Nat × Nat) := if isd c L q then (if dv c q = 0 then some (0, q + 1) else some (more c L (q + 1) (dv c q) M)) else none
def hgt (c : Nat → Int32) (L q : Nat) : Option Nat × Nat := if isd c L q ∧ dv c q ≠ 0 then (if isd c L (q + 1) then (some (more c L (q + 2) (10 * dv c q + dv c (q + 1)) 200).1, (more c L (q + 2) (10 * dv c q + dv c (q + 1)) 200).2) else (none, q + 1)) else (none, q)
abbrev opt1 (r : Option Nat) : Int32 := match r with
  | none => (-1)
  | some v => nI v
theorem readNumber_eq {S : XS} {L q : Nat} (hL : S 7 0 2 = nI L) (h8 : L ≤ 80) (hq : S 7 0 3 = nI q) (hqL : q ≤ L) {M : Nat} (hM : M ≤ 1000) : f_X2_readNumber S (nI M) = match num (S 7 1) L q M with
    | none => ((-1), S)
    | some r => (nI r.1, sa S r.2) := by
  rw [e_X2_readNumber, digit_eq hL h8 hq hqL]
  unfold num
  by_cases hd : isd (S 7 1) L q
  · have h9 := (isd_spec hd).2
    simp only [if_pos hd]
    rw [if_neg (nI_ne_m1 (by omega))]
    by_cases h0 : dv (S 7 1) q = 0
    · simp only [if_pos h0]
      rw [if_pos ((nI_ne_0 (by omega)).mpr h0), hq, nI_1]; rfl
    · simp only [if_neg h0]
      rw [if_neg (fun e => h0 ((nI_ne_0 (by omega)).mp e)), hq, nI_1]
      have hw := withDigit_eq (S := sa S (q + 1)) (L := L) (q := q + 1) hL h8 rfl hd.1 (v := dv (S 7 1) q) (M := M) (by omega) hM
      rw [sa_sa] at hw
      rw [e_X2_readNumber_k1]
      exact hw
  · simp only [if_neg hd]
    rw [if_pos trivial]
theorem hgt_0 {c : Nat → Int32} {L q : Nat} (h : ¬ (isd c L q ∧ dv c q ≠ 0)) : hgt c L q = (none, q) := by unfold hgt; rw [if_neg h]
theorem hgt_1 {c : Nat → Int32} {L q : Nat} (h : isd c L q ∧ dv c q ≠ 0) (h2 : ¬ isd c L (q + 1)) : hgt c L q = (none, q + 1) := by unfold hgt; rw [if_pos h, if_neg h2]
theorem hgt_2 {c : Nat → Int32} {L q : Nat} (h : isd c L q ∧ dv c q ≠ 0) (h2 : isd c L (q + 1)) : hgt c L q = (some (more c L (q + 2) (10 * dv c q + dv c (q + 1)) 200).1, (more c L (q + 2) (10 * dv c q + dv c (q + 1)) 200).2) := by unfold hgt; rw [if_pos h, if_pos h2]
theorem readHeight_eq {S : XS} {L q : Nat} (hL : S 7 0 2 = nI L) (h8 : L ≤ 80) (hq : S 7 0 3 = nI q) (hqL : q ≤ L) : f_X2_readHeight S = (opt1 (hgt (S 7 1) L q).1, sa S (hgt (S 7 1) L q).2) := by
  rw [e_X2_readHeight, digit_eq hL h8 hq hqL]
  by_cases hd : isd (S 7 1) L q
  · have h9 := (isd_spec hd).2
    rw [if_pos hd, if_neg (nI_ne_m1 (by omega)), hq, nI_1]
    by_cases h0 : dv (S 7 1) q = 0
    · rw [if_pos ((nI_ne_0 (by omega)).mpr h0), hgt_0 (fun e => e.2 h0), sa_self hq]
    · rw [if_neg (show ¬ nI (dv (S 7 1) q) = 0 from fun e => h0 ((nI_ne_0 (by omega)).mp e))]
      have hg := digit_eq (S := sa S (q + 1)) (L := L) (q := q + 1) hL h8 rfl hd.1
      rw [show su S 7 0 (upd (S 7 0) 3 (nI (q + 1))) = sa S (q + 1) from rfl, hg]
      by_cases hd2 : isd (S 7 1) L (q + 1)
      · have h92 := (isd_spec hd2).2
        rw [hgt_2 ⟨hd, h0⟩ hd2, if_pos (show isd (sa S (q + 1) 7 1) L (q + 1) from hd2), if_neg (nI_ne_m1 (show dv (sa S (q + 1) 7 1) (q + 1) < 1000000 from Nat.lt_of_le_of_lt h92 (by omega)))]
        have hw := withDigit_eq (S := sa S (q + 2)) (L := L) (q := q + 2) hL h8 rfl hd2.1 (v := 10 * dv (S 7 1) q + dv (S 7 1) (q + 1)) (M := 200) (by omega) (by omega)
        rw [sa_sa] at hw
        rw [e_X2_readHeight_k1]
        have hs : su (sa S (q + 1)) 7 0 (upd (upd (S 7 0) 3 (nI (q + 1))) 3 (nI (q + 1) + 1)) = sa S (q + 2) := by rw [nI_1]; exact sa_sa S (q + 1) (q + 2)
        rw [hs, show dv (sa S (q + 1) 7 1) (q + 1) = dv (S 7 1) (q + 1) from rfl, ten_add]
        exact hw
      · rw [hgt_1 ⟨hd, h0⟩ hd2, if_neg (show ¬ isd (sa S (q + 1) 7 1) L (q + 1) from hd2), if_pos rfl]
  · rw [if_neg hd, if_pos rfl, hgt_0 (fun e => hd e.1), sa_self hq]
