/-! HISTORY, side by side -/
/-- history, snapshot and text -/
def RH (N : Nat) (S : XS) (T : MS) : Prop :=
  ((S 7 0 0 = 0 ∧ T 0 1 = 0) ∨ (S 7 0 0 = 1 ∧ T 0 1 = 1 ∧ CR N (S 2) (T 4))) ∧
  (∃ q : Nat, q ≤ 4 ∧ S 7 0 1 = nI q ∧ T 0 0 = nI q ∧ ∀ k, k < q → CR N (S (3 + (k + rot S) % 4)) (fun j => T 3 (71 * k + j))) ∧
  (∃ L : Nat, L ≤ 80 ∧ S 7 0 2 = nI L ∧ T 0 2 = nI L) ∧ S 7 1 = T 5 ∧ (∀ b, 1 ≤ b → b < 7 → S b 0 4 = 0 ∨ S b 0 4 = 1)
def RS (N : Nat) (S : XS) (T : MS) : Prop := CR N (S 0) (T 1) ∧ RH N S T
theorem RH.mono {N M : Nat} {S : XS} {T : MS} (h : RH N S T) (hM : N ≤ M) : RH M S T := by
  obtain ⟨h1, ⟨q, a, b, c, d⟩, h3, h4, h5⟩ := h
  refine ⟨?_, ⟨q, a, b, c, fun k hk => (d k hk).mono hM⟩, h3, h4, h5⟩
  rcases h1 with e | ⟨e1, e2, e3⟩
  · exact Or.inl e
  · exact Or.inr ⟨e1, e2, e3.mono hM⟩
theorem CR.bit {N : Nat} {c : Nat → Nat → Int32} {f : Nat → Int32} (h : CR N c f) : c 0 4 = 0 ∨ c 0 4 = 1 := by
  rcases h.lost with a | a
  · exact Or.inl a.1
  · exact Or.inr a.1
theorem RS.bits {N : Nat} {S : XS} {T : MS} (h : RS N S T) : ∀ b, b < 7 → S b 0 4 = 0 ∨ S b 0 4 = 1 := fun b hb => by
  rcases Nat.eq_zero_or_pos b with e | e
  · rw [e]; exact h.1.bit
  · exact h.2.2.2.2.2 b e hb
/-- what the history's part looks at -/
theorem RH.cong {N : Nat} {S S' : XS} {T T' : MS} (h : RH N S T) (hi : ∀ i, 2 ≤ i → i < 7 → S' i = S i) (h70 : S' 7 0 0 = S 7 0 0) (h71 : S' 7 0 1 = S 7 0 1) (h72 : S' 7 0 2 = S 7 0 2) (h1 : S' 7 1 = S 7 1) (h8 : rot S' = rot S) (t00 : T' 0 0 = T 0 0) (t01 : T' 0 1 = T 0 1) (t02 : T' 0 2 = T 0 2) (t3 : T' 3 = T 3) (t4 : T' 4 = T 4) (t5 : T' 5 = T 5) (hb : S' 1 0 4 = 0 ∨ S' 1 0 4 = 1) : RH N S' T' := by
  obtain ⟨a, ⟨q, q4, b1, b2, b3⟩, ⟨L, L8, c1, c2⟩, d, e⟩ := h
  refine ⟨?_, ⟨q, q4, h71.trans b1, t00.trans b2, fun k hk => ?_⟩, ⟨L, L8, h72.trans c1, t02.trans c2⟩, h1.trans (d.trans t5.symm), fun b hb1 hb7 => ?_⟩
  · rw [h70, t01, hi 2 (by omega) (by omega), t4]; exact a
  · rw [h8, hi _ (by omega) (by have := Nat.mod_lt (k + rot S) (show 0 < 4 by omega); omega), t3]; exact b3 k hk
  · by_cases e1 : b = 1
    · rw [e1]; exact hb
    · rw [hi b (by omega) hb7]; exact e b hb1 hb7
theorem tu_s (T : MS) (j : Nat) (f : Nat → Int32) : tu T j f j = f := if_pos rfl
theorem tu_n (T : MS) (j : Nat) (f : Nat → Int32) {j' : Nat} (h : j' ≠ j) : tu T j f j' = T j' := if_neg h
theorem su_s (S : XS) (i c : Nat) (f : Nat → Int32) : su S i c f i c = f := if_pos ⟨rfl, rfl⟩
theorem lays_eq {T : MS} {i j a b : Nat} (hij : i ≠ j) (ha : a < 1000) (hb : b < 1000) : f_X4_lays T i j (nI a) (nI b) = tu T j (fun x => if b ≤ x ∧ x < b + 71 then T i (a + (x - b)) else T j x) := by
  have G : ∀ (n k : Nat), k ≤ 71 → 71 < k + n → g_X4_lays_3 i j (nI a) (nI b) n k (tu T j (fun x => if b ≤ x ∧ x < b + k then T i (a + (x - b)) else T j x)) = tu T j (fun x => if b ≤ x ∧ x < b + 71 then T i (a + (x - b)) else T j x) := by
    intro n
    induction n with
    | zero => intro k hk hn; exact absurd hn (by omega)
    | succ n ih =>
      intro k hk hn
      rw [ge_X4_lays_3]
      by_cases c : 71 ≤ k
      · rw [if_pos (show (71 : Int32) ≤ nI k from nI_le (a := 71) c (by omega)), show k = 71 by omega]
      · rw [if_neg (show ¬ (71 : Int32) ≤ nI k from nI_ge (b := 71) (by omega) (by omega)), nI_add, nI_add, nI_cl (by omega), nI_cl (by omega), tu_tu, tu_s, tu_n _ _ _ hij]
        have e : upd (fun x => if b ≤ x ∧ x < b + k then T i (a + (x - b)) else T j x) (b + k) (T i (a + k)) = (fun x => if b ≤ x ∧ x < b + (k + 1) then T i (a + (x - b)) else T j x) := by
          funext x
          unfold upd
          by_cases e : x = b + k
          · rw [if_pos e, if_pos (show b ≤ x ∧ x < b + (k + 1) by omega), show a + (x - b) = a + k by omega]
          · rw [if_neg e]
            exact ite_iff (show (b ≤ x ∧ x < b + k) ↔ (b ≤ x ∧ x < b + (k + 1)) by omega) _ _
        rw [e]
        exact ih (k + 1) (by omega) (by omega)
  rw [e_X4_lays]
  have h0 := G 72 0 (by omega) (by omega)
  have e0 : tu T j (fun x => if b ≤ x ∧ x < b + 0 then T i (a + (x - b)) else T j x) = T := tu_self (by
    funext x
    rw [if_neg (show ¬ (b ≤ x ∧ x < b + 0) by omega)])
  rw [e0] at h0
  exact h0
theorem lays0 {T : MS} {i j : Nat} (hij : i ≠ j) : f_X4_lays T i j 0 0 = tu T j (fun x => if x < 71 then T i x else T j x) := by
  have h := lays_eq (T := T) (a := 0) (b := 0) hij (by omega) (by omega)
  have e : (fun x => if 0 ≤ x ∧ x < 0 + 71 then T i (0 + (x - 0)) else T j x) = (fun x => if x < 71 then T i x else T j x) := by
    funext x
    by_cases hx : x < 71
    · rw [if_pos (show 0 ≤ x ∧ x < 0 + 71 by omega), if_pos hx, show 0 + (x - 0) = x by omega]
    · rw [if_neg (show ¬ (0 ≤ x ∧ x < 0 + 71) by omega), if_neg hx]
  rw [e] at h
  exact h
/-- what records() leaves -/
theorem rec_eq {T : MS} {q : Nat} (hq : T 0 0 = nI q) (h4 : q < 4) : f_X4_records T = tu (tu T 3 (fun x => if 71 * q ≤ x ∧ x < 71 * q + 71 then T 1 (0 + (x - 71 * q)) else T 3 x)) 0 (upd (T 0) 0 (nI (q + 1))) := by
  have e4 : ¬ T 0 0 = 4 := by
    rw [hq]
    exact fun e => by have := (nI_eq (b := 4) (by omega) (by omega)).mp e; omega
  rw [e_X4_records, if_neg e4, hq, show (71 : Int32) * nI q = nI (71 * q) from pk_mul 71 q, show f_X4_lays T 1 3 0 (nI (71 * q)) = _ from lays_eq (a := 0) (by decide) (by omega) (by omega), tu_n _ _ _ (show (0 : Nat) ≠ 3 by decide), hq, nI_1]
theorem shift_eq (T : MS) : g_X4_records_10 214 0 T = tu T 3 (fun x => if x < 213 then T 3 (x + 71) else T 3 x) := by
  have G : ∀ (n k : Nat), k ≤ 213 → 213 < k + n → g_X4_records_10 n k (tu T 3 (fun x => if x < k then T 3 (x + 71) else T 3 x)) = tu T 3 (fun x => if x < 213 then T 3 (x + 71) else T 3 x) := by
    intro n
    induction n with
    | zero => intro k hk hn; exact absurd hn (by omega)
    | succ n ih =>
      intro k hk hn
      rw [ge_X4_records_10]
      by_cases c : 213 ≤ k
      · rw [if_pos (show (213 : Int32) ≤ nI k from nI_le (a := 213) c (by omega)), show k = 213 by omega]
      · rw [if_neg (show ¬ (213 : Int32) ≤ nI k from nI_ge (b := 213) (by omega) (by omega)), tu_tu, tu_s]
        have e : upd (fun x => if x < k then T 3 (x + 71) else T 3 x) k (if k + 71 < k then T 3 (k + 71 + 71) else T 3 (k + 71)) = (fun x => if x < k + 1 then T 3 (x + 71) else T 3 x) := by
          funext x
          unfold upd
          by_cases e : x = k
          · rw [if_pos e, if_pos (show x < k + 1 by omega), if_neg (show ¬ k + 71 < k by omega), e]
          · rw [if_neg e]
            exact ite_iff (by omega) _ _
        rw [show (upd (fun x => if x < k then T 3 (x + 71) else T 3 x) k ((fun x => if x < k then T 3 (x + 71) else T 3 x) (k + 71))) = _ from e]
        exact ih (k + 1) (by omega) (by omega)
  have h0 := G 214 0 (by omega) (by omega)
  have e0 : tu T 3 (fun x => if x < 0 then T 3 (x + 71) else T 3 x) = T := tu_self (by
    funext x
    rw [if_neg (Nat.not_lt_zero x)])
  rw [e0] at h0
  exact h0
theorem rec_4 {T : MS} (hq : T 0 0 = 4) : ∃ P : Nat → Int32, f_X4_records T = tu (tu T 3 P) 0 (upd (upd (T 0) 0 3) 0 4) ∧ (∀ k j, k < 3 → j < 71 → P (71 * k + j) = T 3 (71 * (k + 1) + j)) ∧ (∀ j, j < 71 → P (71 * 3 + j) = T 1 j) := by
  refine ⟨fun x => if 213 ≤ x ∧ x < 213 + 71 then T 1 (0 + (x - 213)) else (if x < 213 then T 3 (x + 71) else T 3 x), ?_, fun k j hk hj => ?_, fun j hj => ?_⟩
  · rw [e_X4_records, if_pos hq, shift_eq]
    have e3 : (4 : Int32) - 1 = 3 := by decide
    have e213 : (71 : Int32) * 3 = nI 213 := by decide
    have e4 : (3 : Int32) + 1 = 4 := by decide
    generalize hU : tu (tu T 3 (fun x => if x < 213 then T 3 (x + 71) else T 3 x)) 0 (upd (tu T 3 (fun x => if x < 213 then T 3 (x + 71) else T 3 x) 0) 0 ((tu T 3 (fun x => if x < 213 then T 3 (x + 71) else T 3 x) 0 0) - 1)) = U
    have hU2 : U = tu (tu T 3 (fun x => if x < 213 then T 3 (x + 71) else T 3 x)) 0 (upd (T 0) 0 3) := by
      rw [← hU]
      show tu (tu T 3 _) 0 (upd (T 0) 0 (T 0 0 - 1)) = _
      rw [hq, e3]
    show tu (f_X4_lays U 1 3 0 (71 * (T 0 0 - 1))) 0 (upd (f_X4_lays U 1 3 0 (71 * (T 0 0 - 1)) 0) 0 (f_X4_lays U 1 3 0 (71 * (T 0 0 - 1)) 0 0 + 1)) = _
    rw [hq, e3, e213, show f_X4_lays U 1 3 0 (nI 213) = _ from lays_eq (a := 0) (b := 213) (by decide) (by omega) (by omega), tu_n _ _ _ (show (0 : Nat) ≠ 3 by decide), hU2]
    funext j
    by_cases h0 : j = 0
    · subst h0
      show upd (upd (T 0) 0 3) 0 (upd (T 0) 0 3 0 + 1) = upd (upd (T 0) 0 3) 0 4
      rw [pk_us, e4]
    · by_cases h3 : j = 3
      · subst h3; rfl
      · rw [tu_n _ _ _ h0, tu_n _ _ _ h3, tu_n _ _ _ h0, tu_n _ _ _ h3, tu_n _ _ _ h0, tu_n _ _ _ h3]
  · show (if 213 ≤ 71 * k + j ∧ 71 * k + j < 213 + 71 then T 1 (0 + (71 * k + j - 213)) else (if 71 * k + j < 213 then T 3 (71 * k + j + 71) else T 3 (71 * k + j))) = _
    rw [if_neg (by omega), if_pos (by omega), show 71 * k + j + 71 = 71 * (k + 1) + j by omega]
  · show (if 213 ≤ 71 * 3 + j ∧ 71 * 3 + j < 213 + 71 then T 1 (0 + (71 * 3 + j - 213)) else _) = _
    rw [if_pos (by omega), show 0 + (71 * 3 + j - 213) = j by omega]
theorem rec_o (T : MS) {q : Nat} (hq : T 0 0 = nI q) (h4 : q ≤ 4) : (∀ j, j ≠ 0 → j ≠ 3 → f_X4_records T j = T j) ∧ (∀ k, k ≠ 0 → f_X4_records T 0 k = T 0 k) := by
  by_cases h : q < 4
  · rw [rec_eq hq h]
    exact ⟨fun j h0 h3 => (if_neg h0).trans (if_neg h3), fun k hk => pk_un hk⟩
  · obtain ⟨P, e, -, -⟩ := rec_4 (T := T) (by rw [hq, show q = 4 by omega]; rfl)
    rw [e]
    exact ⟨fun j h0 h3 => (if_neg h0).trans (if_neg h3), fun k hk => (pk_un hk).trans (pk_un hk)⟩
theorem recS_7 (S : XS) (e k : Nat) (hk : k ≠ 1) : recS S e 7 0 k = S 7 0 k := by
  unfold recS
  split
  · exact (pk_un hk).trans (pk_un hk)
  · exact pk_un hk
theorem su_c (S : XS) (i c : Nat) (f : Nat → Int32) {c' : Nat} (h : c' ≠ c) : su S i c f i c' = S i c' := if_neg (fun q => h q.2)
theorem rot_8 {U V : XS} (h : U 8 = V 8) : rot U = rot V := by
  unfold rot
  rw [h]
theorem recS_71 (S : XS) (e : Nat) : recS S e 7 1 = S 7 1 := by
  unfold recS
  split
  · rw [su_ne _ _ _ _ (show (7 : Nat) ≠ 8 by decide), su_c _ _ _ _ (show (1 : Nat) ≠ 0 by decide), sc_ne _ _ _ (show 7 ≠ 3 + (3 + (rot S + 1) % 4) % 4 by omega), su_c _ _ _ _ (show (1 : Nat) ≠ 0 by decide)]
  · rw [su_c _ _ _ _ (show (1 : Nat) ≠ 0 by decide), sc_ne _ _ _ (by have := Nat.mod_lt ((S 7 0 1).toNatClampNeg + rot S) (show 0 < 4 by omega); omega)]
/-- recording: history's part stays true -/
theorem rec_RH {N : Nat} {S : XS} {T : MS} (h : RH N S T) {e : Nat} (he : e < 3) (hc : CR N (S e) (T 1)) : RH N (recS S e) (f_X4_records T) := by
  obtain ⟨a, ⟨q, q4, b1, b2, b3⟩, ⟨L, L8, c1, c2⟩, d, bits⟩ := h
  obtain ⟨o1, o2⟩ := rec_o T b2 q4
  have h3 : recS S e 2 = S 2 := recS_lo S e 2 (by omega)
  have hbit : ∀ b, 1 ≤ b → b < 7 → (S b 0 4 = 0 ∨ S b 0 4 = 1) := bits
  have hebit := hc.bit
  refine ⟨?_, ?_, ⟨L, L8, (recS_7 S e 2 (by decide)).trans c1, (o2 2 (by decide)).trans c2⟩, (recS_71 S e).trans (d.trans (o1 5 (by decide) (by decide)).symm), ?_⟩
  · rw [recS_7 S e 0 (by decide), o2 1 (by decide), h3, o1 4 (by decide) (by decide)]; exact a
  · have hr := rot_lt S
    by_cases h : q < 4
    · have n4 : ¬ S 7 0 1 = 4 := by
        rw [b1]
        exact fun e => by have := (nI_eq (b := 4) (by omega) (by omega)).mp e; omega
      have er : recS S e = su (sc S (3 + (q + rot S) % 4) e) 7 0 (upd (S 7 0) 1 (nI (q + 1))) := by
        unfold recS
        rw [if_neg n4, b1, nI_cl (by omega), nI_1]
      have m4 := Nat.mod_lt (q + rot S) (show 0 < 4 by omega)
      have hrot : rot (recS S e) = rot S := by
        rw [er]
        exact rot_8 (by rw [su_ne _ _ _ _ (by decide), sc_ne _ _ _ (by omega)])
      refine ⟨q + 1, by omega, ?_, ?_, fun k hk => ?_⟩
      · rw [er, su_s]; exact pk_us
      · rw [rec_eq b2 h]; exact (show upd (T 0) 0 (nI (q + 1)) 0 = _ from pk_us)
      · rw [hrot, rec_eq b2 h, er]
        have mk4 := Nat.mod_lt (k + rot S) (show 0 < 4 by omega)
        rw [su_ne _ _ _ _ (show 3 + (k + rot S) % 4 ≠ 7 by omega)]
        by_cases ek : k = q
        · subst ek
          rw [show sc S (3 + (k + rot S) % 4) e (3 + (k + rot S) % 4) = S e from if_pos rfl]
          refine hc.row (fun j hj => ?_)
          show (if 71 * k ≤ 71 * k + j ∧ 71 * k + j < 71 * k + 71 then T 1 (0 + (71 * k + j - 71 * k)) else T 3 (71 * k + j)) = T 1 j
          rw [if_pos (by omega), show 0 + (71 * k + j - 71 * k) = j by omega]
        · rw [sc_ne _ _ _ (show 3 + (k + rot S) % 4 ≠ 3 + (q + rot S) % 4 by omega)]
          refine (b3 k (by omega)).row (fun j hj => ?_)
          show (if 71 * q ≤ 71 * k + j ∧ 71 * k + j < 71 * q + 71 then T 1 (0 + (71 * k + j - 71 * q)) else T 3 (71 * k + j)) = T 3 (71 * k + j)
          rw [if_neg (by omega)]
    · have q44 : q = 4 := by omega
      subst q44
      obtain ⟨P, eT, p1, p2⟩ := rec_4 (T := T) b2
      have er : recS S e = su (su (sc (su S 7 0 (upd (S 7 0) 1 3)) (3 + (3 + (rot S + 1) % 4) % 4) e) 7 0 (upd (upd (S 7 0) 1 3) 1 4)) 8 0 (upd (S 8 0) 0 (nI ((rot S + 1) % 4))) := by
        unfold recS
        rw [if_pos (show S 7 0 1 = 4 from b1)]
      have hrot : rot (recS S e) = (rot S + 1) % 4 := by
        rw [er]
        unfold rot
        rw [su_s, pk_us, nI_cl (by have := Nat.mod_lt ((S 8 0 0).toNatClampNeg % 4 + 1) (show 0 < 4 by omega); omega), Nat.mod_mod]
      generalize hr1 : (rot S + 1) % 4 = r1 at er hrot
      have r14 : r1 < 4 := by rw [← hr1]; exact Nat.mod_lt _ (by omega)
      refine ⟨4, by omega, ?_, ?_, fun k hk => ?_⟩
      · rw [er, su_ne _ _ _ _ (show (7 : Nat) ≠ 8 by decide), su_s]; exact (show upd _ 1 4 1 = nI 4 from pk_us)
      · rw [eT]; exact (show upd (upd (T 0) 0 3) 0 4 0 = nI 4 from pk_us)
      · rw [hrot, eT, er]
        have mk4 := Nat.mod_lt (k + r1) (show 0 < 4 by omega)
        rw [su_ne _ _ _ _ (show 3 + (k + r1) % 4 ≠ 8 by omega), su_ne _ _ _ _ (show 3 + (k + r1) % 4 ≠ 7 by omega)]
        by_cases ek : k = 3
        · subst ek
          rw [show ∀ U : XS, sc U (3 + (3 + r1) % 4) e (3 + (3 + r1) % 4) = U e from fun U => if_pos rfl, su_ne _ _ _ _ (show e ≠ 7 by omega)]
          exact hc.row (fun j hj => p2 j hj)
        · rw [sc_ne _ _ _ (show 3 + (k + r1) % 4 ≠ 3 + (3 + r1) % 4 by omega), su_ne _ _ _ _ (show 3 + (k + r1) % 4 ≠ 7 by omega), show (k + r1) % 4 = (k + 1 + rot S) % 4 by omega]
          exact (b3 (k + 1) (by omega)).row (fun j hj => p1 k j (by omega) hj)
  · intro b hb1 hb7
    have key : ∀ U : XS, (∀ i, 1 ≤ i → i < 7 → U i = S i) → ∀ x, (U e = S e) → (sc U x e b 0 4 = 0 ∨ sc U x e b 0 4 = 1) := fun U hU x hUe => by
      unfold sc
      by_cases hx : b = x
      · rw [if_pos hx, hUe]; exact hebit
      · rw [if_neg hx, hU b hb1 hb7]; exact hbit b hb1 hb7
    unfold recS
    split
    · rw [su_ne _ _ _ _ (show b ≠ 8 by omega), su_ne _ _ _ _ (show b ≠ 7 by omega)]
      exact key _ (fun i _ h7 => su_ne _ _ _ _ (by omega)) _ (su_ne _ _ _ _ (by omega))
    · rw [su_ne _ _ _ _ (show b ≠ 7 by omega)]
      exact key S (fun _ _ _ => rfl) _ rfl
