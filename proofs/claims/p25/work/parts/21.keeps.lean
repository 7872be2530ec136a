theorem su_ne (S : XS) (i c : Nat) (f : Nat → Int32) {i' : Nat} (h : i' ≠ i) : su S i c f i' = S i' := by
  funext c'
  unfold su
  rw [if_neg (fun q => h q.1)]
theorem sc_ne (S : XS) (i j : Nat) {i' : Nat} (h : i' ≠ i) : sc S i j i' = S i' := by
  unfold sc
  rw [if_neg h]
theorem recS_lo (S : XS) (e i : Nat) (h : i < 3) : recS S e i = S i := by
  unfold recS
  split
  · rw [su_ne _ _ _ _ (by omega), su_ne _ _ _ _ (by omega), sc_ne _ _ _ (by omega), su_ne _ _ _ _ (by omega)]
  · rw [su_ne _ _ _ _ (by omega), sc_ne _ _ _ (by omega)]
theorem q1_of {S : XS} {q : Nat} (hq : S 7 0 1 = nI q) (h : ¬ f_X1_states S = 0) : 1 ≤ q := by
  rcases Nat.eq_zero_or_pos q with e | e
  · subst e
    exact absurd ((e_X1_states S).trans hq) h
  · exact e
theorem rot_X0_copyFrom_1_0 (S : XS) : rot (f_X0_copyFrom_1_0 S) = rot S := rfl
theorem rot_X0_copyFrom_0_1 (S : XS) : rot (f_X0_copyFrom_0_1 S) = rot S := rfl
theorem rot_X0_copyFrom_2_0 (S : XS) : rot (f_X0_copyFrom_2_0 S) = rot S := rfl
theorem rot_X0_copyFrom_0_2 (S : XS) : rot (f_X0_copyFrom_0_2 S) = rot S := rfl
theorem lo_passBy (S : XS) (x : Int32) {i : Nat} (h : i ≠ 7) : (f_X2_passBy S x).2 i = S i := by
  rw [e_X2_passBy]
  repeat' split
  all_goals first | rfl | exact su_ne _ _ _ _ h
theorem lo_withDigit (S : XS) (x y : Int32) {i : Nat} (h : i ≠ 7) : (f_X2_withDigit S x y).2 i = S i := by
  rw [e_X2_withDigit]
  repeat' split
  all_goals first | rfl | exact su_ne _ _ _ _ h
theorem lo_readNumber (S : XS) (x : Int32) {i : Nat} (h : i ≠ 7) : (f_X2_readNumber S x).2 i = S i := by
  rw [e_X2_readNumber]
  repeat' split
  all_goals first | rfl | exact su_ne _ _ _ _ h | (rw [e_X2_readNumber_k1]; exact (lo_withDigit _ _ _ h).trans (su_ne _ _ _ _ h))
theorem lo_readHeight (S : XS) {i : Nat} (h : i ≠ 7) : (f_X2_readHeight S).2 i = S i := by
  rw [e_X2_readHeight]
  repeat' split
  all_goals first | rfl | exact su_ne _ _ _ _ h | (rw [e_X2_readHeight_k1]; exact (lo_withDigit _ _ _ h).trans ((su_ne _ _ _ _ h).trans (su_ne _ _ _ _ h)))
theorem l1_passBy (S : XS) (x : Int32) : (f_X2_passBy S x).2 7 0 1 = S 7 0 1 := by
  rw [e_X2_passBy]
  repeat' split
  all_goals rfl
theorem l1_withDigit (S : XS) (x y : Int32) : (f_X2_withDigit S x y).2 7 0 1 = S 7 0 1 := by
  rw [e_X2_withDigit]
  repeat' split
  all_goals rfl
theorem l1_readNumber (S : XS) (x : Int32) : (f_X2_readNumber S x).2 7 0 1 = S 7 0 1 := by
  rw [e_X2_readNumber]
  repeat' split
  all_goals first | rfl | (rw [e_X2_readNumber_k1]; exact l1_withDigit _ _ _)
theorem l1_readHeight (S : XS) : (f_X2_readHeight S).2 7 0 1 = S 7 0 1 := by
  rw [e_X2_readHeight]
  repeat' split
  all_goals first | rfl | (rw [e_X2_readHeight_k1]; exact l1_withDigit _ _ _)
/-- what readWire leaves: any part that the four small readers leave, and the four rows at 7 -/
theorem readWire_keeps (P : XS → Prop) (hp : ∀ S x, P S → P (f_X2_passBy S x).2) (hn : ∀ S x, P S → P (f_X2_readNumber S x).2) (hh : ∀ S, P S → P (f_X2_readHeight S).2) (hs : ∀ (S : XS) (f g h : Nat → Int32) (v : Int32), P S → P (su (su (su (su S 7 2 f) 7 3 g) 7 4 h) 7 0 (upd (S 7 0) 4 v))) {S : XS} (h : P S) : P (f_X2_readWire S).2 := by
  rw [e_X2_readWire, e_X2_readWire_k1]
  have h1 := hn S 11 h
  generalize f_X2_readNumber S 11 = z1 at h1 ⊢
  split
  · exact h1
  · rw [e_X2_readWire_k2]
    have h2 := hp z1.2 45 h1
    generalize f_X2_passBy z1.2 45 = z2 at h2 ⊢
    split
    · exact h2
    · rw [e_X2_readWire_k3]
      have h3 := hn z2.2 15 h2
      generalize f_X2_readNumber z2.2 15 = z3 at h3 ⊢
      split
      · exact h3
      · rw [e_X2_readWire_k4]
        have h4 := hp z3.2 58 h3
        generalize f_X2_passBy z3.2 58 = z4 at h4 ⊢
        split
        · split
          · exact hs _ _ _ _ _ h4
          · exact h4
        · rw [e_X2_readWire_k5]
          have h5 := hh z4.2 h4
          generalize f_X2_readHeight z4.2 = z5 at h5 ⊢
          split
          · exact h5
          · split
            · exact hs _ _ _ _ _ h5
            · exact h5
theorem lo_readWire (S : XS) {i : Nat} (h : i ≠ 7) : (f_X2_readWire S).2 i = S i :=
  readWire_keeps (fun U => U i = S i) (fun U x e => (lo_passBy U x h).trans e) (fun U x e => (lo_readNumber U x h).trans e) (fun U e => (lo_readHeight U h).trans e) (fun U f g k v e => by rw [su_ne _ _ _ _ h, su_ne _ _ _ _ h, su_ne _ _ _ _ h, su_ne _ _ _ _ h]; exact e) rfl
theorem l1_readWire (S : XS) : (f_X2_readWire S).2 7 0 1 = S 7 0 1 :=
  readWire_keeps (fun U => U 7 0 1 = S 7 0 1) (fun U x e => (l1_passBy U x).trans e) (fun U x e => (l1_readNumber U x).trans e) (fun U e => (l1_readHeight U).trans e) (fun U f g k v e => e) rfl
theorem read_keeps (P : XS → Prop) (hp : ∀ S x, P S → P (f_X2_passBy S x).2) (hw : ∀ S, P S → P (f_X2_readWire S).2) : ∀ (n k : Nat) (S1 : XS), P S1 → P (g_X2_read_12 n k S1).2 := by
  intro n
  induction n with
  | zero => intro k S1 h; exact h
  | succ n ih =>
    intro k S1 h
    rw [ge_X2_read_12]
    repeat' split
    all_goals first | exact h | exact hw _ h | exact hp _ _ (hw _ h) | exact ih _ _ (hp _ _ (hw _ h))
theorem rot_X2_readWire (S : XS) : rot (f_X2_readWire S).2 = rot S :=
  readWire_keeps (fun U => rot U = rot S) (fun U x e => (rot_X2_passBy U x).trans e) (fun U x e => (rot_X2_readNumber U x).trans e) (fun U e => (rot_X2_readHeight U).trans e) (fun U f g k v e => e) rfl
theorem rot_X2_read (S : XS) : rot (f_X2_read S).2 = rot S := by
  rw [e_X2_read]
  exact read_keeps (fun U => rot U = rot S) (fun U x e => (rot_X2_passBy U x).trans e) (fun U e => (rot_X2_readWire U).trans e) _ _ _ rfl
theorem lo_read (S : XS) {i : Nat} (h : i ≠ 7) : (f_X2_read S).2 i = S i := by
  rw [e_X2_read]
  exact read_keeps (fun U => U i = S i) (fun U x e => (lo_passBy U x h).trans e) (fun U e => (lo_readWire U h).trans e) _ _ _ ((su_ne _ _ _ _ h).trans (su_ne _ _ _ _ h))
theorem l1_read (S : XS) : (f_X2_read S).2 7 0 1 = S 7 0 1 := by
  rw [e_X2_read]
  exact read_keeps (fun U => U 7 0 1 = S 7 0 1) (fun U x e => (l1_passBy U x).trans e) (fun U e => (l1_readWire U).trans e) _ _ _ rfl
theorem l4_readWire_le (S : XS) {k : Nat} (h : S 7 0 4 = nI k) : (f_X2_readWire S).2 7 0 4 = nI k ∨ (f_X2_readWire S).2 7 0 4 = nI (k + 1) := by
  by_cases hr : (f_X2_readWire S).1 = 0
  · left
    rw [e_X2_readWire, e_X2_readWire_k1] at hr ⊢
    have h1 : (f_X2_readNumber S 11).2 7 0 4 = nI k := (l4_readNumber _ _).trans h
    generalize f_X2_readNumber S 11 = z1 at h1 hr ⊢
    by_cases c1 : z1.1 = (-1)
    · rw [if_pos c1]; exact h1
    rw [if_neg c1, e_X2_readWire_k2] at hr ⊢
    have h2 : (f_X2_passBy z1.2 45).2 7 0 4 = nI k := (l4_passBy _ _).trans h1
    generalize f_X2_passBy z1.2 45 = z2 at h2 hr ⊢
    by_cases c2 : z2.1 = 0
    · rw [if_pos c2]; exact h2
    rw [if_neg c2, e_X2_readWire_k3] at hr ⊢
    have h3 : (f_X2_readNumber z2.2 15).2 7 0 4 = nI k := (l4_readNumber _ _).trans h2
    generalize f_X2_readNumber z2.2 15 = z3 at h3 hr ⊢
    by_cases c3 : z3.1 = (-1)
    · rw [if_pos c3]; exact h3
    rw [if_neg c3, e_X2_readWire_k4] at hr ⊢
    have h4 : (f_X2_passBy z3.2 58).2 7 0 4 = nI k := (l4_passBy _ _).trans h3
    generalize f_X2_passBy z3.2 58 = z4 at h4 hr ⊢
    by_cases c4 : z4.1 = 0
    · rw [if_pos c4] at hr ⊢
      by_cases c5 : z4.2 7 0 4 < 20
      · rw [if_pos c5] at hr; exact absurd hr (show ¬ (1 : Int32) = 0 by decide)
      · rw [if_neg c5]; exact h4
    · rw [if_neg c4, e_X2_readWire_k5] at hr ⊢
      have h5 : (f_X2_readHeight z4.2).2 7 0 4 = nI k := (l4_readHeight _).trans h4
      generalize f_X2_readHeight z4.2 = z5 at h5 hr ⊢
      by_cases c5 : z5.1 = (-1)
      · rw [if_pos c5]; exact h5
      rw [if_neg c5] at hr ⊢
      by_cases c6 : z5.2 7 0 4 < 20
      · rw [if_pos c6] at hr; exact absurd hr (show ¬ (1 : Int32) = 0 by decide)
      · rw [if_neg c6]; exact h5
  · exact Or.inr (l4_readWire h hr)
theorem t_g_read : ∀ (n k : Nat) (S1 : XS), k ≤ 20 → S1 7 0 4 = nI k → ∃ t : Nat, t ≤ 20 ∧ (g_X2_read_12 n k S1).2 7 0 4 = nI t := by
  intro n
  induction n with
  | zero => intro k S1 hk h; exact ⟨k, hk, h⟩
  | succ n ih =>
    intro k S1 hk h
    rw [ge_X2_read_12]
    by_cases c1 : (20 : Int32) ≤ nI k
    · rw [if_pos c1]; exact ⟨k, hk, h⟩
    have hk2 : k < 20 := lt_of_nle (N := 20) rfl hk c1 (by decide)
    rw [if_neg c1]
    have hw : ∃ t : Nat, t ≤ 20 ∧ (f_X2_readWire S1).2 7 0 4 = nI t := by
      rcases l4_readWire_le S1 h with e | e
      · exact ⟨k, hk, e⟩
      · exact ⟨k + 1, by omega, e⟩
    by_cases c2 : (f_X2_readWire S1).1 = 0
    · rw [if_pos c2]; exact hw
    rw [if_neg c2]
    have hw2 := l4_readWire h c2
    have hp2 : (f_X2_passBy (f_X2_readWire S1).2 44).2 7 0 4 = nI (k + 1) := (l4_passBy _ _).trans hw2
    split
    · split
      · exact ⟨k + 1, by omega, hp2⟩
      · exact ih _ _ (by omega) hp2
    · exact hw
theorem t_read (S : XS) : ∃ t : Nat, t ≤ 20 ∧ (f_X2_read S).2 7 0 4 = nI t := by
  rw [e_X2_read]
  exact t_g_read _ _ _ (by decide) rfl
theorem c_addWire (S : XS) (x y z : Int32) {i : Nat} (h : i ≠ 0) : f_X0_addWire S x y z i = S i := by
  rw [e_X0_addWire]
  repeat' split
  all_goals first | rfl | (simp only [su_ne _ _ _ _ h])
theorem l_g_addListed : ∀ (n k : Nat) (S1 : XS) {i : Nat}, i ≠ 0 → (g_X0_addListed_2 n k S1).2 i = S1 i := by
  intro n
  induction n with
  | zero => intro k S1 i h; rfl
  | succ n ih =>
    intro k S1 i h
    rw [ge_X0_addListed_2]
    repeat' split
    all_goals first | rfl | exact (ih _ _ h).trans (c_addWire _ _ _ _ h)
theorem l7_addListed (S : XS) : (f_X0_addListed S).2 7 = S 7 := by
  rw [e_X0_addListed]; exact l_g_addListed _ _ _ (by decide)
theorem c1_addListed (S : XS) : (f_X0_addListed S).2 1 = S 1 := by
  rw [e_X0_addListed]; exact l_g_addListed _ _ _ (by decide)
