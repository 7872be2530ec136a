/-! the history, and the chips that were -/
theorem recS_72 (S : XS) : recS S 0 7 0 2 = S 7 0 2 := by unfold recS; split <;> rfl
theorem recS_70 (S : XS) : recS S 0 7 0 0 = S 7 0 0 := by unfold recS; split <;> rfl
theorem recS_or (S : XS) {i : Nat} (h : i < 7) : recS S 0 i = S i ∨ recS S 0 i = S 0 := by
  unfold recS
  split
  · rw [su_ne _ _ _ _ (by omega), su_ne _ _ _ _ (by omega)]
    unfold sc
    split
    · exact Or.inr (su_ne _ _ _ _ (by decide))
    · exact Or.inl (su_ne _ _ _ _ (by omega))
  · rw [su_ne _ _ _ _ (by omega)]
    unfold sc
    split
    · exact Or.inr rfl
    · exact Or.inl rfl
theorem Pu_AI {N : Nat} {S U : XS} (h : AI N S) (hp : Pu S U) (h0 : CI (N + 1) (U 0)) : AI (N + 1) U := fun b hb => by
  by_cases e : b = 0
  · rw [e]; exact h0
  · rw [hp b e]
    rcases recS_or S hb with q | q
    · rw [q]; exact (h b hb).mono (by omega)
    · rw [q]; exact (h 0 (by decide)).mono (by omega)
def HI (S : XS) (q : Nat) (hs : Nat → Nat → Nat → Int32) : Prop := S 7 0 1 = nI q ∧ q ≤ 4 ∧ ∀ j, j < q → S (3 + (j + rot S) % 4) = hs j
theorem HI_push1 {S U : XS} {q : Nat} {hs : Nat → Nat → Nat → Int32} (h : HI S q hs) (hq : q < 4) (hp : Pu S U) : U 7 0 1 = nI (q + 1) ∧ (∀ j, j < q → U (3 + (j + rot U) % 4) = hs j) ∧ U (3 + (q + rot U) % 4) = S 0 := by
  obtain ⟨h1, h2, h3⟩ := h
  have e : recS S 0 = su (sc S (3 + (q + rot S) % 4) 0) 7 0 (upd (S 7 0) 1 (nI (q + 1))) := by
    unfold recS
    rw [if_neg (by rw [h1]; exact nIne (b := 4) (by omega) (by omega) (by omega)), h1, nI_cl (by omega), nI_1]
  have hr : rot U = rot S := by
    show (U 8 0 0).toNatClampNeg % 4 = (S 8 0 0).toNatClampNeg % 4
    rw [hp 8 (by decide), e, su_ne _ _ _ _ (by decide), sc_ne _ _ _ (by omega)]
  refine ⟨?_, fun j hj => ?_, ?_⟩
  · rw [hp 7 (by decide), e]; rfl
  · rw [hr, hp _ (by omega), e, su_ne _ _ _ _ (by omega), sc_ne _ _ _ (by omega)]
    exact h3 j hj
  · rw [hr, hp _ (by omega), e, su_ne _ _ _ _ (by omega)]
    unfold sc
    rw [if_pos rfl]
theorem HI_push4 {S U : XS} {hs : Nat → Nat → Nat → Int32} (h : HI S 4 hs) (hp : Pu S U) : U 7 0 1 = nI 4 ∧ (∀ j, j < 3 → U (3 + (j + rot U) % 4) = hs (j + 1)) ∧ U (3 + (3 + rot U) % 4) = S 0 := by
  obtain ⟨h1, h2, h3⟩ := h
  have e : recS S 0 = su (su (sc (su S 7 0 (upd (S 7 0) 1 3)) (3 + (3 + (rot S + 1) % 4) % 4) 0) 7 0 (upd (upd (S 7 0) 1 3) 1 4)) 8 0 (upd (S 8 0) 0 (nI ((rot S + 1) % 4))) := by
    unfold recS
    rw [if_pos (show S 7 0 1 = 4 from h1)]
  have hr4 := rot_lt S
  have hr : rot U = (rot S + 1) % 4 := by
    show (U 8 0 0).toNatClampNeg % 4 = (rot S + 1) % 4
    rw [hp 8 (by decide), e]
    show (nI ((rot S + 1) % 4)).toNatClampNeg % 4 = (rot S + 1) % 4
    rw [nI_cl (by omega)]
    omega
  refine ⟨?_, fun j hj => ?_, ?_⟩
  · rw [hp 7 (by decide), e]; rfl
  · rw [hr, hp _ (by omega), e, su_ne _ _ _ _ (by omega), su_ne _ _ _ _ (by omega), sc_ne _ _ _ (by omega), su_ne _ _ _ _ (by omega), ← h3 (j + 1) (by omega)]
    exact congrArg S (by omega)
  · rw [hr, hp _ (by omega), e, su_ne _ _ _ _ (by omega), su_ne _ _ _ _ (by omega)]
    unfold sc
    rw [if_pos rfl]
    exact su_ne _ _ _ _ (by decide)
def C1 : Nat → Nat → Int32 := (m_X3_lay S0 4 7 80).2 0
def LI (N a q : Nat) (c : Nat → Nat → Nat → Int32) (S : XS) : Prop := HI S q (fun j => c (a - q + j)) ∧ q ≤ a ∧ S 0 = c a ∧ S 2 = C1 ∧ S 7 0 0 = 1 ∧ AI N S ∧ ¬ S 7 0 2 < 0
theorem LI.iv {N a q : Nat} {c : Nat → Nat → Nat → Int32} {S : XS} (h : LI N a q c S) : Iv S := ⟨⟨q, h.1.1, h.1.2.1⟩, fun b hb => (h.2.2.2.2.2.1 b hb).2.2.2.2.2.1, h.2.2.2.2.2.2⟩
theorem LI_push {N a q : Nat} {c : Nat → Nat → Nat → Int32} {S U : XS} (h : LI N a q c S) (hp : Pu S U) (h0 : CI (N + 1) (U 0)) : ∃ q1 : Nat, 1 ≤ q1 ∧ LI (N + 1) (a + 1) q1 (fun i => if i = a + 1 then U 0 else c i) U := by
  obtain ⟨hH, hqa, hc, h2, h7, hA, ht⟩ := h
  have hA1 := Pu_AI hA hp h0
  have k2 : U 2 = C1 := by rw [hp 2 (by decide), rec2]; exact h2
  have k7 : U 7 0 0 = 1 := by rw [hp 7 (by decide), recS_70]; exact h7
  have kt : ¬ U 7 0 2 < 0 := by rw [hp 7 (by decide), recS_72]; exact ht
  have k0 : U 0 = (fun i => if i = a + 1 then U 0 else c i) (a + 1) := (if_pos rfl).symm
  have old : ∀ i : Nat, i ≤ a → (fun i => if i = a + 1 then U 0 else c i) i = c i := fun i hi => if_neg (by omega)
  rcases Nat.lt_or_ge q 4 with hq | hq
  · obtain ⟨x1, x2, x3⟩ := HI_push1 hH hq hp
    refine ⟨q + 1, by omega, ⟨x1, by omega, fun j hj => ?_⟩, by omega, k0, k2, k7, hA1, kt⟩
    rcases Nat.lt_or_ge j q with hj2 | hj2
    · rw [x2 j hj2]
      show c (a - q + j) = (fun i => if i = a + 1 then U 0 else c i) (a + 1 - (q + 1) + j)
      rw [old _ (by omega)]
      exact congrArg c (by omega)
    · have ej : j = q := by omega
      subst ej
      rw [x3, hc]
      show c a = (fun i => if i = a + 1 then U 0 else c i) (a + 1 - (j + 1) + j)
      rw [old _ (by omega)]
      exact congrArg c (by omega)
  · have e4 : q = 4 := by have := hH.2.1; omega
    subst e4
    obtain ⟨x1, x2, x3⟩ := HI_push4 hH hp
    refine ⟨4, by omega, ⟨x1, by omega, fun j hj => ?_⟩, by omega, k0, k2, k7, hA1, kt⟩
    rcases Nat.lt_or_ge j 3 with hj2 | hj2
    · rw [x2 j hj2]
      show c (a - 4 + (j + 1)) = (fun i => if i = a + 1 then U 0 else c i) (a + 1 - 4 + j)
      rw [old _ (by omega)]
      exact congrArg c (by omega)
    · have ej : j = 3 := by omega
      subst ej
      rw [x3, hc]
      show c a = (fun i => if i = a + 1 then U 0 else c i) (a + 1 - 4 + 3)
      rw [old _ (by omega)]
      exact congrArg c (by omega)
theorem cnt12 (S : XS) : f_X3_count S 12 = S 7 0 1 := by
  rw [e_X3_count, if_neg (by decide), if_neg (by decide), if_neg (by decide), if_neg (by decide), if_neg (by decide), if_neg (by decide), if_neg (by decide), if_neg (by decide), if_neg (by decide), if_neg (by decide), if_neg (by decide), if_neg (by decide), if_pos rfl, e_X1_states]
theorem LI_undo {N a q : Nat} {c : Nat → Nat → Nat → Int32} {S : XS} (h : LI N a q c S) (hq : 1 ≤ q) : f_X3_undo S = (nI (q - 1), tkS S) ∧ LI N (a - 1) (q - 1) c (tkS S) := by
  obtain ⟨⟨h1, h4, h3⟩, hqa, hc, h2, h7, hA, ht⟩ := h
  have e : tkS S = su (sc S 0 (3 + (q - 1 + rot S) % 4)) 7 0 (upd (S 7 0) 1 (nI (q - 1))) := by
    unfold tkS
    have e1 : nI q - 1 = nI (q - 1) := pk_sub (b := 1) hq
    rw [h1, nI_cl (by omega), e1]
  have hr : rot (tkS S) = rot S := by
    show (tkS S 8 0 0).toNatClampNeg % 4 = (S 8 0 0).toNatClampNeg % 4
    rw [e, su_ne _ _ _ _ (by decide), sc_ne _ _ _ (by decide)]
  have hk : ∀ i, i ≠ 0 → i ≠ 7 → tkS S i = S i := fun i a1 a2 => by rw [e, su_ne _ _ _ _ a2, sc_ne _ _ _ a1]
  have h0 : tkS S 0 = c (a - 1) := by
    rw [e, su_ne _ _ _ _ (by decide)]
    unfold sc
    rw [if_pos rfl, h3 (q - 1) (by omega)]
    show c (a - q + (q - 1)) = c (a - 1)
    exact congrArg c (by omega)
  have h71 : tkS S 7 0 1 = nI (q - 1) := by rw [e]; rfl
  refine ⟨?_, ⟨h71, by omega, fun j hj => ?_⟩, by omega, h0, ?_, ?_, fun b hb => ?_, ?_⟩
  · rw [e_X3_undo, if_neg (by rw [e_X1_states, h1]; exact nI_ne0 (by omega) (by omega)), e_X3_undo_k1, e_X1_states, h71]
  · rw [hr, hk _ (by omega) (by omega), h3 j (by omega)]
    show c (a - q + j) = c (a - 1 - (q - 1) + j)
    exact congrArg c (by omega)
  · rw [hk 2 (by decide) (by decide)]; exact h2
  · rw [e]; exact h7
  · by_cases e0 : b = 0
    · rw [e0, e, su_ne _ _ _ _ (by decide)]
      unfold sc
      rw [if_pos rfl]
      exact hA _ (by omega)
    · rw [hk b e0 (by omega)]; exact hA b hb
  · rw [e]; exact ht
theorem LI_undo0 {N a : Nat} {c : Nat → Nat → Nat → Int32} {S : XS} (h : LI N a 0 c S) : f_X3_undo S = (-5, S) := by
  rw [e_X3_undo, if_pos (by rw [e_X1_states]; exact h.1.1)]
theorem wires_C1 : f_X0_wires (fun _ => C1) = 1 := (t_X0_wires _).trans (by decide +kernel)
theorem LI_restore0 {N a : Nat} {c : Nat → Nat → Nat → Int32} {S : XS} (h : LI N a 0 c S) : ∃ U : XS, f_X3_restore S = (1, U) ∧ U 0 = C1 ∧ U 7 0 1 = 1 ∧ Iv U := by
  have hao := ao_restore h.2.2.2.2.2.1
  obtain ⟨hH, hqa, hc, h2, h7, hA, ht⟩ := id h
  have e : f_X3_restore S = (f_X0_wires (sc (recS S 0) 0 2), sc (recS S 0) 0 2) := by
    rw [e_X3_restore, if_neg (by rw [h7]; decide), e_X3_restore_k1, e_X3_restore_k2]
    rfl
  have h0 : sc (recS S 0) 0 2 0 = C1 := by
    show recS S 0 2 = C1
    rw [rec2]; exact h2
  have hw : f_X0_wires (sc (recS S 0) 0 2) = 1 := (v_X0_wires (S' := fun _ => C1) h0).trans wires_C1
  have hp : Pu S (sc (recS S 0) 0 2) := fun i hi => sc_ne _ _ _ hi
  rw [hw] at e
  rw [e] at hao
  have hci : CI (N + 1) (sc (recS S 0) 0 2 0) := by
    rcases hao with ⟨q, -⟩ | ⟨-, -, q⟩
    · exact absurd q (show ¬ (1 : Int32) < 0 by decide)
    · exact q
  obtain ⟨q1, -, hL⟩ := LI_push h hp hci
  obtain ⟨x1, -, -⟩ := HI_push1 hH (by decide) hp
  exact ⟨_, e, h0, x1, hL.iv⟩
