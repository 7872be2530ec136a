/-! A LIST OF WIRES, side by side -/
/-- what was read is the same -/
def tl (S : XS) (T : MS) (k : Nat) : Prop := ∀ j, j < k → ∃ p l w : Nat, p ≤ 11 ∧ l ≤ 15 ∧ 10 ≤ w ∧ w ≤ 200 ∧ T 6 (3 * j) = nI p ∧ T 6 (3 * j + 1) = nI l ∧ T 6 (3 * j + 2) = nI w ∧ S 7 2 j = nI p ∧ S 7 3 j = nI l ∧ S 7 4 j = nI w
theorem tl.cong {S S' : XS} {T T' : MS} {k : Nat} (h : tl S T k) (e2 : S' 7 2 = S 7 2) (e3 : S' 7 3 = S 7 3) (e4 : S' 7 4 = S 7 4) (e6 : ∀ j, j < 3 * k → T' 6 j = T 6 j) : tl S' T' k := fun j hj => by
  rw [e2, e3, e4, e6 _ (by omega), e6 _ (by omega), e6 _ (by omega)]
  exact h j hj
def LQ (A : Int32 × XS) (B : Int32 × MS) (S1 : XS) : Prop := ((A.1 = (-1) ∧ B.1 = (-5)) ∨ ∃ x : Nat, x < 1000 ∧ A.1 = nI x ∧ B.1 = nI x) ∧ (∃ t : Nat, t ≤ 20 ∧ A.2 7 0 4 = nI t ∧ B.2 0 4 = nI t ∧ tl A.2 B.2 t) ∧ A.2 7 0 0 = S1 7 0 0 ∧ A.2 7 0 1 = S1 7 0 1 ∧ A.2 7 0 2 = S1 7 0 2 ∧ A.2 7 1 = S1 7 1
theorem wireP_end {c : Nat → Int32} {L q : Nat} (h : L ≤ q) : wireP c L q = (none, q) := by
  have : num c L q 11 = none := by
    unfold num
    rw [if_neg (fun e => by have := e.1; omega)]
  unfold wireP
  rw [this]
theorem lock {L : Nat} (L8 : L ≤ 80) : ∀ (n k q m : Nat) (S1 : XS) (T1 : MS), S1 7 0 2 = nI L → T1 0 2 = nI L → S1 7 0 3 = nI q → T1 0 3 = nI q → q ≤ L → S1 7 0 4 = nI k → T1 0 4 = nI k → 4 * k ≤ q → 20 < k + n → 80 < q + m → S1 7 1 = T1 5 → tl S1 T1 k → LQ (g_X2_read_12 n k S1) (g_X4_fault_12 m 1 T1) S1 := by
  intro n
  induction n with
  | zero => intro k q m S1 T1 _ _ _ _ h5 _ _ h8 h9; exact absurd h9 (by omega)
  | succ n ih =>
    intro k q m S1 T1 h1 h2 h3 h4 h5 h6 h7 h8 h9 h10 h11 h12
    obtain ⟨m, rfl⟩ : ∃ m', m = m' + 1 := ⟨m - 1, by omega⟩
    obtain ⟨f, hf, hw, eW⟩ := isWire_eq h2 L8 h4 h5 h7 (show k ≤ 20 by omega)
    rw [← h11] at eW hw
    rw [ge_X2_read_12, ge_X4_fault_12, if_neg one_ne, eW]
    have keep : ∀ q' : Nat, tl (sa S1 q') (tq T1 q' f) k := fun q' => h12.cong rfl rfl rfl hf
    by_cases c : 20 ≤ k
    · have e : wireP (S1 7 1) L q = (none, q) := wireP_end (by omega)
      rw [if_pos (show (20 : Int32) ≤ nI k from nI_le (a := 20) c (by omega)), e]
      dsimp only
      rw [if_pos rfl]
      exact ⟨Or.inr ⟨q, by omega, h3, rfl⟩, ⟨k, by omega, h6, h7, h12.cong rfl rfl rfl hf⟩, rfl, rfl, rfl, rfl⟩
    · rw [if_neg (show ¬ (20 : Int32) ≤ nI k from nI_ge (b := 20) (by omega) (by omega)), readWire_eq h1 L8 h3 h5 h6 (by omega)]
      have hle := wireP_le (c := S1 7 1) h5
      cases hp : wireP (S1 7 1) L q with
      | mk o q' =>
        rw [hp] at hle hw
        cases o with
        | none =>
          dsimp only
          rw [if_pos rfl, if_pos rfl]
          exact ⟨Or.inr ⟨q', by have : q' ≤ L := hle; omega, rfl, rfl⟩, ⟨k, by omega, h6, h7, keep q'⟩, rfl, rfl, rfl, rfl⟩
        | some w =>
          obtain ⟨p, l, g⟩ := w
          have sp := wireP_spec hp
          obtain ⟨f0, f1, f2⟩ := hw p l g q' rfl
          dsimp only
          rw [if_neg one_ne, if_neg one_ne]
          have hX3 : wr (sa S1 q') k p l g 7 0 3 = nI q' := rfl
          have hX2 : wr (sa S1 q') k p l g 7 0 2 = nI L := h1
          have eT : tu (tq T1 q' f) 0 (upd (tq T1 q' f 0) 4 (tq T1 q' f 0 4 + 1)) = tn T1 q' k f := by
            show tu (tq T1 q' f) 0 (upd (tq T1 q' f 0) 4 (T1 0 4 + 1)) = _
            rw [h7, nI_1]; rfl
          have hq' : q' ≤ L := hle
          rw [eT, takes_eq (T := tn T1 q' k f) h2 L8 rfl hq' 44, passBy_eq (S := wr (sa S1 q') k p l g) hX2 L8 hX3 hq' 44]
          have htl : ∀ (U : XS) (V : MS), U 7 2 = upd (S1 7 2) k (nI p) → U 7 3 = upd (S1 7 3) k (nI l) → U 7 4 = upd (S1 7 4) k (nI g) → V 6 = f → tl U V (k + 1) := fun U V e2 e3 e4 e6 j hj => by
            rw [e2, e3, e4, e6]
            by_cases ej : j = k
            · subst ej
              exact ⟨p, l, g, sp.1, sp.2.1, sp.2.2.1, sp.2.2.2.1, f0, f1, f2, pk_us, pk_us, pk_us⟩
            · obtain ⟨a, b, d, s1, s2, s3, s4, t0, t1, t2, u2, u3, u4⟩ := h12 j (by omega)
              exact ⟨a, b, d, s1, s2, s3, s4, (hf _ (by omega)).trans t0, (hf _ (by omega)).trans t1, (hf _ (by omega)).trans t2, (pk_un ej).trans u2, (pk_un ej).trans u3, (pk_un ej).trans u4⟩
          have eC : tn T1 q' k f 5 = S1 7 1 := h11.symm
          have eD : wr (sa S1 q') k p l g 7 1 = S1 7 1 := rfl
          rw [eC, eD]
          by_cases c2 : q' < L
          · rw [if_pos (show wr (sa S1 q') k p l g 7 0 3 < wr (sa S1 q') k p l g 7 0 2 by rw [hX3, hX2]; exact nI_lt c2 (by omega))]
            by_cases c3 : S1 7 1 q' = 44
            · have Hc : q' < L ∧ S1 7 1 q' = 44 := ⟨c2, c3⟩
              rw [if_pos Hc, if_pos Hc]
              dsimp only
              rw [if_neg one_ne]
              have := ih (k + 1) (q' + 1) m (sa (wr (sa S1 q') k p l g) (q' + 1)) (stq (tn T1 q' k f) (q' + 1)) h1 h2 rfl rfl c2 rfl rfl (by omega) (by omega) (by omega) h11 (htl _ _ rfl rfl rfl rfl)
              exact this
            · have Hc : ¬ (q' < L ∧ S1 7 1 q' = 44) := fun e => c3 e.2
              rw [if_neg Hc, if_neg Hc]
              dsimp only
              obtain ⟨m2, rfl⟩ : ∃ m', m = m' + 1 := ⟨m - 1, by omega⟩
              rw [if_pos rfl, ge_X4_fault_12, if_pos rfl, show tn T1 q' k f 0 3 = nI q' from rfl, show tn T1 q' k f 0 2 = nI L from h2, if_neg (fun e => by have := (nI_eq (by omega) (by omega)).mp e; omega)]
              exact ⟨Or.inr ⟨q', by omega, rfl, rfl⟩, ⟨k + 1, by omega, rfl, rfl, htl _ _ rfl rfl rfl rfl⟩, rfl, rfl, rfl, rfl⟩
          · obtain ⟨m2, rfl⟩ : ∃ m', m = m' + 1 := ⟨m - 1, by omega⟩
            rw [if_neg (show ¬ wr (sa S1 q') k p l g 7 0 3 < wr (sa S1 q') k p l g 7 0 2 by rw [hX3, hX2]; exact nI_nlt (by omega) (by omega)), if_neg (fun e => c2 e.1)]
            dsimp only
            rw [ge_X4_fault_12, if_pos rfl, show tn T1 q' k f 0 3 = nI q' from rfl, show tn T1 q' k f 0 2 = nI L from h2, if_pos (by rw [show q' = L by omega])]
            exact ⟨Or.inl ⟨rfl, rfl⟩, ⟨k + 1, by omega, rfl, rfl, htl _ _ rfl rfl rfl rfl⟩, rfl, rfl, rfl, rfl⟩
theorem read_eq {S : XS} {T : MS} {L : Nat} (h1 : S 7 0 2 = nI L) (h2 : T 0 2 = nI L) (L8 : L ≤ 80) (h3 : S 7 1 = T 5) : LQ (f_X2_read S) (f_X4_fault T) S := by
  rw [e_X2_read, e_X4_fault]
  exact lock L8 21 0 0 81 _ _ h1 h2 rfl rfl (Nat.zero_le _) rfl rfl (Nat.le_refl _) (by omega) (by omega) h3 (fun j hj => absurd hj (Nat.not_lt_zero j))
theorem listed_in {S : XS} {t k : Nat} (ht : S 7 0 4 = nI t) (h20 : t ≤ 20) (hk : k < t) : f_X2_isListed S (nI k) = 1 := by
  rw [e_X2_isListed, e_X3_isWithin, if_neg (nI_pos (by omega)), if_neg (show ¬ (19 : Int32) < nI k from nI_nlt (a := 19) (by omega) (by omega)), if_neg one_ne, ht, if_neg (nI_ge hk (by omega))]
theorem err_neg (S : XS) (x y : Int32) : f_X0_errorOfLaying S x y = 0 ∨ f_X0_errorOfLaying S x y < 0 := by
  rw [e_X0_errorOfLaying]
  repeat' split
  all_goals first | exact Or.inl rfl | exact Or.inr (by decide)
/-- what the loop over the list leaves -/
def AQ (M : Nat) (A : Int32 × XS) (B : Int32 × MS) (S1 : XS) (T1 : MS) : Prop := (∀ i, i ≠ 0 → A.2 i = S1 i) ∧ ((¬ A.1 = 0 ∧ B.1 = A.1 ∧ ∀ j, j ≠ 2 → B.2 j = T1 j) ∨ (A.1 = 0 ∧ ∃ T2 : MS, (∀ j, j ≠ 2 → T2 j = T1 j) ∧ CR M (A.2 0) (T2 2) ∧ B = (f_X4_wires (f_X4_lays (f_X4_records T2) 2 1 0 0), f_X4_lays (f_X4_records T2) 2 1 0 0)))
theorem lockA {t : Nat} (h20 : t ≤ 20) : ∀ (n m k N : Nat) (S1 : XS) (T1 : MS), 20 < k + n → 20 < k + m → k ≤ t → N + 20 ≤ 900000 + k → S1 7 0 4 = nI t → T1 0 4 = nI t → tl S1 T1 t → CR N (S1 0) (T1 2) → AQ (N + (t - k)) (g_X0_addListed_2 n k S1) (g_X4_layAll_31 m k T1) S1 T1 := by
  intro n
  induction n with
  | zero => intro m k N S1 T1 h1 h2 h3; exact absurd h1 (by omega)
  | succ n ih =>
    intro m k N S1 T1 h1 h2 h3 hN h4 h5 h6 h7
    obtain ⟨m, rfl⟩ : ∃ m', m = m' + 1 := ⟨m - 1, by omega⟩
    rw [ge_X0_addListed_2, ge_X4_layAll_31, e_X2_listed, h4, h5]
    by_cases c : t ≤ k
    · rw [if_pos (nI_le c (by omega)), if_pos (nI_le c (by omega))]
      exact ⟨fun _ _ => rfl, Or.inr ⟨rfl, T1, fun _ _ => rfl, by rw [show t - k = 0 by omega]; exact h7, rfl⟩⟩
    · have hk : k < t := by omega
      obtain ⟨p, l, w, s1, s2, s3, s4, t0, t1, t2, u2, u3, u4⟩ := h6 k hk
      have eP : f_X2_listedPad S1 (nI k) = nI p := by rw [e_X2_listedPad, listed_in h4 h20 hk, if_neg one_ne, nI_cl (by omega), u2]
      have eL : f_X2_listedLead S1 (nI k) = nI l := by rw [e_X2_listedLead, listed_in h4 h20 hk, if_neg one_ne, nI_cl (by omega), u3]
      have eH : f_X2_listedHeight S1 (nI k) = nI w := by rw [e_X2_listedHeight, listed_in h4 h20 hk, if_neg one_ne, nI_cl (by omega), u4]
      have i0 : ((3 : Int32) * nI k).toNatClampNeg = 3 * k := by rw [show (3 : Int32) * nI k = nI (3 * k) from pk_mul 3 k, nI_cl (by omega)]
      have i1 : (((3 : Int32) * nI k) + 1).toNatClampNeg = 3 * k + 1 := by rw [show ((3 : Int32) * nI k) + 1 = nI (3 * k + 1) from tpl k 1, nI_cl (by omega)]
      have i2 : (((3 : Int32) * nI k) + 2).toNatClampNeg = 3 * k + 2 := by rw [show ((3 : Int32) * nI k) + 2 = nI (3 * k + 2) from tpl k 2, nI_cl (by omega)]
      rw [if_neg (nI_ge hk (by omega)), if_neg (nI_ge hk (by omega)), eP, eL, eH, i0, i1, i2, t0, t1, t2]
      have ee := err_eq (c := 2) h7 (show p < 12 by omega) (show l < 16 by omega)
      rw [← ee]
      by_cases he : f_X0_errorOfLaying S1 (nI p) (nI l) = 0
      · rw [if_pos he, if_neg (by rw [he]; decide)]
        obtain ⟨tt, wv, w1, w2, v1, v2, hc, ho⟩ := add_CR h7 (by omega) (show p < 12 by omega) (show l < 16 by omega) s3 s4 he
        have hpos : (0 : Int32) ≤ nI tt := by
          obtain ⟨t9, t91, t92, -⟩ := strength_eq h7 (show p < 12 by omega) (show l < 16 by omega) (fun _ => 0) (fun _ => 0)
          rw [← v1, t92]
          exact nI_pos' (by omega)
        rw [laid2_eq T1 (show p < 12 by omega) s4 w2 w1, v1]
        dsimp only
        rw [if_pos hpos]
        have hk7 : f_X0_addWire S1 (nI p) (nI l) (nI w) 7 = S1 7 := ho 7 (by decide)
        have := ih m (k + 1) (N + 1) (f_X0_addWire S1 (nI p) (nI l) (nI w)) (tu T1 2 (FF (T1 2) p (nI l) (nI w) (nI tt) (nI (wv + (2 + w / 50))))) (by omega) (by omega) (by omega) (by omega) (by rw [hk7]; exact h4) h5 (h6.cong (by rw [hk7]) (by rw [hk7]) (by rw [hk7]) (fun _ _ => rfl)) (by rw [tu_s]; exact hc)
        rw [show N + 1 + (t - (k + 1)) = N + (t - k) by omega] at this
        obtain ⟨a1, a2⟩ := this
        refine ⟨fun i hi => (a1 i hi).trans (ho i hi), ?_⟩
        rcases a2 with ⟨b1, b2, b3⟩ | ⟨b1, T2, b2, b3, b4⟩
        · exact Or.inl ⟨b1, b2, fun j hj => (b3 j hj).trans (tu_n _ _ _ hj)⟩
        · exact Or.inr ⟨b1, T2, fun j hj => (b2 j hj).trans (tu_n _ _ _ hj), b3, b4⟩
      · have hneg := (err_neg S1 (nI p) (nI l)).resolve_left he
        rw [if_neg he, if_pos hneg]
        exact ⟨fun _ _ => rfl, Or.inl ⟨he, rfl, fun _ _ => rfl⟩⟩
theorem a_layAll {N : Nat} {S : XS} {T : MS} (h : RS N S T) (hN : N + 20 ≤ 900000) : (f_X3_layAll S).1 = (f_X4_layAll T).1 ∧ RS (N + 20) (f_X3_layAll S).2 (f_X4_layAll T).2 := by
  obtain ⟨hc, hr⟩ := h
  obtain ⟨L, L8, l1, l2⟩ := hr.2.2.1
  obtain ⟨A, ⟨t, t20, x4, m4, htl⟩, k0, k1, k2, k3⟩ := read_eq l1 l2 L8 hr.2.2.2.1
  obtain ⟨-, fo, f0⟩ := flt_all l2 L8
  have so : ∀ i, i ≠ 7 → (f_X2_read S).2 i = S i := fun i hi => lo_read S hi
  rw [e_X3_layAll, e_X3_layAll_k1, e_X4_layAll, e_X4_layAll_k1]
  have r1 : RS N (f_X2_read S).2 (f_X4_fault T).2 := by
    refine ⟨by rw [so 0 (by decide), fo 1 (by decide) (by decide)]; exact hc, hr.cong (fun i h2 h7 => so i (by omega)) k0 k1 k2 k3 (rot_8 (so 8 (by decide))) (f0 0 (by decide) (by decide)) (f0 1 (by decide) (by decide)) (f0 2 (by decide) (by decide)) (fo 3 (by decide) (by decide)) (fo 4 (by decide) (by decide)) (fo 5 (by decide) (by decide)) (by rw [so 1 (by decide)]; exact hr.2.2.2.2 1 (by omega) (by omega))⟩
  generalize f_X2_read S = Z at A x4 htl r1 ⊢
  generalize f_X4_fault T = Y at A m4 htl r1 ⊢
  rcases A with ⟨a1, a2⟩ | ⟨x, x1, a1, a2⟩
  · rw [if_pos a1, if_pos a2, e_X3_layAll_k2, e_X3_layAll_k3, e_X4_layAll_k2, e_X0_copyFrom_1_0, lays0 (by decide), e_X0_addListed]
    have c2 : CR N (sc Z.2 1 0 0) (tu Y.2 2 (fun x => if x < 71 then Y.2 1 x else Y.2 2 x) 2) := by
      rw [tu_s]
      exact r1.1.row (fun j hj => if_pos hj)
    obtain ⟨p1, p2⟩ := lockA t20 21 21 0 N (sc Z.2 1 0) (tu Y.2 2 (fun x => if x < 71 then Y.2 1 x else Y.2 2 x)) (by omega) (by omega) (by omega) (by omega) x4 m4 (htl.cong rfl rfl rfl (fun _ _ => rfl)) c2
    rw [Nat.sub_zero] at p2
    generalize g_X0_addListed_2 21 0 (sc Z.2 1 0) = A at p1 p2 ⊢
    generalize g_X4_layAll_31 21 0 (tu Y.2 2 (fun x => if x < 71 then Y.2 1 x else Y.2 2 x)) = B at p2 ⊢
    have e1 : A.2 1 = Z.2 0 := p1 1 (by decide)
    have hA : ∀ i, 2 ≤ i → A.2 i = Z.2 i := fun i hi => (p1 i (by omega)).trans (sc_ne _ _ _ (by omega))
    rcases p2 with ⟨b1, b2, b3⟩ | ⟨b1, T2, b2, b3, b4⟩
    · rw [if_neg b1, e_X3_layAll_k5, e_X0_copyFrom_0_1]
      have b3' : ∀ j, j ≠ 2 → B.2 j = Y.2 j := fun j hj => (b3 j hj).trans (tu_n _ _ _ hj)
      refine ⟨b2.symm, ?_, ?_⟩
      · dsimp only
        rw [show sc A.2 0 1 0 = A.2 1 from if_pos rfl, e1, b3' 1 (by decide)]
        exact r1.1.mono (by omega)
      · dsimp only
        have hB : ∀ i, 2 ≤ i → sc A.2 0 1 i = Z.2 i := fun i hi => (sc_ne _ _ _ (by omega)).trans (hA i hi)
        refine (r1.2.cong (fun i h2 _ => hB i h2) ?_ ?_ ?_ ?_ (rot_8 (hB 8 (by omega))) ?_ ?_ ?_ (b3' 3 (by decide)) (b3' 4 (by decide)) (b3' 5 (by decide)) ?_).mono (by omega)
        · rw [hB 7 (by omega)]
        · rw [hB 7 (by omega)]
        · rw [hB 7 (by omega)]
        · rw [hB 7 (by omega)]
        · rw [b3' 0 (by decide)]
        · rw [b3' 0 (by decide)]
        · rw [b3' 0 (by decide)]
        · rw [sc_ne _ _ _ (show (1 : Nat) ≠ 0 by decide), e1]; exact r1.1.bit
    · have b2' : ∀ j, j ≠ 2 → T2 j = Y.2 j := fun j hj => (b2 j hj).trans (tu_n _ _ _ hj)
      have hrh : RH N A.2 T2 := by
        refine r1.2.cong (fun i h2 _ => hA i h2) ?_ ?_ ?_ ?_ (rot_8 (hA 8 (by omega))) ?_ ?_ ?_ (b2' 3 (by decide)) (b2' 4 (by decide)) (b2' 5 (by decide)) ?_
        · rw [hA 7 (by omega)]
        · rw [hA 7 (by omega)]
        · rw [hA 7 (by omega)]
        · rw [hA 7 (by omega)]
        · rw [b2' 0 (by decide)]
        · rw [b2' 0 (by decide)]
        · rw [b2' 0 (by decide)]
        · rw [e1]; exact r1.1.bit
      have hrec := rec_RH hrh (e := 1) (by omega) (by rw [e1, b2' 1 (by decide)]; exact r1.1)
      obtain ⟨q, q4, -, q2, -⟩ := hrh.2.1
      have eV := (rec_o T2 q2 q4).1 2 (by decide) (by decide)
      have e0 : recS A.2 1 0 = A.2 0 := recS_lo A.2 1 0 (by omega)
      rw [if_pos b1, e_X3_layAll_k4, b4, lays0 (by decide)]
      have cF : CR (N + 20) (recS A.2 1 0) (tu (f_X4_records T2) 1 (fun x => if x < 71 then f_X4_records T2 2 x else f_X4_records T2 1 x) 1) := by
        rw [tu_s, e0]
        exact (b3.mono (by omega)).row (fun j hj => by rw [if_pos hj, eV])
      exact ⟨wires_eq cF, cF, (hrec.mono (by omega)).c0 (fun _ _ => rfl) (fun j hj => tu_n _ _ _ hj)⟩
  · rw [if_neg (by rw [a1]; exact nI_ne_m1 (by omega)), if_neg (by rw [a2]; exact nat_ne5 (by omega)), a1, a2]
    exact ⟨rfl, r1.1.mono (by omega), r1.2.mono (by omega)⟩
