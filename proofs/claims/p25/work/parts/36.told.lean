/-! types, told -/
def sgn (w : Int64) (k : Int32) : Int32 := ((w >>> (k.toInt64 &&& 63)) &&& 255).toInt32
def chr (x : Int32) : Int32 := (x.toUInt32 % 65536).toInt32
noncomputable def tyst (w : Int64) (k : Int32) (z : Int32 × XS) : Int32 × XS := if z.1 = 0 then (0, z.2) else (if sgn w k = 0 then (1, z.2) else (if (f_X3_type z.2 (chr (sgn w k))).1 ≤ 0 then (0, (f_X3_type z.2 (chr (sgn w k))).2) else (1, (f_X3_type z.2 (chr (sgn w k))).2)))
noncomputable def f_types (S : XS) (w : Int64) : Int32 × XS := opq (tyst w 0 (tyst w 8 (tyst w 16 (tyst w 24 (tyst w 32 (tyst w 40 (tyst w 48 (tyst w 56 (1, S)))))))))
theorem e_types (S : XS) (w : Int64) : f_types S w = tyst w 0 (tyst w 8 (tyst w 16 (tyst w 24 (tyst w 32 (tyst w 40 (tyst w 48 (tyst w 56 (1, S)))))))) := opq_eq _
def m_tyst (w : Int64) (k : Int32) (z : Int32 × XS) : Int32 × XS := if z.1 = 0 then (0, z.2) else (if sgn w k = 0 then (1, z.2) else (if (m_X3_type z.2 (chr (sgn w k))).1 ≤ 0 then (0, (m_X3_type z.2 (chr (sgn w k))).2) else (1, (m_X3_type z.2 (chr (sgn w k))).2)))
def m_types (S : XS) (w : Int64) : Int32 × XS := m_tyst w 0 (m_tyst w 8 (m_tyst w 16 (m_tyst w 24 (m_tyst w 32 (m_tyst w 40 (m_tyst w 48 (m_tyst w 56 (1, S))))))))
theorem t_tyst (w : Int64) (k : Int32) (z : Int32 × XS) : tyst w k z = m_tyst w k z := by unfold tyst m_tyst; simp only [t_X3_type]
theorem t_types (S : XS) (w : Int64) : f_types S w = m_types S w := (e_types S w).trans (by simp only [t_tyst]; rfl)
theorem i_type {S : XS} (x : Int32) (h : Iv S) : Iv (f_X3_type S x).2 := by
  rw [e_X3_type, e_X3_type_k1]
  have h2 : Iv (f_X2_append S x).2 := by
    rw [e_X2_append]
    split
    · rename_i hc
      refine ⟨h.1, fun b hb => ?_, ?_⟩
      · have e : su (su S 7 1 (upd (S 7 1) (S 7 0 2).toNatClampNeg (vp_nar FieldType.char x))) 7 0 (upd (S 7 0) 2 (S 7 0 2 + 1)) b = S b := (su_ne _ _ _ _ (by omega)).trans (su_ne _ _ _ _ (by omega))
        show su (su S 7 1 (upd (S 7 1) (S 7 0 2).toNatClampNeg (vp_nar FieldType.char x))) 7 0 (upd (S 7 0) 2 (S 7 0 2 + 1)) b 0 4 = 0 ∨ su (su S 7 1 (upd (S 7 1) (S 7 0 2).toNatClampNeg (vp_nar FieldType.char x))) 7 0 (upd (S 7 0) 2 (S 7 0 2 + 1)) b 0 4 = 1
        rw [e]; exact h.2.1 b hb
      show ¬ (S 7 0 2 + 1 < 0)
      obtain ⟨j, hj, e⟩ := nI_of h.2.2
      rw [e] at hc ⊢
      have hj2 : j < 80 := by
        rcases Nat.lt_or_ge j 80 with q | q
        · exact q
        · exact absurd hc (nI_nlt (a := j) (b := 80) q (by omega))
      rw [nI_1]
      exact nI_pos (by omega)
    · exact h
  split <;> exact h2
theorem i_tyst {w : Int64} {k : Int32} {z : Int32 × XS} (h : Iv z.2) : Iv (tyst w k z).2 := by
  unfold tyst
  repeat' split
  all_goals first | exact h | exact i_type _ h
theorem ty01 (w : Int64) (k : Int32) (z : Int32 × XS) : (tyst w k z).1 = 0 ∨ (tyst w k z).1 = 1 := by
  unfold tyst
  repeat' split
  all_goals first | exact Or.inl rfl | exact Or.inr rfl
set_option maxHeartbeats 4000000 in
set_option maxRecDepth 100000 in
theorem c_L_types (l : Launch) (G : GG) (A : Nat → Nat) {S : XS} (w : Int64) (hI : Iv S) : Mm l yL_types wsL_types ({ frames := 2, cells := 0, slots := 0, locals := 42 } : Room) G [.ref (A 42), .long w] (wX G A S (rot S)) (f_types S w).1 (wX G A (f_types S w).2 (rot (f_types S w).2)) := by
  refine Mm.of (cc := cL_types) (maxL := 6) (ret := some .boolean) (by decide) rfl (Nat.le_of_ble_eq_true rfl) ?_
  intro p e s m args below meth c A0 hA0 E hr hlocks hP hK hD hA hS ls hl
  have E : CallFix p m c cL_types 6 s args wsL_types RL := E
  have hx := E.1
  have hb := E.2.1
  have hml := E.2.2.1
  have hown := E.2.2.2.1
  have hts := E.2.2.2.2
  have hl : lv_has ls 6 [(0, .ref (A 42)), (1, .long w)] := hl
  have IT : ∀ (k : Int32) (z : Int32 × XS), ¬ k < 0 → Iv z.2 → (∀ z1 : Int32 × XS, z1 = tyst w k z → ∀ (H : Heap) (locs : List Loc), va_P G.1 vwCl (wX G A z1.2 (rot z1.2)) H → va_D A0 (wX G A z1.2 (rot z1.2)) → va_S A0 s.heap H locs → ∀ ls : Array Slot, lv_has ls 6 [(0, .ref (A 42)), (1, .long w), (3, .int z1.1), (4, .int (k + (-8)))] → W p l e ({ frames := 2, cells := 0, slots := 0, locals := 42 } : Room) s m args below meth c H locs 0 0 (MQ below (va_Qi (fun (r : Int32) (_ : Unit) => r = (f_types S w).1) (fun _ t => va_P G.1 vwCl (wX G A (f_types S w).2 (rot (f_types S w).2)) t.heap ∧ va_D A0 (wX G A (f_types S w).2 (rot (f_types S w).2))) A0) args s 0 0 A0) (F0 m 6 ls [])) → ∀ (H : Heap) (locs : List Loc), va_P G.1 vwCl (wX G A z.2 (rot z.2)) H → va_D A0 (wX G A z.2 (rot z.2)) → va_S A0 s.heap H locs → ∀ ls : Array Slot, lv_has ls 6 [(0, .ref (A 42)), (1, .long w), (3, .int z.1), (4, .int k)] → W p l e ({ frames := 2, cells := 0, slots := 0, locals := 42 } : Room) s m args below meth c H locs 0 0 (MQ below (va_Qi (fun (r : Int32) (_ : Unit) => r = (f_types S w).1) (fun _ t => va_P G.1 vwCl (wX G A (f_types S w).2 (rot (f_types S w).2)) t.heap ∧ va_D A0 (wX G A (f_types S w).2 (rot (f_types S w).2))) A0) args s 0 0 A0) (F0 m 6 ls []) := by
    intro k z hk hI kk H locs hP hD hS ls hl
    refine lv_iload hx hb dL_types_6 (lv_at hl 3 rfl) ?_
    refine lv_if_lt (tgt := 53) hx hb dL_types_8 (by decide) (fun c9 => absurd c9 hk) (fun _ => ?_)
    refine lv_lload_n hx hb dL_types_11 rfl (lv_at hl 1 rfl) ?_
    refine lv_iload hx hb dL_types_12 (lv_at hl 3 rfl) ?_
    refine lv_lshr (v := w >>> (k.toInt64 &&& 63)) hx hb dL_types_14 rfl ?_
    refine lv_ldc2 (v := 255) hx hb hown (hts (.constantLong RL 95 (255)) (by decide +kernel)) dL_types_15 ?_
    refine lv_land hx hb dL_types_18 ?_
    refine lv_l2i (v := sgn w k) hx hb dL_types_19 rfl ?_
    refine lv_istore (lv' := [(5, .int (sgn w k)), (0, .ref (A 42)), (1, .long w), (3, .int z.1), (4, .int k)]) hx hb dL_types_20 hl (by decide) rfl (fun ls hl => ?_)
    refine lv_iload_n hx hb dL_types_22 rfl (lv_at hl 3 rfl) ?_
    refine lv_if_eq (tgt := 45) hx hb dL_types_23 (by decide) (fun c1 => ?_) (fun c1 => ?_)
    · skip
      refine lv_iconst (v := 0) hx hb dL_types_45 (by decide) ?_
      refine lv_istore_n (lv' := [(3, .int 0), (5, .int (sgn w k)), (0, .ref (A 42)), (1, .long w), (4, .int k)]) hx hb dL_types_46 rfl hl (by decide) rfl (fun ls hl => ?_)
      refine lv_iinc (v := (k + (-8))) (lv' := [(4, .int (k + (-8))), (3, .int 0), (5, .int (sgn w k)), (0, .ref (A 42)), (1, .long w)]) hx hb dL_types_47 hl (k := 4) rfl (rfl) (by decide) rfl (fun ls hl => ?_)
      refine lv_goto (tgt := 6) hx hb dL_types_50 (by decide) ?_
      exact kk (0, z.2) (Eq.symm (if_pos c1)) _ _ hP hD hS _ (lv_sub hl [3, 4, 1, 0] rfl)
    · skip
      refine lv_iload hx hb dL_types_26 (lv_at hl 0 rfl) ?_
      refine lv_if_eq (tgt := 41) hx hb dL_types_28 (by decide) (fun c2 => ?_) (fun c2 => ?_)
      · skip
        refine lv_iconst (v := 1) hx hb dL_types_41 (by decide) ?_
        refine lv_goto (tgt := 46) hx hb dL_types_42 (by decide) ?_
        refine lv_istore_n (lv' := [(3, .int 1), (5, .int (sgn w k)), (0, .ref (A 42)), (1, .long w), (4, .int k)]) hx hb dL_types_46 rfl hl (by decide) rfl (fun ls hl => ?_)
        refine lv_iinc (v := (k + (-8))) (lv' := [(4, .int (k + (-8))), (3, .int 1), (5, .int (sgn w k)), (0, .ref (A 42)), (1, .long w)]) hx hb dL_types_47 hl (k := 4) rfl (rfl) (by decide) rfl (fun ls hl => ?_)
        refine lv_goto (tgt := 6) hx hb dL_types_50 (by decide) ?_
        exact kk (1, z.2) (Eq.symm ((if_neg c1).trans (if_pos c2))) _ _ hP hD hS _ (lv_sub hl [3, 4, 1, 0] rfl)
      · skip
        refine lv_aload_n hx hb dL_types_31 rfl (lv_at hl 1 rfl) ?_
        refine lv_iload hx hb dL_types_32 (lv_at hl 0 rfl) ?_
        refine lv_i2c (v := chr (sgn w k)) hx hb dL_types_34 rfl ?_
        refine cmV (rest := []) (As := [.int (chr (sgn w k))]) E (k_X3_type l G A (chr (sgn w k)) hI rfl) (cwV 1 hts gL_types_X3_type rfl rfl rfl (by decide +kernel) ⟨Nat.le_of_ble_eq_true rfl, Nat.le_of_ble_eq_true rfl⟩) hK hP hD hS hA 42 rfl rfl rfl hl.1 rfl (Nat.le_of_ble_eq_true rfl) dL_types_35 ⟨Nat.le_of_ble_eq_true rfl, Nat.le_of_ble_eq_true rfl⟩ (fun H locs hP hD hS => ?_)
        refine lv_if_le (tgt := 45) hx hb dL_types_38 (by decide) (fun c3 => ?_) (fun c3 => ?_)
        · skip
          refine lv_iconst (v := 0) hx hb dL_types_45 (by decide) ?_
          refine lv_istore_n (lv' := [(3, .int 0), (5, .int (sgn w k)), (0, .ref (A 42)), (1, .long w), (4, .int k)]) hx hb dL_types_46 rfl hl (by decide) rfl (fun ls hl => ?_)
          refine lv_iinc (v := (k + (-8))) (lv' := [(4, .int (k + (-8))), (3, .int 0), (5, .int (sgn w k)), (0, .ref (A 42)), (1, .long w)]) hx hb dL_types_47 hl (k := 4) rfl (rfl) (by decide) rfl (fun ls hl => ?_)
          refine lv_goto (tgt := 6) hx hb dL_types_50 (by decide) ?_
          exact kk (0, (f_X3_type z.2 (chr (sgn w k))).2) (Eq.symm ((if_neg c1).trans ((if_neg c2).trans (if_pos c3)))) _ _ hP hD hS _ (lv_sub hl [3, 4, 1, 0] rfl)
        · skip
          refine lv_iconst (v := 1) hx hb dL_types_41 (by decide) ?_
          refine lv_goto (tgt := 46) hx hb dL_types_42 (by decide) ?_
          refine lv_istore_n (lv' := [(3, .int 1), (5, .int (sgn w k)), (0, .ref (A 42)), (1, .long w), (4, .int k)]) hx hb dL_types_46 rfl hl (by decide) rfl (fun ls hl => ?_)
          refine lv_iinc (v := (k + (-8))) (lv' := [(4, .int (k + (-8))), (3, .int 1), (5, .int (sgn w k)), (0, .ref (A 42)), (1, .long w)]) hx hb dL_types_47 hl (k := 4) rfl (rfl) (by decide) rfl (fun ls hl => ?_)
          refine lv_goto (tgt := 6) hx hb dL_types_50 (by decide) ?_
          exact kk (1, (f_X3_type z.2 (chr (sgn w k))).2) (Eq.symm ((if_neg c1).trans ((if_neg c2).trans (if_neg c3)))) _ _ hP hD hS _ (lv_sub hl [3, 4, 1, 0] rfl)
  refine lv_iconst (v := 1) hx hb dL_types_0 (by decide) ?_
  refine lv_istore_n (lv' := [(3, .int 1), (0, .ref (A 42)), (1, .long w)]) hx hb dL_types_1 rfl hl (by decide) rfl (fun ls hl => ?_)
  refine lv_bipush (v := 56) hx hb dL_types_2 (by decide) ?_
  refine lv_istore (lv' := [(4, .int 56), (3, .int 1), (0, .ref (A 42)), (1, .long w)]) hx hb dL_types_4 hl (by decide) rfl (fun ls hl => ?_)
  have h0 : Iv ((1, S) : Int32 × XS).2 := hI
  refine IT 56 ((1 : Int32), S) (by decide) h0 (fun z1 e1 H locs hP hD hS ls hl => ?_) _ _ hP hD hS _ (lv_sub hl [2, 3, 1, 0] rfl)
  have h1 : Iv z1.2 := by rw [e1]; exact i_tyst h0
  refine IT 48 z1 (by decide) h1 (fun z2 e2 H locs hP hD hS ls hl => ?_) _ _ hP hD hS _ (lv_sub hl [0, 1, 2, 3] rfl)
  have h2 : Iv z2.2 := by rw [e2]; exact i_tyst h1
  refine IT 40 z2 (by decide) h2 (fun z3 e3 H locs hP hD hS ls hl => ?_) _ _ hP hD hS _ (lv_sub hl [0, 1, 2, 3] rfl)
  have h3 : Iv z3.2 := by rw [e3]; exact i_tyst h2
  refine IT 32 z3 (by decide) h3 (fun z4 e4 H locs hP hD hS ls hl => ?_) _ _ hP hD hS _ (lv_sub hl [0, 1, 2, 3] rfl)
  have h4 : Iv z4.2 := by rw [e4]; exact i_tyst h3
  refine IT 24 z4 (by decide) h4 (fun z5 e5 H locs hP hD hS ls hl => ?_) _ _ hP hD hS _ (lv_sub hl [0, 1, 2, 3] rfl)
  have h5 : Iv z5.2 := by rw [e5]; exact i_tyst h4
  refine IT 16 z5 (by decide) h5 (fun z6 e6 H locs hP hD hS ls hl => ?_) _ _ hP hD hS _ (lv_sub hl [0, 1, 2, 3] rfl)
  have h6 : Iv z6.2 := by rw [e6]; exact i_tyst h5
  refine IT 8 z6 (by decide) h6 (fun z7 e7 H locs hP hD hS ls hl => ?_) _ _ hP hD hS _ (lv_sub hl [0, 1, 2, 3] rfl)
  have h7 : Iv z7.2 := by rw [e7]; exact i_tyst h6
  refine IT 0 z7 (by decide) h7 (fun z8 e8 H locs hP hD hS ls hl => ?_) _ _ hP hD hS _ (lv_sub hl [0, 1, 2, 3] rfl)
  have h8 : Iv z8.2 := by rw [e8]; exact i_tyst h7
  have hz : z8 = f_types S w := by rw [e_types, e8, e7, e6, e5, e4, e3, e2, e1]
  refine lv_iload hx hb dL_types_6 (lv_at hl 3 rfl) ?_
  refine lv_if_lt (tgt := 53) hx hb dL_types_8 (by decide) (fun _ => ?_) (fun c9 => absurd c9 (by decide))
  refine lv_iload_n hx hb dL_types_53 rfl (lv_at hl 2 rfl) ?_
  have h01 : z8.1 = 0 ∨ z8.1 = 1 := by rw [e8]; exact ty01 _ _ _
  exact endM hx hb hr hlocks (nb_of h01) hP hD hS ⟨by rw [hz], by rw [hz]⟩ dL_types_54
set_option maxHeartbeats 4000000 in
set_option maxRecDepth 100000 in
theorem c_L_told_pos (l : Launch) (G : GG) {a b : Int64} {S1 S2 S3 : XS} {v : Int32} (h1 : f_types S0 a = (1, S1)) (h2 : f_types S1 b = (1, S2)) (h3 : f_X3_layAll S2 = (v, S3)) (i0 : Iv S0) (i1 : Iv S1) (i2 : Iv S2) (hv : ¬ v ≤ 0) (h4 : f_X3_count S3 12 = 1) (h5 : f_X3_count S3 0 = v) : Ma l yL_told wsL_told ({ frames := 7, cells := 50, slots := 691, locals := 154 } : Room) G [.long a, .long b] v 50 691 := by
  refine Ma.of (cc := cL_told) (maxL := 6) (ret := some .int) (by decide) rfl (Nat.le_of_ble_eq_true rfl) ?_
  intro p e s m args below meth c A0 hA0 E hr hlocks hKA hA hS ls hl
  have E : CallFix p m c cL_told 6 s args wsL_told RL := E
  have hK := hKA.1
  have hP := P_nil (G := G) (H := s.heap)
  have hD := D_nil (A := A0)
  have hx := E.1
  have hb := E.2.1
  have hml := E.2.2.1
  have hown := E.2.2.2.1
  have hts := E.2.2.2.2
  have hl : lv_has ls 6 [(0, .long a), (2, .long b)] := hl
  refine va_new (D := G.1) (ci := 3) (fs := [.null, .null, .null, .int 0, .null, .null]) (C := RX3) (T := TX3) (N := 6) hx hb hts (fun _ h => List.mem_cons_of_mem _ (List.mem_append_left _ (List.mem_append_left _ (List.mem_append_left _ (List.mem_append_right _ h))))) tyX3 tyX3_ok hown (hts (.classLink RL 14 RX3) (by decide +kernel)) (hts (.instantiable RX3 6) (by decide +kernel)) (hts (.initialized RX3) (by decide +kernel)) hK.1 hP hD hS hA rfl (fun j hj => by rcases (show j = 0 ∨ j = 1 ∨ j = 2 ∨ j = 3 ∨ j = 4 ∨ j = 5 by omega) with rfl | rfl | rfl | rfl | rfl | rfl <;> rfl) (Nat.le_of_ble_eq_true rfl) (Nat.le_of_ble_eq_true rfl) dL_told_0 (fun q0 H hP hD hS => ?_)
  refine W.widen (k := 1) (n := 6) (Nat.le_of_ble_eq_true rfl) (Nat.le_of_ble_eq_true rfl) ?_
  refine lv_dup hx hb dL_told_3 rfl ?_
  have hP : va_P G.1 vwCl [(q0, .inr (3, [.null, .null, .null, .int 0, .null, .null]))] H := hP
  have hD : va_D A0 [(q0, .inr (3, [.null, .null, .null, .int 0, .null, .null]))] := hD
  refine ciI (rest := [.ref q0]) (wr := []) E (i_X3 l G q0) (cwI 0 hts gL_told_X3_init rfl rfl rfl (hts (.initialized RX3) (by decide +kernel)) (hts (.methodLink RL 74 yX3_init) (by decide +kernel)) (hts (.instanceMethod yX3_init) (by decide +kernel)) rfl (by decide +kernel) ⟨Nat.le_of_ble_eq_true rfl, Nat.le_of_ble_eq_true rfl⟩) hKA hP hD hS hA [0] [] rfl (by decide) rfl (by decide) (by decide) hl.1 rfl (Nat.le_of_ble_eq_true rfl) dL_told_4 ⟨Nat.le_of_ble_eq_true rfl, Nat.le_of_ble_eq_true rfl⟩ (fun A H locs hA42 hP hD hS => ?_)
  have hP : va_P G.1 vwCl (wX G A S0 (rot S0)) H := hP
  have hD : va_D A0 (wX G A S0 (rot S0)) := hD
  refine W.widen (k := 50) (n := 691) (Nat.le_of_ble_eq_true rfl) (Nat.le_of_ble_eq_true rfl) ?_
  refine lv_astore (lv' := [(4, .ref q0), (0, .long a), (2, .long b)]) hx hb dL_told_7 hl (by decide) rfl (fun ls hl => ?_)
  rw [← hA42] at hl
  refine lv_aload hx hb dL_told_9 (lv_at hl 0 rfl) ?_
  refine lv_lload_n hx hb dL_told_11 rfl (lv_at hl 1 rfl) ?_
  have ht : Mm l yL_types wsL_types ({ frames := 2, cells := 0, slots := 0, locals := 42 } : Room) G [.ref (A 42), .long a] (wX G A S0 (rot S0)) 1 (wX G A S1 (rot S1)) := by have h9 := c_L_types l G A a i0; rw [h1] at h9; exact h9
  refine cmS (rest := []) (As := [.ref (A 42), .long a]) E ht (va_cwS 2 hts gL_told_L_types rfl rfl rfl (by decide +kernel) ⟨Nat.le_of_ble_eq_true rfl, Nat.le_of_ble_eq_true rfl⟩) hK hP hD hS hA rfl hl.1 rfl (Nat.le_of_ble_eq_true rfl) dL_told_12 ⟨Nat.le_of_ble_eq_true rfl, Nat.le_of_ble_eq_true rfl⟩ (fun H locs hP hD hS => ?_)
  refine lv_if_eq (tgt := 35) hx hb dL_told_15 (by decide) (fun c9 => absurd c9 (by decide)) (fun _ => ?_)
  refine lv_aload hx hb dL_told_18 (lv_at hl 0 rfl) ?_
  refine lv_lload_n hx hb dL_told_20 rfl (lv_at hl 2 rfl) ?_
  have ht : Mm l yL_types wsL_types ({ frames := 2, cells := 0, slots := 0, locals := 42 } : Room) G [.ref (A 42), .long b] (wX G A S1 (rot S1)) 1 (wX G A S2 (rot S2)) := by have h9 := c_L_types l G A b i1; rw [h2] at h9; exact h9
  refine cmS (rest := []) (As := [.ref (A 42), .long b]) E ht (va_cwS 2 hts gL_told_L_types rfl rfl rfl (by decide +kernel) ⟨Nat.le_of_ble_eq_true rfl, Nat.le_of_ble_eq_true rfl⟩) hK hP hD hS hA rfl hl.1 rfl (Nat.le_of_ble_eq_true rfl) dL_told_21 ⟨Nat.le_of_ble_eq_true rfl, Nat.le_of_ble_eq_true rfl⟩ (fun H locs hP hD hS => ?_)
  refine lv_if_eq (tgt := 35) hx hb dL_told_24 (by decide) (fun c9 => absurd c9 (by decide)) (fun _ => ?_)
  refine lv_aload hx hb dL_told_27 (lv_at hl 0 rfl) ?_
  refine cmV (rest := []) (As := []) E (k_X3_layAll l G A i2 h3) (cwV 0 hts gL_told_X3_layAll rfl rfl rfl (by decide +kernel) ⟨Nat.le_of_ble_eq_true rfl, Nat.le_of_ble_eq_true rfl⟩) hK hP hD hS hA 42 rfl rfl rfl hl.1 rfl (Nat.le_of_ble_eq_true rfl) dL_told_29 ⟨Nat.le_of_ble_eq_true rfl, Nat.le_of_ble_eq_true rfl⟩ (fun H locs hP hD hS => ?_)
  refine lv_goto (tgt := 37) hx hb dL_told_32 (by decide) ?_
  refine lv_istore (lv' := [(5, .int v), (4, .ref (A 42)), (0, .long a), (2, .long b)]) hx hb dL_told_37 hl (by decide) rfl (fun ls hl => ?_)
  refine lv_aload hx hb dL_told_39 (lv_at hl 1 rfl) ?_
  refine lv_bipush (v := 12) hx hb dL_told_41 (by decide) ?_
  refine cpV (rest := []) (As := [.int 12]) E (k_X3_count l G A S3 12 h4) (cwV 1 hts gL_told_X3_count rfl rfl rfl (by decide +kernel) ⟨Nat.le_of_ble_eq_true rfl, Nat.le_of_ble_eq_true rfl⟩) hK hP 42 rfl rfl rfl hl.1 rfl (Nat.le_of_ble_eq_true rfl) dL_told_43 ⟨Nat.le_of_ble_eq_true rfl, Nat.le_of_ble_eq_true rfl⟩ ?_
  refine lv_iload hx hb dL_told_46 (lv_at hl 0 rfl) ?_
  refine lv_if_le (tgt := 55) hx hb dL_told_48 (by decide) (fun c9 => absurd c9 hv) (fun _ => ?_)
  refine lv_iconst (v := 1) hx hb dL_told_51 (by decide) ?_
  refine lv_goto (tgt := 56) hx hb dL_told_52 (by decide) ?_
  refine lv_icmp_ne (tgt := 84) hx hb dL_told_56 (by decide) (fun c9 => absurd c9 (by decide)) (fun _ => ?_)
  refine lv_aload hx hb dL_told_59 (lv_at hl 1 rfl) ?_
  refine lv_iconst (v := 0) hx hb dL_told_61 (by decide) ?_
  refine cpV (rest := []) (As := [.int 0]) E (k_X3_count l G A S3 0 h5) (cwV 1 hts gL_told_X3_count rfl rfl rfl (by decide +kernel) ⟨Nat.le_of_ble_eq_true rfl, Nat.le_of_ble_eq_true rfl⟩) hK hP 42 rfl rfl rfl hl.1 rfl (Nat.le_of_ble_eq_true rfl) dL_told_62 ⟨Nat.le_of_ble_eq_true rfl, Nat.le_of_ble_eq_true rfl⟩ ?_
  refine lv_iload hx hb dL_told_65 (lv_at hl 0 rfl) ?_
  refine lv_if_le (tgt := 75) hx hb dL_told_67 (by decide) (fun c9 => absurd c9 hv) (fun _ => ?_)
  refine lv_iload hx hb dL_told_70 (lv_at hl 0 rfl) ?_
  refine lv_goto (tgt := 76) hx hb dL_told_72 (by decide) ?_
  refine lv_icmp_ne (tgt := 84) hx hb dL_told_76 (by decide) (fun c9 => absurd rfl c9) (fun _ => ?_)
  refine lv_iload hx hb dL_told_79 (lv_at hl 0 rfl) ?_
  refine lv_goto (tgt := 86) hx hb dL_told_81 (by decide) ?_
  exact endA hx hb hr hlocks rfl hS rfl dL_told_86
set_option maxHeartbeats 4000000 in
set_option maxRecDepth 100000 in
theorem c_L_told_neg (l : Launch) (G : GG) {a b : Int64} {S1 S2 S3 : XS} {v : Int32} (h1 : f_types S0 a = (1, S1)) (h2 : f_types S1 b = (1, S2)) (h3 : f_X3_layAll S2 = (v, S3)) (i0 : Iv S0) (i1 : Iv S1) (i2 : Iv S2) (hv : v ≤ 0) (h4 : f_X3_count S3 12 = 0) (h5 : f_X3_count S3 0 = 0) : Ma l yL_told wsL_told ({ frames := 7, cells := 50, slots := 691, locals := 154 } : Room) G [.long a, .long b] v 50 691 := by
  refine Ma.of (cc := cL_told) (maxL := 6) (ret := some .int) (by decide) rfl (Nat.le_of_ble_eq_true rfl) ?_
  intro p e s m args below meth c A0 hA0 E hr hlocks hKA hA hS ls hl
  have E : CallFix p m c cL_told 6 s args wsL_told RL := E
  have hK := hKA.1
  have hP := P_nil (G := G) (H := s.heap)
  have hD := D_nil (A := A0)
  have hx := E.1
  have hb := E.2.1
  have hml := E.2.2.1
  have hown := E.2.2.2.1
  have hts := E.2.2.2.2
  have hl : lv_has ls 6 [(0, .long a), (2, .long b)] := hl
  refine va_new (D := G.1) (ci := 3) (fs := [.null, .null, .null, .int 0, .null, .null]) (C := RX3) (T := TX3) (N := 6) hx hb hts (fun _ h => List.mem_cons_of_mem _ (List.mem_append_left _ (List.mem_append_left _ (List.mem_append_left _ (List.mem_append_right _ h))))) tyX3 tyX3_ok hown (hts (.classLink RL 14 RX3) (by decide +kernel)) (hts (.instantiable RX3 6) (by decide +kernel)) (hts (.initialized RX3) (by decide +kernel)) hK.1 hP hD hS hA rfl (fun j hj => by rcases (show j = 0 ∨ j = 1 ∨ j = 2 ∨ j = 3 ∨ j = 4 ∨ j = 5 by omega) with rfl | rfl | rfl | rfl | rfl | rfl <;> rfl) (Nat.le_of_ble_eq_true rfl) (Nat.le_of_ble_eq_true rfl) dL_told_0 (fun q0 H hP hD hS => ?_)
  refine W.widen (k := 1) (n := 6) (Nat.le_of_ble_eq_true rfl) (Nat.le_of_ble_eq_true rfl) ?_
  refine lv_dup hx hb dL_told_3 rfl ?_
  have hP : va_P G.1 vwCl [(q0, .inr (3, [.null, .null, .null, .int 0, .null, .null]))] H := hP
  have hD : va_D A0 [(q0, .inr (3, [.null, .null, .null, .int 0, .null, .null]))] := hD
  refine ciI (rest := [.ref q0]) (wr := []) E (i_X3 l G q0) (cwI 0 hts gL_told_X3_init rfl rfl rfl (hts (.initialized RX3) (by decide +kernel)) (hts (.methodLink RL 74 yX3_init) (by decide +kernel)) (hts (.instanceMethod yX3_init) (by decide +kernel)) rfl (by decide +kernel) ⟨Nat.le_of_ble_eq_true rfl, Nat.le_of_ble_eq_true rfl⟩) hKA hP hD hS hA [0] [] rfl (by decide) rfl (by decide) (by decide) hl.1 rfl (Nat.le_of_ble_eq_true rfl) dL_told_4 ⟨Nat.le_of_ble_eq_true rfl, Nat.le_of_ble_eq_true rfl⟩ (fun A H locs hA42 hP hD hS => ?_)
  have hP : va_P G.1 vwCl (wX G A S0 (rot S0)) H := hP
  have hD : va_D A0 (wX G A S0 (rot S0)) := hD
  refine W.widen (k := 50) (n := 691) (Nat.le_of_ble_eq_true rfl) (Nat.le_of_ble_eq_true rfl) ?_
  refine lv_astore (lv' := [(4, .ref q0), (0, .long a), (2, .long b)]) hx hb dL_told_7 hl (by decide) rfl (fun ls hl => ?_)
  rw [← hA42] at hl
  refine lv_aload hx hb dL_told_9 (lv_at hl 0 rfl) ?_
  refine lv_lload_n hx hb dL_told_11 rfl (lv_at hl 1 rfl) ?_
  have ht : Mm l yL_types wsL_types ({ frames := 2, cells := 0, slots := 0, locals := 42 } : Room) G [.ref (A 42), .long a] (wX G A S0 (rot S0)) 1 (wX G A S1 (rot S1)) := by have h9 := c_L_types l G A a i0; rw [h1] at h9; exact h9
  refine cmS (rest := []) (As := [.ref (A 42), .long a]) E ht (va_cwS 2 hts gL_told_L_types rfl rfl rfl (by decide +kernel) ⟨Nat.le_of_ble_eq_true rfl, Nat.le_of_ble_eq_true rfl⟩) hK hP hD hS hA rfl hl.1 rfl (Nat.le_of_ble_eq_true rfl) dL_told_12 ⟨Nat.le_of_ble_eq_true rfl, Nat.le_of_ble_eq_true rfl⟩ (fun H locs hP hD hS => ?_)
  refine lv_if_eq (tgt := 35) hx hb dL_told_15 (by decide) (fun c9 => absurd c9 (by decide)) (fun _ => ?_)
  refine lv_aload hx hb dL_told_18 (lv_at hl 0 rfl) ?_
  refine lv_lload_n hx hb dL_told_20 rfl (lv_at hl 2 rfl) ?_
  have ht : Mm l yL_types wsL_types ({ frames := 2, cells := 0, slots := 0, locals := 42 } : Room) G [.ref (A 42), .long b] (wX G A S1 (rot S1)) 1 (wX G A S2 (rot S2)) := by have h9 := c_L_types l G A b i1; rw [h2] at h9; exact h9
  refine cmS (rest := []) (As := [.ref (A 42), .long b]) E ht (va_cwS 2 hts gL_told_L_types rfl rfl rfl (by decide +kernel) ⟨Nat.le_of_ble_eq_true rfl, Nat.le_of_ble_eq_true rfl⟩) hK hP hD hS hA rfl hl.1 rfl (Nat.le_of_ble_eq_true rfl) dL_told_21 ⟨Nat.le_of_ble_eq_true rfl, Nat.le_of_ble_eq_true rfl⟩ (fun H locs hP hD hS => ?_)
  refine lv_if_eq (tgt := 35) hx hb dL_told_24 (by decide) (fun c9 => absurd c9 (by decide)) (fun _ => ?_)
  refine lv_aload hx hb dL_told_27 (lv_at hl 0 rfl) ?_
  refine cmV (rest := []) (As := []) E (k_X3_layAll l G A i2 h3) (cwV 0 hts gL_told_X3_layAll rfl rfl rfl (by decide +kernel) ⟨Nat.le_of_ble_eq_true rfl, Nat.le_of_ble_eq_true rfl⟩) hK hP hD hS hA 42 rfl rfl rfl hl.1 rfl (Nat.le_of_ble_eq_true rfl) dL_told_29 ⟨Nat.le_of_ble_eq_true rfl, Nat.le_of_ble_eq_true rfl⟩ (fun H locs hP hD hS => ?_)
  refine lv_goto (tgt := 37) hx hb dL_told_32 (by decide) ?_
  refine lv_istore (lv' := [(5, .int v), (4, .ref (A 42)), (0, .long a), (2, .long b)]) hx hb dL_told_37 hl (by decide) rfl (fun ls hl => ?_)
  refine lv_aload hx hb dL_told_39 (lv_at hl 1 rfl) ?_
  refine lv_bipush (v := 12) hx hb dL_told_41 (by decide) ?_
  refine cpV (rest := []) (As := [.int 12]) E (k_X3_count l G A S3 12 h4) (cwV 1 hts gL_told_X3_count rfl rfl rfl (by decide +kernel) ⟨Nat.le_of_ble_eq_true rfl, Nat.le_of_ble_eq_true rfl⟩) hK hP 42 rfl rfl rfl hl.1 rfl (Nat.le_of_ble_eq_true rfl) dL_told_43 ⟨Nat.le_of_ble_eq_true rfl, Nat.le_of_ble_eq_true rfl⟩ ?_
  refine lv_iload hx hb dL_told_46 (lv_at hl 0 rfl) ?_
  refine lv_if_le (tgt := 55) hx hb dL_told_48 (by decide) (fun _ => ?_) (fun c9 => absurd hv c9)
  refine lv_iconst (v := 0) hx hb dL_told_55 (by decide) ?_
  refine lv_icmp_ne (tgt := 84) hx hb dL_told_56 (by decide) (fun c9 => absurd c9 (by decide)) (fun _ => ?_)
  refine lv_aload hx hb dL_told_59 (lv_at hl 1 rfl) ?_
  refine lv_iconst (v := 0) hx hb dL_told_61 (by decide) ?_
  refine cpV (rest := []) (As := [.int 0]) E (k_X3_count l G A S3 0 h5) (cwV 1 hts gL_told_X3_count rfl rfl rfl (by decide +kernel) ⟨Nat.le_of_ble_eq_true rfl, Nat.le_of_ble_eq_true rfl⟩) hK hP 42 rfl rfl rfl hl.1 rfl (Nat.le_of_ble_eq_true rfl) dL_told_62 ⟨Nat.le_of_ble_eq_true rfl, Nat.le_of_ble_eq_true rfl⟩ ?_
  refine lv_iload hx hb dL_told_65 (lv_at hl 0 rfl) ?_
  refine lv_if_le (tgt := 75) hx hb dL_told_67 (by decide) (fun _ => ?_) (fun c9 => absurd hv c9)
  refine lv_iconst (v := 0) hx hb dL_told_75 (by decide) ?_
  refine lv_icmp_ne (tgt := 84) hx hb dL_told_76 (by decide) (fun c9 => absurd rfl c9) (fun _ => ?_)
  refine lv_iload hx hb dL_told_79 (lv_at hl 0 rfl) ?_
  refine lv_goto (tgt := 86) hx hb dL_told_81 (by decide) ?_
  exact endA hx hb hr hlocks rfl hS rfl dL_told_86
