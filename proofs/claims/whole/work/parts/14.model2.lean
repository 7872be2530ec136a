noncomputable def g_X4_lays_3 (i j : Nat) (p0 p1 : Int32) : Nat → Nat → MS → MS
  | 0, k, T1 => T1
  | n + 1, k, T1 => opq (if 71 ≤ (nI k) then T1 else (g_X4_lays_3 i j p0 p1 n (k + 1) (tu T1 j (upd (T1 j) (p1 + (nI k)).toNatClampNeg ((T1 i) (p0 + (nI k)).toNatClampNeg)))))
theorem ge_X4_lays_3 (i j : Nat) (p0 p1 : Int32) (n : Nat) (k : Nat) (T1 : MS) : g_X4_lays_3 i j p0 p1 (n + 1) k T1 = (if 71 ≤ (nI k) then T1 else (g_X4_lays_3 i j p0 p1 n (k + 1) (tu T1 j (upd (T1 j) (p1 + (nI k)).toNatClampNeg ((T1 i) (p0 + (nI k)).toNatClampNeg))))) := opq_eq _
noncomputable def f_X4_lays (T : MS) (i j : Nat) (p0 p1 : Int32) : MS := opq (g_X4_lays_3 i j p0 p1 72 0 T)
theorem e_X4_lays (T : MS) (i j : Nat) (p0 p1 : Int32) : f_X4_lays T i j p0 p1 = (g_X4_lays_3 i j p0 p1 72 0 T) := opq_eq _
set_option maxHeartbeats 4000000 in
set_option maxRecDepth 100000 in
theorem c_X4_lays (l : Launch) (G : GG) (B : Nat → Nat) (T : MS) (i j : Nat) (p0 p1 : Int32) (hi1 : 1 ≤ i) (hi4 : i ≤ 4) (hj1 : 1 ≤ j) (hj4 : j ≤ 4) (a : Nat) (b : Nat) (ha : p0 = nI a) (hb2 : p1 = nI b) (ha7 : a + 71 ≤ lenM i) (hb7 : b + 71 ≤ lenM j) : Mz l yX4_lays wsX4_lays ({ frames := 0, cells := 0, slots := 0, locals := 0 } : Room) G [.ref (B i), .int p0, .ref (B j), .int p1] (wM G B T) (wM G B (f_X4_lays T i j p0 p1)) := by
  refine Mz.of (cc := cX4_lays) (maxL := 5) (ret := none) (by decide) rfl (Nat.le_of_ble_eq_true rfl) ?_
  intro p e s m args below meth c A0 hA0 E hr hlocks hP hK hD hA hS ls hl
  have E : CallFix p m c cX4_lays 5 s args wsX4_lays RX4 := E
  have hx := E.1
  have hb := E.2.1
  have hml := E.2.2.1
  have hown := E.2.2.2.1
  have hts := E.2.2.2.2
  have hl : lv_has ls 5 [(0, .ref (B i)), (1, .int p0), (2, .ref (B j)), (3, .int p1)] := hl
  have LOOP3 : ∀ (n : Nat) (k : Nat) (T1 : MS) (Q : State → Prop), (k ≤ 71) → (71 < k + n) → ∀ V : MS, g_X4_lays_3 i j p0 p1 n k T1 = V → (∀ (H : Heap) (locs : List Loc), va_P G.1 vwCl (wM G B V) H → va_D A0 (wM G B V) → va_S A0 s.heap H locs → ∀ ls : Array Slot, lv_has ls 5 [] → W p l e ({ frames := 0, cells := 0, slots := 0, locals := 0 } : Room) s m args below meth c H locs 0 0 (Q) (F0 m 28 ls [])) → ∀ (H : Heap) (locs : List Loc), va_P G.1 vwCl (wM G B T1) H → va_D A0 (wM G B T1) → va_S A0 s.heap H locs → ∀ ls : Array Slot, lv_has ls 5 [(0, .ref (B i)), (1, .int p0), (2, .ref (B j)), (3, .int p1), (4, .int (nI k))] → W p l e ({ frames := 0, cells := 0, slots := 0, locals := 0 } : Room) s m args below meth c H locs 0 0 (Q) (F0 m 3 ls []) := by
    intro n
    induction n with
    | zero =>
      intro k T1 Q hk hn
      exact absurd hn (by omega)
    | succ n ih =>
      intro k T1 Q hk hn V hres kk H locs hP hD hS ls hl
      have hl : lv_has ls 5 [(0, .ref (B i)), (1, .int p0), (2, .ref (B j)), (3, .int p1), (4, .int (nI k))] := hl
      refine lv_iload hx hb dX4_lays_3 (lv_at hl 4 rfl) ?_
      refine lv_bipush (v := 71) hx hb dX4_lays_5 (by decide) ?_
      refine lv_icmp_ge (tgt := 28) hx hb dX4_lays_7 (by decide) (fun c1 => ?_) (fun c1 => ?_)
      · skip
        have hfin : T1 = V := Eq.trans (Eq.symm (Eq.trans (ge_X4_lays_3 i j p0 p1 n k T1) ((if_pos c1)))) hres
        subst hfin
        exact kk _ _ hP hD hS _ (lv_sub hl [] rfl)
      · skip
        have hk2 : k < 71 := lt_of_nle (N := 71) rfl hk c1 (by decide)
        refine lv_aload_n hx hb dX4_lays_10 rfl (lv_at hl 2 rfl) ?_
        refine lv_iload_n hx hb dX4_lays_11 rfl (lv_at hl 3 rfl) ?_
        refine lv_iload hx hb dX4_lays_12 (lv_at hl 4 rfl) ?_
        refine lv_iadd hx hb dX4_lays_14 ?_
        refine lv_aload_n hx hb dX4_lays_15 rfl (lv_at hl 0 rfl) ?_
        refine lv_iload_n hx hb dX4_lays_16 rfl (lv_at hl 1 rfl) ?_
        refine lv_iload hx hb dX4_lays_17 (lv_at hl 4 rfl) ?_
        refine lv_iadd hx hb dX4_lays_19 ?_
        refine va_iald (D := G.1) hx hb hK.1 hP i 0 (wM_j G B T1 i hi1 hi4) rfl (add_in ha hk2 ha7 (lenM_lt i)) dX4_lays_20 ?_
        refine va_iast (D := G.1) hx hb hK.1 hP hD hS j 0 (wM_j G B T1 j hj1 hj4) rfl (add_in hb2 hk2 hb7 (lenM_lt j)) dX4_lays_21 (fun H locs hP hD hS => ?_)
        rw [wM_sj G B T1 j hj1 hj4 _] at hP hD
        have hP : va_P G.1 vwCl (wM G B (tu T1 j (upd (T1 j) (p1 + (nI k)).toNatClampNeg ((T1 i) (p0 + (nI k)).toNatClampNeg)))) H := hP
        have hD : va_D A0 (wM G B (tu T1 j (upd (T1 j) (p1 + (nI k)).toNatClampNeg ((T1 i) (p0 + (nI k)).toNatClampNeg)))) := hD
        refine lv_iinc (v := (nI (k + 1))) (lv' := [(4, .int (nI (k + 1))), (0, .ref (B i)), (1, .int p0), (2, .ref (B j)), (3, .int p1)]) hx hb dX4_lays_22 hl (k := 4) rfl (nI_1 k) (by decide) rfl (fun ls hl => ?_)
        refine lv_goto (tgt := 3) hx hb dX4_lays_25 (by decide) ?_
        exact ih (k + 1) (tu T1 j (upd (T1 j) (p1 + (nI k)).toNatClampNeg ((T1 i) (p0 + (nI k)).toNatClampNeg))) Q (by omega) (by omega) V (Eq.trans (Eq.symm (Eq.trans (ge_X4_lays_3 i j p0 p1 n k T1) ((if_neg c1)))) hres) kk _ _ hP hD hS _ (lv_sub hl [1, 2, 3, 4, 0] rfl)
  refine lv_iconst (v := 0) hx hb dX4_lays_0 (by decide) ?_
  refine lv_istore (lv' := [(4, .int 0), (0, .ref (B i)), (1, .int p0), (2, .ref (B j)), (3, .int p1)]) hx hb dX4_lays_1 hl (by decide) rfl (fun ls hl => ?_)
  refine LOOP3 72 0 T _ (by omega) (by omega) _ rfl (fun H locs hP hD hS ls hl => ?_) _ _ hP hD hS _ (lv_sub hl [1, 2, 3, 4, 0] rfl)
  have hl : lv_has ls 5 [] := hl
  have hP : va_P G.1 vwCl (wM G B (g_X4_lays_3 i j p0 p1 72 0 T)) H := hP
  have hD : va_D A0 (wM G B (g_X4_lays_3 i j p0 p1 72 0 T)) := hD
  have hfin : (g_X4_lays_3 i j p0 p1 72 0 T) = (f_X4_lays T i j p0 p1) := Eq.symm ((e_X4_lays T i j p0 p1))
  exact endZ hx hb hr hlocks hP hD hS (@congrArg MS va_W (g_X4_lays_3 i j p0 p1 72 0 T) (f_X4_lays T i j p0 p1) (fun z => wM G B z) hfin) dX4_lays_28
theorem rcd_b {T : MS} {q : Nat} (hq : T 0 0 = nI q) : (71 : Int32) * T 0 0 = nI (71 * q) := by
  rw [hq]; exact pk_mul 71 q
theorem rcd_q {T : MS} {q : Nat} (hq : T 0 0 = nI q) (hq4 : q ≤ 4) (h : ¬ T 0 0 = 4) : 71 * q + 71 ≤ lenM 3 := by
  have h4 : q ≠ 4 := fun e => h (by rw [hq, e]; rfl)
  show 71 * q + 71 ≤ 284
  omega
noncomputable def g_X4_records_10 : Nat → Nat → MS → MS
  | 0, k, T1 => T1
  | n + 1, k, T1 => opq (if 213 ≤ (nI k) then T1 else (g_X4_records_10 n (k + 1) (tu T1 3 (upd (T1 3) k ((T1 3) (k + 71))))))
theorem ge_X4_records_10 (n : Nat) (k : Nat) (T1 : MS) : g_X4_records_10 (n + 1) k T1 = (if 213 ≤ (nI k) then T1 else (g_X4_records_10 n (k + 1) (tu T1 3 (upd (T1 3) k ((T1 3) (k + 71)))))) := opq_eq _
theorem rec_g0 : ∀ (n k : Nat) (T1 : MS), (g_X4_records_10 n k T1) 0 = T1 0 := by
  intro n
  induction n with
  | zero => intro k T1; rfl
  | succ n ih =>
    intro k T1
    rw [ge_X4_records_10]
    split
    · rfl
    · exact (ih _ _).trans rfl
theorem rcd_a {T : MS} (h : T 0 0 = 4) : (71 : Int32) * ((g_X4_records_10 214 0 T) 0 0 - 1) = nI (71 * 3) := by
  rw [rec_g0, h]
  decide
noncomputable def f_X4_records (T : MS) : MS := opq (if (T 0 0) = 4 then (tu (f_X4_lays (tu (g_X4_records_10 214 0 T) 0 (upd ((g_X4_records_10 214 0 T) 0) 0 ((((g_X4_records_10 214 0 T) 0) 0) - 1))) 1 3 0 (71 * ((((g_X4_records_10 214 0 T) 0) 0) - 1))) 0 (upd ((f_X4_lays (tu (g_X4_records_10 214 0 T) 0 (upd ((g_X4_records_10 214 0 T) 0) 0 ((((g_X4_records_10 214 0 T) 0) 0) - 1))) 1 3 0 (71 * ((((g_X4_records_10 214 0 T) 0) 0) - 1))) 0) 0 ((((f_X4_lays (tu (g_X4_records_10 214 0 T) 0 (upd ((g_X4_records_10 214 0 T) 0) 0 ((((g_X4_records_10 214 0 T) 0) 0) - 1))) 1 3 0 (71 * ((((g_X4_records_10 214 0 T) 0) 0) - 1))) 0) 0) + 1))) else (tu (f_X4_lays T 1 3 0 (71 * (T 0 0))) 0 (upd ((f_X4_lays T 1 3 0 (71 * (T 0 0))) 0) 0 ((((f_X4_lays T 1 3 0 (71 * (T 0 0))) 0) 0) + 1))))
theorem e_X4_records (T : MS) : f_X4_records T = (if (T 0 0) = 4 then (tu (f_X4_lays (tu (g_X4_records_10 214 0 T) 0 (upd ((g_X4_records_10 214 0 T) 0) 0 ((((g_X4_records_10 214 0 T) 0) 0) - 1))) 1 3 0 (71 * ((((g_X4_records_10 214 0 T) 0) 0) - 1))) 0 (upd ((f_X4_lays (tu (g_X4_records_10 214 0 T) 0 (upd ((g_X4_records_10 214 0 T) 0) 0 ((((g_X4_records_10 214 0 T) 0) 0) - 1))) 1 3 0 (71 * ((((g_X4_records_10 214 0 T) 0) 0) - 1))) 0) 0 ((((f_X4_lays (tu (g_X4_records_10 214 0 T) 0 (upd ((g_X4_records_10 214 0 T) 0) 0 ((((g_X4_records_10 214 0 T) 0) 0) - 1))) 1 3 0 (71 * ((((g_X4_records_10 214 0 T) 0) 0) - 1))) 0) 0) + 1))) else (tu (f_X4_lays T 1 3 0 (71 * (T 0 0))) 0 (upd ((f_X4_lays T 1 3 0 (71 * (T 0 0))) 0) 0 ((((f_X4_lays T 1 3 0 (71 * (T 0 0))) 0) 0) + 1)))) := opq_eq _
set_option maxHeartbeats 4000000 in
set_option maxRecDepth 100000 in
theorem c_X4_records (l : Launch) (G : GG) (B : Nat → Nat) (T : MS)  (q : Nat) (hq : T 0 0 = nI q) (hq4 : q ≤ 4) : Mz l yX4_records wsX4_records ({ frames := 1, cells := 0, slots := 0, locals := 24 } : Room) G [.ref (B 0)] (wM G B T) (wM G B (f_X4_records T)) := by
  refine Mz.of (cc := cX4_records) (maxL := 2) (ret := none) (by decide) rfl (Nat.le_of_ble_eq_true rfl) ?_
  intro p e s m args below meth c A0 hA0 E hr hlocks hP hK hD hA hS ls hl
  have E : CallFix p m c cX4_records 2 s args wsX4_records RX4 := E
  have hx := E.1
  have hb := E.2.1
  have hml := E.2.2.1
  have hown := E.2.2.2.1
  have hts := E.2.2.2.2
  have hl : lv_has ls 2 [(0, .ref (B 0))] := hl
  have hinX4 : ∀ w ∈ u_ws RX4 TX4 11, w ∈ wsX4_records := fun _ h => List.mem_cons_of_mem _ (List.mem_append_right _ h)
  have LOOP10 : ∀ (n : Nat) (k : Nat) (T1 : MS) (Q : State → Prop), (k ≤ 213) → (213 < k + n) → ∀ V : MS, g_X4_records_10 n k T1 = V → (∀ (H : Heap) (locs : List Loc), va_P G.1 vwCl (wM G B V) H → va_D A0 (wM G B V) → va_S A0 s.heap H locs → ∀ ls : Array Slot, lv_has ls 2 [(0, .ref (B 0))] → W p l e ({ frames := 1, cells := 0, slots := 0, locals := 24 } : Room) s m args below meth c H locs 0 0 (Q) (F0 m 38 ls [])) → ∀ (H : Heap) (locs : List Loc), va_P G.1 vwCl (wM G B T1) H → va_D A0 (wM G B T1) → va_S A0 s.heap H locs → ∀ ls : Array Slot, lv_has ls 2 [(0, .ref (B 0)), (1, .int (nI k))] → W p l e ({ frames := 1, cells := 0, slots := 0, locals := 24 } : Room) s m args below meth c H locs 0 0 (Q) (F0 m 10 ls []) := by
    intro n
    induction n with
    | zero =>
      intro k T1 Q hk hn
      exact absurd hn (by omega)
    | succ n ih =>
      intro k T1 Q hk hn V hres kk H locs hP hD hS ls hl
      have hl : lv_has ls 2 [(0, .ref (B 0)), (1, .int (nI k))] := hl
      refine lv_iload_n hx hb dX4_records_10 rfl (lv_at hl 1 rfl) ?_
      refine lv_sipush (v := 213) hx hb dX4_records_11 (by decide) ?_
      refine lv_icmp_ge (tgt := 38) hx hb dX4_records_14 (by decide) (fun c1 => ?_) (fun c1 => ?_)
      · skip
        have hfin : T1 = V := Eq.trans (Eq.symm (Eq.trans (ge_X4_records_10 n k T1) ((if_pos c1)))) hres
        subst hfin
        exact kk _ _ hP hD hS _ (lv_sub hl [0] rfl)
      · skip
        have hk2 : k < 213 := lt_of_nle (N := 213) rfl hk c1 (by decide)
        refine lv_aload_n hx hb dX4_records_17 rfl (lv_at hl 0 rfl) ?_
        refine va_get (D := G.1) (ci := 4) (v := .ref (B 3)) (C := RX4) (T := TX4) (N := 11) hx hb hts hinX4 hown hK.1 hP 0 (wM_o G B T1) rfl 2 (by decide) (hts (.fieldLink RX4 16 "WireLoopsModel" "past" "[I") (List.mem_of_getElem? (i := 2) rfl)) (fun _ h9 => h9) rfl dX4_records_18 ?_
        refine lv_iload_n hx hb dX4_records_21 rfl (lv_at hl 1 rfl) ?_
        refine lv_aload_n hx hb dX4_records_22 rfl (lv_at hl 0 rfl) ?_
        refine va_get (D := G.1) (ci := 4) (v := .ref (B 3)) (C := RX4) (T := TX4) (N := 11) hx hb hts hinX4 hown hK.1 hP 0 (wM_o G B T1) rfl 2 (by decide) (hts (.fieldLink RX4 16 "WireLoopsModel" "past" "[I") (List.mem_of_getElem? (i := 2) rfl)) (fun _ h9 => h9) rfl dX4_records_23 ?_
        refine lv_iload_n hx hb dX4_records_26 rfl (lv_at hl 1 rfl) ?_
        refine lv_bipush (v := 71) hx hb dX4_records_27 (by decide) ?_
        refine lv_iadd hx hb dX4_records_29 ?_
        refine va_iald (D := G.1) hx hb hK.1 hP 3 0 (wM_j G B T1 3 (by decide) (by decide)) rfl (vp_in_add71 hk2) dX4_records_30 ?_
        refine W.eq (g2 := F0 m 31 ls [.int ((T1 3) (k + 71)), .int (nI k), .ref (B 3)]) (by rw [show ((nI k) + 71 : Int32) = nI (k + 71) from nI_add k 71, nI_cl (n := k + 71) (by omega)] <;> rfl) ?_
        refine va_iast (D := G.1) hx hb hK.1 hP hD hS 3 0 (wM_j G B T1 3 (by decide) (by decide)) rfl (vp_in_nI (show k < 284 by omega) (by decide)) dX4_records_31 (fun H locs hP hD hS => ?_)
        rw [wM_sj G B T1 3 (by decide) (by decide) _] at hP hD
        rw [nI_cl (n := k) (by omega)] at hP hD
        have hP : va_P G.1 vwCl (wM G B (tu T1 3 (upd (T1 3) k ((T1 3) (k + 71))))) H := hP
        have hD : va_D A0 (wM G B (tu T1 3 (upd (T1 3) k ((T1 3) (k + 71))))) := hD
        refine lv_iinc (v := (nI (k + 1))) (lv' := [(1, .int (nI (k + 1))), (0, .ref (B 0))]) hx hb dX4_records_32 hl (k := 1) rfl (nI_1 k) (by decide) rfl (fun ls hl => ?_)
        refine lv_goto (tgt := 10) hx hb dX4_records_35 (by decide) ?_
        exact ih (k + 1) (tu T1 3 (upd (T1 3) k ((T1 3) (k + 71)))) Q (by omega) (by omega) V (Eq.trans (Eq.symm (Eq.trans (ge_X4_records_10 n k T1) ((if_neg c1)))) hres) kk _ _ hP hD hS _ (lv_sub hl [1, 0] rfl)
  refine lv_aload_n hx hb dX4_records_0 rfl (lv_at hl 0 rfl) ?_
  refine va_get (D := G.1) (ci := 4) (v := .int (T 0 0)) (C := RX4) (T := TX4) (N := 11) hx hb hts hinX4 hown hK.1 hP 0 (wM_o G B T) rfl 3 (by decide) (hts (.fieldLink RX4 29 "WireLoopsModel" "states" "I") (List.mem_of_getElem? (i := 1) rfl)) (fun _ h9 => h9) rfl dX4_records_1 ?_
  refine lv_iconst (v := 4) hx hb dX4_records_4 (by decide) ?_
  refine lv_icmp_ne (tgt := 48) hx hb dX4_records_5 (by decide) (fun c2 => ?_) (fun c2 => ?_)
  · skip
    refine lv_aload_n hx hb dX4_records_48 rfl (lv_at hl 0 rfl) ?_
    refine va_get (D := G.1) (ci := 4) (v := .ref (B 1)) (C := RX4) (T := TX4) (N := 11) hx hb hts hinX4 hown hK.1 hP 0 (wM_o G B T) rfl 0 (by decide) (hts (.fieldLink RX4 7 "WireLoopsModel" "now" "[I") (List.mem_of_getElem? (i := 3) rfl)) (fun _ h9 => h9) rfl dX4_records_49 ?_
    refine lv_iconst (v := 0) hx hb dX4_records_52 (by decide) ?_
    refine lv_aload_n hx hb dX4_records_53 rfl (lv_at hl 0 rfl) ?_
    refine va_get (D := G.1) (ci := 4) (v := .ref (B 3)) (C := RX4) (T := TX4) (N := 11) hx hb hts hinX4 hown hK.1 hP 0 (wM_o G B T) rfl 2 (by decide) (hts (.fieldLink RX4 16 "WireLoopsModel" "past" "[I") (List.mem_of_getElem? (i := 2) rfl)) (fun _ h9 => h9) rfl dX4_records_54 ?_
    refine lv_bipush (v := 71) hx hb dX4_records_57 (by decide) ?_
    refine lv_aload_n hx hb dX4_records_59 rfl (lv_at hl 0 rfl) ?_
    refine va_get (D := G.1) (ci := 4) (v := .int (T 0 0)) (C := RX4) (T := TX4) (N := 11) hx hb hts hinX4 hown hK.1 hP 0 (wM_o G B T) rfl 3 (by decide) (hts (.fieldLink RX4 29 "WireLoopsModel" "states" "I") (List.mem_of_getElem? (i := 1) rfl)) (fun _ h9 => h9) rfl dX4_records_60 ?_
    refine lv_imul hx hb dX4_records_63 ?_
    refine czS (rest := []) (As := [.ref (B 1), .int 0, .ref (B 3), .int (71 * (T 0 0))]) E (c_X4_lays l G B T 1 3 0 (71 * (T 0 0)) (by decide) (by decide) (by decide) (by decide) 0 (71 * q) rfl (rcd_b hq) (by decide) (rcd_q hq hq4 c2)) (va_cwS 4 hts gX4_records_X4_lays rfl rfl rfl (by decide +kernel) ⟨Nat.le_of_ble_eq_true rfl, Nat.le_of_ble_eq_true rfl⟩) hK hP hD hS hA rfl hl.1 rfl (Nat.le_of_ble_eq_true rfl) dX4_records_64 ⟨Nat.zero_le _, Nat.zero_le _⟩ (fun H locs hP hD hS => ?_)
    refine lv_aload_n hx hb dX4_records_67 rfl (lv_at hl 0 rfl) ?_
    refine lv_dup hx hb dX4_records_68 rfl ?_
    refine va_get (D := G.1) (ci := 4) (v := .int (((f_X4_lays T 1 3 0 (71 * (T 0 0))) 0) 0)) (C := RX4) (T := TX4) (N := 11) hx hb hts hinX4 hown hK.1 hP 0 (wM_o G B (f_X4_lays T 1 3 0 (71 * (T 0 0)))) rfl 3 (by decide) (hts (.fieldLink RX4 29 "WireLoopsModel" "states" "I") (List.mem_of_getElem? (i := 1) rfl)) (fun _ h9 => h9) rfl dX4_records_69 ?_
    refine lv_iconst (v := 1) hx hb dX4_records_72 (by decide) ?_
    refine lv_iadd hx hb dX4_records_73 ?_
    refine va_put (D := G.1) (ci := 4) (v := .int ((((f_X4_lays T 1 3 0 (71 * (T 0 0))) 0) 0) + 1)) (ty := .int) (C := RX4) (T := TX4) (N := 11) hx hb hts hinX4 tyX4 tyX4_ok nmX4 hown hK.1 hP hD hS 0 (wM_o G B (f_X4_lays T 1 3 0 (71 * (T 0 0)))) rfl 3 (by decide) (hts (.fieldLink RX4 29 "WireLoopsModel" "states" "I") (List.mem_of_getElem? (i := 1) rfl)) (fun _ h9 => h9) rfl (by decide +kernel) rfl rfl (Nat.le_of_ble_eq_true rfl) dX4_records_74 (fun H locs hP hD hS => ?_)
    rw [wM_so3 G B (f_X4_lays T 1 3 0 (71 * (T 0 0))) _] at hP hD
    have hP : va_P G.1 vwCl (wM G B (tu (f_X4_lays T 1 3 0 (71 * (T 0 0))) 0 (upd ((f_X4_lays T 1 3 0 (71 * (T 0 0))) 0) 0 ((((f_X4_lays T 1 3 0 (71 * (T 0 0))) 0) 0) + 1)))) H := hP
    have hD : va_D A0 (wM G B (tu (f_X4_lays T 1 3 0 (71 * (T 0 0))) 0 (upd ((f_X4_lays T 1 3 0 (71 * (T 0 0))) 0) 0 ((((f_X4_lays T 1 3 0 (71 * (T 0 0))) 0) 0) + 1)))) := hD
    have hfin : (tu (f_X4_lays T 1 3 0 (71 * (T 0 0))) 0 (upd ((f_X4_lays T 1 3 0 (71 * (T 0 0))) 0) 0 ((((f_X4_lays T 1 3 0 (71 * (T 0 0))) 0) 0) + 1))) = (f_X4_records T) := Eq.symm (Eq.trans (e_X4_records T) ((if_neg c2)))
    exact endZ hx hb hr hlocks hP hD hS (@congrArg MS va_W (tu (f_X4_lays T 1 3 0 (71 * (T 0 0))) 0 (upd ((f_X4_lays T 1 3 0 (71 * (T 0 0))) 0) 0 ((((f_X4_lays T 1 3 0 (71 * (T 0 0))) 0) 0) + 1))) (f_X4_records T) (fun z => wM G B z) hfin) dX4_records_77
  · skip
    refine lv_iconst (v := 0) hx hb dX4_records_8 (by decide) ?_
    refine lv_istore_n (lv' := [(1, .int 0), (0, .ref (B 0))]) hx hb dX4_records_9 rfl hl (by decide) rfl (fun ls hl => ?_)
    refine LOOP10 214 0 T _ (by omega) (by omega) _ rfl (fun H locs hP hD hS ls hl => ?_) _ _ hP hD hS _ (lv_sub hl [1, 0] rfl)
    have hl : lv_has ls 2 [(0, .ref (B 0))] := hl
    have hP : va_P G.1 vwCl (wM G B (g_X4_records_10 214 0 T)) H := hP
    have hD : va_D A0 (wM G B (g_X4_records_10 214 0 T)) := hD
    refine lv_aload_n hx hb dX4_records_38 rfl (lv_at hl 0 rfl) ?_
    refine lv_dup hx hb dX4_records_39 rfl ?_
    refine va_get (D := G.1) (ci := 4) (v := .int (((g_X4_records_10 214 0 T) 0) 0)) (C := RX4) (T := TX4) (N := 11) hx hb hts hinX4 hown hK.1 hP 0 (wM_o G B (g_X4_records_10 214 0 T)) rfl 3 (by decide) (hts (.fieldLink RX4 29 "WireLoopsModel" "states" "I") (List.mem_of_getElem? (i := 1) rfl)) (fun _ h9 => h9) rfl dX4_records_40 ?_
    refine lv_iconst (v := 1) hx hb dX4_records_43 (by decide) ?_
    refine lv_isub hx hb dX4_records_44 ?_
    refine va_put (D := G.1) (ci := 4) (v := .int ((((g_X4_records_10 214 0 T) 0) 0) - 1)) (ty := .int) (C := RX4) (T := TX4) (N := 11) hx hb hts hinX4 tyX4 tyX4_ok nmX4 hown hK.1 hP hD hS 0 (wM_o G B (g_X4_records_10 214 0 T)) rfl 3 (by decide) (hts (.fieldLink RX4 29 "WireLoopsModel" "states" "I") (List.mem_of_getElem? (i := 1) rfl)) (fun _ h9 => h9) rfl (by decide +kernel) rfl rfl (Nat.le_of_ble_eq_true rfl) dX4_records_45 (fun H locs hP hD hS => ?_)
    rw [wM_so3 G B (g_X4_records_10 214 0 T) _] at hP hD
    have hP : va_P G.1 vwCl (wM G B (tu (g_X4_records_10 214 0 T) 0 (upd ((g_X4_records_10 214 0 T) 0) 0 ((((g_X4_records_10 214 0 T) 0) 0) - 1)))) H := hP
    have hD : va_D A0 (wM G B (tu (g_X4_records_10 214 0 T) 0 (upd ((g_X4_records_10 214 0 T) 0) 0 ((((g_X4_records_10 214 0 T) 0) 0) - 1)))) := hD
    refine lv_aload_n hx hb dX4_records_48 rfl (lv_at hl 0 rfl) ?_
    refine va_get (D := G.1) (ci := 4) (v := .ref (B 1)) (C := RX4) (T := TX4) (N := 11) hx hb hts hinX4 hown hK.1 hP 0 (wM_o G B (tu (g_X4_records_10 214 0 T) 0 (upd ((g_X4_records_10 214 0 T) 0) 0 ((((g_X4_records_10 214 0 T) 0) 0) - 1)))) rfl 0 (by decide) (hts (.fieldLink RX4 7 "WireLoopsModel" "now" "[I") (List.mem_of_getElem? (i := 3) rfl)) (fun _ h9 => h9) rfl dX4_records_49 ?_
    refine lv_iconst (v := 0) hx hb dX4_records_52 (by decide) ?_
    refine lv_aload_n hx hb dX4_records_53 rfl (lv_at hl 0 rfl) ?_
    refine va_get (D := G.1) (ci := 4) (v := .ref (B 3)) (C := RX4) (T := TX4) (N := 11) hx hb hts hinX4 hown hK.1 hP 0 (wM_o G B (tu (g_X4_records_10 214 0 T) 0 (upd ((g_X4_records_10 214 0 T) 0) 0 ((((g_X4_records_10 214 0 T) 0) 0) - 1)))) rfl 2 (by decide) (hts (.fieldLink RX4 16 "WireLoopsModel" "past" "[I") (List.mem_of_getElem? (i := 2) rfl)) (fun _ h9 => h9) rfl dX4_records_54 ?_
    refine lv_bipush (v := 71) hx hb dX4_records_57 (by decide) ?_
    refine lv_aload_n hx hb dX4_records_59 rfl (lv_at hl 0 rfl) ?_
    refine va_get (D := G.1) (ci := 4) (v := .int ((((g_X4_records_10 214 0 T) 0) 0) - 1)) (C := RX4) (T := TX4) (N := 11) hx hb hts hinX4 hown hK.1 hP 0 (wM_o G B (tu (g_X4_records_10 214 0 T) 0 (upd ((g_X4_records_10 214 0 T) 0) 0 ((((g_X4_records_10 214 0 T) 0) 0) - 1)))) rfl 3 (by decide) (hts (.fieldLink RX4 29 "WireLoopsModel" "states" "I") (List.mem_of_getElem? (i := 1) rfl)) (fun _ h9 => h9) rfl dX4_records_60 ?_
    refine lv_imul hx hb dX4_records_63 ?_
    refine czS (rest := []) (As := [.ref (B 1), .int 0, .ref (B 3), .int (71 * ((((g_X4_records_10 214 0 T) 0) 0) - 1))]) E (c_X4_lays l G B (tu (g_X4_records_10 214 0 T) 0 (upd ((g_X4_records_10 214 0 T) 0) 0 ((((g_X4_records_10 214 0 T) 0) 0) - 1))) 1 3 0 (71 * ((((g_X4_records_10 214 0 T) 0) 0) - 1)) (by decide) (by decide) (by decide) (by decide) 0 (71 * 3) rfl (rcd_a c2) (by decide) (by decide)) (va_cwS 4 hts gX4_records_X4_lays rfl rfl rfl (by decide +kernel) ⟨Nat.le_of_ble_eq_true rfl, Nat.le_of_ble_eq_true rfl⟩) hK hP hD hS hA rfl hl.1 rfl (Nat.le_of_ble_eq_true rfl) dX4_records_64 ⟨Nat.zero_le _, Nat.zero_le _⟩ (fun H locs hP hD hS => ?_)
    refine lv_aload_n hx hb dX4_records_67 rfl (lv_at hl 0 rfl) ?_
    refine lv_dup hx hb dX4_records_68 rfl ?_
    refine va_get (D := G.1) (ci := 4) (v := .int (((f_X4_lays (tu (g_X4_records_10 214 0 T) 0 (upd ((g_X4_records_10 214 0 T) 0) 0 ((((g_X4_records_10 214 0 T) 0) 0) - 1))) 1 3 0 (71 * ((((g_X4_records_10 214 0 T) 0) 0) - 1))) 0) 0)) (C := RX4) (T := TX4) (N := 11) hx hb hts hinX4 hown hK.1 hP 0 (wM_o G B (f_X4_lays (tu (g_X4_records_10 214 0 T) 0 (upd ((g_X4_records_10 214 0 T) 0) 0 ((((g_X4_records_10 214 0 T) 0) 0) - 1))) 1 3 0 (71 * ((((g_X4_records_10 214 0 T) 0) 0) - 1)))) rfl 3 (by decide) (hts (.fieldLink RX4 29 "WireLoopsModel" "states" "I") (List.mem_of_getElem? (i := 1) rfl)) (fun _ h9 => h9) rfl dX4_records_69 ?_
    refine lv_iconst (v := 1) hx hb dX4_records_72 (by decide) ?_
    refine lv_iadd hx hb dX4_records_73 ?_
    refine va_put (D := G.1) (ci := 4) (v := .int ((((f_X4_lays (tu (g_X4_records_10 214 0 T) 0 (upd ((g_X4_records_10 214 0 T) 0) 0 ((((g_X4_records_10 214 0 T) 0) 0) - 1))) 1 3 0 (71 * ((((g_X4_records_10 214 0 T) 0) 0) - 1))) 0) 0) + 1)) (ty := .int) (C := RX4) (T := TX4) (N := 11) hx hb hts hinX4 tyX4 tyX4_ok nmX4 hown hK.1 hP hD hS 0 (wM_o G B (f_X4_lays (tu (g_X4_records_10 214 0 T) 0 (upd ((g_X4_records_10 214 0 T) 0) 0 ((((g_X4_records_10 214 0 T) 0) 0) - 1))) 1 3 0 (71 * ((((g_X4_records_10 214 0 T) 0) 0) - 1)))) rfl 3 (by decide) (hts (.fieldLink RX4 29 "WireLoopsModel" "states" "I") (List.mem_of_getElem? (i := 1) rfl)) (fun _ h9 => h9) rfl (by decide +kernel) rfl rfl (Nat.le_of_ble_eq_true rfl) dX4_records_74 (fun H locs hP hD hS => ?_)
    rw [wM_so3 G B (f_X4_lays (tu (g_X4_records_10 214 0 T) 0 (upd ((g_X4_records_10 214 0 T) 0) 0 ((((g_X4_records_10 214 0 T) 0) 0) - 1))) 1 3 0 (71 * ((((g_X4_records_10 214 0 T) 0) 0) - 1))) _] at hP hD
    have hP : va_P G.1 vwCl (wM G B (tu (f_X4_lays (tu (g_X4_records_10 214 0 T) 0 (upd ((g_X4_records_10 214 0 T) 0) 0 ((((g_X4_records_10 214 0 T) 0) 0) - 1))) 1 3 0 (71 * ((((g_X4_records_10 214 0 T) 0) 0) - 1))) 0 (upd ((f_X4_lays (tu (g_X4_records_10 214 0 T) 0 (upd ((g_X4_records_10 214 0 T) 0) 0 ((((g_X4_records_10 214 0 T) 0) 0) - 1))) 1 3 0 (71 * ((((g_X4_records_10 214 0 T) 0) 0) - 1))) 0) 0 ((((f_X4_lays (tu (g_X4_records_10 214 0 T) 0 (upd ((g_X4_records_10 214 0 T) 0) 0 ((((g_X4_records_10 214 0 T) 0) 0) - 1))) 1 3 0 (71 * ((((g_X4_records_10 214 0 T) 0) 0) - 1))) 0) 0) + 1)))) H := hP
    have hD : va_D A0 (wM G B (tu (f_X4_lays (tu (g_X4_records_10 214 0 T) 0 (upd ((g_X4_records_10 214 0 T) 0) 0 ((((g_X4_records_10 214 0 T) 0) 0) - 1))) 1 3 0 (71 * ((((g_X4_records_10 214 0 T) 0) 0) - 1))) 0 (upd ((f_X4_lays (tu (g_X4_records_10 214 0 T) 0 (upd ((g_X4_records_10 214 0 T) 0) 0 ((((g_X4_records_10 214 0 T) 0) 0) - 1))) 1 3 0 (71 * ((((g_X4_records_10 214 0 T) 0) 0) - 1))) 0) 0 ((((f_X4_lays (tu (g_X4_records_10 214 0 T) 0 (upd ((g_X4_records_10 214 0 T) 0) 0 ((((g_X4_records_10 214 0 T) 0) 0) - 1))) 1 3 0 (71 * ((((g_X4_records_10 214 0 T) 0) 0) - 1))) 0) 0) + 1)))) := hD
    have hfin : (tu (f_X4_lays (tu (g_X4_records_10 214 0 T) 0 (upd ((g_X4_records_10 214 0 T) 0) 0 ((((g_X4_records_10 214 0 T) 0) 0) - 1))) 1 3 0 (71 * ((((g_X4_records_10 214 0 T) 0) 0) - 1))) 0 (upd ((f_X4_lays (tu (g_X4_records_10 214 0 T) 0 (upd ((g_X4_records_10 214 0 T) 0) 0 ((((g_X4_records_10 214 0 T) 0) 0) - 1))) 1 3 0 (71 * ((((g_X4_records_10 214 0 T) 0) 0) - 1))) 0) 0 ((((f_X4_lays (tu (g_X4_records_10 214 0 T) 0 (upd ((g_X4_records_10 214 0 T) 0) 0 ((((g_X4_records_10 214 0 T) 0) 0) - 1))) 1 3 0 (71 * ((((g_X4_records_10 214 0 T) 0) 0) - 1))) 0) 0) + 1))) = (f_X4_records T) := Eq.symm (Eq.trans (e_X4_records T) ((if_pos c2)))
    exact endZ hx hb hr hlocks hP hD hS (@congrArg MS va_W (tu (f_X4_lays (tu (g_X4_records_10 214 0 T) 0 (upd ((g_X4_records_10 214 0 T) 0) 0 ((((g_X4_records_10 214 0 T) 0) 0) - 1))) 1 3 0 (71 * ((((g_X4_records_10 214 0 T) 0) 0) - 1))) 0 (upd ((f_X4_lays (tu (g_X4_records_10 214 0 T) 0 (upd ((g_X4_records_10 214 0 T) 0) 0 ((((g_X4_records_10 214 0 T) 0) 0) - 1))) 1 3 0 (71 * ((((g_X4_records_10 214 0 T) 0) 0) - 1))) 0) 0 ((((f_X4_lays (tu (g_X4_records_10 214 0 T) 0 (upd ((g_X4_records_10 214 0 T) 0) 0 ((((g_X4_records_10 214 0 T) 0) 0) - 1))) 1 3 0 (71 * ((((g_X4_records_10 214 0 T) 0) 0) - 1))) 0) 0) + 1))) (f_X4_records T) (fun z => wM G B z) hfin) dX4_records_77
noncomputable def f_X4_becomes_k1 (z1 : MS) (T : MS) (p0 p1 : Int32) : Int32 × MS := opq (((T 1) (p0).toNatClampNeg), (tu z1 1 (upd (z1 1) p0.toNatClampNeg p1)))
theorem e_X4_becomes_k1 (z1 : MS) (T : MS) (p0 p1 : Int32) : f_X4_becomes_k1 z1 T p0 p1 = (((T 1) (p0).toNatClampNeg), (tu z1 1 (upd (z1 1) p0.toNatClampNeg p1))) := opq_eq _
noncomputable def f_X4_becomes (T : MS) (p0 p1 : Int32) : Int32 × MS := opq (if ((T 1) (p0).toNatClampNeg) = p1 then ((-5), T) else (f_X4_becomes_k1 (f_X4_records T) T p0 p1))
theorem e_X4_becomes (T : MS) (p0 p1 : Int32) : f_X4_becomes T p0 p1 = (if ((T 1) (p0).toNatClampNeg) = p1 then ((-5), T) else (f_X4_becomes_k1 (f_X4_records T) T p0 p1)) := opq_eq _
set_option maxHeartbeats 4000000 in
set_option maxRecDepth 100000 in
theorem c_X4_becomes (l : Launch) (G : GG) (B : Nat → Nat) (T : MS) (p0 p1 : Int32) (hpl : vp_in p0 71) (q : Nat) (hq : T 0 0 = nI q) (hq4 : q ≤ 4) : Mm l yX4_becomes wsX4_becomes ({ frames := 2, cells := 0, slots := 0, locals := 45 } : Room) G [.ref (B 0), .int p0, .int p1] (wM G B T) (f_X4_becomes T p0 p1).1 (wM G B (f_X4_becomes T p0 p1).2) := by
  refine Mm.of (cc := cX4_becomes) (maxL := 4) (ret := (some .int)) (by decide) rfl (Nat.le_of_ble_eq_true rfl) ?_
  intro p e s m args below meth c A0 hA0 E hr hlocks hP hK hD hA hS ls hl
  have E : CallFix p m c cX4_becomes 4 s args wsX4_becomes RX4 := E
  have hx := E.1
  have hb := E.2.1
  have hml := E.2.2.1
  have hown := E.2.2.2.1
  have hts := E.2.2.2.2
  have hl : lv_has ls 4 [(0, .ref (B 0)), (1, .int p0), (2, .int p1)] := hl
  have hinX4 : ∀ w ∈ u_ws RX4 TX4 11, w ∈ wsX4_becomes := fun _ h => List.mem_cons_of_mem _ (List.mem_append_right _ h)
  refine lv_aload_n hx hb dX4_becomes_0 rfl (lv_at hl 0 rfl) ?_
  refine va_get (D := G.1) (ci := 4) (v := .ref (B 1)) (C := RX4) (T := TX4) (N := 11) hx hb hts hinX4 hown hK.1 hP 0 (wM_o G B T) rfl 0 (by decide) (hts (.fieldLink RX4 7 "WireLoopsModel" "now" "[I") (List.mem_of_getElem? (i := 1) rfl)) (fun _ h9 => h9) rfl dX4_becomes_1 ?_
  refine lv_iload_n hx hb dX4_becomes_4 rfl (lv_at hl 1 rfl) ?_
  refine va_iald (D := G.1) hx hb hK.1 hP 1 0 (wM_j G B T 1 (by decide) (by decide)) rfl hpl dX4_becomes_5 ?_
  refine lv_istore_n (lv' := [(3, .int ((T 1) (p0).toNatClampNeg)), (0, .ref (B 0)), (1, .int p0), (2, .int p1)]) hx hb dX4_becomes_6 rfl hl (by decide) rfl (fun ls hl => ?_)
  refine lv_iload_n hx hb dX4_becomes_7 rfl (lv_at hl 0 rfl) ?_
  refine lv_iload_n hx hb dX4_becomes_8 rfl (lv_at hl 3 rfl) ?_
  refine lv_icmp_ne (tgt := 15) hx hb dX4_becomes_9 (by decide) (fun c1 => ?_) (fun c1 => ?_)
  · skip
    refine lv_aload_n hx hb dX4_becomes_15 rfl (lv_at hl 1 rfl) ?_
    refine czV (rest := []) (As := []) E (c_X4_records l G B T q hq hq4) (cwV 0 hts gX4_becomes_X4_records rfl rfl rfl (by decide +kernel) ⟨Nat.le_of_ble_eq_true rfl, Nat.le_of_ble_eq_true rfl⟩) hK hP hD hS hA 0 (wM_o G B T) rfl rfl hl.1 rfl (Nat.le_of_ble_eq_true rfl) dX4_becomes_16 ⟨Nat.zero_le _, Nat.zero_le _⟩ (fun H locs hP hD hS => ?_)
    have hres1 : f_X4_becomes_k1 (f_X4_records T) T p0 p1 = (f_X4_becomes T p0 p1) := Eq.symm (Eq.trans (e_X4_becomes T p0 p1) ((if_neg c1)))
    generalize hz1 : (f_X4_records T) = z1 at hres1 hP hD ⊢
    refine lv_aload_n hx hb dX4_becomes_19 rfl (lv_at hl 1 rfl) ?_
    refine va_get (D := G.1) (ci := 4) (v := .ref (B 1)) (C := RX4) (T := TX4) (N := 11) hx hb hts hinX4 hown hK.1 hP 0 (wM_o G B z1) rfl 0 (by decide) (hts (.fieldLink RX4 7 "WireLoopsModel" "now" "[I") (List.mem_of_getElem? (i := 1) rfl)) (fun _ h9 => h9) rfl dX4_becomes_20 ?_
    refine lv_iload_n hx hb dX4_becomes_23 rfl (lv_at hl 2 rfl) ?_
    refine lv_iload_n hx hb dX4_becomes_24 rfl (lv_at hl 3 rfl) ?_
    refine va_iast (D := G.1) hx hb hK.1 hP hD hS 1 0 (wM_j G B z1 1 (by decide) (by decide)) rfl hpl dX4_becomes_25 (fun H locs hP hD hS => ?_)
    rw [wM_sj G B z1 1 (by decide) (by decide) _] at hP hD
    have hP : va_P G.1 vwCl (wM G B (tu z1 1 (upd (z1 1) p0.toNatClampNeg p1))) H := hP
    have hD : va_D A0 (wM G B (tu z1 1 (upd (z1 1) p0.toNatClampNeg p1))) := hD
    refine lv_iload_n hx hb dX4_becomes_26 rfl (lv_at hl 0 rfl) ?_
    have hfin : (((T 1) (p0).toNatClampNeg), (tu z1 1 (upd (z1 1) p0.toNatClampNeg p1))) = (f_X4_becomes T p0 p1) := Eq.trans (Eq.symm ((e_X4_becomes_k1 z1 T p0 p1))) hres1
    exact endM hx hb hr hlocks rfl hP hD hS ⟨@congrArg (Int32 × MS) Int32 (((T 1) (p0).toNatClampNeg), (tu z1 1 (upd (z1 1) p0.toNatClampNeg p1))) (f_X4_becomes T p0 p1) Prod.fst hfin, @congrArg (Int32 × MS) va_W (((T 1) (p0).toNatClampNeg), (tu z1 1 (upd (z1 1) p0.toNatClampNeg p1))) (f_X4_becomes T p0 p1) (fun z => wM G B z.2) hfin⟩ dX4_becomes_27
  · skip
    refine lv_bipush (v := (-5)) hx hb dX4_becomes_12 (by decide) ?_
    have hfin : ((-5), T) = (f_X4_becomes T p0 p1) := Eq.symm (Eq.trans (e_X4_becomes T p0 p1) ((if_pos c1)))
    exact endM hx hb hr hlocks rfl hP hD hS ⟨@congrArg (Int32 × MS) Int32 ((-5), T) (f_X4_becomes T p0 p1) Prod.fst hfin, @congrArg (Int32 × MS) va_W ((-5), T) (f_X4_becomes T p0 p1) (fun z => wM G B z.2) hfin⟩ dX4_becomes_14
noncomputable def f_X4_lay_k2 (z2 : Int32 × MS) (z1 : MS) (T : MS) (p0 p1 p2 : Int32) : Int32 × MS := opq (z2.1, z2.2)
theorem e_X4_lay_k2 (z2 : Int32 × MS) (z1 : MS) (T : MS) (p0 p1 p2 : Int32) : f_X4_lay_k2 z2 z1 T p0 p1 p2 = (z2.1, z2.2) := opq_eq _
noncomputable def f_X4_lay_k1 (z1 : MS) (T : MS) (p0 p1 p2 : Int32) : Int32 × MS := opq (f_X4_lay_k2 (f_X4_laid_1 z1 p0 p1 p2) z1 T p0 p1 p2)
theorem e_X4_lay_k1 (z1 : MS) (T : MS) (p0 p1 p2 : Int32) : f_X4_lay_k1 z1 T p0 p1 p2 = (f_X4_lay_k2 (f_X4_laid_1 z1 p0 p1 p2) z1 T p0 p1 p2) := opq_eq _
noncomputable def f_X4_lay (T : MS) (p0 p1 p2 : Int32) : Int32 × MS := opq (if (f_X4_isPad p0) = 0 then ((-1), T) else (if (f_X4_isLead p1) = 0 then ((-1), T) else (if (f_X4_isHeight p2) = 0 then ((-2), T) else (if 0 ≤ (f_X4_mayLay T 1 p0 p1) then (f_X4_lay_k1 (f_X4_records T) T p0 p1 p2) else ((f_X4_mayLay T 1 p0 p1), T)))))
theorem e_X4_lay (T : MS) (p0 p1 p2 : Int32) : f_X4_lay T p0 p1 p2 = (if (f_X4_isPad p0) = 0 then ((-1), T) else (if (f_X4_isLead p1) = 0 then ((-1), T) else (if (f_X4_isHeight p2) = 0 then ((-2), T) else (if 0 ≤ (f_X4_mayLay T 1 p0 p1) then (f_X4_lay_k1 (f_X4_records T) T p0 p1 p2) else ((f_X4_mayLay T 1 p0 p1), T))))) := opq_eq _
set_option maxHeartbeats 4000000 in
set_option maxRecDepth 100000 in
theorem c_X4_lay (l : Launch) (G : GG) (B : Nat → Nat) (T : MS) (p0 p1 p2 : Int32) (q : Nat) (hq : T 0 0 = nI q) (hq4 : q ≤ 4) : Mm l yX4_lay wsX4_lay ({ frames := 3, cells := 0, slots := 0, locals := 71 } : Room) G [.ref (B 0), .int p0, .int p1, .int p2] (wM G B T) (f_X4_lay T p0 p1 p2).1 (wM G B (f_X4_lay T p0 p1 p2).2) := by
  refine Mm.of (cc := cX4_lay) (maxL := 5) (ret := (some .int)) (by decide) rfl (Nat.le_of_ble_eq_true rfl) ?_
  intro p e s m args below meth c A0 hA0 E hr hlocks hP hK hD hA hS ls hl
  have E : CallFix p m c cX4_lay 5 s args wsX4_lay RX4 := E
  have hx := E.1
  have hb := E.2.1
  have hml := E.2.2.1
  have hown := E.2.2.2.1
  have hts := E.2.2.2.2
  have hl : lv_has ls 5 [(0, .ref (B 0)), (1, .int p0), (2, .int p1), (3, .int p2)] := hl
  have hinX4 : ∀ w ∈ u_ws RX4 TX4 11, w ∈ wsX4_lay := fun _ h => List.mem_cons_of_mem _ (List.mem_append_right _ h)
  refine lv_iload_n hx hb dX4_lay_0 rfl (lv_at hl 1 rfl) ?_
  refine cpS (rest := []) (As := [.int p0]) E (c_X4_isPad l G B T p0) (va_cwS 1 hts gX4_lay_X4_isPad rfl rfl rfl (by decide +kernel) ⟨Nat.le_of_ble_eq_true rfl, Nat.le_of_ble_eq_true rfl⟩) hK hP rfl hl.1 rfl (Nat.le_of_ble_eq_true rfl) dX4_lay_1 ⟨Nat.zero_le _, Nat.zero_le _⟩ ?_
  refine lv_if_eq (tgt := 14) hx hb dX4_lay_4 (by decide) (fun c1 => ?_) (fun c1 => ?_)
  · skip
    refine lv_iconst (v := (-1)) hx hb dX4_lay_14 (by decide) ?_
    have hfin : ((-1), T) = (f_X4_lay T p0 p1 p2) := Eq.symm (Eq.trans (e_X4_lay T p0 p1 p2) ((if_pos c1)))
    exact endM hx hb hr hlocks rfl hP hD hS ⟨@congrArg (Int32 × MS) Int32 ((-1), T) (f_X4_lay T p0 p1 p2) Prod.fst hfin, @congrArg (Int32 × MS) va_W ((-1), T) (f_X4_lay T p0 p1 p2) (fun z => wM G B z.2) hfin⟩ dX4_lay_15
  · skip
    refine lv_iload_n hx hb dX4_lay_7 rfl (lv_at hl 2 rfl) ?_
    refine cpS (rest := []) (As := [.int p1]) E (c_X4_isLead l G B T p1) (va_cwS 1 hts gX4_lay_X4_isLead rfl rfl rfl (by decide +kernel) ⟨Nat.le_of_ble_eq_true rfl, Nat.le_of_ble_eq_true rfl⟩) hK hP rfl hl.1 rfl (Nat.le_of_ble_eq_true rfl) dX4_lay_8 ⟨Nat.zero_le _, Nat.zero_le _⟩ ?_
    refine lv_if_ne (tgt := 16) hx hb dX4_lay_11 (by decide) (fun c2 => ?_) (fun c2 => ?_)
    · skip
      refine lv_iload_n hx hb dX4_lay_16 rfl (lv_at hl 3 rfl) ?_
      refine cpS (rest := []) (As := [.int p2]) E (c_X4_isHeight l G B T p2) (va_cwS 1 hts gX4_lay_X4_isHeight rfl rfl rfl (by decide +kernel) ⟨Nat.le_of_ble_eq_true rfl, Nat.le_of_ble_eq_true rfl⟩) hK hP rfl hl.1 rfl (Nat.le_of_ble_eq_true rfl) dX4_lay_17 ⟨Nat.zero_le _, Nat.zero_le _⟩ ?_
      refine lv_if_ne (tgt := 26) hx hb dX4_lay_20 (by decide) (fun c3 => ?_) (fun c3 => ?_)
      · skip
        refine lv_aload_n hx hb dX4_lay_26 rfl (lv_at hl 0 rfl) ?_
        refine va_get (D := G.1) (ci := 4) (v := .ref (B 1)) (C := RX4) (T := TX4) (N := 11) hx hb hts hinX4 hown hK.1 hP 0 (wM_o G B T) rfl 0 (by decide) (hts (.fieldLink RX4 7 "WireLoopsModel" "now" "[I") (List.mem_of_getElem? (i := 1) rfl)) (fun _ h9 => h9) rfl dX4_lay_27 ?_
        refine lv_iload_n hx hb dX4_lay_30 rfl (lv_at hl 1 rfl) ?_
        refine lv_iload_n hx hb dX4_lay_31 rfl (lv_at hl 2 rfl) ?_
        refine cpS (rest := []) (As := [.ref (B 1), .int p0, .int p1]) E (c_X4_mayLay l G B T 1 p0 p1 (by decide) (by decide) (in_pM c1)) (va_cwS 3 hts gX4_lay_X4_mayLay rfl rfl rfl (by decide +kernel) ⟨Nat.le_of_ble_eq_true rfl, Nat.le_of_ble_eq_true rfl⟩) hK hP rfl hl.1 rfl (Nat.le_of_ble_eq_true rfl) dX4_lay_32 ⟨Nat.zero_le _, Nat.zero_le _⟩ ?_
        refine lv_istore (lv' := [(4, .int (f_X4_mayLay T 1 p0 p1)), (0, .ref (B 0)), (1, .int p0), (2, .int p1), (3, .int p2)]) hx hb dX4_lay_35 hl (by decide) rfl (fun ls hl => ?_)
        refine lv_iload hx hb dX4_lay_37 (lv_at hl 0 rfl) ?_
        refine lv_if_ge (tgt := 45) hx hb dX4_lay_39 (by decide) (fun c4 => ?_) (fun c4 => ?_)
        · skip
          refine lv_aload_n hx hb dX4_lay_45 rfl (lv_at hl 1 rfl) ?_
          refine czV (rest := []) (As := []) E (c_X4_records l G B T q hq hq4) (cwV 0 hts gX4_lay_X4_records rfl rfl rfl (by decide +kernel) ⟨Nat.le_of_ble_eq_true rfl, Nat.le_of_ble_eq_true rfl⟩) hK hP hD hS hA 0 (wM_o G B T) rfl rfl hl.1 rfl (Nat.le_of_ble_eq_true rfl) dX4_lay_46 ⟨Nat.zero_le _, Nat.zero_le _⟩ (fun H locs hP hD hS => ?_)
          have hres1 : f_X4_lay_k1 (f_X4_records T) T p0 p1 p2 = (f_X4_lay T p0 p1 p2) := Eq.symm (Eq.trans (e_X4_lay T p0 p1 p2) (Eq.trans (if_neg c1) (Eq.trans (if_neg c2) (Eq.trans (if_neg c3) ((if_pos c4))))))
          generalize hz1 : (f_X4_records T) = z1 at hres1 hP hD ⊢
          refine lv_aload_n hx hb dX4_lay_49 rfl (lv_at hl 1 rfl) ?_
          refine va_get (D := G.1) (ci := 4) (v := .ref (B 1)) (C := RX4) (T := TX4) (N := 11) hx hb hts hinX4 hown hK.1 hP 0 (wM_o G B z1) rfl 0 (by decide) (hts (.fieldLink RX4 7 "WireLoopsModel" "now" "[I") (List.mem_of_getElem? (i := 1) rfl)) (fun _ h9 => h9) rfl dX4_lay_50 ?_
          refine lv_iload_n hx hb dX4_lay_53 rfl (lv_at hl 2 rfl) ?_
          refine lv_iload_n hx hb dX4_lay_54 rfl (lv_at hl 3 rfl) ?_
          refine lv_iload_n hx hb dX4_lay_55 rfl (lv_at hl 4 rfl) ?_
          refine cmS (rest := []) (As := [.ref (B 1), .int p0, .int p1, .int p2]) E (c_X4_laid_1 l G B z1 p0 p1 p2 (in_pM c1) (in_lM c2)) (va_cwS 4 hts gX4_lay_X4_laid rfl rfl rfl (by decide +kernel) ⟨Nat.le_of_ble_eq_true rfl, Nat.le_of_ble_eq_true rfl⟩) hK hP hD hS hA rfl hl.1 rfl (Nat.le_of_ble_eq_true rfl) dX4_lay_56 ⟨Nat.zero_le _, Nat.zero_le _⟩ (fun H locs hP hD hS => ?_)
          have hres2 : f_X4_lay_k2 (f_X4_laid_1 z1 p0 p1 p2) z1 T p0 p1 p2 = (f_X4_lay T p0 p1 p2) := Eq.trans (Eq.symm ((e_X4_lay_k1 z1 T p0 p1 p2))) hres1
          generalize hz2 : (f_X4_laid_1 z1 p0 p1 p2) = z2 at hres2 hP hD ⊢
          have hfin : (z2.1, z2.2) = (f_X4_lay T p0 p1 p2) := Eq.trans (Eq.symm ((e_X4_lay_k2 z2 z1 T p0 p1 p2))) hres2
          exact endM hx hb hr hlocks rfl hP hD hS ⟨@congrArg (Int32 × MS) Int32 (z2.1, z2.2) (f_X4_lay T p0 p1 p2) Prod.fst hfin, @congrArg (Int32 × MS) va_W (z2.1, z2.2) (f_X4_lay T p0 p1 p2) (fun z => wM G B z.2) hfin⟩ dX4_lay_59
        · skip
          refine lv_iload hx hb dX4_lay_42 (lv_at hl 0 rfl) ?_
          have hfin : ((f_X4_mayLay T 1 p0 p1), T) = (f_X4_lay T p0 p1 p2) := Eq.symm (Eq.trans (e_X4_lay T p0 p1 p2) (Eq.trans (if_neg c1) (Eq.trans (if_neg c2) (Eq.trans (if_neg c3) ((if_neg c4))))))
          exact endM hx hb hr hlocks rfl hP hD hS ⟨@congrArg (Int32 × MS) Int32 ((f_X4_mayLay T 1 p0 p1), T) (f_X4_lay T p0 p1 p2) Prod.fst hfin, @congrArg (Int32 × MS) va_W ((f_X4_mayLay T 1 p0 p1), T) (f_X4_lay T p0 p1 p2) (fun z => wM G B z.2) hfin⟩ dX4_lay_44
      · skip
        refine lv_bipush (v := (-2)) hx hb dX4_lay_23 (by decide) ?_
        have hfin : ((-2), T) = (f_X4_lay T p0 p1 p2) := Eq.symm (Eq.trans (e_X4_lay T p0 p1 p2) (Eq.trans (if_neg c1) (Eq.trans (if_neg c2) ((if_pos c3)))))
        exact endM hx hb hr hlocks rfl hP hD hS ⟨@congrArg (Int32 × MS) Int32 ((-2), T) (f_X4_lay T p0 p1 p2) Prod.fst hfin, @congrArg (Int32 × MS) va_W ((-2), T) (f_X4_lay T p0 p1 p2) (fun z => wM G B z.2) hfin⟩ dX4_lay_25
    · skip
      refine lv_iconst (v := (-1)) hx hb dX4_lay_14 (by decide) ?_
      have hfin : ((-1), T) = (f_X4_lay T p0 p1 p2) := Eq.symm (Eq.trans (e_X4_lay T p0 p1 p2) (Eq.trans (if_neg c1) ((if_pos c2))))
      exact endM hx hb hr hlocks rfl hP hD hS ⟨@congrArg (Int32 × MS) Int32 ((-1), T) (f_X4_lay T p0 p1 p2) Prod.fst hfin, @congrArg (Int32 × MS) va_W ((-1), T) (f_X4_lay T p0 p1 p2) (fun z => wM G B z.2) hfin⟩ dX4_lay_15
noncomputable def f_X4_takeOff_k2 (z2 : MS) (z1 : MS) (T : MS) (p0 : Int32) : Int32 × MS := opq ((f_X4_of z1 1 p0 2), z2)
theorem e_X4_takeOff_k2 (z2 : MS) (z1 : MS) (T : MS) (p0 : Int32) : f_X4_takeOff_k2 z2 z1 T p0 = ((f_X4_of z1 1 p0 2), z2) := opq_eq _
noncomputable def f_X4_takeOff_k1 (z1 : MS) (T : MS) (p0 : Int32) : Int32 × MS := opq (f_X4_takeOff_k2 (f_X4_goes z1 p0) z1 T p0)
theorem e_X4_takeOff_k1 (z1 : MS) (T : MS) (p0 : Int32) : f_X4_takeOff_k1 z1 T p0 = (f_X4_takeOff_k2 (f_X4_goes z1 p0) z1 T p0) := opq_eq _
noncomputable def f_X4_takeOff (T : MS) (p0 : Int32) : Int32 × MS := opq (if (f_X4_hasWire T p0) = 0 then ((-1), T) else (f_X4_takeOff_k1 (f_X4_records T) T p0))
theorem e_X4_takeOff (T : MS) (p0 : Int32) : f_X4_takeOff T p0 = (if (f_X4_hasWire T p0) = 0 then ((-1), T) else (f_X4_takeOff_k1 (f_X4_records T) T p0)) := opq_eq _
set_option maxHeartbeats 4000000 in
set_option maxRecDepth 100000 in
theorem c_X4_takeOff (l : Launch) (G : GG) (B : Nat → Nat) (T : MS) (p0 : Int32) (q : Nat) (hq : T 0 0 = nI q) (hq4 : q ≤ 4) : Mm l yX4_takeOff wsX4_takeOff ({ frames := 3, cells := 0, slots := 0, locals := 63 } : Room) G [.ref (B 0), .int p0] (wM G B T) (f_X4_takeOff T p0).1 (wM G B (f_X4_takeOff T p0).2) := by
  refine Mm.of (cc := cX4_takeOff) (maxL := 3) (ret := (some .int)) (by decide) rfl (Nat.le_of_ble_eq_true rfl) ?_
  intro p e s m args below meth c A0 hA0 E hr hlocks hP hK hD hA hS ls hl
  have E : CallFix p m c cX4_takeOff 3 s args wsX4_takeOff RX4 := E
  have hx := E.1
  have hb := E.2.1
  have hml := E.2.2.1
  have hown := E.2.2.2.1
  have hts := E.2.2.2.2
  have hl : lv_has ls 3 [(0, .ref (B 0)), (1, .int p0)] := hl
  have hinX4 : ∀ w ∈ u_ws RX4 TX4 11, w ∈ wsX4_takeOff := fun _ h => List.mem_cons_of_mem _ (List.mem_append_right _ h)
  refine lv_aload_n hx hb dX4_takeOff_0 rfl (lv_at hl 0 rfl) ?_
  refine lv_iload_n hx hb dX4_takeOff_1 rfl (lv_at hl 1 rfl) ?_
  refine cpV (rest := []) (As := [.int p0]) E (c_X4_hasWire l G B T p0) (cwV 1 hts gX4_takeOff_X4_hasWire rfl rfl rfl (by decide +kernel) ⟨Nat.le_of_ble_eq_true rfl, Nat.le_of_ble_eq_true rfl⟩) hK hP 0 (wM_o G B T) rfl rfl hl.1 rfl (Nat.le_of_ble_eq_true rfl) dX4_takeOff_2 ⟨Nat.zero_le _, Nat.zero_le _⟩ ?_
  refine lv_if_ne (tgt := 10) hx hb dX4_takeOff_5 (by decide) (fun c1 => ?_) (fun c1 => ?_)
  · skip
    refine lv_aload_n hx hb dX4_takeOff_10 rfl (lv_at hl 0 rfl) ?_
    refine czV (rest := []) (As := []) E (c_X4_records l G B T q hq hq4) (cwV 0 hts gX4_takeOff_X4_records rfl rfl rfl (by decide +kernel) ⟨Nat.le_of_ble_eq_true rfl, Nat.le_of_ble_eq_true rfl⟩) hK hP hD hS hA 0 (wM_o G B T) rfl rfl hl.1 rfl (Nat.le_of_ble_eq_true rfl) dX4_takeOff_11 ⟨Nat.zero_le _, Nat.zero_le _⟩ (fun H locs hP hD hS => ?_)
    have hres1 : f_X4_takeOff_k1 (f_X4_records T) T p0 = (f_X4_takeOff T p0) := Eq.symm (Eq.trans (e_X4_takeOff T p0) ((if_neg c1)))
    generalize hz1 : (f_X4_records T) = z1 at hres1 hP hD ⊢
    refine lv_aload_n hx hb dX4_takeOff_14 rfl (lv_at hl 0 rfl) ?_
    refine va_get (D := G.1) (ci := 4) (v := .ref (B 1)) (C := RX4) (T := TX4) (N := 11) hx hb hts hinX4 hown hK.1 hP 0 (wM_o G B z1) rfl 0 (by decide) (hts (.fieldLink RX4 7 "WireLoopsModel" "now" "[I") (List.mem_of_getElem? (i := 1) rfl)) (fun _ h9 => h9) rfl dX4_takeOff_15 ?_
    refine lv_iload_n hx hb dX4_takeOff_18 rfl (lv_at hl 1 rfl) ?_
    refine lv_iconst (v := 2) hx hb dX4_takeOff_19 (by decide) ?_
    refine cpS (rest := []) (As := [.ref (B 1), .int p0, .int 2]) E (c_X4_of l G B z1 1 p0 2 (by decide) (by decide) (of_in 1 (in_hasM c1) w2)) (va_cwS 3 hts gX4_takeOff_X4_of rfl rfl rfl (by decide +kernel) ⟨Nat.le_of_ble_eq_true rfl, Nat.le_of_ble_eq_true rfl⟩) hK hP rfl hl.1 rfl (Nat.le_of_ble_eq_true rfl) dX4_takeOff_20 ⟨Nat.zero_le _, Nat.zero_le _⟩ ?_
    refine lv_istore_n (lv' := [(2, .int (f_X4_of z1 1 p0 2)), (0, .ref (B 0)), (1, .int p0)]) hx hb dX4_takeOff_23 rfl hl (by decide) rfl (fun ls hl => ?_)
    refine lv_aload_n hx hb dX4_takeOff_24 rfl (lv_at hl 1 rfl) ?_
    refine lv_iload_n hx hb dX4_takeOff_25 rfl (lv_at hl 2 rfl) ?_
    refine czV (rest := []) (As := [.int p0]) E (c_X4_goes l G B z1 p0 (in_hasM c1)) (cwV 1 hts gX4_takeOff_X4_goes rfl rfl rfl (by decide +kernel) ⟨Nat.le_of_ble_eq_true rfl, Nat.le_of_ble_eq_true rfl⟩) hK hP hD hS hA 0 (wM_o G B z1) rfl rfl hl.1 rfl (Nat.le_of_ble_eq_true rfl) dX4_takeOff_26 ⟨Nat.zero_le _, Nat.zero_le _⟩ (fun H locs hP hD hS => ?_)
    have hres2 : f_X4_takeOff_k2 (f_X4_goes z1 p0) z1 T p0 = (f_X4_takeOff T p0) := Eq.trans (Eq.symm ((e_X4_takeOff_k1 z1 T p0))) hres1
    generalize hz2 : (f_X4_goes z1 p0) = z2 at hres2 hP hD ⊢
    refine lv_iload_n hx hb dX4_takeOff_29 rfl (lv_at hl 0 rfl) ?_
    have hfin : ((f_X4_of z1 1 p0 2), z2) = (f_X4_takeOff T p0) := Eq.trans (Eq.symm ((e_X4_takeOff_k2 z2 z1 T p0))) hres2
    exact endM hx hb hr hlocks rfl hP hD hS ⟨@congrArg (Int32 × MS) Int32 ((f_X4_of z1 1 p0 2), z2) (f_X4_takeOff T p0) Prod.fst hfin, @congrArg (Int32 × MS) va_W ((f_X4_of z1 1 p0 2), z2) (f_X4_takeOff T p0) (fun z => wM G B z.2) hfin⟩ dX4_takeOff_30
  · skip
    refine lv_iconst (v := (-1)) hx hb dX4_takeOff_8 (by decide) ?_
    have hfin : ((-1), T) = (f_X4_takeOff T p0) := Eq.symm (Eq.trans (e_X4_takeOff T p0) ((if_pos c1)))
    exact endM hx hb hr hlocks rfl hP hD hS ⟨@congrArg (Int32 × MS) Int32 ((-1), T) (f_X4_takeOff T p0) Prod.fst hfin, @congrArg (Int32 × MS) va_W ((-1), T) (f_X4_takeOff T p0) (fun z => wM G B z.2) hfin⟩ dX4_takeOff_9
noncomputable def f_X4_bend (T : MS) (p0 p1 : Int32) : Int32 × MS := opq (if (f_X4_hasWire T p0) = 0 then ((-1), T) else (if (f_X4_isHeight p1) = 0 then ((-2), T) else ((f_X4_becomes T ((16 + (4 * p0)) + 1) p1).1, (f_X4_becomes T ((16 + (4 * p0)) + 1) p1).2)))
theorem e_X4_bend (T : MS) (p0 p1 : Int32) : f_X4_bend T p0 p1 = (if (f_X4_hasWire T p0) = 0 then ((-1), T) else (if (f_X4_isHeight p1) = 0 then ((-2), T) else ((f_X4_becomes T ((16 + (4 * p0)) + 1) p1).1, (f_X4_becomes T ((16 + (4 * p0)) + 1) p1).2))) := opq_eq _
set_option maxHeartbeats 4000000 in
set_option maxRecDepth 100000 in
theorem c_X4_bend (l : Launch) (G : GG) (B : Nat → Nat) (T : MS) (p0 p1 : Int32) (q : Nat) (hq : T 0 0 = nI q) (hq4 : q ≤ 4) : Mm l yX4_bend wsX4_bend ({ frames := 3, cells := 0, slots := 0, locals := 68 } : Room) G [.ref (B 0), .int p0, .int p1] (wM G B T) (f_X4_bend T p0 p1).1 (wM G B (f_X4_bend T p0 p1).2) := by
  refine Mm.of (cc := cX4_bend) (maxL := 3) (ret := (some .int)) (by decide) rfl (Nat.le_of_ble_eq_true rfl) ?_
  intro p e s m args below meth c A0 hA0 E hr hlocks hP hK hD hA hS ls hl
  have E : CallFix p m c cX4_bend 3 s args wsX4_bend RX4 := E
  have hx := E.1
  have hb := E.2.1
  have hml := E.2.2.1
  have hown := E.2.2.2.1
  have hts := E.2.2.2.2
  have hl : lv_has ls 3 [(0, .ref (B 0)), (1, .int p0), (2, .int p1)] := hl
  refine lv_aload_n hx hb dX4_bend_0 rfl (lv_at hl 0 rfl) ?_
  refine lv_iload_n hx hb dX4_bend_1 rfl (lv_at hl 1 rfl) ?_
  refine cpV (rest := []) (As := [.int p0]) E (c_X4_hasWire l G B T p0) (cwV 1 hts gX4_bend_X4_hasWire rfl rfl rfl (by decide +kernel) ⟨Nat.le_of_ble_eq_true rfl, Nat.le_of_ble_eq_true rfl⟩) hK hP 0 (wM_o G B T) rfl rfl hl.1 rfl (Nat.le_of_ble_eq_true rfl) dX4_bend_2 ⟨Nat.zero_le _, Nat.zero_le _⟩ ?_
  refine lv_if_ne (tgt := 10) hx hb dX4_bend_5 (by decide) (fun c1 => ?_) (fun c1 => ?_)
  · skip
    refine lv_iload_n hx hb dX4_bend_10 rfl (lv_at hl 2 rfl) ?_
    refine cpS (rest := []) (As := [.int p1]) E (c_X4_isHeight l G B T p1) (va_cwS 1 hts gX4_bend_X4_isHeight rfl rfl rfl (by decide +kernel) ⟨Nat.le_of_ble_eq_true rfl, Nat.le_of_ble_eq_true rfl⟩) hK hP rfl hl.1 rfl (Nat.le_of_ble_eq_true rfl) dX4_bend_11 ⟨Nat.zero_le _, Nat.zero_le _⟩ ?_
    refine lv_if_eq (tgt := 33) hx hb dX4_bend_14 (by decide) (fun c2 => ?_) (fun c2 => ?_)
    · skip
      refine lv_bipush (v := (-2)) hx hb dX4_bend_33 (by decide) ?_
      have hfin : ((-2), T) = (f_X4_bend T p0 p1) := Eq.symm (Eq.trans (e_X4_bend T p0 p1) (Eq.trans (if_neg c1) ((if_pos c2))))
      exact endM hx hb hr hlocks rfl hP hD hS ⟨@congrArg (Int32 × MS) Int32 ((-2), T) (f_X4_bend T p0 p1) Prod.fst hfin, @congrArg (Int32 × MS) va_W ((-2), T) (f_X4_bend T p0 p1) (fun z => wM G B z.2) hfin⟩ dX4_bend_35
    · skip
      refine lv_aload_n hx hb dX4_bend_17 rfl (lv_at hl 0 rfl) ?_
      refine lv_bipush (v := 16) hx hb dX4_bend_18 (by decide) ?_
      refine lv_iconst (v := 4) hx hb dX4_bend_20 (by decide) ?_
      refine lv_iload_n hx hb dX4_bend_21 rfl (lv_at hl 1 rfl) ?_
      refine lv_imul hx hb dX4_bend_22 ?_
      refine lv_iadd hx hb dX4_bend_23 ?_
      refine lv_iconst (v := 1) hx hb dX4_bend_24 (by decide) ?_
      refine lv_iadd hx hb dX4_bend_25 ?_
      refine lv_iload_n hx hb dX4_bend_26 rfl (lv_at hl 2 rfl) ?_
      refine cmV (rest := []) (As := [.int ((16 + (4 * p0)) + 1), .int p1]) E (c_X4_becomes l G B T ((16 + (4 * p0)) + 1) p1 (of_in 1 (in_hasM c1) w1) q hq hq4) (cwV 2 hts gX4_bend_X4_becomes rfl rfl rfl (by decide +kernel) ⟨Nat.le_of_ble_eq_true rfl, Nat.le_of_ble_eq_true rfl⟩) hK hP hD hS hA 0 (wM_o G B T) rfl rfl hl.1 rfl (Nat.le_of_ble_eq_true rfl) dX4_bend_27 ⟨Nat.zero_le _, Nat.zero_le _⟩ (fun H locs hP hD hS => ?_)
      refine lv_goto (tgt := 35) hx hb dX4_bend_30 (by decide) ?_
      have hfin : ((f_X4_becomes T ((16 + (4 * p0)) + 1) p1).1, (f_X4_becomes T ((16 + (4 * p0)) + 1) p1).2) = (f_X4_bend T p0 p1) := Eq.symm (Eq.trans (e_X4_bend T p0 p1) (Eq.trans (if_neg c1) ((if_neg c2))))
      exact endM hx hb hr hlocks rfl hP hD hS ⟨@congrArg (Int32 × MS) Int32 ((f_X4_becomes T ((16 + (4 * p0)) + 1) p1).1, (f_X4_becomes T ((16 + (4 * p0)) + 1) p1).2) (f_X4_bend T p0 p1) Prod.fst hfin, @congrArg (Int32 × MS) va_W ((f_X4_becomes T ((16 + (4 * p0)) + 1) p1).1, (f_X4_becomes T ((16 + (4 * p0)) + 1) p1).2) (f_X4_bend T p0 p1) (fun z => wM G B z.2) hfin⟩ dX4_bend_35
  · skip
    refine lv_iconst (v := (-1)) hx hb dX4_bend_8 (by decide) ?_
    have hfin : ((-1), T) = (f_X4_bend T p0 p1) := Eq.symm (Eq.trans (e_X4_bend T p0 p1) ((if_pos c1)))
    exact endM hx hb hr hlocks rfl hP hD hS ⟨@congrArg (Int32 × MS) Int32 ((-1), T) (f_X4_bend T p0 p1) Prod.fst hfin, @congrArg (Int32 × MS) va_W ((-1), T) (f_X4_bend T p0 p1) (fun z => wM G B z.2) hfin⟩ dX4_bend_9
noncomputable def f_X4_moveLead (T : MS) (p0 p1 : Int32) : Int32 × MS := opq (if (f_X4_isLead p0) = 0 then ((-1), T) else (if (f_X4_in p1 0 600) = 0 then ((-2), T) else (if (f_X4_padOf T 1 p0) = (-5) then ((f_X4_becomes T (0 + p0) p1).1, (f_X4_becomes T (0 + p0) p1).2) else ((-4), T))))
theorem e_X4_moveLead (T : MS) (p0 p1 : Int32) : f_X4_moveLead T p0 p1 = (if (f_X4_isLead p0) = 0 then ((-1), T) else (if (f_X4_in p1 0 600) = 0 then ((-2), T) else (if (f_X4_padOf T 1 p0) = (-5) then ((f_X4_becomes T (0 + p0) p1).1, (f_X4_becomes T (0 + p0) p1).2) else ((-4), T)))) := opq_eq _
set_option maxHeartbeats 4000000 in
set_option maxRecDepth 100000 in
theorem c_X4_moveLead (l : Launch) (G : GG) (B : Nat → Nat) (T : MS) (p0 p1 : Int32) (q : Nat) (hq : T 0 0 = nI q) (hq4 : q ≤ 4) : Mm l yX4_moveLead wsX4_moveLead ({ frames := 3, cells := 0, slots := 0, locals := 68 } : Room) G [.ref (B 0), .int p0, .int p1] (wM G B T) (f_X4_moveLead T p0 p1).1 (wM G B (f_X4_moveLead T p0 p1).2) := by
  refine Mm.of (cc := cX4_moveLead) (maxL := 3) (ret := (some .int)) (by decide) rfl (Nat.le_of_ble_eq_true rfl) ?_
  intro p e s m args below meth c A0 hA0 E hr hlocks hP hK hD hA hS ls hl
  have E : CallFix p m c cX4_moveLead 3 s args wsX4_moveLead RX4 := E
  have hx := E.1
  have hb := E.2.1
  have hml := E.2.2.1
  have hown := E.2.2.2.1
  have hts := E.2.2.2.2
  have hl : lv_has ls 3 [(0, .ref (B 0)), (1, .int p0), (2, .int p1)] := hl
  have hinX4 : ∀ w ∈ u_ws RX4 TX4 11, w ∈ wsX4_moveLead := fun _ h => List.mem_cons_of_mem _ (List.mem_append_right _ h)
  refine lv_iload_n hx hb dX4_moveLead_0 rfl (lv_at hl 1 rfl) ?_
  refine cpS (rest := []) (As := [.int p0]) E (c_X4_isLead l G B T p0) (va_cwS 1 hts gX4_moveLead_X4_isLead rfl rfl rfl (by decide +kernel) ⟨Nat.le_of_ble_eq_true rfl, Nat.le_of_ble_eq_true rfl⟩) hK hP rfl hl.1 rfl (Nat.le_of_ble_eq_true rfl) dX4_moveLead_1 ⟨Nat.zero_le _, Nat.zero_le _⟩ ?_
  refine lv_if_ne (tgt := 9) hx hb dX4_moveLead_4 (by decide) (fun c1 => ?_) (fun c1 => ?_)
  · skip
    refine lv_iload_n hx hb dX4_moveLead_9 rfl (lv_at hl 2 rfl) ?_
    refine lv_iconst (v := 0) hx hb dX4_moveLead_10 (by decide) ?_
    refine lv_sipush (v := 600) hx hb dX4_moveLead_11 (by decide) ?_
    refine cpS (rest := []) (As := [.int p1, .int 0, .int 600]) E (c_X4_in l G B T p1 0 600) (va_cwS 3 hts gX4_moveLead_X4_in rfl rfl rfl (by decide +kernel) ⟨Nat.le_of_ble_eq_true rfl, Nat.le_of_ble_eq_true rfl⟩) hK hP rfl hl.1 rfl (Nat.le_of_ble_eq_true rfl) dX4_moveLead_14 ⟨Nat.zero_le _, Nat.zero_le _⟩ ?_
    refine lv_if_ne (tgt := 23) hx hb dX4_moveLead_17 (by decide) (fun c2 => ?_) (fun c2 => ?_)
    · skip
      refine lv_aload_n hx hb dX4_moveLead_23 rfl (lv_at hl 0 rfl) ?_
      refine va_get (D := G.1) (ci := 4) (v := .ref (B 1)) (C := RX4) (T := TX4) (N := 11) hx hb hts hinX4 hown hK.1 hP 0 (wM_o G B T) rfl 0 (by decide) (hts (.fieldLink RX4 7 "WireLoopsModel" "now" "[I") (List.mem_of_getElem? (i := 1) rfl)) (fun _ h9 => h9) rfl dX4_moveLead_24 ?_
      refine lv_iload_n hx hb dX4_moveLead_27 rfl (lv_at hl 1 rfl) ?_
      refine cpS (rest := []) (As := [.ref (B 1), .int p0]) E (c_X4_padOf l G B T 1 p0 (by decide) (by decide)) (va_cwS 2 hts gX4_moveLead_X4_padOf rfl rfl rfl (by decide +kernel) ⟨Nat.le_of_ble_eq_true rfl, Nat.le_of_ble_eq_true rfl⟩) hK hP rfl hl.1 rfl (Nat.le_of_ble_eq_true rfl) dX4_moveLead_28 ⟨Nat.zero_le _, Nat.zero_le _⟩ ?_
      refine lv_bipush (v := (-5)) hx hb dX4_moveLead_31 (by decide) ?_
      refine lv_icmp_eq (tgt := 41) hx hb dX4_moveLead_33 (by decide) (fun c3 => ?_) (fun c3 => ?_)
      · skip
        refine lv_aload_n hx hb dX4_moveLead_41 rfl (lv_at hl 0 rfl) ?_
        refine lv_iconst (v := 0) hx hb dX4_moveLead_42 (by decide) ?_
        refine lv_iload_n hx hb dX4_moveLead_43 rfl (lv_at hl 1 rfl) ?_
        refine lv_iadd hx hb dX4_moveLead_44 ?_
        refine lv_iload_n hx hb dX4_moveLead_45 rfl (lv_at hl 2 rfl) ?_
        refine cmV (rest := []) (As := [.int (0 + p0), .int p1]) E (c_X4_becomes l G B T (0 + p0) p1 (lead_in 1 (in_lM c1)) q hq hq4) (cwV 2 hts gX4_moveLead_X4_becomes rfl rfl rfl (by decide +kernel) ⟨Nat.le_of_ble_eq_true rfl, Nat.le_of_ble_eq_true rfl⟩) hK hP hD hS hA 0 (wM_o G B T) rfl rfl hl.1 rfl (Nat.le_of_ble_eq_true rfl) dX4_moveLead_46 ⟨Nat.zero_le _, Nat.zero_le _⟩ (fun H locs hP hD hS => ?_)
        have hfin : ((f_X4_becomes T (0 + p0) p1).1, (f_X4_becomes T (0 + p0) p1).2) = (f_X4_moveLead T p0 p1) := Eq.symm (Eq.trans (e_X4_moveLead T p0 p1) (Eq.trans (if_neg c1) (Eq.trans (if_neg c2) ((if_pos c3)))))
        exact endM hx hb hr hlocks rfl hP hD hS ⟨@congrArg (Int32 × MS) Int32 ((f_X4_becomes T (0 + p0) p1).1, (f_X4_becomes T (0 + p0) p1).2) (f_X4_moveLead T p0 p1) Prod.fst hfin, @congrArg (Int32 × MS) va_W ((f_X4_becomes T (0 + p0) p1).1, (f_X4_becomes T (0 + p0) p1).2) (f_X4_moveLead T p0 p1) (fun z => wM G B z.2) hfin⟩ dX4_moveLead_49
      · skip
        refine lv_bipush (v := (-4)) hx hb dX4_moveLead_36 (by decide) ?_
        refine lv_goto (tgt := 49) hx hb dX4_moveLead_38 (by decide) ?_
        have hfin : ((-4), T) = (f_X4_moveLead T p0 p1) := Eq.symm (Eq.trans (e_X4_moveLead T p0 p1) (Eq.trans (if_neg c1) (Eq.trans (if_neg c2) ((if_neg c3)))))
        exact endM hx hb hr hlocks rfl hP hD hS ⟨@congrArg (Int32 × MS) Int32 ((-4), T) (f_X4_moveLead T p0 p1) Prod.fst hfin, @congrArg (Int32 × MS) va_W ((-4), T) (f_X4_moveLead T p0 p1) (fun z => wM G B z.2) hfin⟩ dX4_moveLead_49
    · skip
      refine lv_bipush (v := (-2)) hx hb dX4_moveLead_20 (by decide) ?_
      have hfin : ((-2), T) = (f_X4_moveLead T p0 p1) := Eq.symm (Eq.trans (e_X4_moveLead T p0 p1) (Eq.trans (if_neg c1) ((if_pos c2))))
      exact endM hx hb hr hlocks rfl hP hD hS ⟨@congrArg (Int32 × MS) Int32 ((-2), T) (f_X4_moveLead T p0 p1) Prod.fst hfin, @congrArg (Int32 × MS) va_W ((-2), T) (f_X4_moveLead T p0 p1) (fun z => wM G B z.2) hfin⟩ dX4_moveLead_22
  · skip
    refine lv_iconst (v := (-1)) hx hb dX4_moveLead_7 (by decide) ?_
    have hfin : ((-1), T) = (f_X4_moveLead T p0 p1) := Eq.symm (Eq.trans (e_X4_moveLead T p0 p1) ((if_pos c1)))
    exact endM hx hb hr hlocks rfl hP hD hS ⟨@congrArg (Int32 × MS) Int32 ((-1), T) (f_X4_moveLead T p0 p1) Prod.fst hfin, @congrArg (Int32 × MS) va_W ((-1), T) (f_X4_moveLead T p0 p1) (fun z => wM G B z.2) hfin⟩ dX4_moveLead_8
noncomputable def f_X4_setWidth (T : MS) (p0 : Int32) : Int32 × MS := opq (if (f_X4_in p0 1 50) = 0 then ((-2), T) else ((f_X4_becomes T 64 p0).1, (f_X4_becomes T 64 p0).2))
theorem e_X4_setWidth (T : MS) (p0 : Int32) : f_X4_setWidth T p0 = (if (f_X4_in p0 1 50) = 0 then ((-2), T) else ((f_X4_becomes T 64 p0).1, (f_X4_becomes T 64 p0).2)) := opq_eq _
set_option maxHeartbeats 4000000 in
set_option maxRecDepth 100000 in
theorem c_X4_setWidth (l : Launch) (G : GG) (B : Nat → Nat) (T : MS) (p0 : Int32) (q : Nat) (hq : T 0 0 = nI q) (hq4 : q ≤ 4) : Mm l yX4_setWidth wsX4_setWidth ({ frames := 3, cells := 0, slots := 0, locals := 68 } : Room) G [.ref (B 0), .int p0] (wM G B T) (f_X4_setWidth T p0).1 (wM G B (f_X4_setWidth T p0).2) := by
  refine Mm.of (cc := cX4_setWidth) (maxL := 2) (ret := (some .int)) (by decide) rfl (Nat.le_of_ble_eq_true rfl) ?_
  intro p e s m args below meth c A0 hA0 E hr hlocks hP hK hD hA hS ls hl
  have E : CallFix p m c cX4_setWidth 2 s args wsX4_setWidth RX4 := E
  have hx := E.1
  have hb := E.2.1
  have hml := E.2.2.1
  have hown := E.2.2.2.1
  have hts := E.2.2.2.2
  have hl : lv_has ls 2 [(0, .ref (B 0)), (1, .int p0)] := hl
  refine lv_iload_n hx hb dX4_setWidth_0 rfl (lv_at hl 1 rfl) ?_
  refine lv_iconst (v := 1) hx hb dX4_setWidth_1 (by decide) ?_
  refine lv_bipush (v := 50) hx hb dX4_setWidth_2 (by decide) ?_
  refine cpS (rest := []) (As := [.int p0, .int 1, .int 50]) E (c_X4_in l G B T p0 1 50) (va_cwS 3 hts gX4_setWidth_X4_in rfl rfl rfl (by decide +kernel) ⟨Nat.le_of_ble_eq_true rfl, Nat.le_of_ble_eq_true rfl⟩) hK hP rfl hl.1 rfl (Nat.le_of_ble_eq_true rfl) dX4_setWidth_4 ⟨Nat.zero_le _, Nat.zero_le _⟩ ?_
  refine lv_if_eq (tgt := 20) hx hb dX4_setWidth_7 (by decide) (fun c1 => ?_) (fun c1 => ?_)
  · skip
    refine lv_bipush (v := (-2)) hx hb dX4_setWidth_20 (by decide) ?_
    have hfin : ((-2), T) = (f_X4_setWidth T p0) := Eq.symm (Eq.trans (e_X4_setWidth T p0) ((if_pos c1)))
    exact endM hx hb hr hlocks rfl hP hD hS ⟨@congrArg (Int32 × MS) Int32 ((-2), T) (f_X4_setWidth T p0) Prod.fst hfin, @congrArg (Int32 × MS) va_W ((-2), T) (f_X4_setWidth T p0) (fun z => wM G B z.2) hfin⟩ dX4_setWidth_22
  · skip
    refine lv_aload_n hx hb dX4_setWidth_10 rfl (lv_at hl 0 rfl) ?_
    refine lv_bipush (v := 64) hx hb dX4_setWidth_11 (by decide) ?_
    refine lv_iload_n hx hb dX4_setWidth_13 rfl (lv_at hl 1 rfl) ?_
    refine cmV (rest := []) (As := [.int 64, .int p0]) E (c_X4_becomes l G B T 64 p0 (cin 64 1 (by decide)) q hq hq4) (cwV 2 hts gX4_setWidth_X4_becomes rfl rfl rfl (by decide +kernel) ⟨Nat.le_of_ble_eq_true rfl, Nat.le_of_ble_eq_true rfl⟩) hK hP hD hS hA 0 (wM_o G B T) rfl rfl hl.1 rfl (Nat.le_of_ble_eq_true rfl) dX4_setWidth_14 ⟨Nat.zero_le _, Nat.zero_le _⟩ (fun H locs hP hD hS => ?_)
    refine lv_goto (tgt := 22) hx hb dX4_setWidth_17 (by decide) ?_
    have hfin : ((f_X4_becomes T 64 p0).1, (f_X4_becomes T 64 p0).2) = (f_X4_setWidth T p0) := Eq.symm (Eq.trans (e_X4_setWidth T p0) ((if_neg c1)))
    exact endM hx hb hr hlocks rfl hP hD hS ⟨@congrArg (Int32 × MS) Int32 ((f_X4_becomes T 64 p0).1, (f_X4_becomes T 64 p0).2) (f_X4_setWidth T p0) Prod.fst hfin, @congrArg (Int32 × MS) va_W ((f_X4_becomes T 64 p0).1, (f_X4_becomes T 64 p0).2) (f_X4_setWidth T p0) (fun z => wM G B z.2) hfin⟩ dX4_setWidth_22
noncomputable def f_X4_changeTool_k1 (z1 : MS) (T : MS) : Int32 × MS := opq (((T 1) 65), (tu (tu z1 1 (upd (z1 1) 65 0)) 1 (upd (upd (z1 1) 65 0) 70 (((upd (z1 1) 65 0) 70) + 1))))
theorem e_X4_changeTool_k1 (z1 : MS) (T : MS) : f_X4_changeTool_k1 z1 T = (((T 1) 65), (tu (tu z1 1 (upd (z1 1) 65 0)) 1 (upd (upd (z1 1) 65 0) 70 (((upd (z1 1) 65 0) 70) + 1)))) := opq_eq _
noncomputable def f_X4_changeTool (T : MS) : Int32 × MS := opq (if ((T 1) 65) = 0 then ((-5), T) else (f_X4_changeTool_k1 (f_X4_records T) T))
theorem e_X4_changeTool (T : MS) : f_X4_changeTool T = (if ((T 1) 65) = 0 then ((-5), T) else (f_X4_changeTool_k1 (f_X4_records T) T)) := opq_eq _
set_option maxHeartbeats 4000000 in
set_option maxRecDepth 100000 in
theorem c_X4_changeTool (l : Launch) (G : GG) (B : Nat → Nat) (T : MS)  (q : Nat) (hq : T 0 0 = nI q) (hq4 : q ≤ 4) : Mm l yX4_changeTool wsX4_changeTool ({ frames := 2, cells := 0, slots := 0, locals := 45 } : Room) G [.ref (B 0)] (wM G B T) (f_X4_changeTool T).1 (wM G B (f_X4_changeTool T).2) := by
  refine Mm.of (cc := cX4_changeTool) (maxL := 2) (ret := (some .int)) (by decide) rfl (Nat.le_of_ble_eq_true rfl) ?_
  intro p e s m args below meth c A0 hA0 E hr hlocks hP hK hD hA hS ls hl
  have E : CallFix p m c cX4_changeTool 2 s args wsX4_changeTool RX4 := E
  have hx := E.1
  have hb := E.2.1
  have hml := E.2.2.1
  have hown := E.2.2.2.1
  have hts := E.2.2.2.2
  have hl : lv_has ls 2 [(0, .ref (B 0))] := hl
  have hinX4 : ∀ w ∈ u_ws RX4 TX4 11, w ∈ wsX4_changeTool := fun _ h => List.mem_cons_of_mem _ (List.mem_append_right _ h)
  refine lv_aload_n hx hb dX4_changeTool_0 rfl (lv_at hl 0 rfl) ?_
  refine va_get (D := G.1) (ci := 4) (v := .ref (B 1)) (C := RX4) (T := TX4) (N := 11) hx hb hts hinX4 hown hK.1 hP 0 (wM_o G B T) rfl 0 (by decide) (hts (.fieldLink RX4 7 "WireLoopsModel" "now" "[I") (List.mem_of_getElem? (i := 1) rfl)) (fun _ h9 => h9) rfl dX4_changeTool_1 ?_
  refine lv_bipush (v := 65) hx hb dX4_changeTool_4 (by decide) ?_
  refine va_iald (D := G.1) hx hb hK.1 hP 1 0 (wM_j G B T 1 (by decide) (by decide)) rfl (cin 65 1 (by decide)) dX4_changeTool_6 ?_
  refine W.eq (g2 := F0 m 7 ls [.int ((T 1) 65)]) (by rw [show (65 : Int32).toNatClampNeg = 65 from by decide] <;> rfl) ?_
  refine lv_istore_n (lv' := [(1, .int ((T 1) 65)), (0, .ref (B 0))]) hx hb dX4_changeTool_7 rfl hl (by decide) rfl (fun ls hl => ?_)
  refine lv_iload_n hx hb dX4_changeTool_8 rfl (lv_at hl 0 rfl) ?_
  refine lv_if_ne (tgt := 15) hx hb dX4_changeTool_9 (by decide) (fun c1 => ?_) (fun c1 => ?_)
  · skip
    refine lv_aload_n hx hb dX4_changeTool_15 rfl (lv_at hl 1 rfl) ?_
    refine czV (rest := []) (As := []) E (c_X4_records l G B T q hq hq4) (cwV 0 hts gX4_changeTool_X4_records rfl rfl rfl (by decide +kernel) ⟨Nat.le_of_ble_eq_true rfl, Nat.le_of_ble_eq_true rfl⟩) hK hP hD hS hA 0 (wM_o G B T) rfl rfl hl.1 rfl (Nat.le_of_ble_eq_true rfl) dX4_changeTool_16 ⟨Nat.zero_le _, Nat.zero_le _⟩ (fun H locs hP hD hS => ?_)
    have hres1 : f_X4_changeTool_k1 (f_X4_records T) T = (f_X4_changeTool T) := Eq.symm (Eq.trans (e_X4_changeTool T) ((if_neg c1)))
    generalize hz1 : (f_X4_records T) = z1 at hres1 hP hD ⊢
    refine lv_aload_n hx hb dX4_changeTool_19 rfl (lv_at hl 1 rfl) ?_
    refine va_get (D := G.1) (ci := 4) (v := .ref (B 1)) (C := RX4) (T := TX4) (N := 11) hx hb hts hinX4 hown hK.1 hP 0 (wM_o G B z1) rfl 0 (by decide) (hts (.fieldLink RX4 7 "WireLoopsModel" "now" "[I") (List.mem_of_getElem? (i := 1) rfl)) (fun _ h9 => h9) rfl dX4_changeTool_20 ?_
    refine lv_bipush (v := 65) hx hb dX4_changeTool_23 (by decide) ?_
    refine lv_iconst (v := 0) hx hb dX4_changeTool_25 (by decide) ?_
    refine va_iast (D := G.1) hx hb hK.1 hP hD hS 1 0 (wM_j G B z1 1 (by decide) (by decide)) rfl (cin 65 1 (by decide)) dX4_changeTool_26 (fun H locs hP hD hS => ?_)
    rw [wM_sj G B z1 1 (by decide) (by decide) _] at hP hD
    rw [show (65 : Int32).toNatClampNeg = 65 from by decide] at hP hD
    have hP : va_P G.1 vwCl (wM G B (tu z1 1 (upd (z1 1) 65 0))) H := hP
    have hD : va_D A0 (wM G B (tu z1 1 (upd (z1 1) 65 0))) := hD
    refine lv_aload_n hx hb dX4_changeTool_27 rfl (lv_at hl 1 rfl) ?_
    refine va_get (D := G.1) (ci := 4) (v := .ref (B 1)) (C := RX4) (T := TX4) (N := 11) hx hb hts hinX4 hown hK.1 hP 0 (wM_o G B (tu z1 1 (upd (z1 1) 65 0))) rfl 0 (by decide) (hts (.fieldLink RX4 7 "WireLoopsModel" "now" "[I") (List.mem_of_getElem? (i := 1) rfl)) (fun _ h9 => h9) rfl dX4_changeTool_28 ?_
    refine lv_bipush (v := 70) hx hb dX4_changeTool_31 (by decide) ?_
    refine lv_dup2_11 hx hb dX4_changeTool_33 rfl rfl ?_
    refine va_iald (D := G.1) hx hb hK.1 hP 1 0 (wM_j G B (tu z1 1 (upd (z1 1) 65 0)) 1 (by decide) (by decide)) rfl (cin 70 1 (by decide)) dX4_changeTool_34 ?_
    refine W.eq (g2 := F0 m 35 ls [.int ((upd (z1 1) 65 0) 70), .int 70, .ref (B 1)]) (by rw [show (70 : Int32).toNatClampNeg = 70 from by decide] <;> rfl) ?_
    refine lv_iconst (v := 1) hx hb dX4_changeTool_35 (by decide) ?_
    refine lv_iadd hx hb dX4_changeTool_36 ?_
    refine va_iast (D := G.1) hx hb hK.1 hP hD hS 1 0 (wM_j G B (tu z1 1 (upd (z1 1) 65 0)) 1 (by decide) (by decide)) rfl (cin 70 1 (by decide)) dX4_changeTool_37 (fun H locs hP hD hS => ?_)
    rw [wM_sj G B (tu z1 1 (upd (z1 1) 65 0)) 1 (by decide) (by decide) _] at hP hD
    rw [show (70 : Int32).toNatClampNeg = 70 from by decide] at hP hD
    have hP : va_P G.1 vwCl (wM G B (tu (tu z1 1 (upd (z1 1) 65 0)) 1 (upd (upd (z1 1) 65 0) 70 (((upd (z1 1) 65 0) 70) + 1)))) H := hP
    have hD : va_D A0 (wM G B (tu (tu z1 1 (upd (z1 1) 65 0)) 1 (upd (upd (z1 1) 65 0) 70 (((upd (z1 1) 65 0) 70) + 1)))) := hD
    refine lv_iload_n hx hb dX4_changeTool_38 rfl (lv_at hl 0 rfl) ?_
    have hfin : (((T 1) 65), (tu (tu z1 1 (upd (z1 1) 65 0)) 1 (upd (upd (z1 1) 65 0) 70 (((upd (z1 1) 65 0) 70) + 1)))) = (f_X4_changeTool T) := Eq.trans (Eq.symm ((e_X4_changeTool_k1 z1 T))) hres1
    exact endM hx hb hr hlocks rfl hP hD hS ⟨@congrArg (Int32 × MS) Int32 (((T 1) 65), (tu (tu z1 1 (upd (z1 1) 65 0)) 1 (upd (upd (z1 1) 65 0) 70 (((upd (z1 1) 65 0) 70) + 1)))) (f_X4_changeTool T) Prod.fst hfin, @congrArg (Int32 × MS) va_W (((T 1) 65), (tu (tu z1 1 (upd (z1 1) 65 0)) 1 (upd (upd (z1 1) 65 0) 70 (((upd (z1 1) 65 0) 70) + 1)))) (f_X4_changeTool T) (fun z => wM G B z.2) hfin⟩ dX4_changeTool_39
  · skip
    refine lv_bipush (v := (-5)) hx hb dX4_changeTool_12 (by decide) ?_
    have hfin : ((-5), T) = (f_X4_changeTool T) := Eq.symm (Eq.trans (e_X4_changeTool T) ((if_pos c1)))
    exact endM hx hb hr hlocks rfl hP hD hS ⟨@congrArg (Int32 × MS) Int32 ((-5), T) (f_X4_changeTool T) Prod.fst hfin, @congrArg (Int32 × MS) va_W ((-5), T) (f_X4_changeTool T) (fun z => wM G B z.2) hfin⟩ dX4_changeTool_14
noncomputable def f_X4_thread_k1 (z1 : MS) (T : MS) : Int32 × MS := opq (((upd (z1 1) 66 0) 67), (tu z1 1 (upd (z1 1) 66 0)))
theorem e_X4_thread_k1 (z1 : MS) (T : MS) : f_X4_thread_k1 z1 T = (((upd (z1 1) 66 0) 67), (tu z1 1 (upd (z1 1) 66 0))) := opq_eq _
noncomputable def f_X4_thread (T : MS) : Int32 × MS := opq (if ((T 1) 66) = 0 then ((-5), T) else (f_X4_thread_k1 (f_X4_records T) T))
theorem e_X4_thread (T : MS) : f_X4_thread T = (if ((T 1) 66) = 0 then ((-5), T) else (f_X4_thread_k1 (f_X4_records T) T)) := opq_eq _
set_option maxHeartbeats 4000000 in
set_option maxRecDepth 100000 in
theorem c_X4_thread (l : Launch) (G : GG) (B : Nat → Nat) (T : MS)  (q : Nat) (hq : T 0 0 = nI q) (hq4 : q ≤ 4) : Mm l yX4_thread wsX4_thread ({ frames := 2, cells := 0, slots := 0, locals := 45 } : Room) G [.ref (B 0)] (wM G B T) (f_X4_thread T).1 (wM G B (f_X4_thread T).2) := by
  refine Mm.of (cc := cX4_thread) (maxL := 1) (ret := (some .int)) (by decide) rfl (Nat.le_of_ble_eq_true rfl) ?_
  intro p e s m args below meth c A0 hA0 E hr hlocks hP hK hD hA hS ls hl
  have E : CallFix p m c cX4_thread 1 s args wsX4_thread RX4 := E
  have hx := E.1
  have hb := E.2.1
  have hml := E.2.2.1
  have hown := E.2.2.2.1
  have hts := E.2.2.2.2
  have hl : lv_has ls 1 [(0, .ref (B 0))] := hl
  have hinX4 : ∀ w ∈ u_ws RX4 TX4 11, w ∈ wsX4_thread := fun _ h => List.mem_cons_of_mem _ (List.mem_append_right _ h)
  refine lv_aload_n hx hb dX4_thread_0 rfl (lv_at hl 0 rfl) ?_
  refine va_get (D := G.1) (ci := 4) (v := .ref (B 1)) (C := RX4) (T := TX4) (N := 11) hx hb hts hinX4 hown hK.1 hP 0 (wM_o G B T) rfl 0 (by decide) (hts (.fieldLink RX4 7 "WireLoopsModel" "now" "[I") (List.mem_of_getElem? (i := 1) rfl)) (fun _ h9 => h9) rfl dX4_thread_1 ?_
  refine lv_bipush (v := 66) hx hb dX4_thread_4 (by decide) ?_
  refine va_iald (D := G.1) hx hb hK.1 hP 1 0 (wM_j G B T 1 (by decide) (by decide)) rfl (cin 66 1 (by decide)) dX4_thread_6 ?_
  refine W.eq (g2 := F0 m 7 ls [.int ((T 1) 66)]) (by rw [show (66 : Int32).toNatClampNeg = 66 from by decide] <;> rfl) ?_
  refine lv_if_ne (tgt := 13) hx hb dX4_thread_7 (by decide) (fun c1 => ?_) (fun c1 => ?_)
  · skip
    refine lv_aload_n hx hb dX4_thread_13 rfl (lv_at hl 0 rfl) ?_
    refine czV (rest := []) (As := []) E (c_X4_records l G B T q hq hq4) (cwV 0 hts gX4_thread_X4_records rfl rfl rfl (by decide +kernel) ⟨Nat.le_of_ble_eq_true rfl, Nat.le_of_ble_eq_true rfl⟩) hK hP hD hS hA 0 (wM_o G B T) rfl rfl hl.1 rfl (Nat.le_of_ble_eq_true rfl) dX4_thread_14 ⟨Nat.zero_le _, Nat.zero_le _⟩ (fun H locs hP hD hS => ?_)
    have hres1 : f_X4_thread_k1 (f_X4_records T) T = (f_X4_thread T) := Eq.symm (Eq.trans (e_X4_thread T) ((if_neg c1)))
    generalize hz1 : (f_X4_records T) = z1 at hres1 hP hD ⊢
    refine lv_aload_n hx hb dX4_thread_17 rfl (lv_at hl 0 rfl) ?_
    refine va_get (D := G.1) (ci := 4) (v := .ref (B 1)) (C := RX4) (T := TX4) (N := 11) hx hb hts hinX4 hown hK.1 hP 0 (wM_o G B z1) rfl 0 (by decide) (hts (.fieldLink RX4 7 "WireLoopsModel" "now" "[I") (List.mem_of_getElem? (i := 1) rfl)) (fun _ h9 => h9) rfl dX4_thread_18 ?_
    refine lv_bipush (v := 66) hx hb dX4_thread_21 (by decide) ?_
    refine lv_iconst (v := 0) hx hb dX4_thread_23 (by decide) ?_
    refine va_iast (D := G.1) hx hb hK.1 hP hD hS 1 0 (wM_j G B z1 1 (by decide) (by decide)) rfl (cin 66 1 (by decide)) dX4_thread_24 (fun H locs hP hD hS => ?_)
    rw [wM_sj G B z1 1 (by decide) (by decide) _] at hP hD
    rw [show (66 : Int32).toNatClampNeg = 66 from by decide] at hP hD
    have hP : va_P G.1 vwCl (wM G B (tu z1 1 (upd (z1 1) 66 0))) H := hP
    have hD : va_D A0 (wM G B (tu z1 1 (upd (z1 1) 66 0))) := hD
    refine lv_aload_n hx hb dX4_thread_25 rfl (lv_at hl 0 rfl) ?_
    refine va_get (D := G.1) (ci := 4) (v := .ref (B 1)) (C := RX4) (T := TX4) (N := 11) hx hb hts hinX4 hown hK.1 hP 0 (wM_o G B (tu z1 1 (upd (z1 1) 66 0))) rfl 0 (by decide) (hts (.fieldLink RX4 7 "WireLoopsModel" "now" "[I") (List.mem_of_getElem? (i := 1) rfl)) (fun _ h9 => h9) rfl dX4_thread_26 ?_
    refine lv_bipush (v := 67) hx hb dX4_thread_29 (by decide) ?_
    refine va_iald (D := G.1) hx hb hK.1 hP 1 0 (wM_j G B (tu z1 1 (upd (z1 1) 66 0)) 1 (by decide) (by decide)) rfl (cin 67 1 (by decide)) dX4_thread_31 ?_
    refine W.eq (g2 := F0 m 32 ls [.int ((upd (z1 1) 66 0) 67)]) (by rw [show (67 : Int32).toNatClampNeg = 67 from by decide] <;> rfl) ?_
    have hfin : (((upd (z1 1) 66 0) 67), (tu z1 1 (upd (z1 1) 66 0))) = (f_X4_thread T) := Eq.trans (Eq.symm ((e_X4_thread_k1 z1 T))) hres1
    exact endM hx hb hr hlocks rfl hP hD hS ⟨@congrArg (Int32 × MS) Int32 (((upd (z1 1) 66 0) 67), (tu z1 1 (upd (z1 1) 66 0))) (f_X4_thread T) Prod.fst hfin, @congrArg (Int32 × MS) va_W (((upd (z1 1) 66 0) 67), (tu z1 1 (upd (z1 1) 66 0))) (f_X4_thread T) (fun z => wM G B z.2) hfin⟩ dX4_thread_32
  · skip
    refine lv_bipush (v := (-5)) hx hb dX4_thread_10 (by decide) ?_
    have hfin : ((-5), T) = (f_X4_thread T) := Eq.symm (Eq.trans (e_X4_thread T) ((if_pos c1)))
    exact endM hx hb hr hlocks rfl hP hD hS ⟨@congrArg (Int32 × MS) Int32 ((-5), T) (f_X4_thread T) Prod.fst hfin, @congrArg (Int32 × MS) va_W ((-5), T) (f_X4_thread T) (fun z => wM G B z.2) hfin⟩ dX4_thread_12
noncomputable def f_X4_pull_k2 (z2 : Int32 × MS) (z1 : MS) (T : MS) (p0 p1 : Int32) : Int32 × MS := opq (z2.1, z2.2)
theorem e_X4_pull_k2 (z2 : Int32 × MS) (z1 : MS) (T : MS) (p0 p1 : Int32) : f_X4_pull_k2 z2 z1 T p0 p1 = (z2.1, z2.2) := opq_eq _
noncomputable def f_X4_pull_k1 (z1 : MS) (T : MS) (p0 p1 : Int32) : Int32 × MS := opq (f_X4_pull_k2 (f_X4_pulls z1 p0 p1) z1 T p0 p1)
theorem e_X4_pull_k1 (z1 : MS) (T : MS) (p0 p1 : Int32) : f_X4_pull_k1 z1 T p0 p1 = (f_X4_pull_k2 (f_X4_pulls z1 p0 p1) z1 T p0 p1) := opq_eq _
noncomputable def f_X4_pull (T : MS) (p0 p1 : Int32) : Int32 × MS := opq (if (f_X4_hasWire T p0) = 0 then ((-1), T) else (if (f_X4_in p1 1 100) = 0 then ((-2), T) else (f_X4_pull_k1 (f_X4_records T) T p0 p1)))
theorem e_X4_pull (T : MS) (p0 p1 : Int32) : f_X4_pull T p0 p1 = (if (f_X4_hasWire T p0) = 0 then ((-1), T) else (if (f_X4_in p1 1 100) = 0 then ((-2), T) else (f_X4_pull_k1 (f_X4_records T) T p0 p1))) := opq_eq _
set_option maxHeartbeats 4000000 in
set_option maxRecDepth 100000 in
theorem c_X4_pull (l : Launch) (G : GG) (B : Nat → Nat) (T : MS) (p0 p1 : Int32) (q : Nat) (hq : T 0 0 = nI q) (hq4 : q ≤ 4) : Mm l yX4_pull wsX4_pull ({ frames := 3, cells := 0, slots := 0, locals := 63 } : Room) G [.ref (B 0), .int p0, .int p1] (wM G B T) (f_X4_pull T p0 p1).1 (wM G B (f_X4_pull T p0 p1).2) := by
  refine Mm.of (cc := cX4_pull) (maxL := 3) (ret := (some .int)) (by decide) rfl (Nat.le_of_ble_eq_true rfl) ?_
  intro p e s m args below meth c A0 hA0 E hr hlocks hP hK hD hA hS ls hl
  have E : CallFix p m c cX4_pull 3 s args wsX4_pull RX4 := E
  have hx := E.1
  have hb := E.2.1
  have hml := E.2.2.1
  have hown := E.2.2.2.1
  have hts := E.2.2.2.2
  have hl : lv_has ls 3 [(0, .ref (B 0)), (1, .int p0), (2, .int p1)] := hl
  refine lv_aload_n hx hb dX4_pull_0 rfl (lv_at hl 0 rfl) ?_
  refine lv_iload_n hx hb dX4_pull_1 rfl (lv_at hl 1 rfl) ?_
  refine cpV (rest := []) (As := [.int p0]) E (c_X4_hasWire l G B T p0) (cwV 1 hts gX4_pull_X4_hasWire rfl rfl rfl (by decide +kernel) ⟨Nat.le_of_ble_eq_true rfl, Nat.le_of_ble_eq_true rfl⟩) hK hP 0 (wM_o G B T) rfl rfl hl.1 rfl (Nat.le_of_ble_eq_true rfl) dX4_pull_2 ⟨Nat.zero_le _, Nat.zero_le _⟩ ?_
  refine lv_if_ne (tgt := 10) hx hb dX4_pull_5 (by decide) (fun c1 => ?_) (fun c1 => ?_)
  · skip
    refine lv_iload_n hx hb dX4_pull_10 rfl (lv_at hl 2 rfl) ?_
    refine lv_iconst (v := 1) hx hb dX4_pull_11 (by decide) ?_
    refine lv_bipush (v := 100) hx hb dX4_pull_12 (by decide) ?_
    refine cpS (rest := []) (As := [.int p1, .int 1, .int 100]) E (c_X4_in l G B T p1 1 100) (va_cwS 3 hts gX4_pull_X4_in rfl rfl rfl (by decide +kernel) ⟨Nat.le_of_ble_eq_true rfl, Nat.le_of_ble_eq_true rfl⟩) hK hP rfl hl.1 rfl (Nat.le_of_ble_eq_true rfl) dX4_pull_14 ⟨Nat.zero_le _, Nat.zero_le _⟩ ?_
    refine lv_if_ne (tgt := 23) hx hb dX4_pull_17 (by decide) (fun c2 => ?_) (fun c2 => ?_)
    · skip
      refine lv_aload_n hx hb dX4_pull_23 rfl (lv_at hl 0 rfl) ?_
      refine czV (rest := []) (As := []) E (c_X4_records l G B T q hq hq4) (cwV 0 hts gX4_pull_X4_records rfl rfl rfl (by decide +kernel) ⟨Nat.le_of_ble_eq_true rfl, Nat.le_of_ble_eq_true rfl⟩) hK hP hD hS hA 0 (wM_o G B T) rfl rfl hl.1 rfl (Nat.le_of_ble_eq_true rfl) dX4_pull_24 ⟨Nat.zero_le _, Nat.zero_le _⟩ (fun H locs hP hD hS => ?_)
      have hres1 : f_X4_pull_k1 (f_X4_records T) T p0 p1 = (f_X4_pull T p0 p1) := Eq.symm (Eq.trans (e_X4_pull T p0 p1) (Eq.trans (if_neg c1) ((if_neg c2))))
      generalize hz1 : (f_X4_records T) = z1 at hres1 hP hD ⊢
      refine lv_aload_n hx hb dX4_pull_27 rfl (lv_at hl 0 rfl) ?_
      refine lv_iload_n hx hb dX4_pull_28 rfl (lv_at hl 1 rfl) ?_
      refine lv_iload_n hx hb dX4_pull_29 rfl (lv_at hl 2 rfl) ?_
      refine cmV (rest := []) (As := [.int p0, .int p1]) E (c_X4_pulls l G B z1 p0 p1 (in_hasM c1)) (cwV 2 hts gX4_pull_X4_pulls rfl rfl rfl (by decide +kernel) ⟨Nat.le_of_ble_eq_true rfl, Nat.le_of_ble_eq_true rfl⟩) hK hP hD hS hA 0 (wM_o G B z1) rfl rfl hl.1 rfl (Nat.le_of_ble_eq_true rfl) dX4_pull_30 ⟨Nat.zero_le _, Nat.zero_le _⟩ (fun H locs hP hD hS => ?_)
      have hres2 : f_X4_pull_k2 (f_X4_pulls z1 p0 p1) z1 T p0 p1 = (f_X4_pull T p0 p1) := Eq.trans (Eq.symm ((e_X4_pull_k1 z1 T p0 p1))) hres1
      generalize hz2 : (f_X4_pulls z1 p0 p1) = z2 at hres2 hP hD ⊢
      have hfin : (z2.1, z2.2) = (f_X4_pull T p0 p1) := Eq.trans (Eq.symm ((e_X4_pull_k2 z2 z1 T p0 p1))) hres2
      exact endM hx hb hr hlocks rfl hP hD hS ⟨@congrArg (Int32 × MS) Int32 (z2.1, z2.2) (f_X4_pull T p0 p1) Prod.fst hfin, @congrArg (Int32 × MS) va_W (z2.1, z2.2) (f_X4_pull T p0 p1) (fun z => wM G B z.2) hfin⟩ dX4_pull_33
    · skip
      refine lv_bipush (v := (-2)) hx hb dX4_pull_20 (by decide) ?_
      have hfin : ((-2), T) = (f_X4_pull T p0 p1) := Eq.symm (Eq.trans (e_X4_pull T p0 p1) (Eq.trans (if_neg c1) ((if_pos c2))))
      exact endM hx hb hr hlocks rfl hP hD hS ⟨@congrArg (Int32 × MS) Int32 ((-2), T) (f_X4_pull T p0 p1) Prod.fst hfin, @congrArg (Int32 × MS) va_W ((-2), T) (f_X4_pull T p0 p1) (fun z => wM G B z.2) hfin⟩ dX4_pull_22
  · skip
    refine lv_iconst (v := (-1)) hx hb dX4_pull_8 (by decide) ?_
    have hfin : ((-1), T) = (f_X4_pull T p0 p1) := Eq.symm (Eq.trans (e_X4_pull T p0 p1) ((if_pos c1)))
    exact endM hx hb hr hlocks rfl hP hD hS ⟨@congrArg (Int32 × MS) Int32 ((-1), T) (f_X4_pull T p0 p1) Prod.fst hfin, @congrArg (Int32 × MS) va_W ((-1), T) (f_X4_pull T p0 p1) (fun z => wM G B z.2) hfin⟩ dX4_pull_9
noncomputable def g_X4_sample_45 (p0 p1 : Int32) : Nat → Nat → Int32 → Int32 → MS → Int32 × MS
  | 0, k, v, u, T1 => (v, T1)
  | n + 1, k, v, u, T1 => opq (if 12 ≤ (nI k) then (v, T1) else (if (f_X4_hasWire T1 (nI k)) = 0 then (g_X4_sample_45 p0 p1 n (k + 1) v u T1) else (if (u - u / p0 * p0) = 0 then (if ((f_X4_pulls T1 (nI k) p1).1) = 1000 then (g_X4_sample_45 p0 p1 n (k + 1) (v + 1) (u + 1) ((f_X4_pulls T1 (nI k) p1).2)) else (g_X4_sample_45 p0 p1 n (k + 1) (v + 0) (u + 1) ((f_X4_pulls T1 (nI k) p1).2))) else (g_X4_sample_45 p0 p1 n (k + 1) (v + 0) (u + 1) T1))))
theorem ge_X4_sample_45 (p0 p1 : Int32) (n : Nat) (k : Nat) (v : Int32) (u : Int32) (T1 : MS) : g_X4_sample_45 p0 p1 (n + 1) k v u T1 = (if 12 ≤ (nI k) then (v, T1) else (if (f_X4_hasWire T1 (nI k)) = 0 then (g_X4_sample_45 p0 p1 n (k + 1) v u T1) else (if (u - u / p0 * p0) = 0 then (if ((f_X4_pulls T1 (nI k) p1).1) = 1000 then (g_X4_sample_45 p0 p1 n (k + 1) (v + 1) (u + 1) ((f_X4_pulls T1 (nI k) p1).2)) else (g_X4_sample_45 p0 p1 n (k + 1) (v + 0) (u + 1) ((f_X4_pulls T1 (nI k) p1).2))) else (g_X4_sample_45 p0 p1 n (k + 1) (v + 0) (u + 1) T1)))) := opq_eq _
noncomputable def f_X4_sample_k1 (z1 : MS) (T : MS) (p0 p1 : Int32) : Int32 × MS := opq ((g_X4_sample_45 p0 p1 13 0 0 0 z1).1, (g_X4_sample_45 p0 p1 13 0 0 0 z1).2)
theorem e_X4_sample_k1 (z1 : MS) (T : MS) (p0 p1 : Int32) : f_X4_sample_k1 z1 T p0 p1 = ((g_X4_sample_45 p0 p1 13 0 0 0 z1).1, (g_X4_sample_45 p0 p1 13 0 0 0 z1).2) := opq_eq _
noncomputable def f_X4_sample (T : MS) (p0 p1 : Int32) : Int32 × MS := opq (if (f_X4_in p0 1 12) = 0 then ((-2), T) else (if (f_X4_in p1 1 100) = 0 then ((-2), T) else (if (f_X4_wires T) = 0 then ((-5), T) else (f_X4_sample_k1 (f_X4_records T) T p0 p1))))
theorem e_X4_sample (T : MS) (p0 p1 : Int32) : f_X4_sample T p0 p1 = (if (f_X4_in p0 1 12) = 0 then ((-2), T) else (if (f_X4_in p1 1 100) = 0 then ((-2), T) else (if (f_X4_wires T) = 0 then ((-5), T) else (f_X4_sample_k1 (f_X4_records T) T p0 p1)))) := opq_eq _
set_option maxHeartbeats 4000000 in
set_option maxRecDepth 100000 in
theorem c_X4_sample (l : Launch) (G : GG) (B : Nat → Nat) (T : MS) (p0 p1 : Int32) (q : Nat) (hq : T 0 0 = nI q) (hq4 : q ≤ 4) : Mm l yX4_sample wsX4_sample ({ frames := 4, cells := 0, slots := 0, locals := 85 } : Room) G [.ref (B 0), .int p0, .int p1] (wM G B T) (f_X4_sample T p0 p1).1 (wM G B (f_X4_sample T p0 p1).2) := by
  refine Mm.of (cc := cX4_sample) (maxL := 6) (ret := (some .int)) (by decide) rfl (Nat.le_of_ble_eq_true rfl) ?_
  intro p e s m args below meth c A0 hA0 E hr hlocks hP hK hD hA hS ls hl
  have E : CallFix p m c cX4_sample 6 s args wsX4_sample RX4 := E
  have hx := E.1
  have hb := E.2.1
  have hml := E.2.2.1
  have hown := E.2.2.2.1
  have hts := E.2.2.2.2
  have hl : lv_has ls 6 [(0, .ref (B 0)), (1, .int p0), (2, .int p1)] := hl
  have LOOP45 : ∀ (n : Nat) (k : Nat) (v : Int32) (u : Int32) (T1 : MS) (Q : State → Prop), (k ≤ 12) → (¬ p0 = 0) → (12 < k + n) → ∀ V : Int32 × MS, g_X4_sample_45 p0 p1 n k v u T1 = V → (∀ (H : Heap) (locs : List Loc), va_P G.1 vwCl (wM G B V.2) H → va_D A0 (wM G B V.2) → va_S A0 s.heap H locs → ∀ ls : Array Slot, lv_has ls 6 [(3, .int V.1)] → W p l e ({ frames := 4, cells := 0, slots := 0, locals := 85 } : Room) s m args below meth c H locs 0 0 (Q) (F0 m 98 ls [])) → ∀ (H : Heap) (locs : List Loc), va_P G.1 vwCl (wM G B T1) H → va_D A0 (wM G B T1) → va_S A0 s.heap H locs → ∀ ls : Array Slot, lv_has ls 6 [(0, .ref (B 0)), (1, .int p0), (2, .int p1), (3, .int v), (4, .int u), (5, .int (nI k))] → W p l e ({ frames := 4, cells := 0, slots := 0, locals := 85 } : Room) s m args below meth c H locs 0 0 (Q) (F0 m 45 ls []) := by
    intro n
    induction n with
    | zero =>
      intro k v u T1 Q hk hne hn
      exact absurd hn (by omega)
    | succ n ih =>
      intro k v u T1 Q hk hne hn V hres kk H locs hP hD hS ls hl
      have hl : lv_has ls 6 [(0, .ref (B 0)), (1, .int p0), (2, .int p1), (3, .int v), (4, .int u), (5, .int (nI k))] := hl
      refine lv_iload hx hb dX4_sample_45 (lv_at hl 5 rfl) ?_
      refine lv_bipush (v := 12) hx hb dX4_sample_47 (by decide) ?_
      refine lv_icmp_ge (tgt := 98) hx hb dX4_sample_49 (by decide) (fun c1 => ?_) (fun c1 => ?_)
      · skip
        have hfin : (v, T1) = V := Eq.trans (Eq.symm (Eq.trans (ge_X4_sample_45 p0 p1 n k v u T1) ((if_pos c1)))) hres
        subst hfin
        exact kk _ _ hP hD hS _ (lv_sub hl [3] rfl)
      · skip
        have hk2 : k < 12 := lt_of_nle (N := 12) rfl hk c1 (by decide)
        refine lv_aload_n hx hb dX4_sample_52 rfl (lv_at hl 0 rfl) ?_
        refine lv_iload hx hb dX4_sample_53 (lv_at hl 5 rfl) ?_
        refine cpV (rest := []) (As := [.int (nI k)]) E (c_X4_hasWire l G B T1 (nI k)) (cwV 1 hts gX4_sample_X4_hasWire rfl rfl rfl (by decide +kernel) ⟨Nat.le_of_ble_eq_true rfl, Nat.le_of_ble_eq_true rfl⟩) hK hP 0 (wM_o G B T1) rfl rfl hl.1 rfl (Nat.le_of_ble_eq_true rfl) dX4_sample_55 ⟨Nat.zero_le _, Nat.zero_le _⟩ ?_
        refine lv_if_eq (tgt := 92) hx hb dX4_sample_58 (by decide) (fun c2 => ?_) (fun c2 => ?_)
        · skip
          refine lv_iinc (v := (nI (k + 1))) (lv' := [(5, .int (nI (k + 1))), (0, .ref (B 0)), (1, .int p0), (2, .int p1), (3, .int v), (4, .int u)]) hx hb dX4_sample_92 hl (k := 5) rfl (nI_1 k) (by decide) rfl (fun ls hl => ?_)
          refine lv_goto (tgt := 45) hx hb dX4_sample_95 (by decide) ?_
          exact ih (k + 1) v u T1 Q (by omega) hne (by omega) V (Eq.trans (Eq.symm (Eq.trans (ge_X4_sample_45 p0 p1 n k v u T1) (Eq.trans (if_neg c1) ((if_pos c2))))) hres) kk _ _ hP hD hS _ (lv_sub hl [1, 2, 3, 4, 5, 0] rfl)
        · skip
          refine lv_iload_n hx hb dX4_sample_61 rfl (lv_at hl 3 rfl) ?_
          refine lv_iload hx hb dX4_sample_62 (lv_at hl 4 rfl) ?_
          refine lv_iload_n hx hb dX4_sample_64 rfl (lv_at hl 1 rfl) ?_
          refine lv_irem hx hb dX4_sample_65 hne ?_
          refine lv_if_ne (tgt := 86) hx hb dX4_sample_66 (by decide) (fun c3 => ?_) (fun c3 => ?_)
          · skip
            refine lv_iconst (v := 0) hx hb dX4_sample_86 (by decide) ?_
            refine lv_iadd hx hb dX4_sample_87 ?_
            refine lv_istore_n (lv' := [(3, .int (v + 0)), (0, .ref (B 0)), (1, .int p0), (2, .int p1), (4, .int u), (5, .int (nI k))]) hx hb dX4_sample_88 rfl hl (by decide) rfl (fun ls hl => ?_)
            refine lv_iinc (v := (u + 1)) (lv' := [(4, .int (u + 1)), (3, .int (v + 0)), (0, .ref (B 0)), (1, .int p0), (2, .int p1), (5, .int (nI k))]) hx hb dX4_sample_89 hl (k := 4) rfl (rfl) (by decide) rfl (fun ls hl => ?_)
            refine lv_iinc (v := (nI (k + 1))) (lv' := [(5, .int (nI (k + 1))), (4, .int (u + 1)), (3, .int (v + 0)), (0, .ref (B 0)), (1, .int p0), (2, .int p1)]) hx hb dX4_sample_92 hl (k := 5) rfl (nI_1 k) (by decide) rfl (fun ls hl => ?_)
            refine lv_goto (tgt := 45) hx hb dX4_sample_95 (by decide) ?_
            exact ih (k + 1) (v + 0) (u + 1) T1 Q (by omega) hne (by omega) V (Eq.trans (Eq.symm (Eq.trans (ge_X4_sample_45 p0 p1 n k v u T1) (Eq.trans (if_neg c1) (Eq.trans (if_neg c2) ((if_neg c3)))))) hres) kk _ _ hP hD hS _ (lv_sub hl [3, 4, 5, 2, 1, 0] rfl)
          · skip
            refine lv_aload_n hx hb dX4_sample_69 rfl (lv_at hl 0 rfl) ?_
            refine lv_iload hx hb dX4_sample_70 (lv_at hl 5 rfl) ?_
            refine lv_iload_n hx hb dX4_sample_72 rfl (lv_at hl 2 rfl) ?_
            refine cmV (rest := [.int v]) (As := [.int (nI k), .int p1]) E (c_X4_pulls l G B T1 (nI k) p1 (vp_in_nI hk2 (by decide))) (cwV 2 hts gX4_sample_X4_pulls rfl rfl rfl (by decide +kernel) ⟨Nat.le_of_ble_eq_true rfl, Nat.le_of_ble_eq_true rfl⟩) hK hP hD hS hA 0 (wM_o G B T1) rfl rfl hl.1 rfl (Nat.le_of_ble_eq_true rfl) dX4_sample_73 ⟨Nat.zero_le _, Nat.zero_le _⟩ (fun H locs hP hD hS => ?_)
            refine lv_sipush (v := 1000) hx hb dX4_sample_76 (by decide) ?_
            refine lv_icmp_ne (tgt := 86) hx hb dX4_sample_79 (by decide) (fun c4 => ?_) (fun c4 => ?_)
            · skip
              refine lv_iconst (v := 0) hx hb dX4_sample_86 (by decide) ?_
              refine lv_iadd hx hb dX4_sample_87 ?_
              refine lv_istore_n (lv' := [(3, .int (v + 0)), (0, .ref (B 0)), (1, .int p0), (2, .int p1), (4, .int u), (5, .int (nI k))]) hx hb dX4_sample_88 rfl hl (by decide) rfl (fun ls hl => ?_)
              refine lv_iinc (v := (u + 1)) (lv' := [(4, .int (u + 1)), (3, .int (v + 0)), (0, .ref (B 0)), (1, .int p0), (2, .int p1), (5, .int (nI k))]) hx hb dX4_sample_89 hl (k := 4) rfl (rfl) (by decide) rfl (fun ls hl => ?_)
              refine lv_iinc (v := (nI (k + 1))) (lv' := [(5, .int (nI (k + 1))), (4, .int (u + 1)), (3, .int (v + 0)), (0, .ref (B 0)), (1, .int p0), (2, .int p1)]) hx hb dX4_sample_92 hl (k := 5) rfl (nI_1 k) (by decide) rfl (fun ls hl => ?_)
              refine lv_goto (tgt := 45) hx hb dX4_sample_95 (by decide) ?_
              exact ih (k + 1) (v + 0) (u + 1) ((f_X4_pulls T1 (nI k) p1).2) Q (by omega) hne (by omega) V (Eq.trans (Eq.symm (Eq.trans (ge_X4_sample_45 p0 p1 n k v u T1) (Eq.trans (if_neg c1) (Eq.trans (if_neg c2) (Eq.trans (if_pos c3) ((if_neg c4))))))) hres) kk _ _ hP hD hS _ (lv_sub hl [3, 4, 5, 2, 1, 0] rfl)
            · skip
              refine lv_iconst (v := 1) hx hb dX4_sample_82 (by decide) ?_
              refine lv_goto (tgt := 87) hx hb dX4_sample_83 (by decide) ?_
              refine lv_iadd hx hb dX4_sample_87 ?_
              refine lv_istore_n (lv' := [(3, .int (v + 1)), (0, .ref (B 0)), (1, .int p0), (2, .int p1), (4, .int u), (5, .int (nI k))]) hx hb dX4_sample_88 rfl hl (by decide) rfl (fun ls hl => ?_)
              refine lv_iinc (v := (u + 1)) (lv' := [(4, .int (u + 1)), (3, .int (v + 1)), (0, .ref (B 0)), (1, .int p0), (2, .int p1), (5, .int (nI k))]) hx hb dX4_sample_89 hl (k := 4) rfl (rfl) (by decide) rfl (fun ls hl => ?_)
              refine lv_iinc (v := (nI (k + 1))) (lv' := [(5, .int (nI (k + 1))), (4, .int (u + 1)), (3, .int (v + 1)), (0, .ref (B 0)), (1, .int p0), (2, .int p1)]) hx hb dX4_sample_92 hl (k := 5) rfl (nI_1 k) (by decide) rfl (fun ls hl => ?_)
              refine lv_goto (tgt := 45) hx hb dX4_sample_95 (by decide) ?_
              exact ih (k + 1) (v + 1) (u + 1) ((f_X4_pulls T1 (nI k) p1).2) Q (by omega) hne (by omega) V (Eq.trans (Eq.symm (Eq.trans (ge_X4_sample_45 p0 p1 n k v u T1) (Eq.trans (if_neg c1) (Eq.trans (if_neg c2) (Eq.trans (if_pos c3) ((if_pos c4))))))) hres) kk _ _ hP hD hS _ (lv_sub hl [3, 4, 5, 2, 1, 0] rfl)
  refine lv_iload_n hx hb dX4_sample_0 rfl (lv_at hl 1 rfl) ?_
  refine lv_iconst (v := 1) hx hb dX4_sample_1 (by decide) ?_
  refine lv_bipush (v := 12) hx hb dX4_sample_2 (by decide) ?_
  refine cpS (rest := []) (As := [.int p0, .int 1, .int 12]) E (c_X4_in l G B T p0 1 12) (va_cwS 3 hts gX4_sample_X4_in rfl rfl rfl (by decide +kernel) ⟨Nat.le_of_ble_eq_true rfl, Nat.le_of_ble_eq_true rfl⟩) hK hP rfl hl.1 rfl (Nat.le_of_ble_eq_true rfl) dX4_sample_4 ⟨Nat.zero_le _, Nat.zero_le _⟩ ?_
  refine lv_if_eq (tgt := 20) hx hb dX4_sample_7 (by decide) (fun c5 => ?_) (fun c5 => ?_)
  · skip
    refine lv_bipush (v := (-2)) hx hb dX4_sample_20 (by decide) ?_
    have hfin : ((-2), T) = (f_X4_sample T p0 p1) := Eq.symm (Eq.trans (e_X4_sample T p0 p1) ((if_pos c5)))
    exact endM hx hb hr hlocks rfl hP hD hS ⟨@congrArg (Int32 × MS) Int32 ((-2), T) (f_X4_sample T p0 p1) Prod.fst hfin, @congrArg (Int32 × MS) va_W ((-2), T) (f_X4_sample T p0 p1) (fun z => wM G B z.2) hfin⟩ dX4_sample_22
  · skip
    refine lv_iload_n hx hb dX4_sample_10 rfl (lv_at hl 2 rfl) ?_
    refine lv_iconst (v := 1) hx hb dX4_sample_11 (by decide) ?_
    refine lv_bipush (v := 100) hx hb dX4_sample_12 (by decide) ?_
    refine cpS (rest := []) (As := [.int p1, .int 1, .int 100]) E (c_X4_in l G B T p1 1 100) (va_cwS 3 hts gX4_sample_X4_in rfl rfl rfl (by decide +kernel) ⟨Nat.le_of_ble_eq_true rfl, Nat.le_of_ble_eq_true rfl⟩) hK hP rfl hl.1 rfl (Nat.le_of_ble_eq_true rfl) dX4_sample_14 ⟨Nat.zero_le _, Nat.zero_le _⟩ ?_
    refine lv_if_ne (tgt := 23) hx hb dX4_sample_17 (by decide) (fun c6 => ?_) (fun c6 => ?_)
    · skip
      refine lv_aload_n hx hb dX4_sample_23 rfl (lv_at hl 0 rfl) ?_
      refine cpV (rest := []) (As := []) E (c_X4_wires l G B T) (cwV 0 hts gX4_sample_X4_wires rfl rfl rfl (by decide +kernel) ⟨Nat.le_of_ble_eq_true rfl, Nat.le_of_ble_eq_true rfl⟩) hK hP 0 (wM_o G B T) rfl rfl hl.1 rfl (Nat.le_of_ble_eq_true rfl) dX4_sample_24 ⟨Nat.zero_le _, Nat.zero_le _⟩ ?_
      refine lv_if_ne (tgt := 33) hx hb dX4_sample_27 (by decide) (fun c7 => ?_) (fun c7 => ?_)
      · skip
        refine lv_aload_n hx hb dX4_sample_33 rfl (lv_at hl 0 rfl) ?_
        refine czV (rest := []) (As := []) E (c_X4_records l G B T q hq hq4) (cwV 0 hts gX4_sample_X4_records rfl rfl rfl (by decide +kernel) ⟨Nat.le_of_ble_eq_true rfl, Nat.le_of_ble_eq_true rfl⟩) hK hP hD hS hA 0 (wM_o G B T) rfl rfl hl.1 rfl (Nat.le_of_ble_eq_true rfl) dX4_sample_34 ⟨Nat.zero_le _, Nat.zero_le _⟩ (fun H locs hP hD hS => ?_)
        have hres1 : f_X4_sample_k1 (f_X4_records T) T p0 p1 = (f_X4_sample T p0 p1) := Eq.symm (Eq.trans (e_X4_sample T p0 p1) (Eq.trans (if_neg c5) (Eq.trans (if_neg c6) ((if_neg c7)))))
        generalize hz1 : (f_X4_records T) = z1 at hres1 hP hD ⊢
        refine lv_iconst (v := 0) hx hb dX4_sample_37 (by decide) ?_
        refine lv_istore_n (lv' := [(3, .int 0), (0, .ref (B 0)), (1, .int p0), (2, .int p1)]) hx hb dX4_sample_38 rfl hl (by decide) rfl (fun ls hl => ?_)
        refine lv_iconst (v := 0) hx hb dX4_sample_39 (by decide) ?_
        refine lv_istore (lv' := [(4, .int 0), (3, .int 0), (0, .ref (B 0)), (1, .int p0), (2, .int p1)]) hx hb dX4_sample_40 hl (by decide) rfl (fun ls hl => ?_)
        refine lv_iconst (v := 0) hx hb dX4_sample_42 (by decide) ?_
        refine lv_istore (lv' := [(5, .int 0), (4, .int 0), (3, .int 0), (0, .ref (B 0)), (1, .int p0), (2, .int p1)]) hx hb dX4_sample_43 hl (by decide) rfl (fun ls hl => ?_)
        refine LOOP45 13 0 0 0 z1 _ (by omega) (ne_in c5) (by omega) _ rfl (fun H locs hP hD hS ls hl => ?_) _ _ hP hD hS _ (lv_sub hl [3, 4, 5, 2, 1, 0] rfl)
        have hl : lv_has ls 6 [(3, .int ((g_X4_sample_45 p0 p1 13 0 0 0 z1).1))] := hl
        have hP : va_P G.1 vwCl (wM G B (g_X4_sample_45 p0 p1 13 0 0 0 z1).2) H := hP
        have hD : va_D A0 (wM G B (g_X4_sample_45 p0 p1 13 0 0 0 z1).2) := hD
        refine lv_iload_n hx hb dX4_sample_98 rfl (lv_at hl 0 rfl) ?_
        have hfin : ((g_X4_sample_45 p0 p1 13 0 0 0 z1).1, (g_X4_sample_45 p0 p1 13 0 0 0 z1).2) = (f_X4_sample T p0 p1) := Eq.trans (Eq.symm ((e_X4_sample_k1 z1 T p0 p1))) hres1
        exact endM hx hb hr hlocks rfl hP hD hS ⟨@congrArg (Int32 × MS) Int32 ((g_X4_sample_45 p0 p1 13 0 0 0 z1).1, (g_X4_sample_45 p0 p1 13 0 0 0 z1).2) (f_X4_sample T p0 p1) Prod.fst hfin, @congrArg (Int32 × MS) va_W ((g_X4_sample_45 p0 p1 13 0 0 0 z1).1, (g_X4_sample_45 p0 p1 13 0 0 0 z1).2) (f_X4_sample T p0 p1) (fun z => wM G B z.2) hfin⟩ dX4_sample_99
      · skip
        refine lv_bipush (v := (-5)) hx hb dX4_sample_30 (by decide) ?_
        have hfin : ((-5), T) = (f_X4_sample T p0 p1) := Eq.symm (Eq.trans (e_X4_sample T p0 p1) (Eq.trans (if_neg c5) (Eq.trans (if_neg c6) ((if_pos c7)))))
        exact endM hx hb hr hlocks rfl hP hD hS ⟨@congrArg (Int32 × MS) Int32 ((-5), T) (f_X4_sample T p0 p1) Prod.fst hfin, @congrArg (Int32 × MS) va_W ((-5), T) (f_X4_sample T p0 p1) (fun z => wM G B z.2) hfin⟩ dX4_sample_32
    · skip
      refine lv_bipush (v := (-2)) hx hb dX4_sample_20 (by decide) ?_
      have hfin : ((-2), T) = (f_X4_sample T p0 p1) := Eq.symm (Eq.trans (e_X4_sample T p0 p1) (Eq.trans (if_neg c5) ((if_pos c6))))
      exact endM hx hb hr hlocks rfl hP hD hS ⟨@congrArg (Int32 × MS) Int32 ((-2), T) (f_X4_sample T p0 p1) Prod.fst hfin, @congrArg (Int32 × MS) va_W ((-2), T) (f_X4_sample T p0 p1) (fun z => wM G B z.2) hfin⟩ dX4_sample_22
theorem und_1 {T : MS} {q : Nat} (hq : T 0 0 = nI q) (h : ¬ T 0 0 = 0) : 1 ≤ q := by
  rcases Nat.eq_zero_or_pos q with e | e
  · subst e; exact absurd hq h
  · exact e
theorem und_b {T : MS} {q : Nat} (hq : T 0 0 = nI q) (h1 : 1 ≤ q) : (71 : Int32) * (T 0 0 - 1) = nI (71 * (q - 1)) := by
  obtain ⟨k, rfl⟩ : ∃ k, q = k + 1 := ⟨q - 1, by omega⟩
  rw [hq, nI_pred]; exact pk_mul 71 k
theorem und_q {q : Nat} (h : q ≤ 4) : 71 * (q - 1) + 71 ≤ lenM 3 := by
  show 71 * (q - 1) + 71 ≤ 284
  omega
theorem hgt_in {x : Int32} (h : ¬ f_X4_isHeight x = 0) : ∃ a : Nat, 10 ≤ a ∧ a ≤ 200 ∧ x = nI a := by
  rw [e_X4_isHeight] at h
  have h1 := (in_ok h).1
  have h2 := (in_ok h).2
  have a := Int32.le_iff_toInt_le.mp (Int32.not_lt.mp h1)
  have b := Int32.le_iff_toInt_le.mp (Int32.not_lt.mp h2)
  rw [show (10 : Int32) = nI 10 from rfl, nI_toInt (by omega)] at a
  rw [show (200 : Int32) = nI 200 from rfl, nI_toInt (by omega)] at b
  refine ⟨x.toInt.toNat, by omega, by omega, Int32.toInt_inj.mp ?_⟩
  rw [nI_toInt (by omega)]
  omega
theorem wear_step {w x : Int32} (h0 : 0 ≤ w.toInt) (h2 : ¬ 200 ≤ w) (hh : ¬ f_X4_isHeight x = 0) : 0 ≤ (w + (2 + (x / 50))).toInt ∧ w.toInt + 2 ≤ (w + (2 + (x / 50))).toInt ∧ w.toInt < 200 := by
  obtain ⟨a, ha, hb, rfl⟩ := hgt_in hh
  have hw := Int32.lt_iff_toInt_lt.mp (Int32.not_le.mp h2)
  rw [show (200 : Int32) = nI 200 from rfl, nI_toInt (by omega)] at hw
  have hx : w = nI w.toInt.toNat := by
    refine Int32.toInt_inj.mp ?_
    rw [nI_toInt (by omega)]
    omega
  have hd : nI a / 50 = nI (a / 50) := pk_div (d := 50) (by omega) (by omega) (by omega)
  have hs : w + (2 + (nI a / 50)) = nI (w.toInt.toNat + (2 + a / 50)) := by
    rw [hd, show (2 : Int32) = nI 2 from rfl, nI_add]
    conv => lhs; rw [hx]
    rw [nI_add]
  rw [hs, nI_toInt (by omega)]
  omega
noncomputable def f_X4_undo_k1 (z1 : MS) (T : MS) : Int32 × MS := opq ((z1 0 0), z1)
theorem e_X4_undo_k1 (z1 : MS) (T : MS) : f_X4_undo_k1 z1 T = ((z1 0 0), z1) := opq_eq _
noncomputable def f_X4_undo (T : MS) : Int32 × MS := opq (if (T 0 0) = 0 then ((-5), T) else (f_X4_undo_k1 (f_X4_lays (tu T 0 (upd (T 0) 0 ((T 0 0) - 1))) 3 1 (71 * ((T 0 0) - 1)) 0) T))
theorem e_X4_undo (T : MS) : f_X4_undo T = (if (T 0 0) = 0 then ((-5), T) else (f_X4_undo_k1 (f_X4_lays (tu T 0 (upd (T 0) 0 ((T 0 0) - 1))) 3 1 (71 * ((T 0 0) - 1)) 0) T)) := opq_eq _
set_option maxHeartbeats 4000000 in
set_option maxRecDepth 100000 in
theorem c_X4_undo (l : Launch) (G : GG) (B : Nat → Nat) (T : MS)  (q : Nat) (hq : T 0 0 = nI q) (hq4 : q ≤ 4) : Mm l yX4_undo wsX4_undo ({ frames := 1, cells := 0, slots := 0, locals := 24 } : Room) G [.ref (B 0)] (wM G B T) (f_X4_undo T).1 (wM G B (f_X4_undo T).2) := by
  refine Mm.of (cc := cX4_undo) (maxL := 1) (ret := (some .int)) (by decide) rfl (Nat.le_of_ble_eq_true rfl) ?_
  intro p e s m args below meth c A0 hA0 E hr hlocks hP hK hD hA hS ls hl
  have E : CallFix p m c cX4_undo 1 s args wsX4_undo RX4 := E
  have hx := E.1
  have hb := E.2.1
  have hml := E.2.2.1
  have hown := E.2.2.2.1
  have hts := E.2.2.2.2
  have hl : lv_has ls 1 [(0, .ref (B 0))] := hl
  have hinX4 : ∀ w ∈ u_ws RX4 TX4 11, w ∈ wsX4_undo := fun _ h => List.mem_cons_of_mem _ (List.mem_append_right _ h)
  refine lv_aload_n hx hb dX4_undo_0 rfl (lv_at hl 0 rfl) ?_
  refine va_get (D := G.1) (ci := 4) (v := .int (T 0 0)) (C := RX4) (T := TX4) (N := 11) hx hb hts hinX4 hown hK.1 hP 0 (wM_o G B T) rfl 3 (by decide) (hts (.fieldLink RX4 29 "WireLoopsModel" "states" "I") (List.mem_of_getElem? (i := 1) rfl)) (fun _ h9 => h9) rfl dX4_undo_1 ?_
  refine lv_if_ne (tgt := 10) hx hb dX4_undo_4 (by decide) (fun c1 => ?_) (fun c1 => ?_)
  · skip
    refine lv_aload_n hx hb dX4_undo_10 rfl (lv_at hl 0 rfl) ?_
    refine lv_dup hx hb dX4_undo_11 rfl ?_
    refine va_get (D := G.1) (ci := 4) (v := .int (T 0 0)) (C := RX4) (T := TX4) (N := 11) hx hb hts hinX4 hown hK.1 hP 0 (wM_o G B T) rfl 3 (by decide) (hts (.fieldLink RX4 29 "WireLoopsModel" "states" "I") (List.mem_of_getElem? (i := 1) rfl)) (fun _ h9 => h9) rfl dX4_undo_12 ?_
    refine lv_iconst (v := 1) hx hb dX4_undo_15 (by decide) ?_
    refine lv_isub hx hb dX4_undo_16 ?_
    refine va_put (D := G.1) (ci := 4) (v := .int ((T 0 0) - 1)) (ty := .int) (C := RX4) (T := TX4) (N := 11) hx hb hts hinX4 tyX4 tyX4_ok nmX4 hown hK.1 hP hD hS 0 (wM_o G B T) rfl 3 (by decide) (hts (.fieldLink RX4 29 "WireLoopsModel" "states" "I") (List.mem_of_getElem? (i := 1) rfl)) (fun _ h9 => h9) rfl (by decide +kernel) rfl rfl (Nat.le_of_ble_eq_true rfl) dX4_undo_17 (fun H locs hP hD hS => ?_)
    rw [wM_so3 G B T _] at hP hD
    have hP : va_P G.1 vwCl (wM G B (tu T 0 (upd (T 0) 0 ((T 0 0) - 1)))) H := hP
    have hD : va_D A0 (wM G B (tu T 0 (upd (T 0) 0 ((T 0 0) - 1)))) := hD
    refine lv_aload_n hx hb dX4_undo_20 rfl (lv_at hl 0 rfl) ?_
    refine va_get (D := G.1) (ci := 4) (v := .ref (B 3)) (C := RX4) (T := TX4) (N := 11) hx hb hts hinX4 hown hK.1 hP 0 (wM_o G B (tu T 0 (upd (T 0) 0 ((T 0 0) - 1)))) rfl 2 (by decide) (hts (.fieldLink RX4 16 "WireLoopsModel" "past" "[I") (List.mem_of_getElem? (i := 2) rfl)) (fun _ h9 => h9) rfl dX4_undo_21 ?_
    refine lv_bipush (v := 71) hx hb dX4_undo_24 (by decide) ?_
    refine lv_aload_n hx hb dX4_undo_26 rfl (lv_at hl 0 rfl) ?_
    refine va_get (D := G.1) (ci := 4) (v := .int ((T 0 0) - 1)) (C := RX4) (T := TX4) (N := 11) hx hb hts hinX4 hown hK.1 hP 0 (wM_o G B (tu T 0 (upd (T 0) 0 ((T 0 0) - 1)))) rfl 3 (by decide) (hts (.fieldLink RX4 29 "WireLoopsModel" "states" "I") (List.mem_of_getElem? (i := 1) rfl)) (fun _ h9 => h9) rfl dX4_undo_27 ?_
    refine lv_imul hx hb dX4_undo_30 ?_
    refine lv_aload_n hx hb dX4_undo_31 rfl (lv_at hl 0 rfl) ?_
    refine va_get (D := G.1) (ci := 4) (v := .ref (B 1)) (C := RX4) (T := TX4) (N := 11) hx hb hts hinX4 hown hK.1 hP 0 (wM_o G B (tu T 0 (upd (T 0) 0 ((T 0 0) - 1)))) rfl 0 (by decide) (hts (.fieldLink RX4 7 "WireLoopsModel" "now" "[I") (List.mem_of_getElem? (i := 3) rfl)) (fun _ h9 => h9) rfl dX4_undo_32 ?_
    refine lv_iconst (v := 0) hx hb dX4_undo_35 (by decide) ?_
    refine czS (rest := []) (As := [.ref (B 3), .int (71 * ((T 0 0) - 1)), .ref (B 1), .int 0]) E (c_X4_lays l G B (tu T 0 (upd (T 0) 0 ((T 0 0) - 1))) 3 1 (71 * ((T 0 0) - 1)) 0 (by decide) (by decide) (by decide) (by decide) (71 * (q - 1)) 0 (und_b hq (und_1 hq c1)) rfl (und_q hq4) (by decide)) (va_cwS 4 hts gX4_undo_X4_lays rfl rfl rfl (by decide +kernel) ⟨Nat.le_of_ble_eq_true rfl, Nat.le_of_ble_eq_true rfl⟩) hK hP hD hS hA rfl hl.1 rfl (Nat.le_of_ble_eq_true rfl) dX4_undo_36 ⟨Nat.zero_le _, Nat.zero_le _⟩ (fun H locs hP hD hS => ?_)
    have hres1 : f_X4_undo_k1 (f_X4_lays (tu T 0 (upd (T 0) 0 ((T 0 0) - 1))) 3 1 (71 * ((T 0 0) - 1)) 0) T = (f_X4_undo T) := Eq.symm (Eq.trans (e_X4_undo T) ((if_neg c1)))
    generalize hz1 : (f_X4_lays (tu T 0 (upd (T 0) 0 ((T 0 0) - 1))) 3 1 (71 * ((T 0 0) - 1)) 0) = z1 at hres1 hP hD ⊢
    refine lv_aload_n hx hb dX4_undo_39 rfl (lv_at hl 0 rfl) ?_
    refine va_get (D := G.1) (ci := 4) (v := .int (z1 0 0)) (C := RX4) (T := TX4) (N := 11) hx hb hts hinX4 hown hK.1 hP 0 (wM_o G B z1) rfl 3 (by decide) (hts (.fieldLink RX4 29 "WireLoopsModel" "states" "I") (List.mem_of_getElem? (i := 1) rfl)) (fun _ h9 => h9) rfl dX4_undo_40 ?_
    have hfin : ((z1 0 0), z1) = (f_X4_undo T) := Eq.trans (Eq.symm ((e_X4_undo_k1 z1 T))) hres1
    exact endM hx hb hr hlocks rfl hP hD hS ⟨@congrArg (Int32 × MS) Int32 ((z1 0 0), z1) (f_X4_undo T) Prod.fst hfin, @congrArg (Int32 × MS) va_W ((z1 0 0), z1) (f_X4_undo T) (fun z => wM G B z.2) hfin⟩ dX4_undo_43
  · skip
    refine lv_bipush (v := (-5)) hx hb dX4_undo_7 (by decide) ?_
    have hfin : ((-5), T) = (f_X4_undo T) := Eq.symm (Eq.trans (e_X4_undo T) ((if_pos c1)))
    exact endM hx hb hr hlocks rfl hP hD hS ⟨@congrArg (Int32 × MS) Int32 ((-5), T) (f_X4_undo T) Prod.fst hfin, @congrArg (Int32 × MS) va_W ((-5), T) (f_X4_undo T) (fun z => wM G B z.2) hfin⟩ dX4_undo_9
noncomputable def f_X4_keep_k1 (z1 : MS) (T : MS) : Int32 × MS := opq ((f_X4_wires (tu z1 0 (upd (z1 0) 1 1))), (tu z1 0 (upd (z1 0) 1 1)))
theorem e_X4_keep_k1 (z1 : MS) (T : MS) : f_X4_keep_k1 z1 T = ((f_X4_wires (tu z1 0 (upd (z1 0) 1 1))), (tu z1 0 (upd (z1 0) 1 1))) := opq_eq _
noncomputable def f_X4_keep (T : MS) : Int32 × MS := opq (f_X4_keep_k1 (f_X4_lays T 1 4 0 0) T)
theorem e_X4_keep (T : MS) : f_X4_keep T = (f_X4_keep_k1 (f_X4_lays T 1 4 0 0) T) := opq_eq _
set_option maxHeartbeats 4000000 in
set_option maxRecDepth 100000 in
theorem c_X4_keep (l : Launch) (G : GG) (B : Nat → Nat) (T : MS)  : Mm l yX4_keep wsX4_keep ({ frames := 4, cells := 0, slots := 0, locals := 85 } : Room) G [.ref (B 0)] (wM G B T) (f_X4_keep T).1 (wM G B (f_X4_keep T).2) := by
  refine Mm.of (cc := cX4_keep) (maxL := 1) (ret := (some .int)) (by decide) rfl (Nat.le_of_ble_eq_true rfl) ?_
  intro p e s m args below meth c A0 hA0 E hr hlocks hP hK hD hA hS ls hl
  have E : CallFix p m c cX4_keep 1 s args wsX4_keep RX4 := E
  have hx := E.1
  have hb := E.2.1
  have hml := E.2.2.1
  have hown := E.2.2.2.1
  have hts := E.2.2.2.2
  have hl : lv_has ls 1 [(0, .ref (B 0))] := hl
  have hinX4 : ∀ w ∈ u_ws RX4 TX4 11, w ∈ wsX4_keep := fun _ h => List.mem_cons_of_mem _ (List.mem_append_right _ h)
  refine lv_aload_n hx hb dX4_keep_0 rfl (lv_at hl 0 rfl) ?_
  refine va_get (D := G.1) (ci := 4) (v := .ref (B 1)) (C := RX4) (T := TX4) (N := 11) hx hb hts hinX4 hown hK.1 hP 0 (wM_o G B T) rfl 0 (by decide) (hts (.fieldLink RX4 7 "WireLoopsModel" "now" "[I") (List.mem_of_getElem? (i := 1) rfl)) (fun _ h9 => h9) rfl dX4_keep_1 ?_
  refine lv_iconst (v := 0) hx hb dX4_keep_4 (by decide) ?_
  refine lv_aload_n hx hb dX4_keep_5 rfl (lv_at hl 0 rfl) ?_
  refine va_get (D := G.1) (ci := 4) (v := .ref (B 4)) (C := RX4) (T := TX4) (N := 11) hx hb hts hinX4 hown hK.1 hP 0 (wM_o G B T) rfl 4 (by decide) (hts (.fieldLink RX4 19 "WireLoopsModel" "snapshot" "[I") (List.mem_of_getElem? (i := 2) rfl)) (fun _ h9 => h9) rfl dX4_keep_6 ?_
  refine lv_iconst (v := 0) hx hb dX4_keep_9 (by decide) ?_
  refine czS (rest := []) (As := [.ref (B 1), .int 0, .ref (B 4), .int 0]) E (c_X4_lays l G B T 1 4 0 0 (by decide) (by decide) (by decide) (by decide) 0 0 rfl rfl (by decide) (by decide)) (va_cwS 4 hts gX4_keep_X4_lays rfl rfl rfl (by decide +kernel) ⟨Nat.le_of_ble_eq_true rfl, Nat.le_of_ble_eq_true rfl⟩) hK hP hD hS hA rfl hl.1 rfl (Nat.le_of_ble_eq_true rfl) dX4_keep_10 ⟨Nat.zero_le _, Nat.zero_le _⟩ (fun H locs hP hD hS => ?_)
  have hres1 : f_X4_keep_k1 (f_X4_lays T 1 4 0 0) T = (f_X4_keep T) := Eq.symm ((e_X4_keep T))
  generalize hz1 : (f_X4_lays T 1 4 0 0) = z1 at hres1 hP hD ⊢
  refine lv_aload_n hx hb dX4_keep_13 rfl (lv_at hl 0 rfl) ?_
  refine lv_iconst (v := 1) hx hb dX4_keep_14 (by decide) ?_
  refine va_put (D := G.1) (ci := 4) (v := .int 1) (ty := .boolean) (C := RX4) (T := TX4) (N := 11) hx hb hts hinX4 tyX4 tyX4_ok nmX4 hown hK.1 hP hD hS 0 (wM_o G B z1) rfl 5 (by decide) (hts (.fieldLink RX4 137 "WireLoopsModel" "isKept" "Z") (List.mem_of_getElem? (i := 3) rfl)) (fun _ h9 => h9) rfl (by decide +kernel) rfl rfl (Nat.le_of_ble_eq_true rfl) dX4_keep_15 (fun H locs hP hD hS => ?_)
  rw [wM_so5 G B z1 _] at hP hD
  have hP : va_P G.1 vwCl (wM G B (tu z1 0 (upd (z1 0) 1 1))) H := hP
  have hD : va_D A0 (wM G B (tu z1 0 (upd (z1 0) 1 1))) := hD
  refine lv_aload_n hx hb dX4_keep_18 rfl (lv_at hl 0 rfl) ?_
  refine cpV (rest := []) (As := []) E (c_X4_wires l G B (tu z1 0 (upd (z1 0) 1 1))) (cwV 0 hts gX4_keep_X4_wires rfl rfl rfl (by decide +kernel) ⟨Nat.le_of_ble_eq_true rfl, Nat.le_of_ble_eq_true rfl⟩) hK hP 0 (wM_o G B (tu z1 0 (upd (z1 0) 1 1))) rfl rfl hl.1 rfl (Nat.le_of_ble_eq_true rfl) dX4_keep_19 ⟨Nat.zero_le _, Nat.zero_le _⟩ ?_
  have hfin : ((f_X4_wires (tu z1 0 (upd (z1 0) 1 1))), (tu z1 0 (upd (z1 0) 1 1))) = (f_X4_keep T) := Eq.trans (Eq.symm ((e_X4_keep_k1 z1 T))) hres1
  exact endM hx hb hr hlocks rfl hP hD hS ⟨@congrArg (Int32 × MS) Int32 ((f_X4_wires (tu z1 0 (upd (z1 0) 1 1))), (tu z1 0 (upd (z1 0) 1 1))) (f_X4_keep T) Prod.fst hfin, @congrArg (Int32 × MS) va_W ((f_X4_wires (tu z1 0 (upd (z1 0) 1 1))), (tu z1 0 (upd (z1 0) 1 1))) (f_X4_keep T) (fun z => wM G B z.2) hfin⟩ dX4_keep_22
noncomputable def f_X4_restore_k2 (z2 : MS) (z1 : MS) (T : MS) : Int32 × MS := opq ((f_X4_wires z2), z2)
theorem e_X4_restore_k2 (z2 : MS) (z1 : MS) (T : MS) : f_X4_restore_k2 z2 z1 T = ((f_X4_wires z2), z2) := opq_eq _
noncomputable def f_X4_restore_k1 (z1 : MS) (T : MS) : Int32 × MS := opq (f_X4_restore_k2 (f_X4_lays z1 4 1 0 0) z1 T)
theorem e_X4_restore_k1 (z1 : MS) (T : MS) : f_X4_restore_k1 z1 T = (f_X4_restore_k2 (f_X4_lays z1 4 1 0 0) z1 T) := opq_eq _
noncomputable def f_X4_restore (T : MS) : Int32 × MS := opq (if (T 0 1) = 0 then ((-5), T) else (f_X4_restore_k1 (f_X4_records T) T))
theorem e_X4_restore (T : MS) : f_X4_restore T = (if (T 0 1) = 0 then ((-5), T) else (f_X4_restore_k1 (f_X4_records T) T)) := opq_eq _
set_option maxHeartbeats 4000000 in
set_option maxRecDepth 100000 in
theorem c_X4_restore (l : Launch) (G : GG) (B : Nat → Nat) (T : MS)  (q : Nat) (hq : T 0 0 = nI q) (hq4 : q ≤ 4) : Mm l yX4_restore wsX4_restore ({ frames := 4, cells := 0, slots := 0, locals := 85 } : Room) G [.ref (B 0)] (wM G B T) (f_X4_restore T).1 (wM G B (f_X4_restore T).2) := by
  refine Mm.of (cc := cX4_restore) (maxL := 1) (ret := (some .int)) (by decide) rfl (Nat.le_of_ble_eq_true rfl) ?_
  intro p e s m args below meth c A0 hA0 E hr hlocks hP hK hD hA hS ls hl
  have E : CallFix p m c cX4_restore 1 s args wsX4_restore RX4 := E
  have hx := E.1
  have hb := E.2.1
  have hml := E.2.2.1
  have hown := E.2.2.2.1
  have hts := E.2.2.2.2
  have hl : lv_has ls 1 [(0, .ref (B 0))] := hl
  have hinX4 : ∀ w ∈ u_ws RX4 TX4 11, w ∈ wsX4_restore := fun _ h => List.mem_cons_of_mem _ (List.mem_append_right _ h)
  refine lv_aload_n hx hb dX4_restore_0 rfl (lv_at hl 0 rfl) ?_
  refine va_get (D := G.1) (ci := 4) (v := .int (T 0 1)) (C := RX4) (T := TX4) (N := 11) hx hb hts hinX4 hown hK.1 hP 0 (wM_o G B T) rfl 5 (by decide) (hts (.fieldLink RX4 137 "WireLoopsModel" "isKept" "Z") (List.mem_of_getElem? (i := 1) rfl)) (fun _ h9 => h9) rfl dX4_restore_1 ?_
  refine lv_if_ne (tgt := 10) hx hb dX4_restore_4 (by decide) (fun c1 => ?_) (fun c1 => ?_)
  · skip
    refine lv_aload_n hx hb dX4_restore_10 rfl (lv_at hl 0 rfl) ?_
    refine czV (rest := []) (As := []) E (c_X4_records l G B T q hq hq4) (cwV 0 hts gX4_restore_X4_records rfl rfl rfl (by decide +kernel) ⟨Nat.le_of_ble_eq_true rfl, Nat.le_of_ble_eq_true rfl⟩) hK hP hD hS hA 0 (wM_o G B T) rfl rfl hl.1 rfl (Nat.le_of_ble_eq_true rfl) dX4_restore_11 ⟨Nat.zero_le _, Nat.zero_le _⟩ (fun H locs hP hD hS => ?_)
    have hres1 : f_X4_restore_k1 (f_X4_records T) T = (f_X4_restore T) := Eq.symm (Eq.trans (e_X4_restore T) ((if_neg c1)))
    generalize hz1 : (f_X4_records T) = z1 at hres1 hP hD ⊢
    refine lv_aload_n hx hb dX4_restore_14 rfl (lv_at hl 0 rfl) ?_
    refine va_get (D := G.1) (ci := 4) (v := .ref (B 4)) (C := RX4) (T := TX4) (N := 11) hx hb hts hinX4 hown hK.1 hP 0 (wM_o G B z1) rfl 4 (by decide) (hts (.fieldLink RX4 19 "WireLoopsModel" "snapshot" "[I") (List.mem_of_getElem? (i := 2) rfl)) (fun _ h9 => h9) rfl dX4_restore_15 ?_
    refine lv_iconst (v := 0) hx hb dX4_restore_18 (by decide) ?_
    refine lv_aload_n hx hb dX4_restore_19 rfl (lv_at hl 0 rfl) ?_
    refine va_get (D := G.1) (ci := 4) (v := .ref (B 1)) (C := RX4) (T := TX4) (N := 11) hx hb hts hinX4 hown hK.1 hP 0 (wM_o G B z1) rfl 0 (by decide) (hts (.fieldLink RX4 7 "WireLoopsModel" "now" "[I") (List.mem_of_getElem? (i := 3) rfl)) (fun _ h9 => h9) rfl dX4_restore_20 ?_
    refine lv_iconst (v := 0) hx hb dX4_restore_23 (by decide) ?_
    refine czS (rest := []) (As := [.ref (B 4), .int 0, .ref (B 1), .int 0]) E (c_X4_lays l G B z1 4 1 0 0 (by decide) (by decide) (by decide) (by decide) 0 0 rfl rfl (by decide) (by decide)) (va_cwS 4 hts gX4_restore_X4_lays rfl rfl rfl (by decide +kernel) ⟨Nat.le_of_ble_eq_true rfl, Nat.le_of_ble_eq_true rfl⟩) hK hP hD hS hA rfl hl.1 rfl (Nat.le_of_ble_eq_true rfl) dX4_restore_24 ⟨Nat.zero_le _, Nat.zero_le _⟩ (fun H locs hP hD hS => ?_)
    have hres2 : f_X4_restore_k2 (f_X4_lays z1 4 1 0 0) z1 T = (f_X4_restore T) := Eq.trans (Eq.symm ((e_X4_restore_k1 z1 T))) hres1
    generalize hz2 : (f_X4_lays z1 4 1 0 0) = z2 at hres2 hP hD ⊢
    refine lv_aload_n hx hb dX4_restore_27 rfl (lv_at hl 0 rfl) ?_
    refine cpV (rest := []) (As := []) E (c_X4_wires l G B z2) (cwV 0 hts gX4_restore_X4_wires rfl rfl rfl (by decide +kernel) ⟨Nat.le_of_ble_eq_true rfl, Nat.le_of_ble_eq_true rfl⟩) hK hP 0 (wM_o G B z2) rfl rfl hl.1 rfl (Nat.le_of_ble_eq_true rfl) dX4_restore_28 ⟨Nat.zero_le _, Nat.zero_le _⟩ ?_
    have hfin : ((f_X4_wires z2), z2) = (f_X4_restore T) := Eq.trans (Eq.symm ((e_X4_restore_k2 z2 z1 T))) hres2
    exact endM hx hb hr hlocks rfl hP hD hS ⟨@congrArg (Int32 × MS) Int32 ((f_X4_wires z2), z2) (f_X4_restore T) Prod.fst hfin, @congrArg (Int32 × MS) va_W ((f_X4_wires z2), z2) (f_X4_restore T) (fun z => wM G B z.2) hfin⟩ dX4_restore_31
  · skip
    refine lv_bipush (v := (-5)) hx hb dX4_restore_7 (by decide) ?_
    have hfin : ((-5), T) = (f_X4_restore T) := Eq.symm (Eq.trans (e_X4_restore T) ((if_pos c1)))
    exact endM hx hb hr hlocks rfl hP hD hS ⟨@congrArg (Int32 × MS) Int32 ((-5), T) (f_X4_restore T) Prod.fst hfin, @congrArg (Int32 × MS) va_W ((-5), T) (f_X4_restore T) (fun z => wM G B z.2) hfin⟩ dX4_restore_9
noncomputable def f_X4_wire (T : MS) (p0 p1 : Int32) : Int32 := opq (if (f_X4_hasWire T p0) = 0 then (-1) else (if p1 = 0 then (f_X4_of T 1 p0 p1) else (if p1 = 1 then (f_X4_of T 1 p0 p1) else (if p1 = 2 then (f_X4_of T 1 p0 p1) else (if p1 = 3 then (f_X4_crossings T p0) else (if p1 = 4 then (f_X4_shortOnes T p0 (f_X4_of T 1 p0 1)) else (if p1 = 5 then (f_X4_leastGap T p0) else (if p1 = 6 then (f_X4_of T 1 p0 3) else (-2)))))))))
theorem e_X4_wire (T : MS) (p0 p1 : Int32) : f_X4_wire T p0 p1 = (if (f_X4_hasWire T p0) = 0 then (-1) else (if p1 = 0 then (f_X4_of T 1 p0 p1) else (if p1 = 1 then (f_X4_of T 1 p0 p1) else (if p1 = 2 then (f_X4_of T 1 p0 p1) else (if p1 = 3 then (f_X4_crossings T p0) else (if p1 = 4 then (f_X4_shortOnes T p0 (f_X4_of T 1 p0 1)) else (if p1 = 5 then (f_X4_leastGap T p0) else (if p1 = 6 then (f_X4_of T 1 p0 3) else (-2))))))))) := opq_eq _
set_option maxHeartbeats 4000000 in
set_option maxRecDepth 100000 in
theorem c_X4_wire (l : Launch) (G : GG) (B : Nat → Nat) (T : MS) (p0 p1 : Int32) (hM : mok T) : Mp l yX4_wire wsX4_wire ({ frames := 5, cells := 0, slots := 0, locals := 109 } : Room) G [.ref (B 0), .int p0, .int p1] (wM G B T) (f_X4_wire T p0 p1) := by
  refine Mp.of (cc := cX4_wire) (maxL := 3) (ret := (some .int)) (by decide) rfl (Nat.le_of_ble_eq_true rfl) ?_
  intro p e s m args below meth c E hr hlocks hP hK ls hl
  have E : CallFix p m c cX4_wire 3 s args wsX4_wire RX4 := E
  have hx := E.1
  have hb := E.2.1
  have hml := E.2.2.1
  have hown := E.2.2.2.1
  have hts := E.2.2.2.2
  have hl : lv_has ls 3 [(0, .ref (B 0)), (1, .int p0), (2, .int p1)] := hl
  have hinX4 : ∀ w ∈ u_ws RX4 TX4 11, w ∈ wsX4_wire := fun _ h => List.mem_cons_of_mem _ (List.mem_append_right _ h)
  refine lv_aload_n hx hb dX4_wire_0 rfl (lv_at hl 0 rfl) ?_
  refine lv_iload_n hx hb dX4_wire_1 rfl (lv_at hl 1 rfl) ?_
  refine cpV (rest := []) (As := [.int p0]) E (c_X4_hasWire l G B T p0) (cwV 1 hts gX4_wire_X4_hasWire rfl rfl rfl (by decide +kernel) ⟨Nat.le_of_ble_eq_true rfl, Nat.le_of_ble_eq_true rfl⟩) hK hP 0 (wM_o G B T) rfl rfl hl.1 rfl (Nat.le_of_ble_eq_true rfl) dX4_wire_2 ⟨Nat.zero_le _, Nat.zero_le _⟩ ?_
  refine lv_if_ne (tgt := 10) hx hb dX4_wire_5 (by decide) (fun c1 => ?_) (fun c1 => ?_)
  · skip
    refine lv_iload_n hx hb dX4_wire_10 rfl (lv_at hl 2 rfl) ?_
    by_cases c2 : p1 = 0
    · skip
      refine lv_tableIn (tgt := 52) hx hb dX4_wire_11 (by rw [c2]; decide) (by rw [c2]; decide) (by rw [c2]; rfl) (by decide) ?_
      refine lv_aload_n hx hb dX4_wire_52 rfl (lv_at hl 0 rfl) ?_
      refine va_get (D := G.1) (ci := 4) (v := .ref (B 1)) (C := RX4) (T := TX4) (N := 11) hx hb hts hinX4 hown hK.1 hP 0 (wM_o G B T) rfl 0 (by decide) (hts (.fieldLink RX4 7 "WireLoopsModel" "now" "[I") (List.mem_of_getElem? (i := 1) rfl)) (fun _ h9 => h9) rfl dX4_wire_53 ?_
      refine lv_iload_n hx hb dX4_wire_56 rfl (lv_at hl 1 rfl) ?_
      refine lv_iload_n hx hb dX4_wire_57 rfl (lv_at hl 2 rfl) ?_
      refine cpS (rest := []) (As := [.ref (B 1), .int p0, .int p1]) E (c_X4_of l G B T 1 p0 p1 (by decide) (by decide) (of_in 1 (in_hasM c1) (vp4_of 0 (by decide) c2))) (va_cwS 3 hts gX4_wire_X4_of rfl rfl rfl (by decide +kernel) ⟨Nat.le_of_ble_eq_true rfl, Nat.le_of_ble_eq_true rfl⟩) hK hP rfl hl.1 rfl (Nat.le_of_ble_eq_true rfl) dX4_wire_58 ⟨Nat.zero_le _, Nat.zero_le _⟩ ?_
      exact endP hx hb hr hlocks rfl (Eq.symm (Eq.trans (e_X4_wire T p0 p1) (Eq.trans (if_neg c1) ((if_pos c2))))) dX4_wire_61
    by_cases c3 : p1 = 1
    · skip
      refine lv_tableIn (tgt := 52) hx hb dX4_wire_11 (by rw [c3]; decide) (by rw [c3]; decide) (by rw [c3]; rfl) (by decide) ?_
      refine lv_aload_n hx hb dX4_wire_52 rfl (lv_at hl 0 rfl) ?_
      refine va_get (D := G.1) (ci := 4) (v := .ref (B 1)) (C := RX4) (T := TX4) (N := 11) hx hb hts hinX4 hown hK.1 hP 0 (wM_o G B T) rfl 0 (by decide) (hts (.fieldLink RX4 7 "WireLoopsModel" "now" "[I") (List.mem_of_getElem? (i := 1) rfl)) (fun _ h9 => h9) rfl dX4_wire_53 ?_
      refine lv_iload_n hx hb dX4_wire_56 rfl (lv_at hl 1 rfl) ?_
      refine lv_iload_n hx hb dX4_wire_57 rfl (lv_at hl 2 rfl) ?_
      refine cpS (rest := []) (As := [.ref (B 1), .int p0, .int p1]) E (c_X4_of l G B T 1 p0 p1 (by decide) (by decide) (of_in 1 (in_hasM c1) (vp4_of 1 (by decide) c3))) (va_cwS 3 hts gX4_wire_X4_of rfl rfl rfl (by decide +kernel) ⟨Nat.le_of_ble_eq_true rfl, Nat.le_of_ble_eq_true rfl⟩) hK hP rfl hl.1 rfl (Nat.le_of_ble_eq_true rfl) dX4_wire_58 ⟨Nat.zero_le _, Nat.zero_le _⟩ ?_
      exact endP hx hb hr hlocks rfl (Eq.symm (Eq.trans (e_X4_wire T p0 p1) (Eq.trans (if_neg c1) (Eq.trans (if_neg c2) ((if_pos c3)))))) dX4_wire_61
    by_cases c4 : p1 = 2
    · skip
      refine lv_tableIn (tgt := 52) hx hb dX4_wire_11 (by rw [c4]; decide) (by rw [c4]; decide) (by rw [c4]; rfl) (by decide) ?_
      refine lv_aload_n hx hb dX4_wire_52 rfl (lv_at hl 0 rfl) ?_
      refine va_get (D := G.1) (ci := 4) (v := .ref (B 1)) (C := RX4) (T := TX4) (N := 11) hx hb hts hinX4 hown hK.1 hP 0 (wM_o G B T) rfl 0 (by decide) (hts (.fieldLink RX4 7 "WireLoopsModel" "now" "[I") (List.mem_of_getElem? (i := 1) rfl)) (fun _ h9 => h9) rfl dX4_wire_53 ?_
      refine lv_iload_n hx hb dX4_wire_56 rfl (lv_at hl 1 rfl) ?_
      refine lv_iload_n hx hb dX4_wire_57 rfl (lv_at hl 2 rfl) ?_
      refine cpS (rest := []) (As := [.ref (B 1), .int p0, .int p1]) E (c_X4_of l G B T 1 p0 p1 (by decide) (by decide) (of_in 1 (in_hasM c1) (vp4_of 2 (by decide) c4))) (va_cwS 3 hts gX4_wire_X4_of rfl rfl rfl (by decide +kernel) ⟨Nat.le_of_ble_eq_true rfl, Nat.le_of_ble_eq_true rfl⟩) hK hP rfl hl.1 rfl (Nat.le_of_ble_eq_true rfl) dX4_wire_58 ⟨Nat.zero_le _, Nat.zero_le _⟩ ?_
      exact endP hx hb hr hlocks rfl (Eq.symm (Eq.trans (e_X4_wire T p0 p1) (Eq.trans (if_neg c1) (Eq.trans (if_neg c2) (Eq.trans (if_neg c3) ((if_pos c4))))))) dX4_wire_61
    by_cases c5 : p1 = 3
    · skip
      refine lv_tableIn (tgt := 62) hx hb dX4_wire_11 (by rw [c5]; decide) (by rw [c5]; decide) (by rw [c5]; rfl) (by decide) ?_
      refine lv_aload_n hx hb dX4_wire_62 rfl (lv_at hl 0 rfl) ?_
      refine lv_iload_n hx hb dX4_wire_63 rfl (lv_at hl 1 rfl) ?_
      refine cpV (rest := []) (As := [.int p0]) E (c_X4_crossings l G B T p0 hM) (cwV 1 hts gX4_wire_X4_crossings rfl rfl rfl (by decide +kernel) ⟨Nat.le_of_ble_eq_true rfl, Nat.le_of_ble_eq_true rfl⟩) hK hP 0 (wM_o G B T) rfl rfl hl.1 rfl (Nat.le_of_ble_eq_true rfl) dX4_wire_64 ⟨Nat.zero_le _, Nat.zero_le _⟩ ?_
      exact endP hx hb hr hlocks rfl (Eq.symm (Eq.trans (e_X4_wire T p0 p1) (Eq.trans (if_neg c1) (Eq.trans (if_neg c2) (Eq.trans (if_neg c3) (Eq.trans (if_neg c4) ((if_pos c5)))))))) dX4_wire_67
    by_cases c6 : p1 = 4
    · skip
      refine lv_tableIn (tgt := 68) hx hb dX4_wire_11 (by rw [c6]; decide) (by rw [c6]; decide) (by rw [c6]; rfl) (by decide) ?_
      refine lv_aload_n hx hb dX4_wire_68 rfl (lv_at hl 0 rfl) ?_
      refine lv_iload_n hx hb dX4_wire_69 rfl (lv_at hl 1 rfl) ?_
      refine lv_aload_n hx hb dX4_wire_70 rfl (lv_at hl 0 rfl) ?_
      refine va_get (D := G.1) (ci := 4) (v := .ref (B 1)) (C := RX4) (T := TX4) (N := 11) hx hb hts hinX4 hown hK.1 hP 0 (wM_o G B T) rfl 0 (by decide) (hts (.fieldLink RX4 7 "WireLoopsModel" "now" "[I") (List.mem_of_getElem? (i := 1) rfl)) (fun _ h9 => h9) rfl dX4_wire_71 ?_
      refine lv_iload_n hx hb dX4_wire_74 rfl (lv_at hl 1 rfl) ?_
      refine lv_iconst (v := 1) hx hb dX4_wire_75 (by decide) ?_
      refine cpS (rest := [.int p0, .ref (B 0)]) (As := [.ref (B 1), .int p0, .int 1]) E (c_X4_of l G B T 1 p0 1 (by decide) (by decide) (of_in 1 (in_hasM c1) w1)) (va_cwS 3 hts gX4_wire_X4_of rfl rfl rfl (by decide +kernel) ⟨Nat.le_of_ble_eq_true rfl, Nat.le_of_ble_eq_true rfl⟩) hK hP rfl hl.1 rfl (Nat.le_of_ble_eq_true rfl) dX4_wire_76 ⟨Nat.zero_le _, Nat.zero_le _⟩ ?_
      refine cpV (rest := []) (As := [.int p0, .int (f_X4_of T 1 p0 1)]) E (c_X4_shortOnes l G B T p0 (f_X4_of T 1 p0 1) hM) (cwV 2 hts gX4_wire_X4_shortOnes rfl rfl rfl (by decide +kernel) ⟨Nat.le_of_ble_eq_true rfl, Nat.le_of_ble_eq_true rfl⟩) hK hP 0 (wM_o G B T) rfl rfl hl.1 rfl (Nat.le_of_ble_eq_true rfl) dX4_wire_79 ⟨Nat.zero_le _, Nat.zero_le _⟩ ?_
      exact endP hx hb hr hlocks rfl (Eq.symm (Eq.trans (e_X4_wire T p0 p1) (Eq.trans (if_neg c1) (Eq.trans (if_neg c2) (Eq.trans (if_neg c3) (Eq.trans (if_neg c4) (Eq.trans (if_neg c5) ((if_pos c6))))))))) dX4_wire_82
    by_cases c7 : p1 = 5
    · skip
      refine lv_tableIn (tgt := 83) hx hb dX4_wire_11 (by rw [c7]; decide) (by rw [c7]; decide) (by rw [c7]; rfl) (by decide) ?_
      refine lv_aload_n hx hb dX4_wire_83 rfl (lv_at hl 0 rfl) ?_
      refine lv_iload_n hx hb dX4_wire_84 rfl (lv_at hl 1 rfl) ?_
      refine cpV (rest := []) (As := [.int p0]) E (c_X4_leastGap l G B T p0 hM) (cwV 1 hts gX4_wire_X4_leastGap rfl rfl rfl (by decide +kernel) ⟨Nat.le_of_ble_eq_true rfl, Nat.le_of_ble_eq_true rfl⟩) hK hP 0 (wM_o G B T) rfl rfl hl.1 rfl (Nat.le_of_ble_eq_true rfl) dX4_wire_85 ⟨Nat.zero_le _, Nat.zero_le _⟩ ?_
      exact endP hx hb hr hlocks rfl (Eq.symm (Eq.trans (e_X4_wire T p0 p1) (Eq.trans (if_neg c1) (Eq.trans (if_neg c2) (Eq.trans (if_neg c3) (Eq.trans (if_neg c4) (Eq.trans (if_neg c5) (Eq.trans (if_neg c6) ((if_pos c7)))))))))) dX4_wire_88
    by_cases c8 : p1 = 6
    · skip
      refine lv_tableIn (tgt := 89) hx hb dX4_wire_11 (by rw [c8]; decide) (by rw [c8]; decide) (by rw [c8]; rfl) (by decide) ?_
      refine lv_aload_n hx hb dX4_wire_89 rfl (lv_at hl 0 rfl) ?_
      refine va_get (D := G.1) (ci := 4) (v := .ref (B 1)) (C := RX4) (T := TX4) (N := 11) hx hb hts hinX4 hown hK.1 hP 0 (wM_o G B T) rfl 0 (by decide) (hts (.fieldLink RX4 7 "WireLoopsModel" "now" "[I") (List.mem_of_getElem? (i := 1) rfl)) (fun _ h9 => h9) rfl dX4_wire_90 ?_
      refine lv_iload_n hx hb dX4_wire_93 rfl (lv_at hl 1 rfl) ?_
      refine lv_iconst (v := 3) hx hb dX4_wire_94 (by decide) ?_
      refine cpS (rest := []) (As := [.ref (B 1), .int p0, .int 3]) E (c_X4_of l G B T 1 p0 3 (by decide) (by decide) (of_in 1 (in_hasM c1) w3)) (va_cwS 3 hts gX4_wire_X4_of rfl rfl rfl (by decide +kernel) ⟨Nat.le_of_ble_eq_true rfl, Nat.le_of_ble_eq_true rfl⟩) hK hP rfl hl.1 rfl (Nat.le_of_ble_eq_true rfl) dX4_wire_95 ⟨Nat.zero_le _, Nat.zero_le _⟩ ?_
      exact endP hx hb hr hlocks rfl (Eq.symm (Eq.trans (e_X4_wire T p0 p1) (Eq.trans (if_neg c1) (Eq.trans (if_neg c2) (Eq.trans (if_neg c3) (Eq.trans (if_neg c4) (Eq.trans (if_neg c5) (Eq.trans (if_neg c6) (Eq.trans (if_neg c7) ((if_pos c8))))))))))) dX4_wire_98
    refine lv_tableOut (tgt := 99) hx hb dX4_wire_11 (sw_out 0 6 p1 (by decide) (by intro j h1 h2; rcases (show j = 0 ∨ j = 1 ∨ j = 2 ∨ j = 3 ∨ j = 4 ∨ j = 5 ∨ j = 6 by omega) with rfl | rfl | rfl | rfl | rfl | rfl | rfl <;> assumption)) (by decide) ?_
    refine lv_bipush (v := (-2)) hx hb dX4_wire_99 (by decide) ?_
    exact endP hx hb hr hlocks rfl (Eq.symm (Eq.trans (e_X4_wire T p0 p1) (Eq.trans (if_neg c1) (Eq.trans (if_neg c2) (Eq.trans (if_neg c3) (Eq.trans (if_neg c4) (Eq.trans (if_neg c5) (Eq.trans (if_neg c6) (Eq.trans (if_neg c7) ((if_neg c8))))))))))) dX4_wire_101
  · skip
    refine lv_iconst (v := (-1)) hx hb dX4_wire_8 (by decide) ?_
    exact endP hx hb hr hlocks rfl (Eq.symm (Eq.trans (e_X4_wire T p0 p1) ((if_pos c1)))) dX4_wire_9
noncomputable def f_X4_heightAt (T : MS) (p0 p1 : Int32) : Int32 := opq (if (f_X4_hasWire T p0) = 0 then (-1) else (if (f_X4_in p1 0 200) = 0 then (-2) else (f_X4_heightOf (f_X4_of T 1 p0 1) p1)))
theorem e_X4_heightAt (T : MS) (p0 p1 : Int32) : f_X4_heightAt T p0 p1 = (if (f_X4_hasWire T p0) = 0 then (-1) else (if (f_X4_in p1 0 200) = 0 then (-2) else (f_X4_heightOf (f_X4_of T 1 p0 1) p1))) := opq_eq _
set_option maxHeartbeats 4000000 in
set_option maxRecDepth 100000 in
theorem c_X4_heightAt (l : Launch) (G : GG) (B : Nat → Nat) (T : MS) (p0 p1 : Int32) : Mp l yX4_heightAt wsX4_heightAt ({ frames := 3, cells := 0, slots := 0, locals := 63 } : Room) G [.ref (B 0), .int p0, .int p1] (wM G B T) (f_X4_heightAt T p0 p1) := by
  refine Mp.of (cc := cX4_heightAt) (maxL := 3) (ret := (some .int)) (by decide) rfl (Nat.le_of_ble_eq_true rfl) ?_
  intro p e s m args below meth c E hr hlocks hP hK ls hl
  have E : CallFix p m c cX4_heightAt 3 s args wsX4_heightAt RX4 := E
  have hx := E.1
  have hb := E.2.1
  have hml := E.2.2.1
  have hown := E.2.2.2.1
  have hts := E.2.2.2.2
  have hl : lv_has ls 3 [(0, .ref (B 0)), (1, .int p0), (2, .int p1)] := hl
  have hinX4 : ∀ w ∈ u_ws RX4 TX4 11, w ∈ wsX4_heightAt := fun _ h => List.mem_cons_of_mem _ (List.mem_append_right _ h)
  refine lv_aload_n hx hb dX4_heightAt_0 rfl (lv_at hl 0 rfl) ?_
  refine lv_iload_n hx hb dX4_heightAt_1 rfl (lv_at hl 1 rfl) ?_
  refine cpV (rest := []) (As := [.int p0]) E (c_X4_hasWire l G B T p0) (cwV 1 hts gX4_heightAt_X4_hasWire rfl rfl rfl (by decide +kernel) ⟨Nat.le_of_ble_eq_true rfl, Nat.le_of_ble_eq_true rfl⟩) hK hP 0 (wM_o G B T) rfl rfl hl.1 rfl (Nat.le_of_ble_eq_true rfl) dX4_heightAt_2 ⟨Nat.zero_le _, Nat.zero_le _⟩ ?_
  refine lv_if_ne (tgt := 10) hx hb dX4_heightAt_5 (by decide) (fun c1 => ?_) (fun c1 => ?_)
  · skip
    refine lv_iload_n hx hb dX4_heightAt_10 rfl (lv_at hl 2 rfl) ?_
    refine lv_iconst (v := 0) hx hb dX4_heightAt_11 (by decide) ?_
    refine lv_sipush (v := 200) hx hb dX4_heightAt_12 (by decide) ?_
    refine cpS (rest := []) (As := [.int p1, .int 0, .int 200]) E (c_X4_in l G B T p1 0 200) (va_cwS 3 hts gX4_heightAt_X4_in rfl rfl rfl (by decide +kernel) ⟨Nat.le_of_ble_eq_true rfl, Nat.le_of_ble_eq_true rfl⟩) hK hP rfl hl.1 rfl (Nat.le_of_ble_eq_true rfl) dX4_heightAt_15 ⟨Nat.zero_le _, Nat.zero_le _⟩ ?_
    refine lv_if_eq (tgt := 37) hx hb dX4_heightAt_18 (by decide) (fun c2 => ?_) (fun c2 => ?_)
    · skip
      refine lv_bipush (v := (-2)) hx hb dX4_heightAt_37 (by decide) ?_
      exact endP hx hb hr hlocks rfl (Eq.symm (Eq.trans (e_X4_heightAt T p0 p1) (Eq.trans (if_neg c1) ((if_pos c2))))) dX4_heightAt_39
    · skip
      refine lv_aload_n hx hb dX4_heightAt_21 rfl (lv_at hl 0 rfl) ?_
      refine va_get (D := G.1) (ci := 4) (v := .ref (B 1)) (C := RX4) (T := TX4) (N := 11) hx hb hts hinX4 hown hK.1 hP 0 (wM_o G B T) rfl 0 (by decide) (hts (.fieldLink RX4 7 "WireLoopsModel" "now" "[I") (List.mem_of_getElem? (i := 1) rfl)) (fun _ h9 => h9) rfl dX4_heightAt_22 ?_
      refine lv_iload_n hx hb dX4_heightAt_25 rfl (lv_at hl 1 rfl) ?_
      refine lv_iconst (v := 1) hx hb dX4_heightAt_26 (by decide) ?_
      refine cpS (rest := []) (As := [.ref (B 1), .int p0, .int 1]) E (c_X4_of l G B T 1 p0 1 (by decide) (by decide) (of_in 1 (in_hasM c1) w1)) (va_cwS 3 hts gX4_heightAt_X4_of rfl rfl rfl (by decide +kernel) ⟨Nat.le_of_ble_eq_true rfl, Nat.le_of_ble_eq_true rfl⟩) hK hP rfl hl.1 rfl (Nat.le_of_ble_eq_true rfl) dX4_heightAt_27 ⟨Nat.zero_le _, Nat.zero_le _⟩ ?_
      refine lv_iload_n hx hb dX4_heightAt_30 rfl (lv_at hl 2 rfl) ?_
      refine cpS (rest := []) (As := [.int (f_X4_of T 1 p0 1), .int p1]) E (c_X4_heightOf l G B T (f_X4_of T 1 p0 1) p1) (va_cwS 2 hts gX4_heightAt_X4_heightOf rfl rfl rfl (by decide +kernel) ⟨Nat.le_of_ble_eq_true rfl, Nat.le_of_ble_eq_true rfl⟩) hK hP rfl hl.1 rfl (Nat.le_of_ble_eq_true rfl) dX4_heightAt_31 ⟨Nat.zero_le _, Nat.zero_le _⟩ ?_
      refine lv_goto (tgt := 39) hx hb dX4_heightAt_34 (by decide) ?_
      exact endP hx hb hr hlocks rfl (Eq.symm (Eq.trans (e_X4_heightAt T p0 p1) (Eq.trans (if_neg c1) ((if_neg c2))))) dX4_heightAt_39
  · skip
    refine lv_iconst (v := (-1)) hx hb dX4_heightAt_8 (by decide) ?_
    exact endP hx hb hr hlocks rfl (Eq.symm (Eq.trans (e_X4_heightAt T p0 p1) ((if_pos c1)))) dX4_heightAt_9
noncomputable def f_X4_crossing (T : MS) (p0 p1 p2 : Int32) : Int32 := opq (if (f_X4_hasWire T p0) = 0 then (-1) else (if (f_X4_hasWire T p1) = 0 then (-1) else (if (f_X4_in p2 0 2) = 0 then (-2) else (if (f_X4_crossingY T p0 p1) = (-5) then (f_X4_crossingY T p0 p1) else (if p2 = 0 then (f_X4_crossingY T p0 p1) else (if p2 = 1 then (f_X4_gap T p0 (f_X4_of T 1 p0 1) p1) else (if ((T 1) 64) ≤ (f_X4_gap T p0 (f_X4_of T 1 p0 1) p1) then 0 else 1)))))))
theorem e_X4_crossing (T : MS) (p0 p1 p2 : Int32) : f_X4_crossing T p0 p1 p2 = (if (f_X4_hasWire T p0) = 0 then (-1) else (if (f_X4_hasWire T p1) = 0 then (-1) else (if (f_X4_in p2 0 2) = 0 then (-2) else (if (f_X4_crossingY T p0 p1) = (-5) then (f_X4_crossingY T p0 p1) else (if p2 = 0 then (f_X4_crossingY T p0 p1) else (if p2 = 1 then (f_X4_gap T p0 (f_X4_of T 1 p0 1) p1) else (if ((T 1) 64) ≤ (f_X4_gap T p0 (f_X4_of T 1 p0 1) p1) then 0 else 1))))))) := opq_eq _
set_option maxHeartbeats 4000000 in
set_option maxRecDepth 100000 in
theorem c_X4_crossing (l : Launch) (G : GG) (B : Nat → Nat) (T : MS) (p0 p1 p2 : Int32) (hM : mok T) : Mp l yX4_crossing wsX4_crossing ({ frames := 3, cells := 0, slots := 0, locals := 72 } : Room) G [.ref (B 0), .int p0, .int p1, .int p2] (wM G B T) (f_X4_crossing T p0 p1 p2) := by
  refine Mp.of (cc := cX4_crossing) (maxL := 6) (ret := (some .int)) (by decide) rfl (Nat.le_of_ble_eq_true rfl) ?_
  intro p e s m args below meth c E hr hlocks hP hK ls hl
  have E : CallFix p m c cX4_crossing 6 s args wsX4_crossing RX4 := E
  have hx := E.1
  have hb := E.2.1
  have hml := E.2.2.1
  have hown := E.2.2.2.1
  have hts := E.2.2.2.2
  have hl : lv_has ls 6 [(0, .ref (B 0)), (1, .int p0), (2, .int p1), (3, .int p2)] := hl
  have hinX4 : ∀ w ∈ u_ws RX4 TX4 11, w ∈ wsX4_crossing := fun _ h => List.mem_cons_of_mem _ (List.mem_append_right _ h)
  refine lv_aload_n hx hb dX4_crossing_0 rfl (lv_at hl 0 rfl) ?_
  refine lv_iload_n hx hb dX4_crossing_1 rfl (lv_at hl 1 rfl) ?_
  refine cpV (rest := []) (As := [.int p0]) E (c_X4_hasWire l G B T p0) (cwV 1 hts gX4_crossing_X4_hasWire rfl rfl rfl (by decide +kernel) ⟨Nat.le_of_ble_eq_true rfl, Nat.le_of_ble_eq_true rfl⟩) hK hP 0 (wM_o G B T) rfl rfl hl.1 rfl (Nat.le_of_ble_eq_true rfl) dX4_crossing_2 ⟨Nat.zero_le _, Nat.zero_le _⟩ ?_
  refine lv_if_eq (tgt := 16) hx hb dX4_crossing_5 (by decide) (fun c1 => ?_) (fun c1 => ?_)
  · skip
    refine lv_iconst (v := (-1)) hx hb dX4_crossing_16 (by decide) ?_
    exact endP hx hb hr hlocks rfl (Eq.symm (Eq.trans (e_X4_crossing T p0 p1 p2) ((if_pos c1)))) dX4_crossing_17
  · skip
    refine lv_aload_n hx hb dX4_crossing_8 rfl (lv_at hl 0 rfl) ?_
    refine lv_iload_n hx hb dX4_crossing_9 rfl (lv_at hl 2 rfl) ?_
    refine cpV (rest := []) (As := [.int p1]) E (c_X4_hasWire l G B T p1) (cwV 1 hts gX4_crossing_X4_hasWire rfl rfl rfl (by decide +kernel) ⟨Nat.le_of_ble_eq_true rfl, Nat.le_of_ble_eq_true rfl⟩) hK hP 0 (wM_o G B T) rfl rfl hl.1 rfl (Nat.le_of_ble_eq_true rfl) dX4_crossing_10 ⟨Nat.zero_le _, Nat.zero_le _⟩ ?_
    refine lv_if_ne (tgt := 18) hx hb dX4_crossing_13 (by decide) (fun c2 => ?_) (fun c2 => ?_)
    · skip
      refine lv_iload_n hx hb dX4_crossing_18 rfl (lv_at hl 3 rfl) ?_
      refine lv_iconst (v := 0) hx hb dX4_crossing_19 (by decide) ?_
      refine lv_iconst (v := 2) hx hb dX4_crossing_20 (by decide) ?_
      refine cpS (rest := []) (As := [.int p2, .int 0, .int 2]) E (c_X4_in l G B T p2 0 2) (va_cwS 3 hts gX4_crossing_X4_in rfl rfl rfl (by decide +kernel) ⟨Nat.le_of_ble_eq_true rfl, Nat.le_of_ble_eq_true rfl⟩) hK hP rfl hl.1 rfl (Nat.le_of_ble_eq_true rfl) dX4_crossing_21 ⟨Nat.zero_le _, Nat.zero_le _⟩ ?_
      refine lv_if_ne (tgt := 30) hx hb dX4_crossing_24 (by decide) (fun c3 => ?_) (fun c3 => ?_)
      · skip
        refine lv_aload_n hx hb dX4_crossing_30 rfl (lv_at hl 0 rfl) ?_
        refine lv_iload_n hx hb dX4_crossing_31 rfl (lv_at hl 1 rfl) ?_
        refine lv_iload_n hx hb dX4_crossing_32 rfl (lv_at hl 2 rfl) ?_
        refine cpV (rest := []) (As := [.int p0, .int p1]) E (c_X4_crossingY l G B T p0 p1 (wok_of hM c1) (wok_of hM c2)) (cwV 2 hts gX4_crossing_X4_crossingY rfl rfl rfl (by decide +kernel) ⟨Nat.le_of_ble_eq_true rfl, Nat.le_of_ble_eq_true rfl⟩) hK hP 0 (wM_o G B T) rfl rfl hl.1 rfl (Nat.le_of_ble_eq_true rfl) dX4_crossing_33 ⟨Nat.zero_le _, Nat.zero_le _⟩ ?_
        refine lv_istore (lv' := [(4, .int (f_X4_crossingY T p0 p1)), (0, .ref (B 0)), (1, .int p0), (2, .int p1), (3, .int p2)]) hx hb dX4_crossing_36 hl (by decide) rfl (fun ls hl => ?_)
        refine lv_iload hx hb dX4_crossing_38 (lv_at hl 0 rfl) ?_
        refine lv_bipush (v := (-5)) hx hb dX4_crossing_40 (by decide) ?_
        refine lv_icmp_eq (tgt := 49) hx hb dX4_crossing_42 (by decide) (fun c4 => ?_) (fun c4 => ?_)
        · skip
          refine lv_iload hx hb dX4_crossing_49 (lv_at hl 0 rfl) ?_
          exact endP hx hb hr hlocks rfl (Eq.symm (Eq.trans (e_X4_crossing T p0 p1 p2) (Eq.trans (if_neg c1) (Eq.trans (if_neg c2) (Eq.trans (if_neg c3) ((if_pos c4))))))) dX4_crossing_51
        · skip
          refine lv_iload_n hx hb dX4_crossing_45 rfl (lv_at hl 4 rfl) ?_
          refine lv_if_ne (tgt := 52) hx hb dX4_crossing_46 (by decide) (fun c5 => ?_) (fun c5 => ?_)
          · skip
            refine lv_aload_n hx hb dX4_crossing_52 rfl (lv_at hl 1 rfl) ?_
            refine lv_iload_n hx hb dX4_crossing_53 rfl (lv_at hl 2 rfl) ?_
            refine lv_aload_n hx hb dX4_crossing_54 rfl (lv_at hl 1 rfl) ?_
            refine va_get (D := G.1) (ci := 4) (v := .ref (B 1)) (C := RX4) (T := TX4) (N := 11) hx hb hts hinX4 hown hK.1 hP 0 (wM_o G B T) rfl 0 (by decide) (hts (.fieldLink RX4 7 "WireLoopsModel" "now" "[I") (List.mem_of_getElem? (i := 1) rfl)) (fun _ h9 => h9) rfl dX4_crossing_55 ?_
            refine lv_iload_n hx hb dX4_crossing_58 rfl (lv_at hl 2 rfl) ?_
            refine lv_iconst (v := 1) hx hb dX4_crossing_59 (by decide) ?_
            refine cpS (rest := [.int p0, .ref (B 0)]) (As := [.ref (B 1), .int p0, .int 1]) E (c_X4_of l G B T 1 p0 1 (by decide) (by decide) (of_in 1 (in_hasM c1) w1)) (va_cwS 3 hts gX4_crossing_X4_of rfl rfl rfl (by decide +kernel) ⟨Nat.le_of_ble_eq_true rfl, Nat.le_of_ble_eq_true rfl⟩) hK hP rfl hl.1 rfl (Nat.le_of_ble_eq_true rfl) dX4_crossing_60 ⟨Nat.zero_le _, Nat.zero_le _⟩ ?_
            refine lv_iload_n hx hb dX4_crossing_63 rfl (lv_at hl 3 rfl) ?_
            refine cpV (rest := []) (As := [.int p0, .int (f_X4_of T 1 p0 1), .int p1]) E (c_X4_gap l G B T p0 (f_X4_of T 1 p0 1) p1 (wok_of hM c1) (wok_of hM c2)) (cwV 3 hts gX4_crossing_X4_gap rfl rfl rfl (by decide +kernel) ⟨Nat.le_of_ble_eq_true rfl, Nat.le_of_ble_eq_true rfl⟩) hK hP 0 (wM_o G B T) rfl rfl hl.1 rfl (Nat.le_of_ble_eq_true rfl) dX4_crossing_64 ⟨Nat.zero_le _, Nat.zero_le _⟩ ?_
            refine lv_istore (lv' := [(5, .int (f_X4_gap T p0 (f_X4_of T 1 p0 1) p1)), (4, .int (f_X4_crossingY T p0 p1)), (0, .ref (B 0)), (1, .int p0), (2, .int p1), (3, .int p2)]) hx hb dX4_crossing_67 hl (by decide) rfl (fun ls hl => ?_)
            refine lv_iload_n hx hb dX4_crossing_69 rfl (lv_at hl 5 rfl) ?_
            refine lv_iconst (v := 1) hx hb dX4_crossing_70 (by decide) ?_
            refine lv_icmp_ne (tgt := 79) hx hb dX4_crossing_71 (by decide) (fun c6 => ?_) (fun c6 => ?_)
            · skip
              refine lv_iload hx hb dX4_crossing_79 (lv_at hl 0 rfl) ?_
              refine lv_aload_n hx hb dX4_crossing_81 rfl (lv_at hl 2 rfl) ?_
              refine va_get (D := G.1) (ci := 4) (v := .ref (B 1)) (C := RX4) (T := TX4) (N := 11) hx hb hts hinX4 hown hK.1 hP 0 (wM_o G B T) rfl 0 (by decide) (hts (.fieldLink RX4 7 "WireLoopsModel" "now" "[I") (List.mem_of_getElem? (i := 1) rfl)) (fun _ h9 => h9) rfl dX4_crossing_82 ?_
              refine lv_bipush (v := 64) hx hb dX4_crossing_85 (by decide) ?_
              refine va_iald (D := G.1) hx hb hK.1 hP 1 0 (wM_j G B T 1 (by decide) (by decide)) rfl (cin 64 1 (by decide)) dX4_crossing_87 ?_
              refine W.eq (g2 := F0 m 88 ls [.int ((T 1) 64), .int (f_X4_gap T p0 (f_X4_of T 1 p0 1) p1)]) (by rw [show (64 : Int32).toNatClampNeg = 64 from by decide] <;> rfl) ?_
              refine lv_icmp_ge (tgt := 95) hx hb dX4_crossing_88 (by decide) (fun c7 => ?_) (fun c7 => ?_)
              · skip
                refine lv_iconst (v := 0) hx hb dX4_crossing_95 (by decide) ?_
                exact endP hx hb hr hlocks rfl (Eq.symm (Eq.trans (e_X4_crossing T p0 p1 p2) (Eq.trans (if_neg c1) (Eq.trans (if_neg c2) (Eq.trans (if_neg c3) (Eq.trans (if_neg c4) (Eq.trans (if_neg c5) (Eq.trans (if_neg c6) ((if_pos c7)))))))))) dX4_crossing_96
              · skip
                refine lv_iconst (v := 1) hx hb dX4_crossing_91 (by decide) ?_
                refine lv_goto (tgt := 96) hx hb dX4_crossing_92 (by decide) ?_
                exact endP hx hb hr hlocks rfl (Eq.symm (Eq.trans (e_X4_crossing T p0 p1 p2) (Eq.trans (if_neg c1) (Eq.trans (if_neg c2) (Eq.trans (if_neg c3) (Eq.trans (if_neg c4) (Eq.trans (if_neg c5) (Eq.trans (if_neg c6) ((if_neg c7)))))))))) dX4_crossing_96
            · skip
              refine lv_iload hx hb dX4_crossing_74 (lv_at hl 0 rfl) ?_
              refine lv_goto (tgt := 96) hx hb dX4_crossing_76 (by decide) ?_
              exact endP hx hb hr hlocks rfl (Eq.symm (Eq.trans (e_X4_crossing T p0 p1 p2) (Eq.trans (if_neg c1) (Eq.trans (if_neg c2) (Eq.trans (if_neg c3) (Eq.trans (if_neg c4) (Eq.trans (if_neg c5) ((if_pos c6))))))))) dX4_crossing_96
          · skip
            refine lv_iload hx hb dX4_crossing_49 (lv_at hl 0 rfl) ?_
            exact endP hx hb hr hlocks rfl (Eq.symm (Eq.trans (e_X4_crossing T p0 p1 p2) (Eq.trans (if_neg c1) (Eq.trans (if_neg c2) (Eq.trans (if_neg c3) (Eq.trans (if_neg c4) ((if_pos c5)))))))) dX4_crossing_51
      · skip
        refine lv_bipush (v := (-2)) hx hb dX4_crossing_27 (by decide) ?_
        exact endP hx hb hr hlocks rfl (Eq.symm (Eq.trans (e_X4_crossing T p0 p1 p2) (Eq.trans (if_neg c1) (Eq.trans (if_neg c2) ((if_pos c3)))))) dX4_crossing_29
    · skip
      refine lv_iconst (v := (-1)) hx hb dX4_crossing_16 (by decide) ?_
      exact endP hx hb hr hlocks rfl (Eq.symm (Eq.trans (e_X4_crossing T p0 p1 p2) (Eq.trans (if_neg c1) ((if_pos c2))))) dX4_crossing_17
noncomputable def f_X4_lead (T : MS) (p0 p1 : Int32) : Int32 := opq (if (f_X4_isLead p0) = 0 then (-1) else (if p1 = 0 then ((T 1) (0 + p0).toNatClampNeg) else (if p1 = 1 then (f_X4_padOf T 1 p0) else (-2))))
theorem e_X4_lead (T : MS) (p0 p1 : Int32) : f_X4_lead T p0 p1 = (if (f_X4_isLead p0) = 0 then (-1) else (if p1 = 0 then ((T 1) (0 + p0).toNatClampNeg) else (if p1 = 1 then (f_X4_padOf T 1 p0) else (-2)))) := opq_eq _
set_option maxHeartbeats 4000000 in
set_option maxRecDepth 100000 in
theorem c_X4_lead (l : Launch) (G : GG) (B : Nat → Nat) (T : MS) (p0 p1 : Int32) : Mp l yX4_lead wsX4_lead ({ frames := 2, cells := 0, slots := 0, locals := 45 } : Room) G [.ref (B 0), .int p0, .int p1] (wM G B T) (f_X4_lead T p0 p1) := by
  refine Mp.of (cc := cX4_lead) (maxL := 3) (ret := (some .int)) (by decide) rfl (Nat.le_of_ble_eq_true rfl) ?_
  intro p e s m args below meth c E hr hlocks hP hK ls hl
  have E : CallFix p m c cX4_lead 3 s args wsX4_lead RX4 := E
  have hx := E.1
  have hb := E.2.1
  have hml := E.2.2.1
  have hown := E.2.2.2.1
  have hts := E.2.2.2.2
  have hl : lv_has ls 3 [(0, .ref (B 0)), (1, .int p0), (2, .int p1)] := hl
  have hinX4 : ∀ w ∈ u_ws RX4 TX4 11, w ∈ wsX4_lead := fun _ h => List.mem_cons_of_mem _ (List.mem_append_right _ h)
  refine lv_iload_n hx hb dX4_lead_0 rfl (lv_at hl 1 rfl) ?_
  refine cpS (rest := []) (As := [.int p0]) E (c_X4_isLead l G B T p0) (va_cwS 1 hts gX4_lead_X4_isLead rfl rfl rfl (by decide +kernel) ⟨Nat.le_of_ble_eq_true rfl, Nat.le_of_ble_eq_true rfl⟩) hK hP rfl hl.1 rfl (Nat.le_of_ble_eq_true rfl) dX4_lead_1 ⟨Nat.zero_le _, Nat.zero_le _⟩ ?_
  refine lv_if_ne (tgt := 9) hx hb dX4_lead_4 (by decide) (fun c1 => ?_) (fun c1 => ?_)
  · skip
    refine lv_iload_n hx hb dX4_lead_9 rfl (lv_at hl 2 rfl) ?_
    refine lv_if_ne (tgt := 24) hx hb dX4_lead_10 (by decide) (fun c2 => ?_) (fun c2 => ?_)
    · skip
      refine lv_iload_n hx hb dX4_lead_24 rfl (lv_at hl 2 rfl) ?_
      refine lv_iconst (v := 1) hx hb dX4_lead_25 (by decide) ?_
      refine lv_icmp_ne (tgt := 40) hx hb dX4_lead_26 (by decide) (fun c3 => ?_) (fun c3 => ?_)
      · skip
        refine lv_bipush (v := (-2)) hx hb dX4_lead_40 (by decide) ?_
        exact endP hx hb hr hlocks rfl (Eq.symm (Eq.trans (e_X4_lead T p0 p1) (Eq.trans (if_neg c1) (Eq.trans (if_neg c2) ((if_neg c3)))))) dX4_lead_42
      · skip
        refine lv_aload_n hx hb dX4_lead_29 rfl (lv_at hl 0 rfl) ?_
        refine va_get (D := G.1) (ci := 4) (v := .ref (B 1)) (C := RX4) (T := TX4) (N := 11) hx hb hts hinX4 hown hK.1 hP 0 (wM_o G B T) rfl 0 (by decide) (hts (.fieldLink RX4 7 "WireLoopsModel" "now" "[I") (List.mem_of_getElem? (i := 1) rfl)) (fun _ h9 => h9) rfl dX4_lead_30 ?_
        refine lv_iload_n hx hb dX4_lead_33 rfl (lv_at hl 1 rfl) ?_
        refine cpS (rest := []) (As := [.ref (B 1), .int p0]) E (c_X4_padOf l G B T 1 p0 (by decide) (by decide)) (va_cwS 2 hts gX4_lead_X4_padOf rfl rfl rfl (by decide +kernel) ⟨Nat.le_of_ble_eq_true rfl, Nat.le_of_ble_eq_true rfl⟩) hK hP rfl hl.1 rfl (Nat.le_of_ble_eq_true rfl) dX4_lead_34 ⟨Nat.zero_le _, Nat.zero_le _⟩ ?_
        refine lv_goto (tgt := 42) hx hb dX4_lead_37 (by decide) ?_
        exact endP hx hb hr hlocks rfl (Eq.symm (Eq.trans (e_X4_lead T p0 p1) (Eq.trans (if_neg c1) (Eq.trans (if_neg c2) ((if_pos c3)))))) dX4_lead_42
    · skip
      refine lv_aload_n hx hb dX4_lead_13 rfl (lv_at hl 0 rfl) ?_
      refine va_get (D := G.1) (ci := 4) (v := .ref (B 1)) (C := RX4) (T := TX4) (N := 11) hx hb hts hinX4 hown hK.1 hP 0 (wM_o G B T) rfl 0 (by decide) (hts (.fieldLink RX4 7 "WireLoopsModel" "now" "[I") (List.mem_of_getElem? (i := 1) rfl)) (fun _ h9 => h9) rfl dX4_lead_14 ?_
      refine lv_iconst (v := 0) hx hb dX4_lead_17 (by decide) ?_
      refine lv_iload_n hx hb dX4_lead_18 rfl (lv_at hl 1 rfl) ?_
      refine lv_iadd hx hb dX4_lead_19 ?_
      refine va_iald (D := G.1) hx hb hK.1 hP 1 0 (wM_j G B T 1 (by decide) (by decide)) rfl (lead_in 1 (in_lM c1)) dX4_lead_20 ?_
      refine lv_goto (tgt := 42) hx hb dX4_lead_21 (by decide) ?_
      exact endP hx hb hr hlocks rfl (Eq.symm (Eq.trans (e_X4_lead T p0 p1) (Eq.trans (if_neg c1) ((if_pos c2))))) dX4_lead_42
  · skip
    refine lv_iconst (v := (-1)) hx hb dX4_lead_7 (by decide) ?_
    exact endP hx hb hr hlocks rfl (Eq.symm (Eq.trans (e_X4_lead T p0 p1) ((if_pos c1)))) dX4_lead_8
noncomputable def g_X4_bestHeight_38 (T : MS) (p0 p1 : Int32) : Nat → Nat → Int32 → Int32 → Int32 × Int32
  | 0, k, v, u => (v, u)
  | n + 1, k, v, u => opq (if 200 < (nI k) then (v, u) else (if u ≤ (f_X4_shortOnes T p0 (nI k)) then (g_X4_bestHeight_38 T p0 p1 n (k + 1) v u) else (g_X4_bestHeight_38 T p0 p1 n (k + 1) (nI k) (f_X4_shortOnes T p0 (nI k)))))
theorem ge_X4_bestHeight_38 (T : MS) (p0 p1 : Int32) (n : Nat) (k : Nat) (v : Int32) (u : Int32) : g_X4_bestHeight_38 T p0 p1 (n + 1) k v u = (if 200 < (nI k) then (v, u) else (if u ≤ (f_X4_shortOnes T p0 (nI k)) then (g_X4_bestHeight_38 T p0 p1 n (k + 1) v u) else (g_X4_bestHeight_38 T p0 p1 n (k + 1) (nI k) (f_X4_shortOnes T p0 (nI k))))) := opq_eq _
noncomputable def f_X4_bestHeight (T : MS) (p0 p1 : Int32) : Int32 := opq (if (f_X4_hasWire T p0) = 0 then (-1) else (if (f_X4_in p1 0 1) = 0 then (-2) else (if p1 = 0 then (g_X4_bestHeight_38 T p0 p1 202 11 10 (f_X4_shortOnes T p0 10)).1 else (g_X4_bestHeight_38 T p0 p1 202 11 10 (f_X4_shortOnes T p0 10)).2)))
theorem e_X4_bestHeight (T : MS) (p0 p1 : Int32) : f_X4_bestHeight T p0 p1 = (if (f_X4_hasWire T p0) = 0 then (-1) else (if (f_X4_in p1 0 1) = 0 then (-2) else (if p1 = 0 then (g_X4_bestHeight_38 T p0 p1 202 11 10 (f_X4_shortOnes T p0 10)).1 else (g_X4_bestHeight_38 T p0 p1 202 11 10 (f_X4_shortOnes T p0 10)).2))) := opq_eq _
set_option maxHeartbeats 4000000 in
set_option maxRecDepth 100000 in
theorem c_X4_bestHeight (l : Launch) (G : GG) (B : Nat → Nat) (T : MS) (p0 p1 : Int32) (hM : mok T) : Mp l yX4_bestHeight wsX4_bestHeight ({ frames := 5, cells := 0, slots := 0, locals := 109 } : Room) G [.ref (B 0), .int p0, .int p1] (wM G B T) (f_X4_bestHeight T p0 p1) := by
  refine Mp.of (cc := cX4_bestHeight) (maxL := 7) (ret := (some .int)) (by decide) rfl (Nat.le_of_ble_eq_true rfl) ?_
  intro p e s m args below meth c E hr hlocks hP hK ls hl
  have E : CallFix p m c cX4_bestHeight 7 s args wsX4_bestHeight RX4 := E
  have hx := E.1
  have hb := E.2.1
  have hml := E.2.2.1
  have hown := E.2.2.2.1
  have hts := E.2.2.2.2
  have hl : lv_has ls 7 [(0, .ref (B 0)), (1, .int p0), (2, .int p1)] := hl
  have LOOP38 : ∀ (n : Nat) (k : Nat) (v : Int32) (u : Int32) (Q : State → Prop), (k ≤ 201) → (201 < k + n) → ∀ V : Int32 × Int32, g_X4_bestHeight_38 T p0 p1 n k v u = V → (∀ ls : Array Slot, lv_has ls 7 [(2, .int p1), (3, .int V.1), (4, .int V.2)] → W p l e ({ frames := 5, cells := 0, slots := 0, locals := 109 } : Room) s m args below meth c s.heap [] 0 0 (Q) (F0 m 91 ls [])) → ∀ ls : Array Slot, lv_has ls 7 [(0, .ref (B 0)), (1, .int p0), (2, .int p1), (3, .int v), (4, .int u), (5, .int (nI k))] → W p l e ({ frames := 5, cells := 0, slots := 0, locals := 109 } : Room) s m args below meth c s.heap [] 0 0 (Q) (F0 m 38 ls []) := by
    intro n
    induction n with
    | zero =>
      intro k v u Q hk hn
      exact absurd hn (by omega)
    | succ n ih =>
      intro k v u Q hk hn V hres kk ls hl
      have hl : lv_has ls 7 [(0, .ref (B 0)), (1, .int p0), (2, .int p1), (3, .int v), (4, .int u), (5, .int (nI k))] := hl
      refine lv_iload hx hb dX4_bestHeight_38 (lv_at hl 5 rfl) ?_
      refine lv_sipush (v := 200) hx hb dX4_bestHeight_40 (by decide) ?_
      refine lv_icmp_gt (tgt := 91) hx hb dX4_bestHeight_43 (by decide) (fun c1 => ?_) (fun c1 => ?_)
      · skip
        have hfin : (v, u) = V := Eq.trans (Eq.symm (Eq.trans (ge_X4_bestHeight_38 T p0 p1 n k v u) ((if_pos c1)))) hres
        subst hfin
        exact kk _ (lv_sub hl [2, 3, 4] rfl)
      · skip
        have hk2 : k < 201 := lt_of_nlt (N := 200) rfl hk c1 (by decide)
        refine lv_aload_n hx hb dX4_bestHeight_46 rfl (lv_at hl 0 rfl) ?_
        refine lv_iload_n hx hb dX4_bestHeight_47 rfl (lv_at hl 1 rfl) ?_
        refine lv_iload hx hb dX4_bestHeight_48 (lv_at hl 5 rfl) ?_
        refine cpV (rest := []) (As := [.int p0, .int (nI k)]) E (c_X4_shortOnes l G B T p0 (nI k) hM) (cwV 2 hts gX4_bestHeight_X4_shortOnes rfl rfl rfl (by decide +kernel) ⟨Nat.le_of_ble_eq_true rfl, Nat.le_of_ble_eq_true rfl⟩) hK hP 0 (wM_o G B T) rfl rfl hl.1 rfl (Nat.le_of_ble_eq_true rfl) dX4_bestHeight_50 ⟨Nat.zero_le _, Nat.zero_le _⟩ ?_
        refine lv_istore (lv' := [(6, .int (f_X4_shortOnes T p0 (nI k))), (0, .ref (B 0)), (1, .int p0), (2, .int p1), (3, .int v), (4, .int u), (5, .int (nI k))]) hx hb dX4_bestHeight_53 hl (by decide) rfl (fun ls hl => ?_)
        refine lv_iload hx hb dX4_bestHeight_55 (lv_at hl 0 rfl) ?_
        refine lv_iload hx hb dX4_bestHeight_57 (lv_at hl 5 rfl) ?_
        refine lv_icmp_ge (tgt := 67) hx hb dX4_bestHeight_59 (by decide) (fun c2 => ?_) (fun c2 => ?_)
        · skip
          refine lv_iload_n hx hb dX4_bestHeight_67 rfl (lv_at hl 4 rfl) ?_
          refine lv_istore_n (lv' := [(3, .int v), (6, .int (f_X4_shortOnes T p0 (nI k))), (0, .ref (B 0)), (1, .int p0), (2, .int p1), (4, .int u), (5, .int (nI k))]) hx hb dX4_bestHeight_68 rfl hl (by decide) rfl (fun ls hl => ?_)
          refine lv_iload hx hb dX4_bestHeight_69 (lv_at hl 1 rfl) ?_
          refine lv_iload hx hb dX4_bestHeight_71 (lv_at hl 5 rfl) ?_
          refine lv_icmp_ge (tgt := 81) hx hb dX4_bestHeight_73 (by decide) (fun c3 => ?_) (fun c3 => absurd (c2) c3)
          refine lv_iload hx hb dX4_bestHeight_81 (lv_at hl 5 rfl) ?_
          refine lv_istore (lv' := [(4, .int u), (3, .int v), (6, .int (f_X4_shortOnes T p0 (nI k))), (0, .ref (B 0)), (1, .int p0), (2, .int p1), (5, .int (nI k))]) hx hb dX4_bestHeight_83 hl (by decide) rfl (fun ls hl => ?_)
          refine lv_iinc (v := (nI (k + 1))) (lv' := [(5, .int (nI (k + 1))), (4, .int u), (3, .int v), (6, .int (f_X4_shortOnes T p0 (nI k))), (0, .ref (B 0)), (1, .int p0), (2, .int p1)]) hx hb dX4_bestHeight_85 hl (k := 6) rfl (nI_1 k) (by decide) rfl (fun ls hl => ?_)
          refine lv_goto (tgt := 38) hx hb dX4_bestHeight_88 (by decide) ?_
          exact ih (k + 1) v u Q (by omega) (by omega) V (Eq.trans (Eq.symm (Eq.trans (ge_X4_bestHeight_38 T p0 p1 n k v u) (Eq.trans (if_neg c1) ((if_pos c2))))) hres) kk  _ (lv_sub hl [4, 5, 6, 2, 1, 0] rfl)
        · skip
          refine lv_iload hx hb dX4_bestHeight_62 (lv_at hl 6 rfl) ?_
          refine lv_goto (tgt := 68) hx hb dX4_bestHeight_64 (by decide) ?_
          refine lv_istore_n (lv' := [(3, .int (nI k)), (6, .int (f_X4_shortOnes T p0 (nI k))), (0, .ref (B 0)), (1, .int p0), (2, .int p1), (4, .int u), (5, .int (nI k))]) hx hb dX4_bestHeight_68 rfl hl (by decide) rfl (fun ls hl => ?_)
          refine lv_iload hx hb dX4_bestHeight_69 (lv_at hl 1 rfl) ?_
          refine lv_iload hx hb dX4_bestHeight_71 (lv_at hl 5 rfl) ?_
          refine lv_icmp_ge (tgt := 81) hx hb dX4_bestHeight_73 (by decide) (fun c4 => absurd c4 (c2)) (fun c4 => ?_)
          refine lv_iload hx hb dX4_bestHeight_76 (lv_at hl 1 rfl) ?_
          refine lv_goto (tgt := 83) hx hb dX4_bestHeight_78 (by decide) ?_
          refine lv_istore (lv' := [(4, .int (f_X4_shortOnes T p0 (nI k))), (3, .int (nI k)), (6, .int (f_X4_shortOnes T p0 (nI k))), (0, .ref (B 0)), (1, .int p0), (2, .int p1), (5, .int (nI k))]) hx hb dX4_bestHeight_83 hl (by decide) rfl (fun ls hl => ?_)
          refine lv_iinc (v := (nI (k + 1))) (lv' := [(5, .int (nI (k + 1))), (4, .int (f_X4_shortOnes T p0 (nI k))), (3, .int (nI k)), (6, .int (f_X4_shortOnes T p0 (nI k))), (0, .ref (B 0)), (1, .int p0), (2, .int p1)]) hx hb dX4_bestHeight_85 hl (k := 6) rfl (nI_1 k) (by decide) rfl (fun ls hl => ?_)
          refine lv_goto (tgt := 38) hx hb dX4_bestHeight_88 (by decide) ?_
          exact ih (k + 1) (nI k) (f_X4_shortOnes T p0 (nI k)) Q (by omega) (by omega) V (Eq.trans (Eq.symm (Eq.trans (ge_X4_bestHeight_38 T p0 p1 n k v u) (Eq.trans (if_neg c1) ((if_neg c2))))) hres) kk  _ (lv_sub hl [4, 5, 6, 2, 1, 0] rfl)
  refine lv_aload_n hx hb dX4_bestHeight_0 rfl (lv_at hl 0 rfl) ?_
  refine lv_iload_n hx hb dX4_bestHeight_1 rfl (lv_at hl 1 rfl) ?_
  refine cpV (rest := []) (As := [.int p0]) E (c_X4_hasWire l G B T p0) (cwV 1 hts gX4_bestHeight_X4_hasWire rfl rfl rfl (by decide +kernel) ⟨Nat.le_of_ble_eq_true rfl, Nat.le_of_ble_eq_true rfl⟩) hK hP 0 (wM_o G B T) rfl rfl hl.1 rfl (Nat.le_of_ble_eq_true rfl) dX4_bestHeight_2 ⟨Nat.zero_le _, Nat.zero_le _⟩ ?_
  refine lv_if_ne (tgt := 10) hx hb dX4_bestHeight_5 (by decide) (fun c5 => ?_) (fun c5 => ?_)
  · skip
    refine lv_iload_n hx hb dX4_bestHeight_10 rfl (lv_at hl 2 rfl) ?_
    refine lv_iconst (v := 0) hx hb dX4_bestHeight_11 (by decide) ?_
    refine lv_iconst (v := 1) hx hb dX4_bestHeight_12 (by decide) ?_
    refine cpS (rest := []) (As := [.int p1, .int 0, .int 1]) E (c_X4_in l G B T p1 0 1) (va_cwS 3 hts gX4_bestHeight_X4_in rfl rfl rfl (by decide +kernel) ⟨Nat.le_of_ble_eq_true rfl, Nat.le_of_ble_eq_true rfl⟩) hK hP rfl hl.1 rfl (Nat.le_of_ble_eq_true rfl) dX4_bestHeight_13 ⟨Nat.zero_le _, Nat.zero_le _⟩ ?_
    refine lv_if_ne (tgt := 22) hx hb dX4_bestHeight_16 (by decide) (fun c6 => ?_) (fun c6 => ?_)
    · skip
      refine lv_bipush (v := 10) hx hb dX4_bestHeight_22 (by decide) ?_
      refine lv_istore_n (lv' := [(3, .int 10), (0, .ref (B 0)), (1, .int p0), (2, .int p1)]) hx hb dX4_bestHeight_24 rfl hl (by decide) rfl (fun ls hl => ?_)
      refine lv_aload_n hx hb dX4_bestHeight_25 rfl (lv_at hl 1 rfl) ?_
      refine lv_iload_n hx hb dX4_bestHeight_26 rfl (lv_at hl 2 rfl) ?_
      refine lv_bipush (v := 10) hx hb dX4_bestHeight_27 (by decide) ?_
      refine cpV (rest := []) (As := [.int p0, .int 10]) E (c_X4_shortOnes l G B T p0 10 hM) (cwV 2 hts gX4_bestHeight_X4_shortOnes rfl rfl rfl (by decide +kernel) ⟨Nat.le_of_ble_eq_true rfl, Nat.le_of_ble_eq_true rfl⟩) hK hP 0 (wM_o G B T) rfl rfl hl.1 rfl (Nat.le_of_ble_eq_true rfl) dX4_bestHeight_29 ⟨Nat.zero_le _, Nat.zero_le _⟩ ?_
      refine lv_istore (lv' := [(4, .int (f_X4_shortOnes T p0 10)), (3, .int 10), (0, .ref (B 0)), (1, .int p0), (2, .int p1)]) hx hb dX4_bestHeight_32 hl (by decide) rfl (fun ls hl => ?_)
      refine lv_bipush (v := 11) hx hb dX4_bestHeight_34 (by decide) ?_
      refine lv_istore (lv' := [(5, .int 11), (4, .int (f_X4_shortOnes T p0 10)), (3, .int 10), (0, .ref (B 0)), (1, .int p0), (2, .int p1)]) hx hb dX4_bestHeight_36 hl (by decide) rfl (fun ls hl => ?_)
      refine LOOP38 202 11 10 (f_X4_shortOnes T p0 10) _ (by omega) (by omega) _ rfl (fun ls hl => ?_)  _ (lv_sub hl [3, 4, 5, 2, 1, 0] rfl)
      have hl : lv_has ls 7 [(2, .int p1), (3, .int ((g_X4_bestHeight_38 T p0 p1 202 11 10 (f_X4_shortOnes T p0 10)).1)), (4, .int ((g_X4_bestHeight_38 T p0 p1 202 11 10 (f_X4_shortOnes T p0 10)).2))] := hl
      refine lv_iload_n hx hb dX4_bestHeight_91 rfl (lv_at hl 0 rfl) ?_
      refine lv_if_ne (tgt := 99) hx hb dX4_bestHeight_92 (by decide) (fun c7 => ?_) (fun c7 => ?_)
      · skip
        refine lv_iload hx hb dX4_bestHeight_99 (lv_at hl 2 rfl) ?_
        exact endP hx hb hr hlocks rfl (Eq.symm (Eq.trans (e_X4_bestHeight T p0 p1) (Eq.trans (if_neg c5) (Eq.trans (if_neg c6) ((if_neg c7)))))) dX4_bestHeight_101
      · skip
        refine lv_iload_n hx hb dX4_bestHeight_95 rfl (lv_at hl 1 rfl) ?_
        refine lv_goto (tgt := 101) hx hb dX4_bestHeight_96 (by decide) ?_
        exact endP hx hb hr hlocks rfl (Eq.symm (Eq.trans (e_X4_bestHeight T p0 p1) (Eq.trans (if_neg c5) (Eq.trans (if_neg c6) ((if_pos c7)))))) dX4_bestHeight_101
    · skip
      refine lv_bipush (v := (-2)) hx hb dX4_bestHeight_19 (by decide) ?_
      exact endP hx hb hr hlocks rfl (Eq.symm (Eq.trans (e_X4_bestHeight T p0 p1) (Eq.trans (if_neg c5) ((if_pos c6))))) dX4_bestHeight_21
  · skip
    refine lv_iconst (v := (-1)) hx hb dX4_bestHeight_8 (by decide) ?_
    exact endP hx hb hr hlocks rfl (Eq.symm (Eq.trans (e_X4_bestHeight T p0 p1) ((if_pos c5)))) dX4_bestHeight_9
noncomputable def g_X4_laysLeft_38 (T : MS) (p0 : Int32) : Nat → Int32 → Int32 → Int32 → Int32
  | 0, nv, wv, u => nv
  | n + 1, nv, wv, u => opq (if u = 0 then (if 200 ≤ wv then nv else (if ((((T 1) 68) + (nv + 1)) - (((T 1) 68) + (nv + 1)) / 7 * 7) = 0 then (g_X4_laysLeft_38 T p0 n (nv + 1) (wv + (2 + (p0 / 50))) 1) else (g_X4_laysLeft_38 T p0 n (nv + 1) (wv + (2 + (p0 / 50))) 0))) else nv)
theorem ge_X4_laysLeft_38 (T : MS) (p0 : Int32) (n : Nat) (nv : Int32) (wv : Int32) (u : Int32) : g_X4_laysLeft_38 T p0 (n + 1) nv wv u = (if u = 0 then (if 200 ≤ wv then nv else (if ((((T 1) 68) + (nv + 1)) - (((T 1) 68) + (nv + 1)) / 7 * 7) = 0 then (g_X4_laysLeft_38 T p0 n (nv + 1) (wv + (2 + (p0 / 50))) 1) else (g_X4_laysLeft_38 T p0 n (nv + 1) (wv + (2 + (p0 / 50))) 0))) else nv) := opq_eq _
noncomputable def f_X4_laysLeft (T : MS) (p0 : Int32) : Int32 := opq (if (f_X4_isHeight p0) = 0 then (-2) else (if ((T 1) 66) = 1 then (g_X4_laysLeft_38 T p0 201 0 ((T 1) 65) 1) else (g_X4_laysLeft_38 T p0 201 0 ((T 1) 65) 0)))
theorem e_X4_laysLeft (T : MS) (p0 : Int32) : f_X4_laysLeft T p0 = (if (f_X4_isHeight p0) = 0 then (-2) else (if ((T 1) 66) = 1 then (g_X4_laysLeft_38 T p0 201 0 ((T 1) 65) 1) else (g_X4_laysLeft_38 T p0 201 0 ((T 1) 65) 0))) := opq_eq _
set_option maxHeartbeats 4000000 in
set_option maxRecDepth 100000 in
theorem c_X4_laysLeft (l : Launch) (G : GG) (B : Nat → Nat) (T : MS) (p0 : Int32) (hw : 0 ≤ (T 1 65).toInt) : Mp l yX4_laysLeft wsX4_laysLeft ({ frames := 2, cells := 0, slots := 0, locals := 42 } : Room) G [.ref (B 0), .int p0] (wM G B T) (f_X4_laysLeft T p0) := by
  refine Mp.of (cc := cX4_laysLeft) (maxL := 5) (ret := (some .int)) (by decide) rfl (Nat.le_of_ble_eq_true rfl) ?_
  intro p e s m args below meth c E hr hlocks hP hK ls hl
  have E : CallFix p m c cX4_laysLeft 5 s args wsX4_laysLeft RX4 := E
  have hx := E.1
  have hb := E.2.1
  have hml := E.2.2.1
  have hown := E.2.2.2.1
  have hts := E.2.2.2.2
  have hl : lv_has ls 5 [(0, .ref (B 0)), (1, .int p0)] := hl
  have hinX4 : ∀ w ∈ u_ws RX4 TX4 11, w ∈ wsX4_laysLeft := fun _ h => List.mem_cons_of_mem _ (List.mem_append_right _ h)
  have LOOP38 : ∀ (n : Nat) (nv : Int32) (wv : Int32) (u : Int32) (Q : State → Prop), (0 ≤ wv.toInt) → (¬ f_X4_isHeight p0 = 0) → (0 < n ∧ (200 : Int) < wv.toInt + n) → ∀ V : Int32, g_X4_laysLeft_38 T p0 n nv wv u = V → (∀ ls : Array Slot, lv_has ls 5 [(2, .int V)] → W p l e ({ frames := 2, cells := 0, slots := 0, locals := 42 } : Room) s m args below meth c s.heap [] 0 0 (Q) (F0 m 87 ls [])) → ∀ ls : Array Slot, lv_has ls 5 [(0, .ref (B 0)), (1, .int p0), (2, .int nv), (3, .int wv), (4, .int u)] → W p l e ({ frames := 2, cells := 0, slots := 0, locals := 42 } : Room) s m args below meth c s.heap [] 0 0 (Q) (F0 m 38 ls []) := by
    intro n
    induction n with
    | zero =>
      intro nv wv u Q h0 hh hn
      exact absurd hn.1 (Nat.lt_irrefl 0)
    | succ n ih =>
      intro nv wv u Q h0 hh hn V hres kk ls hl
      have hl : lv_has ls 5 [(0, .ref (B 0)), (1, .int p0), (2, .int nv), (3, .int wv), (4, .int u)] := hl
      refine lv_iload hx hb dX4_laysLeft_38 (lv_at hl 4 rfl) ?_
      refine lv_if_ne (tgt := 87) hx hb dX4_laysLeft_40 (by decide) (fun c1 => ?_) (fun c1 => ?_)
      · skip
        have hfin : nv = V := Eq.trans (Eq.symm (Eq.trans (ge_X4_laysLeft_38 T p0 n nv wv u) ((if_neg c1)))) hres
        subst hfin
        exact kk _ (lv_sub hl [2] rfl)
      · skip
        refine lv_iload_n hx hb dX4_laysLeft_43 rfl (lv_at hl 3 rfl) ?_
        refine lv_sipush (v := 200) hx hb dX4_laysLeft_44 (by decide) ?_
        refine lv_icmp_ge (tgt := 87) hx hb dX4_laysLeft_47 (by decide) (fun c2 => ?_) (fun c2 => ?_)
        · skip
          have hfin : nv = V := Eq.trans (Eq.symm (Eq.trans (ge_X4_laysLeft_38 T p0 n nv wv u) (Eq.trans (if_pos c1) ((if_pos c2))))) hres
          subst hfin
          exact kk _ (lv_sub hl [2] rfl)
        · skip
          have hs := wear_step h0 c2 hh
          refine lv_iinc (v := (nv + 1)) (lv' := [(2, .int (nv + 1)), (0, .ref (B 0)), (1, .int p0), (3, .int wv), (4, .int u)]) hx hb dX4_laysLeft_50 hl (k := 2) rfl (rfl) (by decide) rfl (fun ls hl => ?_)
          refine lv_iload_n hx hb dX4_laysLeft_53 rfl (lv_at hl 3 rfl) ?_
          refine lv_iconst (v := 2) hx hb dX4_laysLeft_54 (by decide) ?_
          refine lv_iload_n hx hb dX4_laysLeft_55 rfl (lv_at hl 2 rfl) ?_
          refine lv_bipush (v := 50) hx hb dX4_laysLeft_56 (by decide) ?_
          refine lv_idiv hx hb dX4_laysLeft_58 (by decide) ?_
          refine lv_iadd hx hb dX4_laysLeft_59 ?_
          refine lv_iadd hx hb dX4_laysLeft_60 ?_
          refine lv_istore_n (lv' := [(3, .int (wv + (2 + (p0 / 50)))), (2, .int (nv + 1)), (0, .ref (B 0)), (1, .int p0), (4, .int u)]) hx hb dX4_laysLeft_61 rfl hl (by decide) rfl (fun ls hl => ?_)
          refine lv_aload_n hx hb dX4_laysLeft_62 rfl (lv_at hl 2 rfl) ?_
          refine va_get (D := G.1) (ci := 4) (v := .ref (B 1)) (C := RX4) (T := TX4) (N := 11) hx hb hts hinX4 hown hK.1 hP 0 (wM_o G B T) rfl 0 (by decide) (hts (.fieldLink RX4 7 "WireLoopsModel" "now" "[I") (List.mem_of_getElem? (i := 1) rfl)) (fun _ h9 => h9) rfl dX4_laysLeft_63 ?_
          refine lv_bipush (v := 68) hx hb dX4_laysLeft_66 (by decide) ?_
          refine va_iald (D := G.1) hx hb hK.1 hP 1 0 (wM_j G B T 1 (by decide) (by decide)) rfl (cin 68 1 (by decide)) dX4_laysLeft_68 ?_
          refine W.eq (g2 := F0 m 69 ls [.int ((T 1) 68)]) (by rw [show (68 : Int32).toNatClampNeg = 68 from by decide] <;> rfl) ?_
          refine lv_iload_n hx hb dX4_laysLeft_69 rfl (lv_at hl 1 rfl) ?_
          refine lv_iadd hx hb dX4_laysLeft_70 ?_
          refine lv_bipush (v := 7) hx hb dX4_laysLeft_71 (by decide) ?_
          refine lv_irem hx hb dX4_laysLeft_73 (by decide) ?_
          refine lv_if_ne (tgt := 81) hx hb dX4_laysLeft_74 (by decide) (fun c3 => ?_) (fun c3 => ?_)
          · skip
            refine lv_iconst (v := 0) hx hb dX4_laysLeft_81 (by decide) ?_
            refine lv_istore (lv' := [(4, .int 0), (3, .int (wv + (2 + (p0 / 50)))), (2, .int (nv + 1)), (0, .ref (B 0)), (1, .int p0)]) hx hb dX4_laysLeft_82 hl (by decide) rfl (fun ls hl => ?_)
            refine lv_goto (tgt := 38) hx hb dX4_laysLeft_84 (by decide) ?_
            exact ih (nv + 1) (wv + (2 + (p0 / 50))) 0 Q hs.1 hh ⟨by omega, by omega⟩ V (Eq.trans (Eq.symm (Eq.trans (ge_X4_laysLeft_38 T p0 n nv wv u) (Eq.trans (if_pos c1) (Eq.trans (if_neg c2) ((if_neg c3)))))) hres) kk  _ (lv_sub hl [3, 4, 2, 1, 0] rfl)
          · skip
            refine lv_iconst (v := 1) hx hb dX4_laysLeft_77 (by decide) ?_
            refine lv_goto (tgt := 82) hx hb dX4_laysLeft_78 (by decide) ?_
            refine lv_istore (lv' := [(4, .int 1), (3, .int (wv + (2 + (p0 / 50)))), (2, .int (nv + 1)), (0, .ref (B 0)), (1, .int p0)]) hx hb dX4_laysLeft_82 hl (by decide) rfl (fun ls hl => ?_)
            refine lv_goto (tgt := 38) hx hb dX4_laysLeft_84 (by decide) ?_
            exact ih (nv + 1) (wv + (2 + (p0 / 50))) 1 Q hs.1 hh ⟨by omega, by omega⟩ V (Eq.trans (Eq.symm (Eq.trans (ge_X4_laysLeft_38 T p0 n nv wv u) (Eq.trans (if_pos c1) (Eq.trans (if_neg c2) ((if_pos c3)))))) hres) kk  _ (lv_sub hl [3, 4, 2, 1, 0] rfl)
  refine lv_iload_n hx hb dX4_laysLeft_0 rfl (lv_at hl 1 rfl) ?_
  refine cpS (rest := []) (As := [.int p0]) E (c_X4_isHeight l G B T p0) (va_cwS 1 hts gX4_laysLeft_X4_isHeight rfl rfl rfl (by decide +kernel) ⟨Nat.le_of_ble_eq_true rfl, Nat.le_of_ble_eq_true rfl⟩) hK hP rfl hl.1 rfl (Nat.le_of_ble_eq_true rfl) dX4_laysLeft_1 ⟨Nat.zero_le _, Nat.zero_le _⟩ ?_
  refine lv_if_ne (tgt := 10) hx hb dX4_laysLeft_4 (by decide) (fun c4 => ?_) (fun c4 => ?_)
  · skip
    refine lv_iconst (v := 0) hx hb dX4_laysLeft_10 (by decide) ?_
    refine lv_istore_n (lv' := [(2, .int 0), (0, .ref (B 0)), (1, .int p0)]) hx hb dX4_laysLeft_11 rfl hl (by decide) rfl (fun ls hl => ?_)
    refine lv_aload_n hx hb dX4_laysLeft_12 rfl (lv_at hl 1 rfl) ?_
    refine va_get (D := G.1) (ci := 4) (v := .ref (B 1)) (C := RX4) (T := TX4) (N := 11) hx hb hts hinX4 hown hK.1 hP 0 (wM_o G B T) rfl 0 (by decide) (hts (.fieldLink RX4 7 "WireLoopsModel" "now" "[I") (List.mem_of_getElem? (i := 1) rfl)) (fun _ h9 => h9) rfl dX4_laysLeft_13 ?_
    refine lv_bipush (v := 65) hx hb dX4_laysLeft_16 (by decide) ?_
    refine va_iald (D := G.1) hx hb hK.1 hP 1 0 (wM_j G B T 1 (by decide) (by decide)) rfl (cin 65 1 (by decide)) dX4_laysLeft_18 ?_
    refine W.eq (g2 := F0 m 19 ls [.int ((T 1) 65)]) (by rw [show (65 : Int32).toNatClampNeg = 65 from by decide] <;> rfl) ?_
    refine lv_istore_n (lv' := [(3, .int ((T 1) 65)), (2, .int 0), (0, .ref (B 0)), (1, .int p0)]) hx hb dX4_laysLeft_19 rfl hl (by decide) rfl (fun ls hl => ?_)
    refine lv_aload_n hx hb dX4_laysLeft_20 rfl (lv_at hl 2 rfl) ?_
    refine va_get (D := G.1) (ci := 4) (v := .ref (B 1)) (C := RX4) (T := TX4) (N := 11) hx hb hts hinX4 hown hK.1 hP 0 (wM_o G B T) rfl 0 (by decide) (hts (.fieldLink RX4 7 "WireLoopsModel" "now" "[I") (List.mem_of_getElem? (i := 1) rfl)) (fun _ h9 => h9) rfl dX4_laysLeft_21 ?_
    refine lv_bipush (v := 66) hx hb dX4_laysLeft_24 (by decide) ?_
    refine va_iald (D := G.1) hx hb hK.1 hP 1 0 (wM_j G B T 1 (by decide) (by decide)) rfl (cin 66 1 (by decide)) dX4_laysLeft_26 ?_
    refine W.eq (g2 := F0 m 27 ls [.int ((T 1) 66)]) (by rw [show (66 : Int32).toNatClampNeg = 66 from by decide] <;> rfl) ?_
    refine lv_iconst (v := 1) hx hb dX4_laysLeft_27 (by decide) ?_
    refine lv_icmp_ne (tgt := 35) hx hb dX4_laysLeft_28 (by decide) (fun c5 => ?_) (fun c5 => ?_)
    · skip
      refine lv_iconst (v := 0) hx hb dX4_laysLeft_35 (by decide) ?_
      refine lv_istore (lv' := [(4, .int 0), (3, .int ((T 1) 65)), (2, .int 0), (0, .ref (B 0)), (1, .int p0)]) hx hb dX4_laysLeft_36 hl (by decide) rfl (fun ls hl => ?_)
      refine LOOP38 201 0 ((T 1) 65) 0 _ hw c4 ⟨by decide, by omega⟩ _ rfl (fun ls hl => ?_)  _ (lv_sub hl [3, 4, 2, 1, 0] rfl)
      have hl : lv_has ls 5 [(2, .int (g_X4_laysLeft_38 T p0 201 0 ((T 1) 65) 0))] := hl
      refine lv_iload_n hx hb dX4_laysLeft_87 rfl (lv_at hl 0 rfl) ?_
      exact endP hx hb hr hlocks rfl (Eq.symm (Eq.trans (e_X4_laysLeft T p0) (Eq.trans (if_neg c4) ((if_neg c5))))) dX4_laysLeft_88
    · skip
      refine lv_iconst (v := 1) hx hb dX4_laysLeft_31 (by decide) ?_
      refine lv_goto (tgt := 36) hx hb dX4_laysLeft_32 (by decide) ?_
      refine lv_istore (lv' := [(4, .int 1), (3, .int ((T 1) 65)), (2, .int 0), (0, .ref (B 0)), (1, .int p0)]) hx hb dX4_laysLeft_36 hl (by decide) rfl (fun ls hl => ?_)
      refine LOOP38 201 0 ((T 1) 65) 1 _ hw c4 ⟨by decide, by omega⟩ _ rfl (fun ls hl => ?_)  _ (lv_sub hl [3, 4, 2, 1, 0] rfl)
      have hl : lv_has ls 5 [(2, .int (g_X4_laysLeft_38 T p0 201 0 ((T 1) 65) 1))] := hl
      refine lv_iload_n hx hb dX4_laysLeft_87 rfl (lv_at hl 0 rfl) ?_
      exact endP hx hb hr hlocks rfl (Eq.symm (Eq.trans (e_X4_laysLeft T p0) (Eq.trans (if_neg c4) ((if_pos c5))))) dX4_laysLeft_88
  · skip
    refine lv_bipush (v := (-2)) hx hb dX4_laysLeft_7 (by decide) ?_
    exact endP hx hb hr hlocks rfl (Eq.symm (Eq.trans (e_X4_laysLeft T p0) ((if_pos c4)))) dX4_laysLeft_9
noncomputable def f_X4_count (T : MS) (p0 : Int32) : Int32 := opq (if p0 = 0 then (f_X4_wires T) else (if p0 = 1 then ((T 1) 68) else (if p0 = 2 then (f_X4_all T 0) else (if p0 = 3 then (f_X4_all T 1) else (if p0 = 4 then ((T 1) 65) else (if p0 = 5 then ((T 1) 66) else (if p0 = 6 then ((T 1) 67) else (if p0 = 7 then ((T 1) 64) else (if p0 = 8 then ((T 1) 69) else (if p0 = 9 then (f_X4_weakest T) else (if p0 = 10 then (f_X4_strengths T) else (if p0 = 11 then ((T 1) 70) else (if p0 = 12 then (T 0 0) else (if p0 = 13 then (T 0 2) else (-2)))))))))))))))
theorem e_X4_count (T : MS) (p0 : Int32) : f_X4_count T p0 = (if p0 = 0 then (f_X4_wires T) else (if p0 = 1 then ((T 1) 68) else (if p0 = 2 then (f_X4_all T 0) else (if p0 = 3 then (f_X4_all T 1) else (if p0 = 4 then ((T 1) 65) else (if p0 = 5 then ((T 1) 66) else (if p0 = 6 then ((T 1) 67) else (if p0 = 7 then ((T 1) 64) else (if p0 = 8 then ((T 1) 69) else (if p0 = 9 then (f_X4_weakest T) else (if p0 = 10 then (f_X4_strengths T) else (if p0 = 11 then ((T 1) 70) else (if p0 = 12 then (T 0 0) else (if p0 = 13 then (T 0 2) else (-2))))))))))))))) := opq_eq _
set_option maxHeartbeats 4000000 in
set_option maxRecDepth 100000 in
theorem c_X4_count (l : Launch) (G : GG) (B : Nat → Nat) (T : MS) (p0 : Int32) (hM : mok T) : Mp l yX4_count wsX4_count ({ frames := 6, cells := 0, slots := 0, locals := 132 } : Room) G [.ref (B 0), .int p0] (wM G B T) (f_X4_count T p0) := by
  refine Mp.of (cc := cX4_count) (maxL := 2) (ret := (some .int)) (by decide) rfl (Nat.le_of_ble_eq_true rfl) ?_
  intro p e s m args below meth c E hr hlocks hP hK ls hl
  have E : CallFix p m c cX4_count 2 s args wsX4_count RX4 := E
  have hx := E.1
  have hb := E.2.1
  have hml := E.2.2.1
  have hown := E.2.2.2.1
  have hts := E.2.2.2.2
  have hl : lv_has ls 2 [(0, .ref (B 0)), (1, .int p0)] := hl
  have hinX4 : ∀ w ∈ u_ws RX4 TX4 11, w ∈ wsX4_count := fun _ h => List.mem_cons_of_mem _ (List.mem_append_right _ h)
  refine lv_iload_n hx hb dX4_count_0 rfl (lv_at hl 1 rfl) ?_
  by_cases c1 : p0 = 0
  · skip
    refine lv_tableIn (tgt := 72) hx hb dX4_count_1 (by rw [c1]; decide) (by rw [c1]; decide) (by rw [c1]; rfl) (by decide) ?_
    refine lv_aload_n hx hb dX4_count_72 rfl (lv_at hl 0 rfl) ?_
    refine cpV (rest := []) (As := []) E (c_X4_wires l G B T) (cwV 0 hts gX4_count_X4_wires rfl rfl rfl (by decide +kernel) ⟨Nat.le_of_ble_eq_true rfl, Nat.le_of_ble_eq_true rfl⟩) hK hP 0 (wM_o G B T) rfl rfl hl.1 rfl (Nat.le_of_ble_eq_true rfl) dX4_count_73 ⟨Nat.zero_le _, Nat.zero_le _⟩ ?_
    exact endP hx hb hr hlocks rfl (Eq.symm (Eq.trans (e_X4_count T p0) ((if_pos c1)))) dX4_count_76
  by_cases c2 : p0 = 1
  · skip
    refine lv_tableIn (tgt := 77) hx hb dX4_count_1 (by rw [c2]; decide) (by rw [c2]; decide) (by rw [c2]; rfl) (by decide) ?_
    refine lv_aload_n hx hb dX4_count_77 rfl (lv_at hl 0 rfl) ?_
    refine va_get (D := G.1) (ci := 4) (v := .ref (B 1)) (C := RX4) (T := TX4) (N := 11) hx hb hts hinX4 hown hK.1 hP 0 (wM_o G B T) rfl 0 (by decide) (hts (.fieldLink RX4 7 "WireLoopsModel" "now" "[I") (List.mem_of_getElem? (i := 1) rfl)) (fun _ h9 => h9) rfl dX4_count_78 ?_
    refine lv_bipush (v := 68) hx hb dX4_count_81 (by decide) ?_
    refine va_iald (D := G.1) hx hb hK.1 hP 1 0 (wM_j G B T 1 (by decide) (by decide)) rfl (cin 68 1 (by decide)) dX4_count_83 ?_
    refine W.eq (g2 := F0 m 84 ls [.int ((T 1) 68)]) (by rw [show (68 : Int32).toNatClampNeg = 68 from by decide] <;> rfl) ?_
    exact endP hx hb hr hlocks rfl (Eq.symm (Eq.trans (e_X4_count T p0) (Eq.trans (if_neg c1) ((if_pos c2))))) dX4_count_84
  by_cases c3 : p0 = 2
  · skip
    refine lv_tableIn (tgt := 85) hx hb dX4_count_1 (by rw [c3]; decide) (by rw [c3]; decide) (by rw [c3]; rfl) (by decide) ?_
    refine lv_aload_n hx hb dX4_count_85 rfl (lv_at hl 0 rfl) ?_
    refine lv_iconst (v := 0) hx hb dX4_count_86 (by decide) ?_
    refine cpV (rest := []) (As := [.int 0]) E (c_X4_all l G B T 0 hM) (cwV 1 hts gX4_count_X4_all rfl rfl rfl (by decide +kernel) ⟨Nat.le_of_ble_eq_true rfl, Nat.le_of_ble_eq_true rfl⟩) hK hP 0 (wM_o G B T) rfl rfl hl.1 rfl (Nat.le_of_ble_eq_true rfl) dX4_count_87 ⟨Nat.zero_le _, Nat.zero_le _⟩ ?_
    exact endP hx hb hr hlocks rfl (Eq.symm (Eq.trans (e_X4_count T p0) (Eq.trans (if_neg c1) (Eq.trans (if_neg c2) ((if_pos c3)))))) dX4_count_90
  by_cases c4 : p0 = 3
  · skip
    refine lv_tableIn (tgt := 91) hx hb dX4_count_1 (by rw [c4]; decide) (by rw [c4]; decide) (by rw [c4]; rfl) (by decide) ?_
    refine lv_aload_n hx hb dX4_count_91 rfl (lv_at hl 0 rfl) ?_
    refine lv_iconst (v := 1) hx hb dX4_count_92 (by decide) ?_
    refine cpV (rest := []) (As := [.int 1]) E (c_X4_all l G B T 1 hM) (cwV 1 hts gX4_count_X4_all rfl rfl rfl (by decide +kernel) ⟨Nat.le_of_ble_eq_true rfl, Nat.le_of_ble_eq_true rfl⟩) hK hP 0 (wM_o G B T) rfl rfl hl.1 rfl (Nat.le_of_ble_eq_true rfl) dX4_count_93 ⟨Nat.zero_le _, Nat.zero_le _⟩ ?_
    exact endP hx hb hr hlocks rfl (Eq.symm (Eq.trans (e_X4_count T p0) (Eq.trans (if_neg c1) (Eq.trans (if_neg c2) (Eq.trans (if_neg c3) ((if_pos c4))))))) dX4_count_96
  by_cases c5 : p0 = 4
  · skip
    refine lv_tableIn (tgt := 97) hx hb dX4_count_1 (by rw [c5]; decide) (by rw [c5]; decide) (by rw [c5]; rfl) (by decide) ?_
    refine lv_aload_n hx hb dX4_count_97 rfl (lv_at hl 0 rfl) ?_
    refine va_get (D := G.1) (ci := 4) (v := .ref (B 1)) (C := RX4) (T := TX4) (N := 11) hx hb hts hinX4 hown hK.1 hP 0 (wM_o G B T) rfl 0 (by decide) (hts (.fieldLink RX4 7 "WireLoopsModel" "now" "[I") (List.mem_of_getElem? (i := 1) rfl)) (fun _ h9 => h9) rfl dX4_count_98 ?_
    refine lv_bipush (v := 65) hx hb dX4_count_101 (by decide) ?_
    refine va_iald (D := G.1) hx hb hK.1 hP 1 0 (wM_j G B T 1 (by decide) (by decide)) rfl (cin 65 1 (by decide)) dX4_count_103 ?_
    refine W.eq (g2 := F0 m 104 ls [.int ((T 1) 65)]) (by rw [show (65 : Int32).toNatClampNeg = 65 from by decide] <;> rfl) ?_
    exact endP hx hb hr hlocks rfl (Eq.symm (Eq.trans (e_X4_count T p0) (Eq.trans (if_neg c1) (Eq.trans (if_neg c2) (Eq.trans (if_neg c3) (Eq.trans (if_neg c4) ((if_pos c5)))))))) dX4_count_104
  by_cases c6 : p0 = 5
  · skip
    refine lv_tableIn (tgt := 105) hx hb dX4_count_1 (by rw [c6]; decide) (by rw [c6]; decide) (by rw [c6]; rfl) (by decide) ?_
    refine lv_aload_n hx hb dX4_count_105 rfl (lv_at hl 0 rfl) ?_
    refine va_get (D := G.1) (ci := 4) (v := .ref (B 1)) (C := RX4) (T := TX4) (N := 11) hx hb hts hinX4 hown hK.1 hP 0 (wM_o G B T) rfl 0 (by decide) (hts (.fieldLink RX4 7 "WireLoopsModel" "now" "[I") (List.mem_of_getElem? (i := 1) rfl)) (fun _ h9 => h9) rfl dX4_count_106 ?_
    refine lv_bipush (v := 66) hx hb dX4_count_109 (by decide) ?_
    refine va_iald (D := G.1) hx hb hK.1 hP 1 0 (wM_j G B T 1 (by decide) (by decide)) rfl (cin 66 1 (by decide)) dX4_count_111 ?_
    refine W.eq (g2 := F0 m 112 ls [.int ((T 1) 66)]) (by rw [show (66 : Int32).toNatClampNeg = 66 from by decide] <;> rfl) ?_
    exact endP hx hb hr hlocks rfl (Eq.symm (Eq.trans (e_X4_count T p0) (Eq.trans (if_neg c1) (Eq.trans (if_neg c2) (Eq.trans (if_neg c3) (Eq.trans (if_neg c4) (Eq.trans (if_neg c5) ((if_pos c6))))))))) dX4_count_112
  by_cases c7 : p0 = 6
  · skip
    refine lv_tableIn (tgt := 113) hx hb dX4_count_1 (by rw [c7]; decide) (by rw [c7]; decide) (by rw [c7]; rfl) (by decide) ?_
    refine lv_aload_n hx hb dX4_count_113 rfl (lv_at hl 0 rfl) ?_
    refine va_get (D := G.1) (ci := 4) (v := .ref (B 1)) (C := RX4) (T := TX4) (N := 11) hx hb hts hinX4 hown hK.1 hP 0 (wM_o G B T) rfl 0 (by decide) (hts (.fieldLink RX4 7 "WireLoopsModel" "now" "[I") (List.mem_of_getElem? (i := 1) rfl)) (fun _ h9 => h9) rfl dX4_count_114 ?_
    refine lv_bipush (v := 67) hx hb dX4_count_117 (by decide) ?_
    refine va_iald (D := G.1) hx hb hK.1 hP 1 0 (wM_j G B T 1 (by decide) (by decide)) rfl (cin 67 1 (by decide)) dX4_count_119 ?_
    refine W.eq (g2 := F0 m 120 ls [.int ((T 1) 67)]) (by rw [show (67 : Int32).toNatClampNeg = 67 from by decide] <;> rfl) ?_
    exact endP hx hb hr hlocks rfl (Eq.symm (Eq.trans (e_X4_count T p0) (Eq.trans (if_neg c1) (Eq.trans (if_neg c2) (Eq.trans (if_neg c3) (Eq.trans (if_neg c4) (Eq.trans (if_neg c5) (Eq.trans (if_neg c6) ((if_pos c7)))))))))) dX4_count_120
  by_cases c8 : p0 = 7
  · skip
    refine lv_tableIn (tgt := 121) hx hb dX4_count_1 (by rw [c8]; decide) (by rw [c8]; decide) (by rw [c8]; rfl) (by decide) ?_
    refine lv_aload_n hx hb dX4_count_121 rfl (lv_at hl 0 rfl) ?_
    refine va_get (D := G.1) (ci := 4) (v := .ref (B 1)) (C := RX4) (T := TX4) (N := 11) hx hb hts hinX4 hown hK.1 hP 0 (wM_o G B T) rfl 0 (by decide) (hts (.fieldLink RX4 7 "WireLoopsModel" "now" "[I") (List.mem_of_getElem? (i := 1) rfl)) (fun _ h9 => h9) rfl dX4_count_122 ?_
    refine lv_bipush (v := 64) hx hb dX4_count_125 (by decide) ?_
    refine va_iald (D := G.1) hx hb hK.1 hP 1 0 (wM_j G B T 1 (by decide) (by decide)) rfl (cin 64 1 (by decide)) dX4_count_127 ?_
    refine W.eq (g2 := F0 m 128 ls [.int ((T 1) 64)]) (by rw [show (64 : Int32).toNatClampNeg = 64 from by decide] <;> rfl) ?_
    exact endP hx hb hr hlocks rfl (Eq.symm (Eq.trans (e_X4_count T p0) (Eq.trans (if_neg c1) (Eq.trans (if_neg c2) (Eq.trans (if_neg c3) (Eq.trans (if_neg c4) (Eq.trans (if_neg c5) (Eq.trans (if_neg c6) (Eq.trans (if_neg c7) ((if_pos c8))))))))))) dX4_count_128
  by_cases c9 : p0 = 8
  · skip
    refine lv_tableIn (tgt := 129) hx hb dX4_count_1 (by rw [c9]; decide) (by rw [c9]; decide) (by rw [c9]; rfl) (by decide) ?_
    refine lv_aload_n hx hb dX4_count_129 rfl (lv_at hl 0 rfl) ?_
    refine va_get (D := G.1) (ci := 4) (v := .ref (B 1)) (C := RX4) (T := TX4) (N := 11) hx hb hts hinX4 hown hK.1 hP 0 (wM_o G B T) rfl 0 (by decide) (hts (.fieldLink RX4 7 "WireLoopsModel" "now" "[I") (List.mem_of_getElem? (i := 1) rfl)) (fun _ h9 => h9) rfl dX4_count_130 ?_
    refine lv_bipush (v := 69) hx hb dX4_count_133 (by decide) ?_
    refine va_iald (D := G.1) hx hb hK.1 hP 1 0 (wM_j G B T 1 (by decide) (by decide)) rfl (cin 69 1 (by decide)) dX4_count_135 ?_
    refine W.eq (g2 := F0 m 136 ls [.int ((T 1) 69)]) (by rw [show (69 : Int32).toNatClampNeg = 69 from by decide] <;> rfl) ?_
    exact endP hx hb hr hlocks rfl (Eq.symm (Eq.trans (e_X4_count T p0) (Eq.trans (if_neg c1) (Eq.trans (if_neg c2) (Eq.trans (if_neg c3) (Eq.trans (if_neg c4) (Eq.trans (if_neg c5) (Eq.trans (if_neg c6) (Eq.trans (if_neg c7) (Eq.trans (if_neg c8) ((if_pos c9)))))))))))) dX4_count_136
  by_cases c10 : p0 = 9
  · skip
    refine lv_tableIn (tgt := 137) hx hb dX4_count_1 (by rw [c10]; decide) (by rw [c10]; decide) (by rw [c10]; rfl) (by decide) ?_
    refine lv_aload_n hx hb dX4_count_137 rfl (lv_at hl 0 rfl) ?_
    refine cpV (rest := []) (As := []) E (c_X4_weakest l G B T) (cwV 0 hts gX4_count_X4_weakest rfl rfl rfl (by decide +kernel) ⟨Nat.le_of_ble_eq_true rfl, Nat.le_of_ble_eq_true rfl⟩) hK hP 0 (wM_o G B T) rfl rfl hl.1 rfl (Nat.le_of_ble_eq_true rfl) dX4_count_138 ⟨Nat.zero_le _, Nat.zero_le _⟩ ?_
    exact endP hx hb hr hlocks rfl (Eq.symm (Eq.trans (e_X4_count T p0) (Eq.trans (if_neg c1) (Eq.trans (if_neg c2) (Eq.trans (if_neg c3) (Eq.trans (if_neg c4) (Eq.trans (if_neg c5) (Eq.trans (if_neg c6) (Eq.trans (if_neg c7) (Eq.trans (if_neg c8) (Eq.trans (if_neg c9) ((if_pos c10))))))))))))) dX4_count_141
  by_cases c11 : p0 = 10
  · skip
    refine lv_tableIn (tgt := 142) hx hb dX4_count_1 (by rw [c11]; decide) (by rw [c11]; decide) (by rw [c11]; rfl) (by decide) ?_
    refine lv_aload_n hx hb dX4_count_142 rfl (lv_at hl 0 rfl) ?_
    refine cpV (rest := []) (As := []) E (c_X4_strengths l G B T) (cwV 0 hts gX4_count_X4_strengths rfl rfl rfl (by decide +kernel) ⟨Nat.le_of_ble_eq_true rfl, Nat.le_of_ble_eq_true rfl⟩) hK hP 0 (wM_o G B T) rfl rfl hl.1 rfl (Nat.le_of_ble_eq_true rfl) dX4_count_143 ⟨Nat.zero_le _, Nat.zero_le _⟩ ?_
    exact endP hx hb hr hlocks rfl (Eq.symm (Eq.trans (e_X4_count T p0) (Eq.trans (if_neg c1) (Eq.trans (if_neg c2) (Eq.trans (if_neg c3) (Eq.trans (if_neg c4) (Eq.trans (if_neg c5) (Eq.trans (if_neg c6) (Eq.trans (if_neg c7) (Eq.trans (if_neg c8) (Eq.trans (if_neg c9) (Eq.trans (if_neg c10) ((if_pos c11)))))))))))))) dX4_count_146
  by_cases c12 : p0 = 11
  · skip
    refine lv_tableIn (tgt := 147) hx hb dX4_count_1 (by rw [c12]; decide) (by rw [c12]; decide) (by rw [c12]; rfl) (by decide) ?_
    refine lv_aload_n hx hb dX4_count_147 rfl (lv_at hl 0 rfl) ?_
    refine va_get (D := G.1) (ci := 4) (v := .ref (B 1)) (C := RX4) (T := TX4) (N := 11) hx hb hts hinX4 hown hK.1 hP 0 (wM_o G B T) rfl 0 (by decide) (hts (.fieldLink RX4 7 "WireLoopsModel" "now" "[I") (List.mem_of_getElem? (i := 1) rfl)) (fun _ h9 => h9) rfl dX4_count_148 ?_
    refine lv_bipush (v := 70) hx hb dX4_count_151 (by decide) ?_
    refine va_iald (D := G.1) hx hb hK.1 hP 1 0 (wM_j G B T 1 (by decide) (by decide)) rfl (cin 70 1 (by decide)) dX4_count_153 ?_
    refine W.eq (g2 := F0 m 154 ls [.int ((T 1) 70)]) (by rw [show (70 : Int32).toNatClampNeg = 70 from by decide] <;> rfl) ?_
    exact endP hx hb hr hlocks rfl (Eq.symm (Eq.trans (e_X4_count T p0) (Eq.trans (if_neg c1) (Eq.trans (if_neg c2) (Eq.trans (if_neg c3) (Eq.trans (if_neg c4) (Eq.trans (if_neg c5) (Eq.trans (if_neg c6) (Eq.trans (if_neg c7) (Eq.trans (if_neg c8) (Eq.trans (if_neg c9) (Eq.trans (if_neg c10) (Eq.trans (if_neg c11) ((if_pos c12))))))))))))))) dX4_count_154
  by_cases c13 : p0 = 12
  · skip
    refine lv_tableIn (tgt := 155) hx hb dX4_count_1 (by rw [c13]; decide) (by rw [c13]; decide) (by rw [c13]; rfl) (by decide) ?_
    refine lv_aload_n hx hb dX4_count_155 rfl (lv_at hl 0 rfl) ?_
    refine va_get (D := G.1) (ci := 4) (v := .int (T 0 0)) (C := RX4) (T := TX4) (N := 11) hx hb hts hinX4 hown hK.1 hP 0 (wM_o G B T) rfl 3 (by decide) (hts (.fieldLink RX4 29 "WireLoopsModel" "states" "I") (List.mem_of_getElem? (i := 2) rfl)) (fun _ h9 => h9) rfl dX4_count_156 ?_
    exact endP hx hb hr hlocks rfl (Eq.symm (Eq.trans (e_X4_count T p0) (Eq.trans (if_neg c1) (Eq.trans (if_neg c2) (Eq.trans (if_neg c3) (Eq.trans (if_neg c4) (Eq.trans (if_neg c5) (Eq.trans (if_neg c6) (Eq.trans (if_neg c7) (Eq.trans (if_neg c8) (Eq.trans (if_neg c9) (Eq.trans (if_neg c10) (Eq.trans (if_neg c11) (Eq.trans (if_neg c12) ((if_pos c13)))))))))))))))) dX4_count_159
  by_cases c14 : p0 = 13
  · skip
    refine lv_tableIn (tgt := 160) hx hb dX4_count_1 (by rw [c14]; decide) (by rw [c14]; decide) (by rw [c14]; rfl) (by decide) ?_
    refine lv_aload_n hx hb dX4_count_160 rfl (lv_at hl 0 rfl) ?_
    refine va_get (D := G.1) (ci := 4) (v := .int (T 0 2)) (C := RX4) (T := TX4) (N := 11) hx hb hts hinX4 hown hK.1 hP 0 (wM_o G B T) rfl 7 (by decide) (hts (.fieldLink RX4 118 "WireLoopsModel" "length" "I") (List.mem_of_getElem? (i := 3) rfl)) (fun _ h9 => h9) rfl dX4_count_161 ?_
    exact endP hx hb hr hlocks rfl (Eq.symm (Eq.trans (e_X4_count T p0) (Eq.trans (if_neg c1) (Eq.trans (if_neg c2) (Eq.trans (if_neg c3) (Eq.trans (if_neg c4) (Eq.trans (if_neg c5) (Eq.trans (if_neg c6) (Eq.trans (if_neg c7) (Eq.trans (if_neg c8) (Eq.trans (if_neg c9) (Eq.trans (if_neg c10) (Eq.trans (if_neg c11) (Eq.trans (if_neg c12) (Eq.trans (if_neg c13) ((if_pos c14))))))))))))))))) dX4_count_164
  refine lv_tableOut (tgt := 165) hx hb dX4_count_1 (sw_out 0 13 p0 (by decide) (by intro j h1 h2; rcases (show j = 0 ∨ j = 1 ∨ j = 2 ∨ j = 3 ∨ j = 4 ∨ j = 5 ∨ j = 6 ∨ j = 7 ∨ j = 8 ∨ j = 9 ∨ j = 10 ∨ j = 11 ∨ j = 12 ∨ j = 13 by omega) with rfl | rfl | rfl | rfl | rfl | rfl | rfl | rfl | rfl | rfl | rfl | rfl | rfl | rfl <;> assumption)) (by decide) ?_
  refine lv_bipush (v := (-2)) hx hb dX4_count_165 (by decide) ?_
  exact endP hx hb hr hlocks rfl (Eq.symm (Eq.trans (e_X4_count T p0) (Eq.trans (if_neg c1) (Eq.trans (if_neg c2) (Eq.trans (if_neg c3) (Eq.trans (if_neg c4) (Eq.trans (if_neg c5) (Eq.trans (if_neg c6) (Eq.trans (if_neg c7) (Eq.trans (if_neg c8) (Eq.trans (if_neg c9) (Eq.trans (if_neg c10) (Eq.trans (if_neg c11) (Eq.trans (if_neg c12) (Eq.trans (if_neg c13) ((if_neg c14))))))))))))))))) dX4_count_167
