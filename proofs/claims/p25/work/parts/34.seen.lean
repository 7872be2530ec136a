/-! what the law sees of an object: a number out of many answers -/
noncomputable def sn1 (S : XS) : Nat → Nat → Int64 → Int64
  | 0, _, h => h
  | n + 1, k, h => sn1 S n (k + 1) (31 * h + (f_X3_count S (nI k)).toInt64)
noncomputable def sn2 (S : XS) : Nat → Nat → Int64 → Int64
  | 0, _, h => h
  | n + 1, k, h => sn2 S n (k + 1) (31 * h + (f_X3_wire S (nI k / 7) (nI k - nI k / 7 * 7)).toInt64)
noncomputable def sn3 (S : XS) : Nat → Nat → Int64 → Int64
  | 0, _, h => h
  | n + 1, k, h => sn3 S n (k + 1) (31 * h + (f_X3_lead S (nI k / 2) (nI k - nI k / 2 * 2)).toInt64)
noncomputable def f_seen (S : XS) : Int64 := opq (31 * sn3 S 32 0 (sn2 S 84 0 (sn1 S 12 0 53)) + (f_X3_laysLeft S 77).toInt64)
theorem e_seen (S : XS) : f_seen S = 31 * sn3 S 32 0 (sn2 S 84 0 (sn1 S 12 0 53)) + (f_X3_laysLeft S 77).toInt64 := opq_eq _
set_option maxHeartbeats 4000000 in
set_option maxRecDepth 100000 in
theorem c_L_seen (l : Launch) (G : GG) (A : Nat → Nat) (S : XS) : Ml l yL_seen wsL_seen ({ frames := 6, cells := 0, slots := 0, locals := 140 } : Room) G [.ref (A 42)] (wX G A S (rot S)) (f_seen S) := by
  refine Ml.of (cc := cL_seen) (maxL := 4) (ret := some .long) (by decide) rfl (Nat.le_of_ble_eq_true rfl) ?_
  intro p e s m args below meth c E hr hlocks hP hK ls hl
  have E : CallFix p m c cL_seen 4 s args wsL_seen RL := E
  have hx := E.1
  have hb := E.2.1
  have hml := E.2.2.1
  have hown := E.2.2.2.1
  have hts := E.2.2.2.2
  have hl : lv_has ls 4 [(0, .ref (A 42))] := hl
  have LOOP6 : ∀ (n k : Nat) (h : Int64), k + n = 12 → (∀ ls : Array Slot, lv_has ls 4 [(0, .ref (A 42)), (1, .long (sn1 S n k h))] → W p l e ({ frames := 6, cells := 0, slots := 0, locals := 140 } : Room) s m args below meth c s.heap [] 0 0 (MQ below (vp_Sl (fun r => r = f_seen S)) args s 0 0 (fun _ => False)) (F0 m 31 ls [])) → ∀ ls : Array Slot, lv_has ls 4 [(0, .ref (A 42)), (1, .long h), (3, .int (nI k))] → W p l e ({ frames := 6, cells := 0, slots := 0, locals := 140 } : Room) s m args below meth c s.heap [] 0 0 (MQ below (vp_Sl (fun r => r = f_seen S)) args s 0 0 (fun _ => False)) (F0 m 6 ls []) := by
    intro n
    induction n with
    | zero =>
      intro k h hk kk ls hl
      refine lv_iload_n hx hb dL_seen_6 rfl (lv_at hl 2 rfl) ?_
      refine lv_bipush (v := 12) hx hb dL_seen_7 (by decide) ?_
      refine lv_icmp_ge (tgt := 31) hx hb dL_seen_9 (by decide) (fun _ => kk ls (lv_sub hl [0, 1] rfl)) (fun c9 => absurd (nI_le (a := 12) (b := k) (by omega) (by omega)) c9)
    | succ n ih =>
      intro k h hk kk ls hl
      refine lv_iload_n hx hb dL_seen_6 rfl (lv_at hl 2 rfl) ?_
      refine lv_bipush (v := 12) hx hb dL_seen_7 (by decide) ?_
      refine lv_icmp_ge (tgt := 31) hx hb dL_seen_9 (by decide) (fun c9 => absurd c9 (nI_ge (a := k) (b := 12) (by omega) (by omega))) (fun _ => ?_)
      refine lv_ldc2 (v := 31) hx hb hown (hts (.constantLong RL 11 (31)) (by decide +kernel)) dL_seen_12 ?_
      refine lv_lload_n hx hb dL_seen_15 rfl (lv_at hl 1 rfl) ?_
      refine lv_lmul hx hb dL_seen_16 ?_
      refine lv_aload_n hx hb dL_seen_17 rfl (lv_at hl 0 rfl) ?_
      refine lv_iload_n hx hb dL_seen_18 rfl (lv_at hl 2 rfl) ?_
      refine cpV (rest := [.long (31 * h)]) (As := [.int (nI k)]) E (k_X3_count l G A S (nI k) rfl) (cwV 1 hts gL_seen_X3_count rfl rfl rfl (by decide +kernel) ⟨Nat.le_of_ble_eq_true rfl, Nat.le_of_ble_eq_true rfl⟩) hK hP 42 rfl rfl rfl hl.1 rfl (Nat.le_of_ble_eq_true rfl) dL_seen_19 ⟨Nat.le_of_ble_eq_true rfl, Nat.le_of_ble_eq_true rfl⟩ ?_
      refine lv_i2l (v := (f_X3_count S (nI k)).toInt64) hx hb dL_seen_22 rfl ?_
      refine lv_ladd hx hb dL_seen_23 ?_
      refine lv_lstore_n (lv' := [(1, .long ((31 * h) + ((f_X3_count S (nI k)).toInt64))), (0, .ref (A 42)), (3, .int (nI k))]) hx hb dL_seen_24 rfl hl (by decide) rfl (fun ls hl => ?_)
      refine lv_iinc (v := (nI (k + 1))) (lv' := [(3, .int (nI (k + 1))), (1, .long ((31 * h) + ((f_X3_count S (nI k)).toInt64))), (0, .ref (A 42))]) hx hb dL_seen_25 hl (k := 2) rfl (nI_1 k) (by decide) rfl (fun ls hl => ?_)
      refine lv_goto (tgt := 6) hx hb dL_seen_28 (by decide) ?_
      exact ih (k + 1) _ (by omega) kk _ (lv_sub hl [2, 1, 0] rfl)
  have LOOP33 : ∀ (n k : Nat) (h : Int64), k + n = 84 → (∀ ls : Array Slot, lv_has ls 4 [(0, .ref (A 42)), (1, .long (sn2 S n k h))] → W p l e ({ frames := 6, cells := 0, slots := 0, locals := 140 } : Room) s m args below meth c s.heap [] 0 0 (MQ below (vp_Sl (fun r => r = f_seen S)) args s 0 0 (fun _ => False)) (F0 m 65 ls [])) → ∀ ls : Array Slot, lv_has ls 4 [(0, .ref (A 42)), (1, .long h), (3, .int (nI k))] → W p l e ({ frames := 6, cells := 0, slots := 0, locals := 140 } : Room) s m args below meth c s.heap [] 0 0 (MQ below (vp_Sl (fun r => r = f_seen S)) args s 0 0 (fun _ => False)) (F0 m 33 ls []) := by
    intro n
    induction n with
    | zero =>
      intro k h hk kk ls hl
      refine lv_iload_n hx hb dL_seen_33 rfl (lv_at hl 2 rfl) ?_
      refine lv_bipush (v := 84) hx hb dL_seen_34 (by decide) ?_
      refine lv_icmp_ge (tgt := 65) hx hb dL_seen_36 (by decide) (fun _ => kk ls (lv_sub hl [0, 1] rfl)) (fun c9 => absurd (nI_le (a := 84) (b := k) (by omega) (by omega)) c9)
    | succ n ih =>
      intro k h hk kk ls hl
      refine lv_iload_n hx hb dL_seen_33 rfl (lv_at hl 2 rfl) ?_
      refine lv_bipush (v := 84) hx hb dL_seen_34 (by decide) ?_
      refine lv_icmp_ge (tgt := 65) hx hb dL_seen_36 (by decide) (fun c9 => absurd c9 (nI_ge (a := k) (b := 84) (by omega) (by omega))) (fun _ => ?_)
      refine lv_ldc2 (v := 31) hx hb hown (hts (.constantLong RL 11 (31)) (by decide +kernel)) dL_seen_39 ?_
      refine lv_lload_n hx hb dL_seen_42 rfl (lv_at hl 1 rfl) ?_
      refine lv_lmul hx hb dL_seen_43 ?_
      refine lv_aload_n hx hb dL_seen_44 rfl (lv_at hl 0 rfl) ?_
      refine lv_iload_n hx hb dL_seen_45 rfl (lv_at hl 2 rfl) ?_
      refine lv_bipush (v := 7) hx hb dL_seen_46 (by decide) ?_
      refine lv_idiv hx hb dL_seen_48 (by decide) ?_
      refine lv_iload_n hx hb dL_seen_49 rfl (lv_at hl 2 rfl) ?_
      refine lv_bipush (v := 7) hx hb dL_seen_50 (by decide) ?_
      refine lv_irem hx hb dL_seen_52 (by decide) ?_
      refine cpV (rest := [.long (31 * h)]) (As := [.int ((nI k) / 7), .int ((nI k) - (nI k) / 7 * 7)]) E (k_X3_wire l G A S ((nI k) / 7) ((nI k) - (nI k) / 7 * 7) rfl) (cwV 2 hts gL_seen_X3_wire rfl rfl rfl (by decide +kernel) ⟨Nat.le_of_ble_eq_true rfl, Nat.le_of_ble_eq_true rfl⟩) hK hP 42 rfl rfl rfl hl.1 rfl (Nat.le_of_ble_eq_true rfl) dL_seen_53 ⟨Nat.le_of_ble_eq_true rfl, Nat.le_of_ble_eq_true rfl⟩ ?_
      refine lv_i2l (v := (f_X3_wire S ((nI k) / 7) ((nI k) - (nI k) / 7 * 7)).toInt64) hx hb dL_seen_56 rfl ?_
      refine lv_ladd hx hb dL_seen_57 ?_
      refine lv_lstore_n (lv' := [(1, .long ((31 * h) + ((f_X3_wire S ((nI k) / 7) ((nI k) - (nI k) / 7 * 7)).toInt64))), (0, .ref (A 42)), (3, .int (nI k))]) hx hb dL_seen_58 rfl hl (by decide) rfl (fun ls hl => ?_)
      refine lv_iinc (v := (nI (k + 1))) (lv' := [(3, .int (nI (k + 1))), (1, .long ((31 * h) + ((f_X3_wire S ((nI k) / 7) ((nI k) - (nI k) / 7 * 7)).toInt64))), (0, .ref (A 42))]) hx hb dL_seen_59 hl (k := 2) rfl (nI_1 k) (by decide) rfl (fun ls hl => ?_)
      refine lv_goto (tgt := 33) hx hb dL_seen_62 (by decide) ?_
      exact ih (k + 1) _ (by omega) kk _ (lv_sub hl [2, 1, 0] rfl)
  have LOOP67 : ∀ (n k : Nat) (h : Int64), k + n = 32 → (∀ ls : Array Slot, lv_has ls 4 [(0, .ref (A 42)), (1, .long (sn3 S n k h))] → W p l e ({ frames := 6, cells := 0, slots := 0, locals := 140 } : Room) s m args below meth c s.heap [] 0 0 (MQ below (vp_Sl (fun r => r = f_seen S)) args s 0 0 (fun _ => False)) (F0 m 97 ls [])) → ∀ ls : Array Slot, lv_has ls 4 [(0, .ref (A 42)), (1, .long h), (3, .int (nI k))] → W p l e ({ frames := 6, cells := 0, slots := 0, locals := 140 } : Room) s m args below meth c s.heap [] 0 0 (MQ below (vp_Sl (fun r => r = f_seen S)) args s 0 0 (fun _ => False)) (F0 m 67 ls []) := by
    intro n
    induction n with
    | zero =>
      intro k h hk kk ls hl
      refine lv_iload_n hx hb dL_seen_67 rfl (lv_at hl 2 rfl) ?_
      refine lv_bipush (v := 32) hx hb dL_seen_68 (by decide) ?_
      refine lv_icmp_ge (tgt := 97) hx hb dL_seen_70 (by decide) (fun _ => kk ls (lv_sub hl [0, 1] rfl)) (fun c9 => absurd (nI_le (a := 32) (b := k) (by omega) (by omega)) c9)
    | succ n ih =>
      intro k h hk kk ls hl
      refine lv_iload_n hx hb dL_seen_67 rfl (lv_at hl 2 rfl) ?_
      refine lv_bipush (v := 32) hx hb dL_seen_68 (by decide) ?_
      refine lv_icmp_ge (tgt := 97) hx hb dL_seen_70 (by decide) (fun c9 => absurd c9 (nI_ge (a := k) (b := 32) (by omega) (by omega))) (fun _ => ?_)
      refine lv_ldc2 (v := 31) hx hb hown (hts (.constantLong RL 11 (31)) (by decide +kernel)) dL_seen_73 ?_
      refine lv_lload_n hx hb dL_seen_76 rfl (lv_at hl 1 rfl) ?_
      refine lv_lmul hx hb dL_seen_77 ?_
      refine lv_aload_n hx hb dL_seen_78 rfl (lv_at hl 0 rfl) ?_
      refine lv_iload_n hx hb dL_seen_79 rfl (lv_at hl 2 rfl) ?_
      refine lv_iconst (v := 2) hx hb dL_seen_80 (by decide) ?_
      refine lv_idiv hx hb dL_seen_81 (by decide) ?_
      refine lv_iload_n hx hb dL_seen_82 rfl (lv_at hl 2 rfl) ?_
      refine lv_iconst (v := 2) hx hb dL_seen_83 (by decide) ?_
      refine lv_irem hx hb dL_seen_84 (by decide) ?_
      refine cpV (rest := [.long (31 * h)]) (As := [.int ((nI k) / 2), .int ((nI k) - (nI k) / 2 * 2)]) E (k_X3_lead l G A S ((nI k) / 2) ((nI k) - (nI k) / 2 * 2) rfl) (cwV 2 hts gL_seen_X3_lead rfl rfl rfl (by decide +kernel) ⟨Nat.le_of_ble_eq_true rfl, Nat.le_of_ble_eq_true rfl⟩) hK hP 42 rfl rfl rfl hl.1 rfl (Nat.le_of_ble_eq_true rfl) dL_seen_85 ⟨Nat.le_of_ble_eq_true rfl, Nat.le_of_ble_eq_true rfl⟩ ?_
      refine lv_i2l (v := (f_X3_lead S ((nI k) / 2) ((nI k) - (nI k) / 2 * 2)).toInt64) hx hb dL_seen_88 rfl ?_
      refine lv_ladd hx hb dL_seen_89 ?_
      refine lv_lstore_n (lv' := [(1, .long ((31 * h) + ((f_X3_lead S ((nI k) / 2) ((nI k) - (nI k) / 2 * 2)).toInt64))), (0, .ref (A 42)), (3, .int (nI k))]) hx hb dL_seen_90 rfl hl (by decide) rfl (fun ls hl => ?_)
      refine lv_iinc (v := (nI (k + 1))) (lv' := [(3, .int (nI (k + 1))), (1, .long ((31 * h) + ((f_X3_lead S ((nI k) / 2) ((nI k) - (nI k) / 2 * 2)).toInt64))), (0, .ref (A 42))]) hx hb dL_seen_91 hl (k := 2) rfl (nI_1 k) (by decide) rfl (fun ls hl => ?_)
      refine lv_goto (tgt := 67) hx hb dL_seen_94 (by decide) ?_
      exact ih (k + 1) _ (by omega) kk _ (lv_sub hl [2, 1, 0] rfl)
  refine lv_ldc2 (v := 53) hx hb hown (hts (.constantLong RL 9 (53)) (by decide +kernel)) dL_seen_0 ?_
  refine lv_lstore_n (lv' := [(1, .long 53), (0, .ref (A 42))]) hx hb dL_seen_3 rfl hl (by decide) rfl (fun ls hl => ?_)
  refine lv_iconst (v := 0) hx hb dL_seen_4 (by decide) ?_
  refine lv_istore_n (lv' := [(3, .int 0), (1, .long 53), (0, .ref (A 42))]) hx hb dL_seen_5 rfl hl (by decide) rfl (fun ls hl => ?_)
  refine LOOP6 12 0 53 rfl (fun ls hl => ?_) _ (lv_sub hl [2, 1, 0] rfl)
  refine lv_iconst (v := 0) hx hb dL_seen_31 (by decide) ?_
  refine lv_istore_n (lv' := [(3, .int 0), (0, .ref (A 42)), (1, .long (sn1 S 12 0 53))]) hx hb dL_seen_32 rfl hl (by decide) rfl (fun ls hl => ?_)
  refine LOOP33 84 0 _ rfl (fun ls hl => ?_) _ (lv_sub hl [1, 2, 0] rfl)
  refine lv_iconst (v := 0) hx hb dL_seen_65 (by decide) ?_
  refine lv_istore_n (lv' := [(3, .int 0), (0, .ref (A 42)), (1, .long (sn2 S 84 0 (sn1 S 12 0 53)))]) hx hb dL_seen_66 rfl hl (by decide) rfl (fun ls hl => ?_)
  refine LOOP67 32 0 _ rfl (fun ls hl => ?_) _ (lv_sub hl [1, 2, 0] rfl)
  refine lv_ldc2 (v := 31) hx hb hown (hts (.constantLong RL 11 (31)) (by decide +kernel)) dL_seen_97 ?_
  refine lv_lload_n hx hb dL_seen_100 rfl (lv_at hl 1 rfl) ?_
  refine lv_lmul hx hb dL_seen_101 ?_
  refine lv_aload_n hx hb dL_seen_102 rfl (lv_at hl 0 rfl) ?_
  refine lv_bipush (v := 77) hx hb dL_seen_103 (by decide) ?_
  refine cpV (rest := [.long (31 * (sn3 S 32 0 (sn2 S 84 0 (sn1 S 12 0 53))))]) (As := [.int 77]) E (k_X3_laysLeft l G A S 77 rfl) (cwV 1 hts gL_seen_X3_laysLeft rfl rfl rfl (by decide +kernel) ⟨Nat.le_of_ble_eq_true rfl, Nat.le_of_ble_eq_true rfl⟩) hK hP 42 rfl rfl rfl hl.1 rfl (Nat.le_of_ble_eq_true rfl) dL_seen_105 ⟨Nat.le_of_ble_eq_true rfl, Nat.le_of_ble_eq_true rfl⟩ ?_
  refine lv_i2l (v := (f_X3_laysLeft S 77).toInt64) hx hb dL_seen_108 rfl ?_
  refine lv_ladd hx hb dL_seen_109 ?_
  exact endL hx hb hr hlocks (e_seen S).symm dL_seen_110
theorem blind_T {av : List Value} : FrameBlind (va_Pc av (fun _ => True)) := fun a U g mk q => ⟨q.1, trivial⟩
theorem c_L_part (l : Launch) (x n : Int32) (hn : ¬ n = 0) : Mt l yL_part wsL_part ({ frames := 0, cells := 0, slots := 0, locals := 0 } : Room) [.int x, .int n] (fun _ => True) := by
  refine Met.ofW (cc := cL_part) (maxL := 2) (ret := some .int) (by decide) rfl ?_
  intro p e s m args below meth c s₁ B hml hv
  obtain ⟨rfl, -⟩ := hv
  have hts := atoms_spec (ws := wsL_part) B.pre
  have hl := lv_entry [.int x, .int n] (n := 2) (Nat.le_of_ble_eq_true rfl)
  rw [lg_entry_eq]
  generalize (lg_sl ([.int x, .int n]) ++ List.replicate (2 - (lg_sl ([.int x, .int n])).length) Slot.unset).toArray = ls at hl ⊢
  have hl : lv_has ls 2 [(0, .int x), (1, .int n)] := hl
  have hx := B.exec
  have hb := B.bytes
  have hown := findClass_of_methodNamed B.named
  have hr := B.returns
  have hlocks := B.notSynchronized
  refine lv_iload_n hx hb dL_part_0 rfl (lv_at hl 0 rfl) ?_
  refine lv_ldc (v := 2147483647) hx hb hown (hts (.constant RL 7 (2147483647)) (by decide +kernel)) dL_part_1 ?_
  refine lv_iand hx hb dL_part_3 ?_
  refine lv_iload_n hx hb dL_part_4 rfl (lv_at hl 1 rfl) ?_
  refine lv_irem hx hb dL_part_5 hn ?_
  exact endT hx hb hr hlocks rfl dL_part_6
theorem rem_in {k L : Nat} (h0 : 0 < L) (hL : L < 1000) (hk : k < 1000) : vp_in (nI k - nI k / nI L * nI L) L := by
  rw [pk_rem (by omega) h0 (by omega)]
  exact vp_in_nI (Nat.mod_lt k h0) (by omega)
theorem blind_X {av : List Value} {b L : Nat} {xs : Nat → Int32} : FrameBlind (va_Pc av (fun U => va_X b L xs U U.heap ∧ b < U.heap.size)) := fun a U g mk q => by
  obtain ⟨q0, qX, qb⟩ := q
  exact ⟨q0, va_X.moved (u := U) (U := U.calling g mk a) (Vm.Alike.refl _) qX, qb⟩
theorem c_L_drawn (l : Launch) (b L : Nat) (xs : Nat → Int32) (hL : L ≤ 260) (k : Nat) (hk : k < 28) : Mt l yL_drawn wsL_drawn ({ frames := 0, cells := 0, slots := 0, locals := 0 } : Room) [.ref b, .int (nI k)] (fun U => va_X b L xs U U.heap ∧ b < U.heap.size) := by
  refine Met.ofW (cc := cL_drawn) (maxL := 2) (ret := some .int) (by decide) rfl ?_
  intro p e s m args below meth c s₁ B hml hv
  obtain ⟨rfl, hX, hbl⟩ := hv
  have hts := atoms_spec (ws := wsL_drawn) B.pre
  have hl := lv_entry [.ref b, .int (nI k)] (n := 2) (Nat.le_of_ble_eq_true rfl)
  rw [lg_entry_eq]
  generalize (lg_sl ([.ref b, .int (nI k)]) ++ List.replicate (2 - (lg_sl ([.ref b, .int (nI k)])).length) Slot.unset).toArray = ls at hl ⊢
  have hl : lv_has ls 2 [(0, .ref b), (1, .int (nI k))] := hl
  have hx := B.exec
  have hb := B.bytes
  have hown := findClass_of_methodNamed B.named
  have hr := B.returns
  have hlocks := B.notSynchronized
  have hS : va_S (fun _ => False) s.heap s.heap [] := va_S.rf
  have hbA : ¬ (fun _ : Nat => False) b := id
  refine lv_aload_n hx hb dL_drawn_0 rfl (lv_at hl 0 rfl) ?_
  refine va_slen hx hb hX hbl hbA hS dL_drawn_1 ?_
  refine lv_if_ne (tgt := 15) hx hb dL_drawn_2 (by decide) (fun c1 => ?_) (fun _ => ?_)
  · have hL0 : 0 < L := Nat.pos_of_ne_zero (fun h => c1 (by rw [h]; rfl))
    have c2 : ¬ nI L = 0 := nI_ne0 hL0 (by omega)
    refine lv_aload_n hx hb dL_drawn_15 rfl (lv_at hl 0 rfl) ?_
    refine lv_iload_n hx hb dL_drawn_16 rfl (lv_at hl 1 rfl) ?_
    refine lv_aload_n hx hb dL_drawn_17 rfl (lv_at hl 0 rfl) ?_
    refine va_slen hx hb hX hbl hbA hS dL_drawn_18 ?_
    refine lv_irem hx hb dL_drawn_19 c2 ?_
    refine va_sld hx hb hX hbl hbA hS (rem_in hL0 (by omega) (by omega)) dL_drawn_20 ?_
    refine lv_iload_n hx hb dL_drawn_21 rfl (lv_at hl 1 rfl) ?_
    refine lv_bipush (v := 7) hx hb dL_drawn_22 (by decide) ?_
    refine lv_irem hx hb dL_drawn_24 (by decide) ?_
    refine lv_ishr hx hb dL_drawn_25 ?_
    refine lv_iload_n hx hb dL_drawn_26 rfl (lv_at hl 1 rfl) ?_
    refine lv_aload_n hx hb dL_drawn_27 rfl (lv_at hl 0 rfl) ?_
    refine va_slen hx hb hX hbl hbA hS dL_drawn_28 ?_
    refine lv_idiv hx hb dL_drawn_29 c2 ?_
    refine lv_bipush (v := 31) hx hb dL_drawn_30 (by decide) ?_
    refine lv_imul hx hb dL_drawn_32 ?_
    refine lv_ixor hx hb dL_drawn_33 ?_
    refine lv_iload_n hx hb dL_drawn_34 rfl (lv_at hl 1 rfl) ?_
    refine lv_ldc (v := 2654435) hx hb hown (hts (.constant RL 8 (2654435)) (by decide +kernel)) dL_drawn_35 ?_
    refine lv_imul hx hb dL_drawn_37 ?_
    refine lv_ixor hx hb dL_drawn_38 ?_
    exact endT hx hb hr hlocks rfl dL_drawn_39
  · refine lv_sipush (v := 7919) hx hb dL_drawn_5 (by decide) ?_
    refine lv_iload_n hx hb dL_drawn_8 rfl (lv_at hl 1 rfl) ?_
    refine lv_imul hx hb dL_drawn_9 ?_
    refine lv_iconst (v := 3) hx hb dL_drawn_10 (by decide) ?_
    refine lv_iadd hx hb dL_drawn_11 ?_
    refine lv_goto (tgt := 39) hx hb dL_drawn_12 (by decide) ?_
    exact endT hx hb hr hlocks rfl dL_drawn_39
