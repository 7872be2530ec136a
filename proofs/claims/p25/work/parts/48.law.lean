/-! the law, walked -/
set_option maxHeartbeats 4000000 in
set_option maxRecDepth 100000 in
theorem law_fin {p : Program} {e : Env} {s : State} {m : MethodId} {below : List Frame} {meth : Method} {c : Code} {l : Launch} {b L0 : Nat} {xs : Nat → Int32} (C0 : lw_At p s m meth c b L0 xs) {G : GG} {A : Nat → Nat} {qa cL : Nat} (hK : KN G s) (hKL : va_K G.1 vwCl (gTy G ++ [(cL, .long)]) s) {N a : Nat} {cs : Nat → Nat → Nat → Int32} {S : XS} {f : Nat → Int64} {n k : Nat} {H : Heap} {locs : List Loc} {ls : Array Slot} (h : LI N a 0 cs S) (hP : va_P G.1 vwCl (wX G A S (rot S) ++ [(qa, .inl (cL, 64, .inr (.inl f)))]) H) (hD : va_D (fun q : Nat => s.heap.size ≤ q) (wX G A S (rot S) ++ [(qa, .inl (cL, 64, .inr (.inl f)))])) (hS : va_S (fun q : Nat => s.heap.size ≤ q) s.heap H locs) (hl : lv_has ls 13 [(0, .ref b), (1, .ref (A 42)), (2, .ref qa), (3, .int (nI n)), (4, .long (sC C1)), (6, .int (nI k))]) : W p l e room_1 s m #[Value.ref b] below meth c H locs 1101 15266 (lw_Z below #[Value.ref b] s) (F0 m 498 ls []) := by
  obtain ⟨hx, hb, hr, hml, hown, hts0, hX, hbl, hlocks, hgv⟩ := id C0
  have hts : ∀ w ∈ wsL_law, w.before #[Value.ref b] s = true := fun w hw => hts0 w (wsL_law_in w hw)
  have hA : ∀ q : Nat, s.heap.size ≤ q → (fun q : Nat => s.heap.size ≤ q) q := fun _ h => h
  have hbA : ¬ (fun q : Nat => s.heap.size ≤ q) b := Nat.not_le.mpr hbl
  have E : CallFix p m c cL_law 13 s #[Value.ref b] wsL_law RL := ⟨hx, hb, hml, hown, hts⟩
  obtain ⟨U, eU, eC, e1, hIU⟩ := LI_restore0 h
  refine lv_aload_n hx hb dL_law_498 rfl (lv_at hl 1 rfl) ?_
  refine lxM (rest := []) (As := []) E (k_X3_undo l G A h.iv (LI_undo0 h)) (cwV 0 hts gL_law_X3_undo rfl rfl rfl (by decide +kernel) ⟨Nat.le_of_ble_eq_true rfl, Nat.le_of_ble_eq_true rfl⟩) hK hP hD hS hA rfl hl.1 rfl (Nat.le_of_ble_eq_true rfl) dL_law_499 ⟨Nat.le_of_ble_eq_true rfl, Nat.le_of_ble_eq_true rfl⟩ (fun H locs hP hD hS => ?_)
  refine lv_bipush (v := (-5)) hx hb dL_law_502 (by decide) ?_
  refine lv_icmp_ne (tgt := 539) hx hb dL_law_504 (by decide) (fun c9 => absurd c9 (by decide)) (fun _ => ?_)
  refine lv_aload_n hx hb dL_law_507 rfl (lv_at hl 1 rfl) ?_
  refine lxM (rest := []) (As := []) E (k_X3_restore l G A h.iv eU) (cwV 0 hts gL_law_X3_restore rfl rfl rfl (by decide +kernel) ⟨Nat.le_of_ble_eq_true rfl, Nat.le_of_ble_eq_true rfl⟩) hK hP hD hS hA rfl hl.1 rfl (Nat.le_of_ble_eq_true rfl) dL_law_508 ⟨Nat.le_of_ble_eq_true rfl, Nat.le_of_ble_eq_true rfl⟩ (fun H locs hP hD hS => ?_)
  refine lv_iconst (v := 1) hx hb dL_law_511 (by decide) ?_
  refine lv_icmp_ne (tgt := 539) hx hb dL_law_512 (by decide) (fun c9 => absurd c9 (by decide)) (fun _ => ?_)
  refine lv_aload_n hx hb dL_law_515 rfl (lv_at hl 1 rfl) ?_
  refine lsL (rest := []) (As := [.ref (A 42)]) E (c_L_seen l G A U) (va_cwS 1 hts gL_law_L_seen rfl rfl rfl (by decide +kernel) ⟨Nat.le_of_ble_eq_true rfl, Nat.le_of_ble_eq_true rfl⟩) hK hP rfl hl.1 rfl (Nat.le_of_ble_eq_true rfl) dL_law_516 ⟨Nat.le_of_ble_eq_true rfl, Nat.le_of_ble_eq_true rfl⟩ ?_
  refine lv_lload hx hb dL_law_519 (lv_at hl 4 rfl) ?_
  refine W.lcmp hx hb dL_law_521 ?_
  refine lv_if_ne (tgt := 539) hx hb dL_law_522 (by decide) (fun c9 => absurd (by rw [seen_sC eC]; exact cmp_self _) c9) (fun _ => ?_)
  refine lv_aload_n hx hb dL_law_525 rfl (lv_at hl 1 rfl) ?_
  refine lv_bipush (v := 12) hx hb dL_law_526 (by decide) ?_
  refine lxP (rest := []) (As := [.int 12]) E (k_X3_count l G A U 12 ((cnt12 U).trans e1)) (cwV 1 hts gL_law_X3_count rfl rfl rfl (by decide +kernel) ⟨Nat.le_of_ble_eq_true rfl, Nat.le_of_ble_eq_true rfl⟩) hK hP rfl hl.1 rfl (Nat.le_of_ble_eq_true rfl) dL_law_528 ⟨Nat.le_of_ble_eq_true rfl, Nat.le_of_ble_eq_true rfl⟩ ?_
  refine lv_iconst (v := 1) hx hb dL_law_531 (by decide) ?_
  refine lv_icmp_ne (tgt := 539) hx hb dL_law_532 (by decide) (fun c9 => absurd c9 (by decide)) (fun _ => ?_)
  refine lv_iconst (v := 1) hx hb dL_law_535 (by decide) ?_
  refine lv_goto (tgt := 540) hx hb dL_law_536 (by decide) ?_
  refine va_forget (fun q hq => hS.2.2 q hq) ?_
  refine W.widen (k := 600000) (n := 7302250) (Nat.le_of_ble_eq_true rfl) (Nat.le_of_ble_eq_true rfl) ?_
  exact lw_ret hx hb hr hlocks dL_law_540
set_option maxHeartbeats 4000000 in
set_option maxRecDepth 100000 in
theorem law_wh {p : Program} {e : Env} {s : State} {m : MethodId} {below : List Frame} {meth : Method} {c : Code} {l : Launch} {b L0 : Nat} {xs : Nat → Int32} (C0 : lw_At p s m meth c b L0 xs) {G : GG} {A : Nat → Nat} {qa cL : Nat} (hK : KN G s) (hKL : va_K G.1 vwCl (gTy G ++ [(cL, .long)]) s) {cs : Nat → Nat → Nat → Int32} {f : Nat → Int64} {n k : Nat} : ∀ (q N a : Nat) (S : XS) (H : Heap) (locs : List Loc), LI N a q cs S → va_P G.1 vwCl (wX G A S (rot S) ++ [(qa, .inl (cL, 64, .inr (.inl f)))]) H → va_D (fun q : Nat => s.heap.size ≤ q) (wX G A S (rot S) ++ [(qa, .inl (cL, 64, .inr (.inl f)))]) → va_S (fun q : Nat => s.heap.size ≤ q) s.heap H locs → ∀ ls : Array Slot, lv_has ls 13 [(0, .ref b), (1, .ref (A 42)), (2, .ref qa), (3, .int (nI n)), (4, .long (sC C1)), (6, .int (nI k))] → W p l e room_1 s m #[Value.ref b] below meth c H locs 1101 15266 (lw_Z below #[Value.ref b] s) (F0 m 480 ls []) := by
  obtain ⟨hx, hb, hr, hml, hown, hts0, hX, hbl, hlocks, hgv⟩ := id C0
  have hts : ∀ w ∈ wsL_law, w.before #[Value.ref b] s = true := fun w hw => hts0 w (wsL_law_in w hw)
  have hA : ∀ q : Nat, s.heap.size ≤ q → (fun q : Nat => s.heap.size ≤ q) q := fun _ h => h
  have hbA : ¬ (fun q : Nat => s.heap.size ≤ q) b := Nat.not_le.mpr hbl
  have E : CallFix p m c cL_law 13 s #[Value.ref b] wsL_law RL := ⟨hx, hb, hml, hown, hts⟩
  intro q
  induction q with
  | zero =>
    intro N a S H locs h hP hD hS ls hl
    refine lv_aload_n hx hb dL_law_480 rfl (lv_at hl 1 rfl) ?_
    refine lv_bipush (v := 12) hx hb dL_law_481 (by decide) ?_
    refine lxP (rest := []) (As := [.int 12]) E (k_X3_count l G A S 12 ((cnt12 S).trans h.1.1)) (cwV 1 hts gL_law_X3_count rfl rfl rfl (by decide +kernel) ⟨Nat.le_of_ble_eq_true rfl, Nat.le_of_ble_eq_true rfl⟩) hK hP rfl hl.1 rfl (Nat.le_of_ble_eq_true rfl) dL_law_483 ⟨Nat.le_of_ble_eq_true rfl, Nat.le_of_ble_eq_true rfl⟩ ?_
    refine lv_if_le (tgt := 498) hx hb dL_law_486 (by decide) (fun _ => ?_) (fun c9 => absurd (by decide) c9)
    exact law_fin C0 hK hKL h hP hD hS hl
  | succ q ih =>
    intro N a S H locs h hP hD hS ls hl
    refine lv_aload_n hx hb dL_law_480 rfl (lv_at hl 1 rfl) ?_
    refine lv_bipush (v := 12) hx hb dL_law_481 (by decide) ?_
    refine lxP (rest := []) (As := [.int 12]) E (k_X3_count l G A S 12 ((cnt12 S).trans h.1.1)) (cwV 1 hts gL_law_X3_count rfl rfl rfl (by decide +kernel) ⟨Nat.le_of_ble_eq_true rfl, Nat.le_of_ble_eq_true rfl⟩) hK hP rfl hl.1 rfl (Nat.le_of_ble_eq_true rfl) dL_law_483 ⟨Nat.le_of_ble_eq_true rfl, Nat.le_of_ble_eq_true rfl⟩ ?_
    refine lv_if_le (tgt := 498) hx hb dL_law_486 (by decide) (fun c9 => absurd c9 (nI_nle (n := q + 1) (by omega) (by have := h.1.2.1; omega))) (fun _ => ?_)
    have hu := LI_undo h (by omega)
    have e1 : q + 1 - 1 = q := by omega
    rw [e1] at hu
    refine lv_aload_n hx hb dL_law_489 rfl (lv_at hl 1 rfl) ?_
    refine lxM (rest := []) (As := []) E (k_X3_undo l G A h.iv hu.1) (cwV 0 hts gL_law_X3_undo rfl rfl rfl (by decide +kernel) ⟨Nat.le_of_ble_eq_true rfl, Nat.le_of_ble_eq_true rfl⟩) hK hP hD hS hA rfl hl.1 rfl (Nat.le_of_ble_eq_true rfl) dL_law_490 ⟨Nat.le_of_ble_eq_true rfl, Nat.le_of_ble_eq_true rfl⟩ (fun H locs hP hD hS => ?_)
    refine lv_if_ge (tgt := 480) hx hb dL_law_493 (by decide) (fun _ => ?_) (fun c9 => absurd (nI_pos' (n := q) (by have := h.1.2.1; omega)) c9)
    exact ih _ _ _ _ _ hu.2 hP hD hS _ hl
set_option maxHeartbeats 4000000 in
set_option maxRecDepth 100000 in
theorem law_un {p : Program} {e : Env} {s : State} {m : MethodId} {below : List Frame} {meth : Method} {c : Code} {l : Launch} {b L0 : Nat} {xs : Nat → Int32} (C0 : lw_At p s m meth c b L0 xs) {G : GG} {A : Nat → Nat} {qa cL : Nat} (hK : KN G s) (hKL : va_K G.1 vwCl (gTy G ++ [(cL, .long)]) s) {n : Nat} (hn : n ≤ 40) {cs : Nat → Nat → Nat → Int32} {f : Nat → Int64} (hf : ∀ j, j ≤ n → f j = sC (cs (j + 1))) : ∀ (d q k N : Nat) (S : XS) (H : Heap) (locs : List Loc), d = q → k + q ≤ 4 → k + 1 ≤ n + 1 → LI N (n + 1 - k) q cs S → va_P G.1 vwCl (wX G A S (rot S) ++ [(qa, .inl (cL, 64, .inr (.inl f)))]) H → va_D (fun q : Nat => s.heap.size ≤ q) (wX G A S (rot S) ++ [(qa, .inl (cL, 64, .inr (.inl f)))]) → va_S (fun q : Nat => s.heap.size ≤ q) s.heap H locs → ∀ ls : Array Slot, lv_has ls 13 [(0, .ref b), (1, .ref (A 42)), (2, .ref qa), (3, .int (nI n)), (4, .long (sC C1)), (6, .int (nI k))] → W p l e room_1 s m #[Value.ref b] below meth c H locs 1101 15266 (lw_Z below #[Value.ref b] s) (F0 m 418 ls []) := by
  obtain ⟨hx, hb, hr, hml, hown, hts0, hX, hbl, hlocks, hgv⟩ := id C0
  have hts : ∀ w ∈ wsL_law, w.before #[Value.ref b] s = true := fun w hw => hts0 w (wsL_law_in w hw)
  have hA : ∀ q : Nat, s.heap.size ≤ q → (fun q : Nat => s.heap.size ≤ q) q := fun _ h => h
  have hbA : ¬ (fun q : Nat => s.heap.size ≤ q) b := Nat.not_le.mpr hbl
  have E : CallFix p m c cL_law 13 s #[Value.ref b] wsL_law RL := ⟨hx, hb, hml, hown, hts⟩
  intro d
  induction d with
  | zero =>
    intro q k N S H locs hd hkq hkn h hP hD hS ls hl
    subst hd
    refine lv_aload_n hx hb dL_law_418 rfl (lv_at hl 1 rfl) ?_
    refine lv_bipush (v := 12) hx hb dL_law_419 (by decide) ?_
    refine lxP (rest := []) (As := [.int 12]) E (k_X3_count l G A S 12 ((cnt12 S).trans h.1.1)) (cwV 1 hts gL_law_X3_count rfl rfl rfl (by decide +kernel) ⟨Nat.le_of_ble_eq_true rfl, Nat.le_of_ble_eq_true rfl⟩) hK hP rfl hl.1 rfl (Nat.le_of_ble_eq_true rfl) dL_law_421 ⟨Nat.le_of_ble_eq_true rfl, Nat.le_of_ble_eq_true rfl⟩ ?_
    refine lv_if_le (tgt := 480) hx hb dL_law_424 (by decide) (fun _ => ?_) (fun c9 => absurd (by decide) c9)
    exact law_wh C0 hK hKL _ _ _ _ _ _ h hP hD hS _ hl
  | succ d ih =>
    intro q k N S H locs hd hkq hkn h hP hD hS ls hl
    subst hd
    refine lv_aload_n hx hb dL_law_418 rfl (lv_at hl 1 rfl) ?_
    refine lv_bipush (v := 12) hx hb dL_law_419 (by decide) ?_
    refine lxP (rest := []) (As := [.int 12]) E (k_X3_count l G A S 12 ((cnt12 S).trans h.1.1)) (cwV 1 hts gL_law_X3_count rfl rfl rfl (by decide +kernel) ⟨Nat.le_of_ble_eq_true rfl, Nat.le_of_ble_eq_true rfl⟩) hK hP rfl hl.1 rfl (Nat.le_of_ble_eq_true rfl) dL_law_421 ⟨Nat.le_of_ble_eq_true rfl, Nat.le_of_ble_eq_true rfl⟩ ?_
    refine lv_if_le (tgt := 480) hx hb dL_law_424 (by decide) (fun c9 => absurd c9 (nI_nle (n := d + 1) (by omega) (by omega))) (fun _ => ?_)
    refine lv_iload hx hb dL_law_427 (lv_at hl 5 rfl) ?_
    refine lv_iload_n hx hb dL_law_429 rfl (lv_at hl 3 rfl) ?_
    refine lv_icmp_ge (tgt := 480) hx hb dL_law_430 (by decide) (fun _ => ?_) (fun c9 => ?_)
    · exact law_wh C0 hK hKL _ _ _ _ _ _ h hP hD hS _ hl
    have hk2 : k < n := by
      rcases Nat.lt_or_ge k n with q | q
      · exact q
      · exact absurd (nI_le q (by omega)) c9
    refine lv_aload_n hx hb dL_law_433 rfl (lv_at hl 1 rfl) ?_
    refine lv_bipush (v := 12) hx hb dL_law_434 (by decide) ?_
    refine lxP (rest := []) (As := [.int 12]) E (k_X3_count l G A S 12 ((cnt12 S).trans h.1.1)) (cwV 1 hts gL_law_X3_count rfl rfl rfl (by decide +kernel) ⟨Nat.le_of_ble_eq_true rfl, Nat.le_of_ble_eq_true rfl⟩) hK hP rfl hl.1 rfl (Nat.le_of_ble_eq_true rfl) dL_law_436 ⟨Nat.le_of_ble_eq_true rfl, Nat.le_of_ble_eq_true rfl⟩ ?_
    refine lv_istore (lv' := [(7, .int (nI (d + 1))), (0, .ref b), (1, .ref (A 42)), (2, .ref qa), (3, .int (nI n)), (4, .long (sC C1)), (6, .int (nI k))]) hx hb dL_law_439 hl (by decide) rfl (fun ls hl => ?_)
    refine lv_iload hx hb dL_law_441 (lv_at hl 6 rfl) ?_
    refine lv_iconst (v := 3) hx hb dL_law_443 (by decide) ?_
    refine lv_icmp_gt (tgt := 472) hx hb dL_law_444 (by decide) (fun c9 => absurd c9 (nI_nlt (a := 3) (b := k) (by omega) (by omega))) (fun _ => ?_)
    refine lv_aload_n hx hb dL_law_447 rfl (lv_at hl 2 rfl) ?_
    refine lsL (rest := []) (As := [.ref (A 42)]) E (c_L_seen l G A S) (va_cwS 1 hts gL_law_L_seen rfl rfl rfl (by decide +kernel) ⟨Nat.le_of_ble_eq_true rfl, Nat.le_of_ble_eq_true rfl⟩) hK hP rfl hl.1 rfl (Nat.le_of_ble_eq_true rfl) dL_law_448 ⟨Nat.le_of_ble_eq_true rfl, Nat.le_of_ble_eq_true rfl⟩ ?_
    refine lv_aload_n hx hb dL_law_451 rfl (lv_at hl 3 rfl) ?_
    refine lv_iload_n hx hb dL_law_452 rfl (lv_at hl 4 rfl) ?_
    refine lv_iload hx hb dL_law_453 (lv_at hl 6 rfl) ?_
    refine lv_isub hx hb dL_law_455 ?_
    rw [show nI n - nI k = nI (n - k) from pk_sub (by omega)]
    refine va_lald hx hb hKL hP 50 3 rfl rfl (vp_in_nI (n := n - k) (by omega) (by omega)) dL_law_456 ?_
    refine W.lcmp hx hb dL_law_457 ?_
    refine lv_if_ne (tgt := 472) hx hb dL_law_458 (by decide) (fun c9 => absurd (by rw [nI_cl (by omega), hf (n - k) (by omega), seen_sC (h.2.2.1.trans (congrArg cs (show n + 1 - k = n - k + 1 by omega)))]; exact cmp_self _) c9) (fun _ => ?_)
    have hu := LI_undo h (by omega)
    have e1 : d + 1 - 1 = d := by omega
    rw [e1] at hu
    refine lv_aload_n hx hb dL_law_461 rfl (lv_at hl 2 rfl) ?_
    refine lxM (rest := []) (As := []) E (k_X3_undo l G A h.iv hu.1) (cwV 0 hts gL_law_X3_undo rfl rfl rfl (by decide +kernel) ⟨Nat.le_of_ble_eq_true rfl, Nat.le_of_ble_eq_true rfl⟩) hK hP hD hS hA rfl hl.1 rfl (Nat.le_of_ble_eq_true rfl) dL_law_462 ⟨Nat.le_of_ble_eq_true rfl, Nat.le_of_ble_eq_true rfl⟩ (fun H locs hP hD hS => ?_)
    refine lv_iload hx hb dL_law_465 (lv_at hl 0 rfl) ?_
    refine lv_iconst (v := 1) hx hb dL_law_467 (by decide) ?_
    refine lv_isub hx hb dL_law_468 ?_
    refine lv_icmp_eq (tgt := 474) hx hb dL_law_469 (by decide) (fun _ => ?_) (fun c9 => absurd (pk_sub (a := d + 1) (b := 1) (by omega)).symm c9)
    refine lv_iinc (v := (nI (k + 1))) (lv' := [(6, .int (nI (k + 1))), (7, .int (nI (d + 1))), (0, .ref b), (1, .ref (A 42)), (2, .ref qa), (3, .int (nI n)), (4, .long (sC C1))]) hx hb dL_law_474 hl (k := 6) rfl (nI_1 k) (by decide) rfl (fun ls hl => ?_)
    refine lv_goto (tgt := 418) hx hb dL_law_477 (by decide) ?_
    exact ih d (k + 1) N (tkS S) H locs rfl (by omega) (by omega) (by rw [show n + 1 - (k + 1) = n + 1 - k - 1 by omega]; exact hu.2) hP hD hS _ (lv_sub hl [2, 3, 4, 5, 6, 0] rfl)
set_option maxHeartbeats 4000000 in
set_option maxRecDepth 100000 in
theorem law_rest {p : Program} {e : Env} {s : State} {m : MethodId} {below : List Frame} {meth : Method} {c : Code} {l : Launch} {b L0 : Nat} {xs : Nat → Int32} (C0 : lw_At p s m meth c b L0 xs) {G : GG} {A : Nat → Nat} {qa cL : Nat} (hK : KN G s) (hKL : va_K G.1 vwCl (gTy G ++ [(cL, .long)]) s) {n q N : Nat} (hn : n ≤ 40) {cs : Nat → Nat → Nat → Int32} {S : XS} {f : Nat → Int64} {k : Nat} (hf : ∀ j, j < n → f j = sC (cs (j + 1))) {H : Heap} {locs : List Loc} {ls : Array Slot} (h : LI N (n + 1) q cs S) (hP : va_P G.1 vwCl (wX G A S (rot S) ++ [(qa, .inl (cL, 64, .inr (.inl f)))]) H) (hD : va_D (fun q : Nat => s.heap.size ≤ q) (wX G A S (rot S) ++ [(qa, .inl (cL, 64, .inr (.inl f)))])) (hS : va_S (fun q : Nat => s.heap.size ≤ q) s.heap H locs) (hl : lv_has ls 13 [(0, .ref b), (1, .ref (A 42)), (2, .ref qa), (3, .int (nI n)), (4, .long (sC C1)), (6, .int (nI k))]) : W p l e room_1 s m #[Value.ref b] below meth c H locs 1101 15266 (lw_Z below #[Value.ref b] s) (F0 m 399 ls []) := by
  obtain ⟨hx, hb, hr, hml, hown, hts0, hX, hbl, hlocks, hgv⟩ := id C0
  have hts : ∀ w ∈ wsL_law, w.before #[Value.ref b] s = true := fun w hw => hts0 w (wsL_law_in w hw)
  have hA : ∀ q : Nat, s.heap.size ≤ q → (fun q : Nat => s.heap.size ≤ q) q := fun _ h => h
  have hbA : ¬ (fun q : Nat => s.heap.size ≤ q) b := Nat.not_le.mpr hbl
  have E : CallFix p m c cL_law 13 s #[Value.ref b] wsL_law RL := ⟨hx, hb, hml, hown, hts⟩
  refine lv_aload_n hx hb dL_law_399 rfl (lv_at hl 2 rfl) ?_
  refine lv_iload_n hx hb dL_law_400 rfl (lv_at hl 3 rfl) ?_
  refine lv_aload_n hx hb dL_law_401 rfl (lv_at hl 1 rfl) ?_
  refine lsL (rest := [.int (nI n), .ref qa]) (As := [.ref (A 42)]) E (c_L_seen l G A S) (va_cwS 1 hts gL_law_L_seen rfl rfl rfl (by decide +kernel) ⟨Nat.le_of_ble_eq_true rfl, Nat.le_of_ble_eq_true rfl⟩) hK hP rfl hl.1 rfl (Nat.le_of_ble_eq_true rfl) dL_law_402 ⟨Nat.le_of_ble_eq_true rfl, Nat.le_of_ble_eq_true rfl⟩ ?_
  refine va_last (D := G.1) hx hb hKL hP hD hS 50 3 rfl rfl (vp_in_nI (n := n) (by omega) (by omega)) dL_law_405 (fun H locs hP hD hS => ?_)
  have hP : va_P G.1 vwCl (wX G A S (rot S) ++ [(qa, .inl (cL, 64, .inr (.inl (vp_updL f (nI n).toNatClampNeg (f_seen S)))))]) H := hP
  have hD : va_D (fun q : Nat => s.heap.size ≤ q) (wX G A S (rot S) ++ [(qa, .inl (cL, 64, .inr (.inl (vp_updL f (nI n).toNatClampNeg (f_seen S)))))]) := hD
  rw [nI_cl (by omega)] at hP hD
  refine lv_aload_n hx hb dL_law_406 rfl (lv_at hl 1 rfl) ?_
  refine lsM (rest := []) (As := [.ref (A 42)]) E (c_L_refused l G A h.iv) (va_cwS 1 hts gL_law_L_refused rfl rfl rfl (by decide +kernel) ⟨Nat.le_of_ble_eq_true rfl, Nat.le_of_ble_eq_true rfl⟩) hK hP hD hS hA rfl hl.1 rfl (Nat.le_of_ble_eq_true rfl) dL_law_407 ⟨Nat.le_of_ble_eq_true rfl, Nat.le_of_ble_eq_true rfl⟩ (fun H locs hP hD hS => ?_)
  refine lv_if_ne (tgt := 415) hx hb dL_law_410 (by decide) (fun _ => ?_) (fun c9 => absurd c9 (by decide))
  refine lv_iconst (v := 0) hx hb dL_law_415 (by decide) ?_
  refine lv_istore (lv' := [(6, .int 0), (0, .ref b), (1, .ref (A 42)), (2, .ref qa), (3, .int (nI n)), (4, .long (sC C1))]) hx hb dL_law_416 hl (by decide) rfl (fun ls hl => ?_)
  refine law_un C0 hK hKL hn (fun j hj => ?_) q q 0 N S H locs rfl (by have := h.1.2.1; omega) (by omega) h hP hD hS _ (lv_sub hl [1, 2, 3, 4, 5, 0] rfl)
  rcases Nat.lt_or_ge j n with q1 | q1
  · rw [pk_uLn (by omega)]; exact hf j q1
  · have e : j = n := by omega
    subst e
    rw [pk_uLs]; exact seen_sC h.2.2.1
set_option maxHeartbeats 4000000 in
set_option maxRecDepth 100000 in
theorem law_lp {p : Program} {e : Env} {s : State} {m : MethodId} {below : List Frame} {meth : Method} {c : Code} {l : Launch} {b L0 : Nat} {xs : Nat → Int32} (C0 : lw_At p s m meth c b L0 xs) {G : GG} {A : Nat → Nat} {qa cL : Nat} (hK : KN G s) (hKL : va_K G.1 vwCl (gTy G ++ [(cL, .long)]) s) (hL : L0 ≤ 260) : ∀ (d k n q N : Nat) (cs : Nat → Nat → Nat → Int32) (S : XS) (f : Nat → Int64) (H : Heap) (locs : List Loc), k + d = 28 → n ≤ k → N ≤ k + 1 → (∀ j, j < n → f j = sC (cs (j + 1))) → LI N (n + 1) q cs S → va_P G.1 vwCl (wX G A S (rot S) ++ [(qa, .inl (cL, 64, .inr (.inl f)))]) H → va_D (fun q : Nat => s.heap.size ≤ q) (wX G A S (rot S) ++ [(qa, .inl (cL, 64, .inr (.inl f)))]) → va_S (fun q : Nat => s.heap.size ≤ q) s.heap H locs → ∀ ls : Array Slot, lv_has ls 13 [(0, .ref b), (1, .ref (A 42)), (2, .ref qa), (3, .int (nI n)), (4, .long (sC C1)), (6, .int (nI k))] → W p l e room_1 s m #[Value.ref b] below meth c H locs 1101 15266 (lw_Z below #[Value.ref b] s) (F0 m 68 ls []) := by
  obtain ⟨hx, hb, hr, hml, hown, hts0, hX, hbl, hlocks, hgv⟩ := id C0
  have hts : ∀ w ∈ wsL_law, w.before #[Value.ref b] s = true := fun w hw => hts0 w (wsL_law_in w hw)
  have hA : ∀ q : Nat, s.heap.size ≤ q → (fun q : Nat => s.heap.size ≤ q) q := fun _ h => h
  have hbA : ¬ (fun q : Nat => s.heap.size ≤ q) b := Nat.not_le.mpr hbl
  have E : CallFix p m c cL_law 13 s #[Value.ref b] wsL_law RL := ⟨hx, hb, hml, hown, hts⟩
  intro d
  induction d with
  | zero =>
    intro k n q N cs S f H locs hk hnk hN hf h hP hD hS ls hl
    refine lv_iload hx hb dL_law_68 (lv_at hl 5 rfl) ?_
    refine lv_bipush (v := 28) hx hb dL_law_70 (by decide) ?_
    refine lv_icmp_ge (tgt := 399) hx hb dL_law_72 (by decide) (fun _ => ?_) (fun c9 => absurd (nI_le (a := 28) (b := k) (by omega) (by omega)) c9)
    exact law_rest C0 hK hKL (by omega) hf h hP hD hS hl
  | succ d ih =>
    intro k n q N cs S f H locs hk hnk hN hf h hP hD hS ls hl
    refine lv_iload hx hb dL_law_68 (lv_at hl 5 rfl) ?_
    refine lv_bipush (v := 28) hx hb dL_law_70 (by decide) ?_
    refine lv_icmp_ge (tgt := 399) hx hb dL_law_72 (by decide) (fun c9 => absurd c9 (nI_ge (a := k) (b := 28) (by omega) (by omega))) (fun _ => ?_)
    refine lv_aload_n hx hb dL_law_75 rfl (lv_at hl 0 rfl) ?_
    refine lv_iload hx hb dL_law_76 (lv_at hl 5 rfl) ?_
    refine ctS (rest := []) (As := [.ref b, .int (nI k)]) E (c_L_drawn l b L0 xs hL k (by omega)) (va_cwS 2 hts gL_law_L_drawn rfl rfl rfl (by decide +kernel) ⟨Nat.le_of_ble_eq_true rfl, Nat.le_of_ble_eq_true rfl⟩) blind_X (fun U hU hW => ⟨va_X.moved hW.alike (hX.kept (by rw [hU]; exact hS.2.1 b hbl hbA)), by rw [hU]; exact Nat.lt_of_lt_of_le hbl hS.1⟩) rfl hl.1 rfl (Nat.le_of_ble_eq_true rfl) dL_law_78 ⟨Nat.le_of_ble_eq_true rfl, Nat.le_of_ble_eq_true rfl⟩ (fun xx => ?_)
    refine lv_istore (lv' := [(7, .int xx), (0, .ref b), (1, .ref (A 42)), (2, .ref qa), (3, .int (nI n)), (4, .long (sC C1)), (6, .int (nI k))]) hx hb dL_law_81 hl (by decide) rfl (fun ls hl => ?_)
    refine lv_iload hx hb dL_law_83 (lv_at hl 0 rfl) ?_
    refine lv_bipush (v := 13) hx hb dL_law_85 (by decide) ?_
    refine ctS (rest := []) (As := [.int xx, .int 13]) E (c_L_part l xx 13 (by decide)) (va_cwS 2 hts gL_law_L_part rfl rfl rfl (by decide +kernel) ⟨Nat.le_of_ble_eq_true rfl, Nat.le_of_ble_eq_true rfl⟩) blind_T (fun U _ _ => trivial) rfl hl.1 rfl (Nat.le_of_ble_eq_true rfl) dL_law_87 ⟨Nat.le_of_ble_eq_true rfl, Nat.le_of_ble_eq_true rfl⟩ (fun r1 => ?_)
    refine lv_istore (lv' := [(8, .int r1), (7, .int xx), (0, .ref b), (1, .ref (A 42)), (2, .ref qa), (3, .int (nI n)), (4, .long (sC C1)), (6, .int (nI k))]) hx hb dL_law_90 hl (by decide) rfl (fun ls hl => ?_)
    refine lv_aload_n hx hb dL_law_92 rfl (lv_at hl 4 rfl) ?_
    refine lv_iload_n hx hb dL_law_93 rfl (lv_at hl 5 rfl) ?_
    refine lv_aload_n hx hb dL_law_94 rfl (lv_at hl 3 rfl) ?_
    refine lsL (rest := [.int (nI n), .ref qa]) (As := [.ref (A 42)]) E (c_L_seen l G A S) (va_cwS 1 hts gL_law_L_seen rfl rfl rfl (by decide +kernel) ⟨Nat.le_of_ble_eq_true rfl, Nat.le_of_ble_eq_true rfl⟩) hK hP rfl hl.1 rfl (Nat.le_of_ble_eq_true rfl) dL_law_95 ⟨Nat.le_of_ble_eq_true rfl, Nat.le_of_ble_eq_true rfl⟩ ?_
    refine va_last (D := G.1) hx hb hKL hP hD hS 50 3 rfl rfl (vp_in_nI (n := n) (by omega) (by omega)) dL_law_98 (fun H locs hP hD hS => ?_)
    have hP : va_P G.1 vwCl (wX G A S (rot S) ++ [(qa, .inl (cL, 64, .inr (.inl (vp_updL f (nI n).toNatClampNeg (f_seen S)))))]) H := hP
    have hD : va_D (fun q : Nat => s.heap.size ≤ q) (wX G A S (rot S) ++ [(qa, .inl (cL, 64, .inr (.inl (vp_updL f (nI n).toNatClampNeg (f_seen S)))))]) := hD
    rw [nI_cl (by omega), seen_sC h.2.2.1] at hP hD
    have hf2 : ∀ j, j < n + 1 → vp_updL f n (sC (cs (n + 1))) j = sC (cs (j + 1)) := fun j hj => by
      rcases Nat.lt_or_ge j n with q1 | q1
      · rw [pk_uLn (by omega)]; exact hf j q1
      · have e : j = n := by omega
        subst e
        exact pk_uLs
    generalize vp_updL f n (sC (cs (n + 1))) = f2 at hP hD hf2
    refine lv_aload_n hx hb dL_law_99 rfl (lv_at hl 3 rfl) ?_
    refine lv_bipush (v := 12) hx hb dL_law_100 (by decide) ?_
    refine lxP (rest := []) (As := [.int 12]) E (k_X3_count l G A S 12 ((cnt12 S).trans h.1.1)) (cwV 1 hts gL_law_X3_count rfl rfl rfl (by decide +kernel) ⟨Nat.le_of_ble_eq_true rfl, Nat.le_of_ble_eq_true rfl⟩) hK hP rfl hl.1 rfl (Nat.le_of_ble_eq_true rfl) dL_law_102 ⟨Nat.le_of_ble_eq_true rfl, Nat.le_of_ble_eq_true rfl⟩ ?_
    refine lv_istore (lv' := [(9, .int (nI q)), (8, .int r1), (7, .int xx), (0, .ref b), (1, .ref (A 42)), (2, .ref qa), (3, .int (nI n)), (4, .long (sC C1)), (6, .int (nI k))]) hx hb dL_law_105 hl (by decide) rfl (fun ls hl => ?_)
    refine lv_iload hx hb dL_law_107 (lv_at hl 2 rfl) ?_
    refine lv_iconst (v := 4) hx hb dL_law_109 (by decide) ?_
    refine lv_ishr hx hb dL_law_110 ?_
    generalize (xx >>> (4 &&& 31)) = v1
    refine lv_bipush (v := 13) hx hb dL_law_111 (by decide) ?_
    refine ctS (rest := []) (As := [.int v1, .int 13]) E (c_L_part l v1 13 (by decide)) (va_cwS 2 hts gL_law_L_part rfl rfl rfl (by decide +kernel) ⟨Nat.le_of_ble_eq_true rfl, Nat.le_of_ble_eq_true rfl⟩) blind_T (fun U _ _ => trivial) rfl hl.1 rfl (Nat.le_of_ble_eq_true rfl) dL_law_113 ⟨Nat.le_of_ble_eq_true rfl, Nat.le_of_ble_eq_true rfl⟩ (fun r2 => ?_)
    refine lv_istore (lv' := [(10, .int r2), (9, .int (nI q)), (8, .int r1), (7, .int xx), (0, .ref b), (1, .ref (A 42)), (2, .ref qa), (3, .int (nI n)), (4, .long (sC C1)), (6, .int (nI k))]) hx hb dL_law_116 hl (by decide) rfl (fun ls hl => ?_)
    refine lv_bipush (v := 8) hx hb dL_law_118 (by decide) ?_
    refine lv_iload hx hb dL_law_120 (lv_at hl 3 rfl) ?_
    refine lv_bipush (v := 12) hx hb dL_law_122 (by decide) ?_
    refine lv_ishr hx hb dL_law_124 ?_
    generalize (xx >>> (12 &&& 31)) = v2
    refine lv_sipush (v := 195) hx hb dL_law_125 (by decide) ?_
    refine ctS (rest := [.int 8]) (As := [.int v2, .int 195]) E (c_L_part l v2 195 (by decide)) (va_cwS 2 hts gL_law_L_part rfl rfl rfl (by decide +kernel) ⟨Nat.le_of_ble_eq_true rfl, Nat.le_of_ble_eq_true rfl⟩) blind_T (fun U _ _ => trivial) rfl hl.1 rfl (Nat.le_of_ble_eq_true rfl) dL_law_128 ⟨Nat.le_of_ble_eq_true rfl, Nat.le_of_ble_eq_true rfl⟩ (fun r3 => ?_)
    refine lv_iadd hx hb dL_law_131 ?_
    refine lv_istore (lv' := [(11, .int (8 + r3)), (10, .int r2), (9, .int (nI q)), (8, .int r1), (7, .int xx), (0, .ref b), (1, .ref (A 42)), (2, .ref qa), (3, .int (nI n)), (4, .long (sC C1)), (6, .int (nI k))]) hx hb dL_law_132 hl (by decide) rfl (fun ls hl => ?_)
    generalize 8 + r3 = hg at hl
    have K349 : ∀ (z : Int32 × XS), AO N S z → ∀ (H : Heap) (locs : List Loc), va_P G.1 vwCl (wX G A z.2 (rot z.2) ++ [(qa, .inl (cL, 64, .inr (.inl f2)))]) H → va_D (fun q : Nat => s.heap.size ≤ q) (wX G A z.2 (rot z.2) ++ [(qa, .inl (cL, 64, .inr (.inl f2)))]) → va_S (fun q : Nat => s.heap.size ≤ q) s.heap H locs → ∀ ls : Array Slot, lv_has ls 13 [(11, .int hg), (10, .int r2), (9, .int (nI q)), (8, .int r1), (7, .int xx), (0, .ref b), (1, .ref (A 42)), (2, .ref qa), (3, .int (nI n)), (4, .long (sC C1)), (6, .int (nI k))] → W p l e room_1 s m #[Value.ref b] below meth c H locs 1101 15266 (lw_Z below #[Value.ref b] s) (F0 m 349 ls [.int z.1]) := by
      intro z hz H locs hP hD hS ls hl
      refine lv_istore (lv' := [(12, .int z.1), (11, .int hg), (10, .int r2), (9, .int (nI q)), (8, .int r1), (7, .int xx), (0, .ref b), (1, .ref (A 42)), (2, .ref qa), (3, .int (nI n)), (4, .long (sC C1)), (6, .int (nI k))]) hx hb dL_law_349 hl (by decide) rfl (fun ls hl => ?_)
      refine lv_iload hx hb dL_law_351 (lv_at hl 0 rfl) ?_
      rcases hz with ⟨z1, z2⟩ | ⟨z1, hp, hci⟩
      · skip
        have hz0 : ¬ 0 ≤ z.1 := Int32.not_le.mpr z1
        rw [z2] at hP hD
        refine lv_if_ge (tgt := 380) hx hb dL_law_353 (by decide) (fun c9 => absurd c9 hz0) (fun _ => ?_)
        refine lv_aload_n hx hb dL_law_356 rfl (lv_at hl 7 rfl) ?_
        refine lv_bipush (v := 12) hx hb dL_law_357 (by decide) ?_
        refine lxP (rest := []) (As := [.int 12]) E (k_X3_count l G A S 12 ((cnt12 S).trans h.1.1)) (cwV 1 hts gL_law_X3_count rfl rfl rfl (by decide +kernel) ⟨Nat.le_of_ble_eq_true rfl, Nat.le_of_ble_eq_true rfl⟩) hK hP rfl hl.1 rfl (Nat.le_of_ble_eq_true rfl) dL_law_359 ⟨Nat.le_of_ble_eq_true rfl, Nat.le_of_ble_eq_true rfl⟩ ?_
        refine lv_iload hx hb dL_law_362 (lv_at hl 3 rfl) ?_
        refine lv_icmp_ne (tgt := 378) hx hb dL_law_364 (by decide) (fun c9 => absurd rfl c9) (fun _ => ?_)
        refine lv_aload_n hx hb dL_law_367 rfl (lv_at hl 7 rfl) ?_
        refine lsL (rest := []) (As := [.ref (A 42)]) E (c_L_seen l G A S) (va_cwS 1 hts gL_law_L_seen rfl rfl rfl (by decide +kernel) ⟨Nat.le_of_ble_eq_true rfl, Nat.le_of_ble_eq_true rfl⟩) hK hP rfl hl.1 rfl (Nat.le_of_ble_eq_true rfl) dL_law_368 ⟨Nat.le_of_ble_eq_true rfl, Nat.le_of_ble_eq_true rfl⟩ ?_
        refine lv_aload_n hx hb dL_law_371 rfl (lv_at hl 8 rfl) ?_
        refine lv_iload_n hx hb dL_law_372 rfl (lv_at hl 9 rfl) ?_
        refine va_lald hx hb hKL hP 50 3 rfl rfl (vp_in_nI (n := n) (by omega) (by omega)) dL_law_373 ?_
        refine W.lcmp hx hb dL_law_374 ?_
        refine lv_if_eq (tgt := 380) hx hb dL_law_375 (by decide) (fun _ => ?_) (fun c9 => absurd (by rw [nI_cl (by omega), hf2 n (by omega), seen_sC h.2.2.1]; exact cmp_self _) c9)
        refine lv_iload_n hx hb dL_law_380 rfl (lv_at hl 9 rfl) ?_
        refine lv_iload hx hb dL_law_381 (lv_at hl 0 rfl) ?_
        refine lv_if_ge (tgt := 390) hx hb dL_law_383 (by decide) (fun c9 => absurd c9 hz0) (fun _ => ?_)
        refine lv_iconst (v := 0) hx hb dL_law_386 (by decide) ?_
        refine lv_goto (tgt := 391) hx hb dL_law_387 (by decide) ?_
        refine lv_iadd hx hb dL_law_391 ?_
        rw [Int32.add_zero]
        refine lv_istore_n (lv' := [(3, .int (nI n)), (12, .int z.1), (11, .int hg), (10, .int r2), (9, .int (nI q)), (8, .int r1), (7, .int xx), (0, .ref b), (1, .ref (A 42)), (2, .ref qa), (4, .long (sC C1)), (6, .int (nI k))]) hx hb dL_law_392 rfl hl (by decide) rfl (fun ls hl => ?_)
        refine lv_iinc (v := (nI (k + 1))) (lv' := [(6, .int (nI (k + 1))), (3, .int (nI n)), (12, .int z.1), (11, .int hg), (10, .int r2), (9, .int (nI q)), (8, .int r1), (7, .int xx), (0, .ref b), (1, .ref (A 42)), (2, .ref qa), (4, .long (sC C1))]) hx hb dL_law_393 hl (k := 11) rfl (nI_1 k) (by decide) rfl (fun ls hl => ?_)
        refine lv_goto (tgt := 68) hx hb dL_law_396 (by decide) ?_
        exact ih (k + 1) n q N cs S f2 H locs (by omega) (by omega) (by omega) (fun j hj => hf2 j (by omega)) h hP hD hS _ (lv_sub hl [8, 9, 10, 1, 11, 0] rfl)
      · skip
        have hz0 : 0 ≤ z.1 := Int32.not_lt.mp z1
        refine lv_if_ge (tgt := 380) hx hb dL_law_353 (by decide) (fun _ => ?_) (fun c9 => absurd hz0 c9)
        refine lv_iload_n hx hb dL_law_380 rfl (lv_at hl 9 rfl) ?_
        refine lv_iload hx hb dL_law_381 (lv_at hl 0 rfl) ?_
        refine lv_if_ge (tgt := 390) hx hb dL_law_383 (by decide) (fun _ => ?_) (fun c9 => absurd hz0 c9)
        refine lv_iconst (v := 1) hx hb dL_law_390 (by decide) ?_
        refine lv_iadd hx hb dL_law_391 ?_
        rw [nI_1]
        refine lv_istore_n (lv' := [(3, .int (nI (n + 1))), (12, .int z.1), (11, .int hg), (10, .int r2), (9, .int (nI q)), (8, .int r1), (7, .int xx), (0, .ref b), (1, .ref (A 42)), (2, .ref qa), (4, .long (sC C1)), (6, .int (nI k))]) hx hb dL_law_392 rfl hl (by decide) rfl (fun ls hl => ?_)
        refine lv_iinc (v := (nI (k + 1))) (lv' := [(6, .int (nI (k + 1))), (3, .int (nI (n + 1))), (12, .int z.1), (11, .int hg), (10, .int r2), (9, .int (nI q)), (8, .int r1), (7, .int xx), (0, .ref b), (1, .ref (A 42)), (2, .ref qa), (4, .long (sC C1))]) hx hb dL_law_393 hl (k := 11) rfl (nI_1 k) (by decide) rfl (fun ls hl => ?_)
        refine lv_goto (tgt := 68) hx hb dL_law_396 (by decide) ?_
        obtain ⟨q1, -, h1⟩ := LI_push h hp hci
        refine ih (k + 1) (n + 1) q1 (N + 1) _ z.2 f2 H locs (by omega) (by omega) (by omega) (fun j hj => ?_) h1 hP hD hS _ (lv_sub hl [8, 9, 10, 1, 11, 0] rfl)
        rw [hf2 j hj]
        exact congrArg sC (if_neg (by omega)).symm
    refine lv_iload hx hb dL_law_134 (lv_at hl 3 rfl) ?_
    refine lv_iconst (v := 5) hx hb dL_law_136 (by decide) ?_
    refine lv_icmp_ge (tgt := 161) hx hb dL_law_137 (by decide) (fun _ => ?_) (fun _ => ?_)
    rotate_left
    · skip
      refine lv_aload_n hx hb dL_law_140 rfl (lv_at hl 6 rfl) ?_
      refine lv_iload hx hb dL_law_141 (lv_at hl 1 rfl) ?_
      refine lv_iload hx hb dL_law_143 (lv_at hl 4 rfl) ?_
      refine lv_bipush (v := 8) hx hb dL_law_145 (by decide) ?_
      refine lv_ishr hx hb dL_law_147 ?_
      generalize (xx >>> (8 &&& 31)) = v3
      refine lv_bipush (v := 17) hx hb dL_law_148 (by decide) ?_
      refine ctS (rest := [.int r2, .ref (A 42)]) (As := [.int v3, .int 17]) E (c_L_part l v3 17 (by decide)) (va_cwS 2 hts gL_law_L_part rfl rfl rfl (by decide +kernel) ⟨Nat.le_of_ble_eq_true rfl, Nat.le_of_ble_eq_true rfl⟩) blind_T (fun U _ _ => trivial) rfl hl.1 rfl (Nat.le_of_ble_eq_true rfl) dL_law_150 ⟨Nat.le_of_ble_eq_true rfl, Nat.le_of_ble_eq_true rfl⟩ (fun r4 => ?_)
      refine lv_iload hx hb dL_law_153 (lv_at hl 0 rfl) ?_
      refine lxM (rest := []) (As := [.int r2, .int r4, .int hg]) E (k_X3_lay l G A r2 r4 hg h.iv rfl) (cwV 3 hts gL_law_X3_lay rfl rfl rfl (by decide +kernel) ⟨Nat.le_of_ble_eq_true rfl, Nat.le_of_ble_eq_true rfl⟩) hK hP hD hS hA rfl hl.1 rfl (Nat.le_of_ble_eq_true rfl) dL_law_155 ⟨Nat.le_of_ble_eq_true rfl, Nat.le_of_ble_eq_true rfl⟩ (fun H locs hP hD hS => ?_)
      refine lv_goto (tgt := 349) hx hb dL_law_158 (by decide) ?_
      exact K349 (f_X3_lay S r2 r4 hg) (ao_lay h.2.2.2.2.2.1 _ _ _) _ _ hP hD hS _ hl
    refine lv_iload hx hb dL_law_161 (lv_at hl 3 rfl) ?_
    refine lv_iconst (v := 5) hx hb dL_law_163 (by decide) ?_
    refine lv_icmp_ne (tgt := 176) hx hb dL_law_164 (by decide) (fun _ => ?_) (fun _ => ?_)
    rotate_left
    · skip
      refine lv_aload_n hx hb dL_law_167 rfl (lv_at hl 6 rfl) ?_
      refine lv_iload hx hb dL_law_168 (lv_at hl 1 rfl) ?_
      refine lxM (rest := []) (As := [.int r2]) E (k_X3_takeOff l G A r2 h.iv rfl) (cwV 1 hts gL_law_X3_takeOff rfl rfl rfl (by decide +kernel) ⟨Nat.le_of_ble_eq_true rfl, Nat.le_of_ble_eq_true rfl⟩) hK hP hD hS hA rfl hl.1 rfl (Nat.le_of_ble_eq_true rfl) dL_law_170 ⟨Nat.le_of_ble_eq_true rfl, Nat.le_of_ble_eq_true rfl⟩ (fun H locs hP hD hS => ?_)
      refine lv_goto (tgt := 349) hx hb dL_law_173 (by decide) ?_
      exact K349 (f_X3_takeOff S r2) (ao_takeOff h.2.2.2.2.2.1 _) _ _ hP hD hS _ hl
    refine lv_iload hx hb dL_law_176 (lv_at hl 3 rfl) ?_
    refine lv_bipush (v := 6) hx hb dL_law_178 (by decide) ?_
    refine lv_icmp_ne (tgt := 194) hx hb dL_law_180 (by decide) (fun _ => ?_) (fun _ => ?_)
    rotate_left
    · skip
      refine lv_aload_n hx hb dL_law_183 rfl (lv_at hl 6 rfl) ?_
      refine lv_iload hx hb dL_law_184 (lv_at hl 1 rfl) ?_
      refine lv_iload hx hb dL_law_186 (lv_at hl 0 rfl) ?_
      refine lxM (rest := []) (As := [.int r2, .int hg]) E (k_X3_bend l G A r2 hg h.iv rfl) (cwV 2 hts gL_law_X3_bend rfl rfl rfl (by decide +kernel) ⟨Nat.le_of_ble_eq_true rfl, Nat.le_of_ble_eq_true rfl⟩) hK hP hD hS hA rfl hl.1 rfl (Nat.le_of_ble_eq_true rfl) dL_law_188 ⟨Nat.le_of_ble_eq_true rfl, Nat.le_of_ble_eq_true rfl⟩ (fun H locs hP hD hS => ?_)
      refine lv_goto (tgt := 349) hx hb dL_law_191 (by decide) ?_
      exact K349 (f_X3_bend S r2 hg) (ao_bend h.2.2.2.2.2.1 _ _) _ _ hP hD hS _ hl
    refine lv_iload hx hb dL_law_194 (lv_at hl 3 rfl) ?_
    refine lv_bipush (v := 7) hx hb dL_law_196 (by decide) ?_
    refine lv_icmp_ne (tgt := 229) hx hb dL_law_198 (by decide) (fun _ => ?_) (fun _ => ?_)
    rotate_left
    · skip
      refine lv_aload_n hx hb dL_law_201 rfl (lv_at hl 6 rfl) ?_
      refine lv_iload hx hb dL_law_202 (lv_at hl 4 rfl) ?_
      refine lv_bipush (v := 8) hx hb dL_law_204 (by decide) ?_
      refine lv_ishr hx hb dL_law_206 ?_
      generalize (xx >>> (8 &&& 31)) = v3
      refine lv_bipush (v := 17) hx hb dL_law_207 (by decide) ?_
      refine ctS (rest := [.ref (A 42)]) (As := [.int v3, .int 17]) E (c_L_part l v3 17 (by decide)) (va_cwS 2 hts gL_law_L_part rfl rfl rfl (by decide +kernel) ⟨Nat.le_of_ble_eq_true rfl, Nat.le_of_ble_eq_true rfl⟩) blind_T (fun U _ _ => trivial) rfl hl.1 rfl (Nat.le_of_ble_eq_true rfl) dL_law_209 ⟨Nat.le_of_ble_eq_true rfl, Nat.le_of_ble_eq_true rfl⟩ (fun r4 => ?_)
      refine lv_iload hx hb dL_law_212 (lv_at hl 4 rfl) ?_
      refine lv_bipush (v := 12) hx hb dL_law_214 (by decide) ?_
      refine lv_ishr hx hb dL_law_216 ?_
      generalize (xx >>> (12 &&& 31)) = v4
      refine lv_sipush (v := 620) hx hb dL_law_217 (by decide) ?_
      refine ctS (rest := [.int r4, .ref (A 42)]) (As := [.int v4, .int 620]) E (c_L_part l v4 620 (by decide)) (va_cwS 2 hts gL_law_L_part rfl rfl rfl (by decide +kernel) ⟨Nat.le_of_ble_eq_true rfl, Nat.le_of_ble_eq_true rfl⟩) blind_T (fun U _ _ => trivial) rfl hl.1 rfl (Nat.le_of_ble_eq_true rfl) dL_law_220 ⟨Nat.le_of_ble_eq_true rfl, Nat.le_of_ble_eq_true rfl⟩ (fun r5 => ?_)
      refine lxM (rest := []) (As := [.int r4, .int r5]) E (k_X3_moveLead l G A r4 r5 h.iv rfl) (cwV 2 hts gL_law_X3_moveLead rfl rfl rfl (by decide +kernel) ⟨Nat.le_of_ble_eq_true rfl, Nat.le_of_ble_eq_true rfl⟩) hK hP hD hS hA rfl hl.1 rfl (Nat.le_of_ble_eq_true rfl) dL_law_223 ⟨Nat.le_of_ble_eq_true rfl, Nat.le_of_ble_eq_true rfl⟩ (fun H locs hP hD hS => ?_)
      refine lv_goto (tgt := 349) hx hb dL_law_226 (by decide) ?_
      exact K349 (f_X3_moveLead S r4 r5) (ao_moveLead h.2.2.2.2.2.1 _ _) _ _ hP hD hS _ hl
    refine lv_iload hx hb dL_law_229 (lv_at hl 3 rfl) ?_
    refine lv_bipush (v := 8) hx hb dL_law_231 (by decide) ?_
    refine lv_icmp_ne (tgt := 253) hx hb dL_law_233 (by decide) (fun _ => ?_) (fun _ => ?_)
    rotate_left
    · skip
      refine lv_aload_n hx hb dL_law_236 rfl (lv_at hl 6 rfl) ?_
      refine lv_iload hx hb dL_law_237 (lv_at hl 4 rfl) ?_
      refine lv_bipush (v := 8) hx hb dL_law_239 (by decide) ?_
      refine lv_ishr hx hb dL_law_241 ?_
      generalize (xx >>> (8 &&& 31)) = v3
      refine lv_bipush (v := 52) hx hb dL_law_242 (by decide) ?_
      refine ctS (rest := [.ref (A 42)]) (As := [.int v3, .int 52]) E (c_L_part l v3 52 (by decide)) (va_cwS 2 hts gL_law_L_part rfl rfl rfl (by decide +kernel) ⟨Nat.le_of_ble_eq_true rfl, Nat.le_of_ble_eq_true rfl⟩) blind_T (fun U _ _ => trivial) rfl hl.1 rfl (Nat.le_of_ble_eq_true rfl) dL_law_244 ⟨Nat.le_of_ble_eq_true rfl, Nat.le_of_ble_eq_true rfl⟩ (fun r4 => ?_)
      refine lxM (rest := []) (As := [.int r4]) E (k_X3_setWidth l G A r4 h.iv rfl) (cwV 1 hts gL_law_X3_setWidth rfl rfl rfl (by decide +kernel) ⟨Nat.le_of_ble_eq_true rfl, Nat.le_of_ble_eq_true rfl⟩) hK hP hD hS hA rfl hl.1 rfl (Nat.le_of_ble_eq_true rfl) dL_law_247 ⟨Nat.le_of_ble_eq_true rfl, Nat.le_of_ble_eq_true rfl⟩ (fun H locs hP hD hS => ?_)
      refine lv_goto (tgt := 349) hx hb dL_law_250 (by decide) ?_
      exact K349 (f_X3_setWidth S r4) (ao_setWidth h.2.2.2.2.2.1 _) _ _ hP hD hS _ hl
    refine lv_iload hx hb dL_law_253 (lv_at hl 3 rfl) ?_
    refine lv_bipush (v := 9) hx hb dL_law_255 (by decide) ?_
    refine lv_icmp_ne (tgt := 286) hx hb dL_law_257 (by decide) (fun _ => ?_) (fun _ => ?_)
    rotate_left
    · skip
      refine lv_iload hx hb dL_law_260 (lv_at hl 4 rfl) ?_
      refine lv_bipush (v := 8) hx hb dL_law_262 (by decide) ?_
      refine lv_ishr hx hb dL_law_264 ?_
      generalize (xx >>> (8 &&& 31)) = v3
      refine lv_iconst (v := 2) hx hb dL_law_265 (by decide) ?_
      refine ctS (rest := []) (As := [.int v3, .int 2]) E (c_L_part l v3 2 (by decide)) (va_cwS 2 hts gL_law_L_part rfl rfl rfl (by decide +kernel) ⟨Nat.le_of_ble_eq_true rfl, Nat.le_of_ble_eq_true rfl⟩) blind_T (fun U _ _ => trivial) rfl hl.1 rfl (Nat.le_of_ble_eq_true rfl) dL_law_266 ⟨Nat.le_of_ble_eq_true rfl, Nat.le_of_ble_eq_true rfl⟩ (fun r4 => ?_)
      refine lv_if_ne (tgt := 279) hx hb dL_law_269 (by decide) (fun _ => ?_) (fun _ => ?_)
      · skip
        refine lv_aload_n hx hb dL_law_279 rfl (lv_at hl 6 rfl) ?_
        refine lxM (rest := []) (As := []) E (k_X3_thread l G A h.iv rfl) (cwV 0 hts gL_law_X3_thread rfl rfl rfl (by decide +kernel) ⟨Nat.le_of_ble_eq_true rfl, Nat.le_of_ble_eq_true rfl⟩) hK hP hD hS hA rfl hl.1 rfl (Nat.le_of_ble_eq_true rfl) dL_law_280 ⟨Nat.le_of_ble_eq_true rfl, Nat.le_of_ble_eq_true rfl⟩ (fun H locs hP hD hS => ?_)
        refine lv_goto (tgt := 349) hx hb dL_law_283 (by decide) ?_
        exact K349 (f_X3_thread S) (ao_thread (by omega) h.2.2.2.2.2.1) _ _ hP hD hS _ hl
      · skip
        refine lv_aload_n hx hb dL_law_272 rfl (lv_at hl 6 rfl) ?_
        refine lxM (rest := []) (As := []) E (k_X3_changeTool l G A h.iv rfl) (cwV 0 hts gL_law_X3_changeTool rfl rfl rfl (by decide +kernel) ⟨Nat.le_of_ble_eq_true rfl, Nat.le_of_ble_eq_true rfl⟩) hK hP hD hS hA rfl hl.1 rfl (Nat.le_of_ble_eq_true rfl) dL_law_273 ⟨Nat.le_of_ble_eq_true rfl, Nat.le_of_ble_eq_true rfl⟩ (fun H locs hP hD hS => ?_)
        refine lv_goto (tgt := 349) hx hb dL_law_276 (by decide) ?_
        exact K349 (f_X3_changeTool S) (ao_changeTool h.2.2.2.2.2.1) _ _ hP hD hS _ hl
    refine lv_iload hx hb dL_law_286 (lv_at hl 3 rfl) ?_
    refine lv_bipush (v := 10) hx hb dL_law_288 (by decide) ?_
    refine lv_icmp_ne (tgt := 312) hx hb dL_law_290 (by decide) (fun _ => ?_) (fun _ => ?_)
    rotate_left
    · skip
      refine lv_aload_n hx hb dL_law_293 rfl (lv_at hl 6 rfl) ?_
      refine lv_iload hx hb dL_law_294 (lv_at hl 1 rfl) ?_
      refine lv_iload hx hb dL_law_296 (lv_at hl 4 rfl) ?_
      refine lv_bipush (v := 8) hx hb dL_law_298 (by decide) ?_
      refine lv_ishr hx hb dL_law_300 ?_
      generalize (xx >>> (8 &&& 31)) = v3
      refine lv_bipush (v := 102) hx hb dL_law_301 (by decide) ?_
      refine ctS (rest := [.int r2, .ref (A 42)]) (As := [.int v3, .int 102]) E (c_L_part l v3 102 (by decide)) (va_cwS 2 hts gL_law_L_part rfl rfl rfl (by decide +kernel) ⟨Nat.le_of_ble_eq_true rfl, Nat.le_of_ble_eq_true rfl⟩) blind_T (fun U _ _ => trivial) rfl hl.1 rfl (Nat.le_of_ble_eq_true rfl) dL_law_303 ⟨Nat.le_of_ble_eq_true rfl, Nat.le_of_ble_eq_true rfl⟩ (fun r4 => ?_)
      refine lxM (rest := []) (As := [.int r2, .int r4]) E (k_X3_pull l G A r2 r4 h.iv rfl) (cwV 2 hts gL_law_X3_pull rfl rfl rfl (by decide +kernel) ⟨Nat.le_of_ble_eq_true rfl, Nat.le_of_ble_eq_true rfl⟩) hK hP hD hS hA rfl hl.1 rfl (Nat.le_of_ble_eq_true rfl) dL_law_306 ⟨Nat.le_of_ble_eq_true rfl, Nat.le_of_ble_eq_true rfl⟩ (fun H locs hP hD hS => ?_)
      refine lv_goto (tgt := 349) hx hb dL_law_309 (by decide) ?_
      exact K349 (f_X3_pull S r2 r4) (ao_pull h.2.2.2.2.2.1 _ _) _ _ hP hD hS _ hl
    refine lv_iload hx hb dL_law_312 (lv_at hl 3 rfl) ?_
    refine lv_bipush (v := 11) hx hb dL_law_314 (by decide) ?_
    refine lv_icmp_ne (tgt := 345) hx hb dL_law_316 (by decide) (fun _ => ?_) (fun _ => ?_)
    rotate_left
    · skip
      refine lv_aload_n hx hb dL_law_319 rfl (lv_at hl 6 rfl) ?_
      refine lv_iload hx hb dL_law_320 (lv_at hl 4 rfl) ?_
      refine lv_bipush (v := 8) hx hb dL_law_322 (by decide) ?_
      refine lv_ishr hx hb dL_law_324 ?_
      generalize (xx >>> (8 &&& 31)) = v3
      refine lv_iconst (v := 5) hx hb dL_law_325 (by decide) ?_
      refine ctS (rest := [.ref (A 42)]) (As := [.int v3, .int 5]) E (c_L_part l v3 5 (by decide)) (va_cwS 2 hts gL_law_L_part rfl rfl rfl (by decide +kernel) ⟨Nat.le_of_ble_eq_true rfl, Nat.le_of_ble_eq_true rfl⟩) blind_T (fun U _ _ => trivial) rfl hl.1 rfl (Nat.le_of_ble_eq_true rfl) dL_law_326 ⟨Nat.le_of_ble_eq_true rfl, Nat.le_of_ble_eq_true rfl⟩ (fun r4 => ?_)
      refine lv_iload hx hb dL_law_329 (lv_at hl 4 rfl) ?_
      refine lv_bipush (v := 12) hx hb dL_law_331 (by decide) ?_
      refine lv_ishr hx hb dL_law_333 ?_
      generalize (xx >>> (12 &&& 31)) = v4
      refine lv_bipush (v := 102) hx hb dL_law_334 (by decide) ?_
      refine ctS (rest := [.int r4, .ref (A 42)]) (As := [.int v4, .int 102]) E (c_L_part l v4 102 (by decide)) (va_cwS 2 hts gL_law_L_part rfl rfl rfl (by decide +kernel) ⟨Nat.le_of_ble_eq_true rfl, Nat.le_of_ble_eq_true rfl⟩) blind_T (fun U _ _ => trivial) rfl hl.1 rfl (Nat.le_of_ble_eq_true rfl) dL_law_336 ⟨Nat.le_of_ble_eq_true rfl, Nat.le_of_ble_eq_true rfl⟩ (fun r5 => ?_)
      refine lxM (rest := []) (As := [.int r4, .int r5]) E (k_X3_sample l G A r4 r5 h.iv rfl) (cwV 2 hts gL_law_X3_sample rfl rfl rfl (by decide +kernel) ⟨Nat.le_of_ble_eq_true rfl, Nat.le_of_ble_eq_true rfl⟩) hK hP hD hS hA rfl hl.1 rfl (Nat.le_of_ble_eq_true rfl) dL_law_339 ⟨Nat.le_of_ble_eq_true rfl, Nat.le_of_ble_eq_true rfl⟩ (fun H locs hP hD hS => ?_)
      refine lv_goto (tgt := 349) hx hb dL_law_342 (by decide) ?_
      exact K349 (f_X3_sample S r4 r5) (ao_sample h.2.2.2.2.2.1 _ _) _ _ hP hD hS _ hl
    refine lv_aload_n hx hb dL_law_345 rfl (lv_at hl 6 rfl) ?_
    refine lxM (rest := []) (As := []) E (k_X3_restore l G A h.iv rfl) (cwV 0 hts gL_law_X3_restore rfl rfl rfl (by decide +kernel) ⟨Nat.le_of_ble_eq_true rfl, Nat.le_of_ble_eq_true rfl⟩) hK hP hD hS hA rfl hl.1 rfl (Nat.le_of_ble_eq_true rfl) dL_law_346 ⟨Nat.le_of_ble_eq_true rfl, Nat.le_of_ble_eq_true rfl⟩ (fun H locs hP hD hS => ?_)
    exact K349 (f_X3_restore S) (ao_restore h.2.2.2.2.2.1) _ _ hP hD hS _ hl
