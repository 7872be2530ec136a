theorem step4 (j : Nat) : nI (4 * j) + 4 = nI (4 * (j + 1)) := by
  rw [show (4 : Int32) = nI 4 from rfl, nI_add, show 4 * j + 4 = 4 * (j + 1) by omega]
theorem not_gt {i L : Nat} (hL : L ≤ 2048) (hi : i ≤ 4000) (h : ¬ (nI L - 4 < nI i)) : i + 4 ≤ L := by
  rw [show (4 : Int32) = nI 4 from rfl, Int32.lt_iff_toInt_lt, pk_sub_toInt (by omega) (by omega), nI_toInt (by omega)] at h
  omega
set_option maxHeartbeats 4000000 in
set_option maxRecDepth 100000 in
theorem law_loop {p : Program} {l : Launch} {e : Env} {s : State} {m : MethodId} {below : List Frame} {meth : Method} {c : Code} {b L0 : Nat} {xs : Nat → Int32} (C0 : lw_At p s m meth c b L0 xs) (hL : L0 ≤ 2048) {G : GG} {A B : Nat → Nat} (hK : KN G s) : ∀ (n j : Nat) (S : XS) (T : MS) (H : Heap) (locs : List Loc), L0 < 4 * j + 4 * n → 4 * j ≤ L0 + 3 → RS (20 * j) S T → va_P G.1 vwCl (wX G A S (rot S) ++ wM G B T) H → va_D (fun q : Nat => s.heap.size ≤ q) (wX G A S (rot S) ++ wM G B T) → va_S (fun q : Nat => s.heap.size ≤ q) s.heap H locs → ∀ ls : Array Slot, lv_has ls 4 [(0, .ref b), (1, .ref (A 42)), (2, .ref (B 0)), (3, .int (nI (4 * j)))] → W p l e room_1 s m #[Value.ref b] below meth c H locs 57 1342 (lw_Z below #[Value.ref b] s) (F0 m 18 ls []) := by
  obtain ⟨hx, hb, hr, hml, hown, hts0, hX, hbl, hlocks, hgv⟩ := id C0
  have hA : ∀ q : Nat, s.heap.size ≤ q → (fun q : Nat => s.heap.size ≤ q) q := fun _ h => h
  have hbA : ¬ (fun q : Nat => s.heap.size ≤ q) b := Nat.not_le.mpr hbl
  intro n
  induction n with
  | zero =>
    intro j S T H locs h1 h2 h hP hD hS ls hl
    refine lv_iload_n hx hb dL_law_18 rfl (lv_at hl 3 rfl) ?_
    refine lv_aload_n hx hb dL_law_19 rfl (lv_at hl 0 rfl) ?_
    refine va_slen hx hb hX hbl hbA hS dL_law_20 ?_
    refine lv_iconst (v := 4) hx hb dL_law_21 (by decide) ?_
    refine lv_isub hx hb dL_law_22 ?_
    refine lv_icmp_gt (tgt := 700) hx hb dL_law_23 (by decide) (fun _ => ?_) (fun c9 => ?_)
    · refine lv_iconst (v := 1) hx hb dL_law_700 (by decide) ?_
      refine va_forget (fun q hq => hS.2.2 q hq) ?_
      refine W.widen (k := 600000) (n := 7302250) (Nat.le_of_ble_eq_true rfl) (Nat.le_of_ble_eq_true rfl) ?_
      exact lw_ret hx hb hr hlocks dL_law_701
    · exfalso
      have := not_gt hL (by omega) c9
      omega
  | succ n ih =>
    intro j S T H locs h1 h2 h hP hD hS ls hl
    refine lv_iload_n hx hb dL_law_18 rfl (lv_at hl 3 rfl) ?_
    refine lv_aload_n hx hb dL_law_19 rfl (lv_at hl 0 rfl) ?_
    refine va_slen hx hb hX hbl hbA hS dL_law_20 ?_
    refine lv_iconst (v := 4) hx hb dL_law_21 (by decide) ?_
    refine lv_isub hx hb dL_law_22 ?_
    refine lv_icmp_gt (tgt := 700) hx hb dL_law_23 (by decide) (fun _ => ?_) (fun c9 => ?_)
    · refine lv_iconst (v := 1) hx hb dL_law_700 (by decide) ?_
      refine va_forget (fun q hq => hS.2.2 q hq) ?_
      refine W.widen (k := 600000) (n := 7302250) (Nat.le_of_ble_eq_true rfl) (Nat.le_of_ble_eq_true rfl) ?_
      exact lw_ret hx hb hr hlocks dL_law_701
    · have hi : 4 * j + 4 ≤ L0 := not_gt hL (by omega) c9
      have kk : ∀ (S1 : XS) (T1 : MS) (H1 : Heap) (locs1 : List Loc), RS (20 * j + 20) S1 T1 → va_P G.1 vwCl (wX G A S1 (rot S1) ++ wM G B T1) H1 → va_D (fun q : Nat => s.heap.size ≤ q) (wX G A S1 (rot S1) ++ wM G B T1) → va_S (fun q : Nat => s.heap.size ≤ q) s.heap H1 locs1 → W p l e room_1 s m #[Value.ref b] below meth c H1 locs1 57 1342 (lw_Z below #[Value.ref b] s) (F0 m 694 ls []) := fun S1 T1 H1 locs1 h hP hD hS => by
        refine lv_iinc (v := nI (4 * (j + 1))) (lv' := [(3, .int (nI (4 * (j + 1)))), (0, .ref b), (1, .ref (A 42)), (2, .ref (B 0))]) hx hb dL_law_694 hl (k := 3) rfl (step4 j) (by decide) rfl (fun ls hl => ?_)
        refine lv_goto (tgt := 18) hx hb dL_law_697 (by decide) ?_
        exact ih (j + 1) S1 T1 H1 locs1 (by omega) (by omega) (by rw [show 20 * (j + 1) = 20 * j + 20 by omega]; exact h) hP hD hS ls (lv_sub hl [1, 2, 3, 0] rfl)
      refine lv_aload_n hx hb dL_law_26 rfl (lv_at hl 0 rfl) ?_
      refine lv_iload_n hx hb dL_law_27 rfl (lv_at hl 3 rfl) ?_
      refine va_sld hx hb hX hbl hbA hS (vp_in_nI (show 4 * j < L0 by omega) (by omega)) dL_law_28 ?_
      refine lv_bipush (v := 31) hx hb dL_law_29 (by decide) ?_
      refine lv_iand hx hb dL_law_31 ?_
      generalize hop : (xs (nI (4 * j)).toNatClampNeg &&& 31 : Int32) = op
      by_cases hlo : op.toInt < 0 ∨ 21 < op.toInt
      · refine lv_tableOut (tgt := 694) hx hb dL_law_32 hlo (by decide) ?_
        exact kk S T H locs (h.mono (by omega)) hP hD hS
      · obtain ⟨k, hk, ek⟩ : ∃ k : Nat, k ≤ 21 ∧ op.toInt = k := ⟨op.toInt.toNat, by omega, by omega⟩
        have hN : 20 * j ≤ 800000 := by omega
        rcases (show k = 0 ∨ k = 1 ∨ k = 2 ∨ k = 3 ∨ k = 4 ∨ k = 5 ∨ k = 6 ∨ k = 7 ∨ k = 8 ∨ k = 9 ∨ k = 10 ∨ k = 11 ∨ k = 12 ∨ k = 13 ∨ k = 14 ∨ k = 15 ∨ k = 16 ∨ k = 17 ∨ k = 18 ∨ k = 19 ∨ k = 20 ∨ k = 21 by omega) with rfl | rfl | rfl | rfl | rfl | rfl | rfl | rfl | rfl | rfl | rfl | rfl | rfl | rfl | rfl | rfl | rfl | rfl | rfl | rfl | rfl | rfl
        · refine lv_tableIn (off := 104) (tgt := 136) hx hb dL_law_32 (by rw [ek]; decide) (by rw [ek]; decide) (by rw [ek]; rfl) (by decide) ?_
          exact law_lay C0 hL hN hi hK h hP hD hS hl kk
        · refine lv_tableIn (off := 147) (tgt := 179) hx hb dL_law_32 (by rw [ek]; decide) (by rw [ek]; decide) (by rw [ek]; rfl) (by decide) ?_
          exact law_layAll C0 hL hN hi hK h hP hD hS hl kk
        · refine lv_tableIn (off := 160) (tgt := 192) hx hb dL_law_32 (by rw [ek]; decide) (by rw [ek]; decide) (by rw [ek]; rfl) (by decide) ?_
          exact law_takeOff C0 hL hN hi hK h hP hD hS hl kk
        · refine lv_tableIn (off := 183) (tgt := 215) hx hb dL_law_32 (by rw [ek]; decide) (by rw [ek]; decide) (by rw [ek]; rfl) (by decide) ?_
          exact law_bend C0 hL hN hi hK h hP hD hS hl kk
        · refine lv_tableIn (off := 216) (tgt := 248) hx hb dL_law_32 (by rw [ek]; decide) (by rw [ek]; decide) (by rw [ek]; rfl) (by decide) ?_
          exact law_moveLead C0 hL hN hi hK h hP hD hS hl kk
        · refine lv_tableIn (off := 249) (tgt := 281) hx hb dL_law_32 (by rw [ek]; decide) (by rw [ek]; decide) (by rw [ek]; rfl) (by decide) ?_
          exact law_setWidth C0 hL hN hi hK h hP hD hS hl kk
        · refine lv_tableIn (off := 272) (tgt := 304) hx hb dL_law_32 (by rw [ek]; decide) (by rw [ek]; decide) (by rw [ek]; rfl) (by decide) ?_
          exact law_changeTool C0 hL hN hi hK h hP hD hS hl kk
        · refine lv_tableIn (off := 285) (tgt := 317) hx hb dL_law_32 (by rw [ek]; decide) (by rw [ek]; decide) (by rw [ek]; rfl) (by decide) ?_
          exact law_thread C0 hL hN hi hK h hP hD hS hl kk
        · refine lv_tableIn (off := 298) (tgt := 330) hx hb dL_law_32 (by rw [ek]; decide) (by rw [ek]; decide) (by rw [ek]; rfl) (by decide) ?_
          exact law_pull C0 hL hN hi hK h hP hD hS hl kk
        · refine lv_tableIn (off := 331) (tgt := 363) hx hb dL_law_32 (by rw [ek]; decide) (by rw [ek]; decide) (by rw [ek]; rfl) (by decide) ?_
          exact law_sample C0 hL hN hi hK h hP hD hS hl kk
        · refine lv_tableIn (off := 364) (tgt := 396) hx hb dL_law_32 (by rw [ek]; decide) (by rw [ek]; decide) (by rw [ek]; rfl) (by decide) ?_
          exact law_type C0 hL hN hi hK h hP hD hS hl kk
        · refine lv_tableIn (off := 389) (tgt := 421) hx hb dL_law_32 (by rw [ek]; decide) (by rw [ek]; decide) (by rw [ek]; rfl) (by decide) ?_
          exact law_clearText C0 hL hN hi hK h hP hD hS hl kk
        · refine lv_tableIn (off := 402) (tgt := 434) hx hb dL_law_32 (by rw [ek]; decide) (by rw [ek]; decide) (by rw [ek]; rfl) (by decide) ?_
          exact law_undo C0 hL hN hi hK h hP hD hS hl kk
        · refine lv_tableIn (off := 415) (tgt := 447) hx hb dL_law_32 (by rw [ek]; decide) (by rw [ek]; decide) (by rw [ek]; rfl) (by decide) ?_
          exact law_keep C0 hL hN hi hK h hP hD hS hl kk
        · refine lv_tableIn (off := 428) (tgt := 460) hx hb dL_law_32 (by rw [ek]; decide) (by rw [ek]; decide) (by rw [ek]; rfl) (by decide) ?_
          exact law_restore C0 hL hN hi hK h hP hD hS hl kk
        · refine lv_tableIn (off := 441) (tgt := 473) hx hb dL_law_32 (by rw [ek]; decide) (by rw [ek]; decide) (by rw [ek]; rfl) (by decide) ?_
          exact law_wire C0 hL hN hi hK h hP hD hS hl kk
        · refine lv_tableIn (off := 474) (tgt := 506) hx hb dL_law_32 (by rw [ek]; decide) (by rw [ek]; decide) (by rw [ek]; rfl) (by decide) ?_
          exact law_heightAt C0 hL hN hi hK h hP hD hS hl kk
        · refine lv_tableIn (off := 507) (tgt := 539) hx hb dL_law_32 (by rw [ek]; decide) (by rw [ek]; decide) (by rw [ek]; rfl) (by decide) ?_
          exact law_crossing C0 hL hN hi hK h hP hD hS hl kk
        · refine lv_tableIn (off := 550) (tgt := 582) hx hb dL_law_32 (by rw [ek]; decide) (by rw [ek]; decide) (by rw [ek]; rfl) (by decide) ?_
          exact law_lead C0 hL hN hi hK h hP hD hS hl kk
        · refine lv_tableIn (off := 583) (tgt := 615) hx hb dL_law_32 (by rw [ek]; decide) (by rw [ek]; decide) (by rw [ek]; rfl) (by decide) ?_
          exact law_bestHeight C0 hL hN hi hK h hP hD hS hl kk
        · refine lv_tableIn (off := 616) (tgt := 648) hx hb dL_law_32 (by rw [ek]; decide) (by rw [ek]; decide) (by rw [ek]; rfl) (by decide) ?_
          exact law_laysLeft C0 hL hN hi hK h hP hD hS hl kk
        · refine lv_tableIn (off := 639) (tgt := 671) hx hb dL_law_32 (by rw [ek]; decide) (by rw [ek]; decide) (by rw [ek]; rfl) (by decide) ?_
          exact law_count C0 hL hN hi hK h hP hD hS hl kk
