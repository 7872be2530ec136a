def f_X1_record_0_0_0 (S : XS) : XS := su (sc S 3 0) 7 0 (upd (S 7 0) 1 1)
theorem e_X1_record_0_0_0 (S : XS) : f_X1_record_0_0_0 S = su (sc S 3 0) 7 0 (upd (S 7 0) 1 1) := rfl
set_option maxHeartbeats 4000000 in
set_option maxRecDepth 100000 in
theorem c_X1_record_0_0_0 (l : Launch) (G : GG) (A : Nat → Nat) (S : XS)  (hq : S 7 0 1 = 0) (hbe : S 0 0 4 = 0 ∨ S 0 0 4 = 1) : Mz l yX1_record wsX1_record ({ frames := 2, cells := 0, slots := 0, locals := 47 } : Room) G [.ref (A 43), .ref (A (6 * 0))] (wX G A S 0) (wX G A (f_X1_record_0_0_0 S) 0) := by
  refine Mz.of (cc := cX1_record) (maxL := 3) (ret := none) (by decide) rfl (Nat.le_of_ble_eq_true rfl) ?_
  intro p e s m args below meth c A0 hA0 E hr hlocks hP hK hD hA hS ls hl
  have E : CallFix p m c cX1_record 3 s args wsX1_record RX1 := E
  have hx := E.1
  have hb := E.2.1
  have hml := E.2.2.1
  have hown := E.2.2.2.1
  have hts := E.2.2.2.2
  have hl : lv_has ls 3 [(0, .ref (A 43)), (1, .ref (A (6 * 0)))] := hl
  have hinX1 : ∀ w ∈ u_ws RX1 TX1 2, w ∈ wsX1_record := fun _ h => List.mem_cons_of_mem _ (List.mem_append_left _ (List.mem_append_right _ h))
  refine lv_aload_n hx hb dX1_record_0 rfl (lv_at hl 0 rfl) ?_
  refine va_get (D := G.1) (ci := 1) (v := .int (S 7 0 1)) (C := RX1) (T := TX1) (N := 2) hx hb hts hinX1 hown hK.1 hP 43 (wX_43 G A S 0) rfl 1 (by decide) (hts (.fieldLink RX1 18 "WireLoops$History" "states" "I") (List.mem_of_getElem? (i := 1) rfl)) (fun _ h9 => h9) rfl dX1_record_1 ?_
  refine W.eq (g2 := F0 m 4 ls [.int 0]) (by rw [hq] <;> rfl) ?_
  refine lv_iconst (v := 4) hx hb dX1_record_4 (by decide) ?_
  refine lv_icmp_lt (tgt := 12) hx hb dX1_record_5 (by decide) (fun c1 => ?_) (fun c1 => absurd (by decide) c1)
  refine lv_aload_n hx hb dX1_record_12 rfl (lv_at hl 0 rfl) ?_
  refine lv_aload_n hx hb dX1_record_13 rfl (lv_at hl 0 rfl) ?_
  refine va_get (D := G.1) (ci := 1) (v := .int (S 7 0 1)) (C := RX1) (T := TX1) (N := 2) hx hb hts hinX1 hown hK.1 hP 43 (wX_43 G A S 0) rfl 1 (by decide) (hts (.fieldLink RX1 18 "WireLoops$History" "states" "I") (List.mem_of_getElem? (i := 1) rfl)) (fun _ h9 => h9) rfl dX1_record_14 ?_
  refine W.eq (g2 := F0 m 17 ls [.int 0, .ref (A 43)]) (by rw [show (S 7 0 1) = (0 : Int32) from hq] <;> rfl) ?_
  refine crV (rest := []) (As := [.int 0]) E (c_X1_placeAt_0_0 l G A S) (cwV 1 hts gX1_record_X1_placeAt rfl rfl rfl (by decide +kernel) ⟨Nat.le_of_ble_eq_true rfl, Nat.le_of_ble_eq_true rfl⟩) hK hP 43 (wX_43 G A S 0) rfl rfl hl.1 rfl (Nat.le_of_ble_eq_true rfl) dX1_record_17 ⟨Nat.zero_le _, Nat.zero_le _⟩ ?_
  refine lv_astore_n (lv' := [(2, .ref (A (6 * 3))), (0, .ref (A 43)), (1, .ref (A (6 * 0)))]) hx hb dX1_record_20 rfl hl (by decide) rfl (fun ls hl => ?_)
  refine lv_aload_n hx hb dX1_record_21 rfl (lv_at hl 0 rfl) ?_
  refine lv_ifnull hx hb dX1_record_22 ?_
  refine lv_aload_n hx hb dX1_record_25 rfl (lv_at hl 0 rfl) ?_
  refine lv_aload_n hx hb dX1_record_26 rfl (lv_at hl 2 rfl) ?_
  refine czV (rest := []) (As := [.ref (A (6 * 0))]) E (c_X0_copyFrom_3_0 l G A S 0 hbe) (cwV 1 hts gX1_record_X0_copyFrom rfl rfl rfl (by decide +kernel) ⟨Nat.le_of_ble_eq_true rfl, Nat.le_of_ble_eq_true rfl⟩) hK hP hD hS hA (6 * 3) (wX_o G A S 0 3 (by decide)) rfl rfl hl.1 rfl (Nat.le_of_ble_eq_true rfl) dX1_record_27 ⟨Nat.zero_le _, Nat.zero_le _⟩ (fun H locs hP hD hS => ?_)
  refine lv_aload_n hx hb dX1_record_30 rfl (lv_at hl 1 rfl) ?_
  refine lv_dup hx hb dX1_record_31 rfl ?_
  refine va_get (D := G.1) (ci := 1) (v := .int (((f_X0_copyFrom_3_0 S) 7 0) 1)) (C := RX1) (T := TX1) (N := 2) hx hb hts hinX1 hown hK.1 hP 43 (wX_43 G A (f_X0_copyFrom_3_0 S) 0) rfl 1 (by decide) (hts (.fieldLink RX1 18 "WireLoops$History" "states" "I") (List.mem_of_getElem? (i := 1) rfl)) (fun _ h9 => h9) rfl dX1_record_32 ?_
  refine W.eq (g2 := F0 m 35 ls [.int 0, .ref (A 43)]) (by rw [show (((f_X0_copyFrom_3_0 S) 7 0) 1) = (0 : Int32) from hq] <;> rfl) ?_
  refine lv_iconst (v := 1) hx hb dX1_record_35 (by decide) ?_
  refine lv_iadd hx hb dX1_record_36 ?_
  refine W.eq (g2 := F0 m 37 ls [.int 1, .ref (A 43)]) (by rw [show (0 + 1) = (1 : Int32) from by decide] <;> rfl) ?_
  refine va_put (D := G.1) (ci := 1) (v := .int 1) (ty := .int) (C := RX1) (T := TX1) (N := 2) hx hb hts hinX1 tyX1 tyX1_ok nmX1 hown hK.1 hP hD hS 43 (wX_43 G A (f_X0_copyFrom_3_0 S) 0) rfl 1 (by decide) (hts (.fieldLink RX1 18 "WireLoops$History" "states" "I") (List.mem_of_getElem? (i := 1) rfl)) (fun _ h9 => h9) rfl (by decide +kernel) rfl rfl (Nat.le_of_ble_eq_true rfl) dX1_record_37 (fun H locs hP hD hS => ?_)
  rw [wX_s43 G A (f_X0_copyFrom_3_0 S) 0 _] at hP hD
  have hP : va_P G.1 vwCl (wX G A (su (f_X0_copyFrom_3_0 S) 7 0 (upd ((f_X0_copyFrom_3_0 S) 7 0) 1 1)) 0) H := hP
  have hD : va_D A0 (wX G A (su (f_X0_copyFrom_3_0 S) 7 0 (upd ((f_X0_copyFrom_3_0 S) 7 0) 1 1)) 0) := hD
  exact endZ hx hb hr hlocks hP hD hS rfl dX1_record_40
def f_X1_record_1_0_0 (S : XS) : XS := su (sc S 3 1) 7 0 (upd (S 7 0) 1 1)
theorem e_X1_record_1_0_0 (S : XS) : f_X1_record_1_0_0 S = su (sc S 3 1) 7 0 (upd (S 7 0) 1 1) := rfl
set_option maxHeartbeats 4000000 in
set_option maxRecDepth 100000 in
theorem c_X1_record_1_0_0 (l : Launch) (G : GG) (A : Nat → Nat) (S : XS)  (hq : S 7 0 1 = 0) (hbe : S 1 0 4 = 0 ∨ S 1 0 4 = 1) : Mz l yX1_record wsX1_record ({ frames := 2, cells := 0, slots := 0, locals := 47 } : Room) G [.ref (A 43), .ref (A (6 * 1))] (wX G A S 0) (wX G A (f_X1_record_1_0_0 S) 0) := by
  refine Mz.of (cc := cX1_record) (maxL := 3) (ret := none) (by decide) rfl (Nat.le_of_ble_eq_true rfl) ?_
  intro p e s m args below meth c A0 hA0 E hr hlocks hP hK hD hA hS ls hl
  have E : CallFix p m c cX1_record 3 s args wsX1_record RX1 := E
  have hx := E.1
  have hb := E.2.1
  have hml := E.2.2.1
  have hown := E.2.2.2.1
  have hts := E.2.2.2.2
  have hl : lv_has ls 3 [(0, .ref (A 43)), (1, .ref (A (6 * 1)))] := hl
  have hinX1 : ∀ w ∈ u_ws RX1 TX1 2, w ∈ wsX1_record := fun _ h => List.mem_cons_of_mem _ (List.mem_append_left _ (List.mem_append_right _ h))
  refine lv_aload_n hx hb dX1_record_0 rfl (lv_at hl 0 rfl) ?_
  refine va_get (D := G.1) (ci := 1) (v := .int (S 7 0 1)) (C := RX1) (T := TX1) (N := 2) hx hb hts hinX1 hown hK.1 hP 43 (wX_43 G A S 0) rfl 1 (by decide) (hts (.fieldLink RX1 18 "WireLoops$History" "states" "I") (List.mem_of_getElem? (i := 1) rfl)) (fun _ h9 => h9) rfl dX1_record_1 ?_
  refine W.eq (g2 := F0 m 4 ls [.int 0]) (by rw [hq] <;> rfl) ?_
  refine lv_iconst (v := 4) hx hb dX1_record_4 (by decide) ?_
  refine lv_icmp_lt (tgt := 12) hx hb dX1_record_5 (by decide) (fun c1 => ?_) (fun c1 => absurd (by decide) c1)
  refine lv_aload_n hx hb dX1_record_12 rfl (lv_at hl 0 rfl) ?_
  refine lv_aload_n hx hb dX1_record_13 rfl (lv_at hl 0 rfl) ?_
  refine va_get (D := G.1) (ci := 1) (v := .int (S 7 0 1)) (C := RX1) (T := TX1) (N := 2) hx hb hts hinX1 hown hK.1 hP 43 (wX_43 G A S 0) rfl 1 (by decide) (hts (.fieldLink RX1 18 "WireLoops$History" "states" "I") (List.mem_of_getElem? (i := 1) rfl)) (fun _ h9 => h9) rfl dX1_record_14 ?_
  refine W.eq (g2 := F0 m 17 ls [.int 0, .ref (A 43)]) (by rw [show (S 7 0 1) = (0 : Int32) from hq] <;> rfl) ?_
  refine crV (rest := []) (As := [.int 0]) E (c_X1_placeAt_0_0 l G A S) (cwV 1 hts gX1_record_X1_placeAt rfl rfl rfl (by decide +kernel) ⟨Nat.le_of_ble_eq_true rfl, Nat.le_of_ble_eq_true rfl⟩) hK hP 43 (wX_43 G A S 0) rfl rfl hl.1 rfl (Nat.le_of_ble_eq_true rfl) dX1_record_17 ⟨Nat.zero_le _, Nat.zero_le _⟩ ?_
  refine lv_astore_n (lv' := [(2, .ref (A (6 * 3))), (0, .ref (A 43)), (1, .ref (A (6 * 1)))]) hx hb dX1_record_20 rfl hl (by decide) rfl (fun ls hl => ?_)
  refine lv_aload_n hx hb dX1_record_21 rfl (lv_at hl 0 rfl) ?_
  refine lv_ifnull hx hb dX1_record_22 ?_
  refine lv_aload_n hx hb dX1_record_25 rfl (lv_at hl 0 rfl) ?_
  refine lv_aload_n hx hb dX1_record_26 rfl (lv_at hl 2 rfl) ?_
  refine czV (rest := []) (As := [.ref (A (6 * 1))]) E (c_X0_copyFrom_3_1 l G A S 0 hbe) (cwV 1 hts gX1_record_X0_copyFrom rfl rfl rfl (by decide +kernel) ⟨Nat.le_of_ble_eq_true rfl, Nat.le_of_ble_eq_true rfl⟩) hK hP hD hS hA (6 * 3) (wX_o G A S 0 3 (by decide)) rfl rfl hl.1 rfl (Nat.le_of_ble_eq_true rfl) dX1_record_27 ⟨Nat.zero_le _, Nat.zero_le _⟩ (fun H locs hP hD hS => ?_)
  refine lv_aload_n hx hb dX1_record_30 rfl (lv_at hl 1 rfl) ?_
  refine lv_dup hx hb dX1_record_31 rfl ?_
  refine va_get (D := G.1) (ci := 1) (v := .int (((f_X0_copyFrom_3_1 S) 7 0) 1)) (C := RX1) (T := TX1) (N := 2) hx hb hts hinX1 hown hK.1 hP 43 (wX_43 G A (f_X0_copyFrom_3_1 S) 0) rfl 1 (by decide) (hts (.fieldLink RX1 18 "WireLoops$History" "states" "I") (List.mem_of_getElem? (i := 1) rfl)) (fun _ h9 => h9) rfl dX1_record_32 ?_
  refine W.eq (g2 := F0 m 35 ls [.int 0, .ref (A 43)]) (by rw [show (((f_X0_copyFrom_3_1 S) 7 0) 1) = (0 : Int32) from hq] <;> rfl) ?_
  refine lv_iconst (v := 1) hx hb dX1_record_35 (by decide) ?_
  refine lv_iadd hx hb dX1_record_36 ?_
  refine W.eq (g2 := F0 m 37 ls [.int 1, .ref (A 43)]) (by rw [show (0 + 1) = (1 : Int32) from by decide] <;> rfl) ?_
  refine va_put (D := G.1) (ci := 1) (v := .int 1) (ty := .int) (C := RX1) (T := TX1) (N := 2) hx hb hts hinX1 tyX1 tyX1_ok nmX1 hown hK.1 hP hD hS 43 (wX_43 G A (f_X0_copyFrom_3_1 S) 0) rfl 1 (by decide) (hts (.fieldLink RX1 18 "WireLoops$History" "states" "I") (List.mem_of_getElem? (i := 1) rfl)) (fun _ h9 => h9) rfl (by decide +kernel) rfl rfl (Nat.le_of_ble_eq_true rfl) dX1_record_37 (fun H locs hP hD hS => ?_)
  rw [wX_s43 G A (f_X0_copyFrom_3_1 S) 0 _] at hP hD
  have hP : va_P G.1 vwCl (wX G A (su (f_X0_copyFrom_3_1 S) 7 0 (upd ((f_X0_copyFrom_3_1 S) 7 0) 1 1)) 0) H := hP
  have hD : va_D A0 (wX G A (su (f_X0_copyFrom_3_1 S) 7 0 (upd ((f_X0_copyFrom_3_1 S) 7 0) 1 1)) 0) := hD
  exact endZ hx hb hr hlocks hP hD hS rfl dX1_record_40
def f_X1_record_0_1_0 (S : XS) : XS := su (sc S 4 0) 7 0 (upd (S 7 0) 1 2)
theorem e_X1_record_0_1_0 (S : XS) : f_X1_record_0_1_0 S = su (sc S 4 0) 7 0 (upd (S 7 0) 1 2) := rfl
set_option maxHeartbeats 4000000 in
set_option maxRecDepth 100000 in
theorem c_X1_record_0_1_0 (l : Launch) (G : GG) (A : Nat → Nat) (S : XS)  (hq : S 7 0 1 = 1) (hbe : S 0 0 4 = 0 ∨ S 0 0 4 = 1) : Mz l yX1_record wsX1_record ({ frames := 2, cells := 0, slots := 0, locals := 47 } : Room) G [.ref (A 43), .ref (A (6 * 0))] (wX G A S 0) (wX G A (f_X1_record_0_1_0 S) 0) := by
  refine Mz.of (cc := cX1_record) (maxL := 3) (ret := none) (by decide) rfl (Nat.le_of_ble_eq_true rfl) ?_
  intro p e s m args below meth c A0 hA0 E hr hlocks hP hK hD hA hS ls hl
  have E : CallFix p m c cX1_record 3 s args wsX1_record RX1 := E
  have hx := E.1
  have hb := E.2.1
  have hml := E.2.2.1
  have hown := E.2.2.2.1
  have hts := E.2.2.2.2
  have hl : lv_has ls 3 [(0, .ref (A 43)), (1, .ref (A (6 * 0)))] := hl
  have hinX1 : ∀ w ∈ u_ws RX1 TX1 2, w ∈ wsX1_record := fun _ h => List.mem_cons_of_mem _ (List.mem_append_left _ (List.mem_append_right _ h))
  refine lv_aload_n hx hb dX1_record_0 rfl (lv_at hl 0 rfl) ?_
  refine va_get (D := G.1) (ci := 1) (v := .int (S 7 0 1)) (C := RX1) (T := TX1) (N := 2) hx hb hts hinX1 hown hK.1 hP 43 (wX_43 G A S 0) rfl 1 (by decide) (hts (.fieldLink RX1 18 "WireLoops$History" "states" "I") (List.mem_of_getElem? (i := 1) rfl)) (fun _ h9 => h9) rfl dX1_record_1 ?_
  refine W.eq (g2 := F0 m 4 ls [.int 1]) (by rw [hq] <;> rfl) ?_
  refine lv_iconst (v := 4) hx hb dX1_record_4 (by decide) ?_
  refine lv_icmp_lt (tgt := 12) hx hb dX1_record_5 (by decide) (fun c1 => ?_) (fun c1 => absurd (by decide) c1)
  refine lv_aload_n hx hb dX1_record_12 rfl (lv_at hl 0 rfl) ?_
  refine lv_aload_n hx hb dX1_record_13 rfl (lv_at hl 0 rfl) ?_
  refine va_get (D := G.1) (ci := 1) (v := .int (S 7 0 1)) (C := RX1) (T := TX1) (N := 2) hx hb hts hinX1 hown hK.1 hP 43 (wX_43 G A S 0) rfl 1 (by decide) (hts (.fieldLink RX1 18 "WireLoops$History" "states" "I") (List.mem_of_getElem? (i := 1) rfl)) (fun _ h9 => h9) rfl dX1_record_14 ?_
  refine W.eq (g2 := F0 m 17 ls [.int 1, .ref (A 43)]) (by rw [show (S 7 0 1) = (1 : Int32) from hq] <;> rfl) ?_
  refine crV (rest := []) (As := [.int 1]) E (c_X1_placeAt_1_0 l G A S) (cwV 1 hts gX1_record_X1_placeAt rfl rfl rfl (by decide +kernel) ⟨Nat.le_of_ble_eq_true rfl, Nat.le_of_ble_eq_true rfl⟩) hK hP 43 (wX_43 G A S 0) rfl rfl hl.1 rfl (Nat.le_of_ble_eq_true rfl) dX1_record_17 ⟨Nat.zero_le _, Nat.zero_le _⟩ ?_
  refine lv_astore_n (lv' := [(2, .ref (A (6 * 4))), (0, .ref (A 43)), (1, .ref (A (6 * 0)))]) hx hb dX1_record_20 rfl hl (by decide) rfl (fun ls hl => ?_)
  refine lv_aload_n hx hb dX1_record_21 rfl (lv_at hl 0 rfl) ?_
  refine lv_ifnull hx hb dX1_record_22 ?_
  refine lv_aload_n hx hb dX1_record_25 rfl (lv_at hl 0 rfl) ?_
  refine lv_aload_n hx hb dX1_record_26 rfl (lv_at hl 2 rfl) ?_
  refine czV (rest := []) (As := [.ref (A (6 * 0))]) E (c_X0_copyFrom_4_0 l G A S 0 hbe) (cwV 1 hts gX1_record_X0_copyFrom rfl rfl rfl (by decide +kernel) ⟨Nat.le_of_ble_eq_true rfl, Nat.le_of_ble_eq_true rfl⟩) hK hP hD hS hA (6 * 4) (wX_o G A S 0 4 (by decide)) rfl rfl hl.1 rfl (Nat.le_of_ble_eq_true rfl) dX1_record_27 ⟨Nat.zero_le _, Nat.zero_le _⟩ (fun H locs hP hD hS => ?_)
  refine lv_aload_n hx hb dX1_record_30 rfl (lv_at hl 1 rfl) ?_
  refine lv_dup hx hb dX1_record_31 rfl ?_
  refine va_get (D := G.1) (ci := 1) (v := .int (((f_X0_copyFrom_4_0 S) 7 0) 1)) (C := RX1) (T := TX1) (N := 2) hx hb hts hinX1 hown hK.1 hP 43 (wX_43 G A (f_X0_copyFrom_4_0 S) 0) rfl 1 (by decide) (hts (.fieldLink RX1 18 "WireLoops$History" "states" "I") (List.mem_of_getElem? (i := 1) rfl)) (fun _ h9 => h9) rfl dX1_record_32 ?_
  refine W.eq (g2 := F0 m 35 ls [.int 1, .ref (A 43)]) (by rw [show (((f_X0_copyFrom_4_0 S) 7 0) 1) = (1 : Int32) from hq] <;> rfl) ?_
  refine lv_iconst (v := 1) hx hb dX1_record_35 (by decide) ?_
  refine lv_iadd hx hb dX1_record_36 ?_
  refine W.eq (g2 := F0 m 37 ls [.int 2, .ref (A 43)]) (by rw [show (1 + 1) = (2 : Int32) from by decide] <;> rfl) ?_
  refine va_put (D := G.1) (ci := 1) (v := .int 2) (ty := .int) (C := RX1) (T := TX1) (N := 2) hx hb hts hinX1 tyX1 tyX1_ok nmX1 hown hK.1 hP hD hS 43 (wX_43 G A (f_X0_copyFrom_4_0 S) 0) rfl 1 (by decide) (hts (.fieldLink RX1 18 "WireLoops$History" "states" "I") (List.mem_of_getElem? (i := 1) rfl)) (fun _ h9 => h9) rfl (by decide +kernel) rfl rfl (Nat.le_of_ble_eq_true rfl) dX1_record_37 (fun H locs hP hD hS => ?_)
  rw [wX_s43 G A (f_X0_copyFrom_4_0 S) 0 _] at hP hD
  have hP : va_P G.1 vwCl (wX G A (su (f_X0_copyFrom_4_0 S) 7 0 (upd ((f_X0_copyFrom_4_0 S) 7 0) 1 2)) 0) H := hP
  have hD : va_D A0 (wX G A (su (f_X0_copyFrom_4_0 S) 7 0 (upd ((f_X0_copyFrom_4_0 S) 7 0) 1 2)) 0) := hD
  exact endZ hx hb hr hlocks hP hD hS rfl dX1_record_40
def f_X1_record_1_1_0 (S : XS) : XS := su (sc S 4 1) 7 0 (upd (S 7 0) 1 2)
theorem e_X1_record_1_1_0 (S : XS) : f_X1_record_1_1_0 S = su (sc S 4 1) 7 0 (upd (S 7 0) 1 2) := rfl
set_option maxHeartbeats 4000000 in
set_option maxRecDepth 100000 in
theorem c_X1_record_1_1_0 (l : Launch) (G : GG) (A : Nat → Nat) (S : XS)  (hq : S 7 0 1 = 1) (hbe : S 1 0 4 = 0 ∨ S 1 0 4 = 1) : Mz l yX1_record wsX1_record ({ frames := 2, cells := 0, slots := 0, locals := 47 } : Room) G [.ref (A 43), .ref (A (6 * 1))] (wX G A S 0) (wX G A (f_X1_record_1_1_0 S) 0) := by
  refine Mz.of (cc := cX1_record) (maxL := 3) (ret := none) (by decide) rfl (Nat.le_of_ble_eq_true rfl) ?_
  intro p e s m args below meth c A0 hA0 E hr hlocks hP hK hD hA hS ls hl
  have E : CallFix p m c cX1_record 3 s args wsX1_record RX1 := E
  have hx := E.1
  have hb := E.2.1
  have hml := E.2.2.1
  have hown := E.2.2.2.1
  have hts := E.2.2.2.2
  have hl : lv_has ls 3 [(0, .ref (A 43)), (1, .ref (A (6 * 1)))] := hl
  have hinX1 : ∀ w ∈ u_ws RX1 TX1 2, w ∈ wsX1_record := fun _ h => List.mem_cons_of_mem _ (List.mem_append_left _ (List.mem_append_right _ h))
  refine lv_aload_n hx hb dX1_record_0 rfl (lv_at hl 0 rfl) ?_
  refine va_get (D := G.1) (ci := 1) (v := .int (S 7 0 1)) (C := RX1) (T := TX1) (N := 2) hx hb hts hinX1 hown hK.1 hP 43 (wX_43 G A S 0) rfl 1 (by decide) (hts (.fieldLink RX1 18 "WireLoops$History" "states" "I") (List.mem_of_getElem? (i := 1) rfl)) (fun _ h9 => h9) rfl dX1_record_1 ?_
  refine W.eq (g2 := F0 m 4 ls [.int 1]) (by rw [hq] <;> rfl) ?_
  refine lv_iconst (v := 4) hx hb dX1_record_4 (by decide) ?_
  refine lv_icmp_lt (tgt := 12) hx hb dX1_record_5 (by decide) (fun c1 => ?_) (fun c1 => absurd (by decide) c1)
  refine lv_aload_n hx hb dX1_record_12 rfl (lv_at hl 0 rfl) ?_
  refine lv_aload_n hx hb dX1_record_13 rfl (lv_at hl 0 rfl) ?_
  refine va_get (D := G.1) (ci := 1) (v := .int (S 7 0 1)) (C := RX1) (T := TX1) (N := 2) hx hb hts hinX1 hown hK.1 hP 43 (wX_43 G A S 0) rfl 1 (by decide) (hts (.fieldLink RX1 18 "WireLoops$History" "states" "I") (List.mem_of_getElem? (i := 1) rfl)) (fun _ h9 => h9) rfl dX1_record_14 ?_
  refine W.eq (g2 := F0 m 17 ls [.int 1, .ref (A 43)]) (by rw [show (S 7 0 1) = (1 : Int32) from hq] <;> rfl) ?_
  refine crV (rest := []) (As := [.int 1]) E (c_X1_placeAt_1_0 l G A S) (cwV 1 hts gX1_record_X1_placeAt rfl rfl rfl (by decide +kernel) ⟨Nat.le_of_ble_eq_true rfl, Nat.le_of_ble_eq_true rfl⟩) hK hP 43 (wX_43 G A S 0) rfl rfl hl.1 rfl (Nat.le_of_ble_eq_true rfl) dX1_record_17 ⟨Nat.zero_le _, Nat.zero_le _⟩ ?_
  refine lv_astore_n (lv' := [(2, .ref (A (6 * 4))), (0, .ref (A 43)), (1, .ref (A (6 * 1)))]) hx hb dX1_record_20 rfl hl (by decide) rfl (fun ls hl => ?_)
  refine lv_aload_n hx hb dX1_record_21 rfl (lv_at hl 0 rfl) ?_
  refine lv_ifnull hx hb dX1_record_22 ?_
  refine lv_aload_n hx hb dX1_record_25 rfl (lv_at hl 0 rfl) ?_
  refine lv_aload_n hx hb dX1_record_26 rfl (lv_at hl 2 rfl) ?_
  refine czV (rest := []) (As := [.ref (A (6 * 1))]) E (c_X0_copyFrom_4_1 l G A S 0 hbe) (cwV 1 hts gX1_record_X0_copyFrom rfl rfl rfl (by decide +kernel) ⟨Nat.le_of_ble_eq_true rfl, Nat.le_of_ble_eq_true rfl⟩) hK hP hD hS hA (6 * 4) (wX_o G A S 0 4 (by decide)) rfl rfl hl.1 rfl (Nat.le_of_ble_eq_true rfl) dX1_record_27 ⟨Nat.zero_le _, Nat.zero_le _⟩ (fun H locs hP hD hS => ?_)
  refine lv_aload_n hx hb dX1_record_30 rfl (lv_at hl 1 rfl) ?_
  refine lv_dup hx hb dX1_record_31 rfl ?_
  refine va_get (D := G.1) (ci := 1) (v := .int (((f_X0_copyFrom_4_1 S) 7 0) 1)) (C := RX1) (T := TX1) (N := 2) hx hb hts hinX1 hown hK.1 hP 43 (wX_43 G A (f_X0_copyFrom_4_1 S) 0) rfl 1 (by decide) (hts (.fieldLink RX1 18 "WireLoops$History" "states" "I") (List.mem_of_getElem? (i := 1) rfl)) (fun _ h9 => h9) rfl dX1_record_32 ?_
  refine W.eq (g2 := F0 m 35 ls [.int 1, .ref (A 43)]) (by rw [show (((f_X0_copyFrom_4_1 S) 7 0) 1) = (1 : Int32) from hq] <;> rfl) ?_
  refine lv_iconst (v := 1) hx hb dX1_record_35 (by decide) ?_
  refine lv_iadd hx hb dX1_record_36 ?_
  refine W.eq (g2 := F0 m 37 ls [.int 2, .ref (A 43)]) (by rw [show (1 + 1) = (2 : Int32) from by decide] <;> rfl) ?_
  refine va_put (D := G.1) (ci := 1) (v := .int 2) (ty := .int) (C := RX1) (T := TX1) (N := 2) hx hb hts hinX1 tyX1 tyX1_ok nmX1 hown hK.1 hP hD hS 43 (wX_43 G A (f_X0_copyFrom_4_1 S) 0) rfl 1 (by decide) (hts (.fieldLink RX1 18 "WireLoops$History" "states" "I") (List.mem_of_getElem? (i := 1) rfl)) (fun _ h9 => h9) rfl (by decide +kernel) rfl rfl (Nat.le_of_ble_eq_true rfl) dX1_record_37 (fun H locs hP hD hS => ?_)
  rw [wX_s43 G A (f_X0_copyFrom_4_1 S) 0 _] at hP hD
  have hP : va_P G.1 vwCl (wX G A (su (f_X0_copyFrom_4_1 S) 7 0 (upd ((f_X0_copyFrom_4_1 S) 7 0) 1 2)) 0) H := hP
  have hD : va_D A0 (wX G A (su (f_X0_copyFrom_4_1 S) 7 0 (upd ((f_X0_copyFrom_4_1 S) 7 0) 1 2)) 0) := hD
  exact endZ hx hb hr hlocks hP hD hS rfl dX1_record_40
def f_X1_record_0_2_0 (S : XS) : XS := su (sc S 5 0) 7 0 (upd (S 7 0) 1 3)
theorem e_X1_record_0_2_0 (S : XS) : f_X1_record_0_2_0 S = su (sc S 5 0) 7 0 (upd (S 7 0) 1 3) := rfl
set_option maxHeartbeats 4000000 in
set_option maxRecDepth 100000 in
theorem c_X1_record_0_2_0 (l : Launch) (G : GG) (A : Nat → Nat) (S : XS)  (hq : S 7 0 1 = 2) (hbe : S 0 0 4 = 0 ∨ S 0 0 4 = 1) : Mz l yX1_record wsX1_record ({ frames := 2, cells := 0, slots := 0, locals := 47 } : Room) G [.ref (A 43), .ref (A (6 * 0))] (wX G A S 0) (wX G A (f_X1_record_0_2_0 S) 0) := by
  refine Mz.of (cc := cX1_record) (maxL := 3) (ret := none) (by decide) rfl (Nat.le_of_ble_eq_true rfl) ?_
  intro p e s m args below meth c A0 hA0 E hr hlocks hP hK hD hA hS ls hl
  have E : CallFix p m c cX1_record 3 s args wsX1_record RX1 := E
  have hx := E.1
  have hb := E.2.1
  have hml := E.2.2.1
  have hown := E.2.2.2.1
  have hts := E.2.2.2.2
  have hl : lv_has ls 3 [(0, .ref (A 43)), (1, .ref (A (6 * 0)))] := hl
  have hinX1 : ∀ w ∈ u_ws RX1 TX1 2, w ∈ wsX1_record := fun _ h => List.mem_cons_of_mem _ (List.mem_append_left _ (List.mem_append_right _ h))
  refine lv_aload_n hx hb dX1_record_0 rfl (lv_at hl 0 rfl) ?_
  refine va_get (D := G.1) (ci := 1) (v := .int (S 7 0 1)) (C := RX1) (T := TX1) (N := 2) hx hb hts hinX1 hown hK.1 hP 43 (wX_43 G A S 0) rfl 1 (by decide) (hts (.fieldLink RX1 18 "WireLoops$History" "states" "I") (List.mem_of_getElem? (i := 1) rfl)) (fun _ h9 => h9) rfl dX1_record_1 ?_
  refine W.eq (g2 := F0 m 4 ls [.int 2]) (by rw [hq] <;> rfl) ?_
  refine lv_iconst (v := 4) hx hb dX1_record_4 (by decide) ?_
  refine lv_icmp_lt (tgt := 12) hx hb dX1_record_5 (by decide) (fun c1 => ?_) (fun c1 => absurd (by decide) c1)
  refine lv_aload_n hx hb dX1_record_12 rfl (lv_at hl 0 rfl) ?_
  refine lv_aload_n hx hb dX1_record_13 rfl (lv_at hl 0 rfl) ?_
  refine va_get (D := G.1) (ci := 1) (v := .int (S 7 0 1)) (C := RX1) (T := TX1) (N := 2) hx hb hts hinX1 hown hK.1 hP 43 (wX_43 G A S 0) rfl 1 (by decide) (hts (.fieldLink RX1 18 "WireLoops$History" "states" "I") (List.mem_of_getElem? (i := 1) rfl)) (fun _ h9 => h9) rfl dX1_record_14 ?_
  refine W.eq (g2 := F0 m 17 ls [.int 2, .ref (A 43)]) (by rw [show (S 7 0 1) = (2 : Int32) from hq] <;> rfl) ?_
  refine crV (rest := []) (As := [.int 2]) E (c_X1_placeAt_2_0 l G A S) (cwV 1 hts gX1_record_X1_placeAt rfl rfl rfl (by decide +kernel) ⟨Nat.le_of_ble_eq_true rfl, Nat.le_of_ble_eq_true rfl⟩) hK hP 43 (wX_43 G A S 0) rfl rfl hl.1 rfl (Nat.le_of_ble_eq_true rfl) dX1_record_17 ⟨Nat.zero_le _, Nat.zero_le _⟩ ?_
  refine lv_astore_n (lv' := [(2, .ref (A (6 * 5))), (0, .ref (A 43)), (1, .ref (A (6 * 0)))]) hx hb dX1_record_20 rfl hl (by decide) rfl (fun ls hl => ?_)
  refine lv_aload_n hx hb dX1_record_21 rfl (lv_at hl 0 rfl) ?_
  refine lv_ifnull hx hb dX1_record_22 ?_
  refine lv_aload_n hx hb dX1_record_25 rfl (lv_at hl 0 rfl) ?_
  refine lv_aload_n hx hb dX1_record_26 rfl (lv_at hl 2 rfl) ?_
  refine czV (rest := []) (As := [.ref (A (6 * 0))]) E (c_X0_copyFrom_5_0 l G A S 0 hbe) (cwV 1 hts gX1_record_X0_copyFrom rfl rfl rfl (by decide +kernel) ⟨Nat.le_of_ble_eq_true rfl, Nat.le_of_ble_eq_true rfl⟩) hK hP hD hS hA (6 * 5) (wX_o G A S 0 5 (by decide)) rfl rfl hl.1 rfl (Nat.le_of_ble_eq_true rfl) dX1_record_27 ⟨Nat.zero_le _, Nat.zero_le _⟩ (fun H locs hP hD hS => ?_)
  refine lv_aload_n hx hb dX1_record_30 rfl (lv_at hl 1 rfl) ?_
  refine lv_dup hx hb dX1_record_31 rfl ?_
  refine va_get (D := G.1) (ci := 1) (v := .int (((f_X0_copyFrom_5_0 S) 7 0) 1)) (C := RX1) (T := TX1) (N := 2) hx hb hts hinX1 hown hK.1 hP 43 (wX_43 G A (f_X0_copyFrom_5_0 S) 0) rfl 1 (by decide) (hts (.fieldLink RX1 18 "WireLoops$History" "states" "I") (List.mem_of_getElem? (i := 1) rfl)) (fun _ h9 => h9) rfl dX1_record_32 ?_
  refine W.eq (g2 := F0 m 35 ls [.int 2, .ref (A 43)]) (by rw [show (((f_X0_copyFrom_5_0 S) 7 0) 1) = (2 : Int32) from hq] <;> rfl) ?_
  refine lv_iconst (v := 1) hx hb dX1_record_35 (by decide) ?_
  refine lv_iadd hx hb dX1_record_36 ?_
  refine W.eq (g2 := F0 m 37 ls [.int 3, .ref (A 43)]) (by rw [show (2 + 1) = (3 : Int32) from by decide] <;> rfl) ?_
  refine va_put (D := G.1) (ci := 1) (v := .int 3) (ty := .int) (C := RX1) (T := TX1) (N := 2) hx hb hts hinX1 tyX1 tyX1_ok nmX1 hown hK.1 hP hD hS 43 (wX_43 G A (f_X0_copyFrom_5_0 S) 0) rfl 1 (by decide) (hts (.fieldLink RX1 18 "WireLoops$History" "states" "I") (List.mem_of_getElem? (i := 1) rfl)) (fun _ h9 => h9) rfl (by decide +kernel) rfl rfl (Nat.le_of_ble_eq_true rfl) dX1_record_37 (fun H locs hP hD hS => ?_)
  rw [wX_s43 G A (f_X0_copyFrom_5_0 S) 0 _] at hP hD
  have hP : va_P G.1 vwCl (wX G A (su (f_X0_copyFrom_5_0 S) 7 0 (upd ((f_X0_copyFrom_5_0 S) 7 0) 1 3)) 0) H := hP
  have hD : va_D A0 (wX G A (su (f_X0_copyFrom_5_0 S) 7 0 (upd ((f_X0_copyFrom_5_0 S) 7 0) 1 3)) 0) := hD
  exact endZ hx hb hr hlocks hP hD hS rfl dX1_record_40
def f_X1_record_1_2_0 (S : XS) : XS := su (sc S 5 1) 7 0 (upd (S 7 0) 1 3)
theorem e_X1_record_1_2_0 (S : XS) : f_X1_record_1_2_0 S = su (sc S 5 1) 7 0 (upd (S 7 0) 1 3) := rfl
set_option maxHeartbeats 4000000 in
set_option maxRecDepth 100000 in
theorem c_X1_record_1_2_0 (l : Launch) (G : GG) (A : Nat → Nat) (S : XS)  (hq : S 7 0 1 = 2) (hbe : S 1 0 4 = 0 ∨ S 1 0 4 = 1) : Mz l yX1_record wsX1_record ({ frames := 2, cells := 0, slots := 0, locals := 47 } : Room) G [.ref (A 43), .ref (A (6 * 1))] (wX G A S 0) (wX G A (f_X1_record_1_2_0 S) 0) := by
  refine Mz.of (cc := cX1_record) (maxL := 3) (ret := none) (by decide) rfl (Nat.le_of_ble_eq_true rfl) ?_
  intro p e s m args below meth c A0 hA0 E hr hlocks hP hK hD hA hS ls hl
  have E : CallFix p m c cX1_record 3 s args wsX1_record RX1 := E
  have hx := E.1
  have hb := E.2.1
  have hml := E.2.2.1
  have hown := E.2.2.2.1
  have hts := E.2.2.2.2
  have hl : lv_has ls 3 [(0, .ref (A 43)), (1, .ref (A (6 * 1)))] := hl
  have hinX1 : ∀ w ∈ u_ws RX1 TX1 2, w ∈ wsX1_record := fun _ h => List.mem_cons_of_mem _ (List.mem_append_left _ (List.mem_append_right _ h))
  refine lv_aload_n hx hb dX1_record_0 rfl (lv_at hl 0 rfl) ?_
  refine va_get (D := G.1) (ci := 1) (v := .int (S 7 0 1)) (C := RX1) (T := TX1) (N := 2) hx hb hts hinX1 hown hK.1 hP 43 (wX_43 G A S 0) rfl 1 (by decide) (hts (.fieldLink RX1 18 "WireLoops$History" "states" "I") (List.mem_of_getElem? (i := 1) rfl)) (fun _ h9 => h9) rfl dX1_record_1 ?_
  refine W.eq (g2 := F0 m 4 ls [.int 2]) (by rw [hq] <;> rfl) ?_
  refine lv_iconst (v := 4) hx hb dX1_record_4 (by decide) ?_
  refine lv_icmp_lt (tgt := 12) hx hb dX1_record_5 (by decide) (fun c1 => ?_) (fun c1 => absurd (by decide) c1)
  refine lv_aload_n hx hb dX1_record_12 rfl (lv_at hl 0 rfl) ?_
  refine lv_aload_n hx hb dX1_record_13 rfl (lv_at hl 0 rfl) ?_
  refine va_get (D := G.1) (ci := 1) (v := .int (S 7 0 1)) (C := RX1) (T := TX1) (N := 2) hx hb hts hinX1 hown hK.1 hP 43 (wX_43 G A S 0) rfl 1 (by decide) (hts (.fieldLink RX1 18 "WireLoops$History" "states" "I") (List.mem_of_getElem? (i := 1) rfl)) (fun _ h9 => h9) rfl dX1_record_14 ?_
  refine W.eq (g2 := F0 m 17 ls [.int 2, .ref (A 43)]) (by rw [show (S 7 0 1) = (2 : Int32) from hq] <;> rfl) ?_
  refine crV (rest := []) (As := [.int 2]) E (c_X1_placeAt_2_0 l G A S) (cwV 1 hts gX1_record_X1_placeAt rfl rfl rfl (by decide +kernel) ⟨Nat.le_of_ble_eq_true rfl, Nat.le_of_ble_eq_true rfl⟩) hK hP 43 (wX_43 G A S 0) rfl rfl hl.1 rfl (Nat.le_of_ble_eq_true rfl) dX1_record_17 ⟨Nat.zero_le _, Nat.zero_le _⟩ ?_
  refine lv_astore_n (lv' := [(2, .ref (A (6 * 5))), (0, .ref (A 43)), (1, .ref (A (6 * 1)))]) hx hb dX1_record_20 rfl hl (by decide) rfl (fun ls hl => ?_)
  refine lv_aload_n hx hb dX1_record_21 rfl (lv_at hl 0 rfl) ?_
  refine lv_ifnull hx hb dX1_record_22 ?_
  refine lv_aload_n hx hb dX1_record_25 rfl (lv_at hl 0 rfl) ?_
  refine lv_aload_n hx hb dX1_record_26 rfl (lv_at hl 2 rfl) ?_
  refine czV (rest := []) (As := [.ref (A (6 * 1))]) E (c_X0_copyFrom_5_1 l G A S 0 hbe) (cwV 1 hts gX1_record_X0_copyFrom rfl rfl rfl (by decide +kernel) ⟨Nat.le_of_ble_eq_true rfl, Nat.le_of_ble_eq_true rfl⟩) hK hP hD hS hA (6 * 5) (wX_o G A S 0 5 (by decide)) rfl rfl hl.1 rfl (Nat.le_of_ble_eq_true rfl) dX1_record_27 ⟨Nat.zero_le _, Nat.zero_le _⟩ (fun H locs hP hD hS => ?_)
  refine lv_aload_n hx hb dX1_record_30 rfl (lv_at hl 1 rfl) ?_
  refine lv_dup hx hb dX1_record_31 rfl ?_
  refine va_get (D := G.1) (ci := 1) (v := .int (((f_X0_copyFrom_5_1 S) 7 0) 1)) (C := RX1) (T := TX1) (N := 2) hx hb hts hinX1 hown hK.1 hP 43 (wX_43 G A (f_X0_copyFrom_5_1 S) 0) rfl 1 (by decide) (hts (.fieldLink RX1 18 "WireLoops$History" "states" "I") (List.mem_of_getElem? (i := 1) rfl)) (fun _ h9 => h9) rfl dX1_record_32 ?_
  refine W.eq (g2 := F0 m 35 ls [.int 2, .ref (A 43)]) (by rw [show (((f_X0_copyFrom_5_1 S) 7 0) 1) = (2 : Int32) from hq] <;> rfl) ?_
  refine lv_iconst (v := 1) hx hb dX1_record_35 (by decide) ?_
  refine lv_iadd hx hb dX1_record_36 ?_
  refine W.eq (g2 := F0 m 37 ls [.int 3, .ref (A 43)]) (by rw [show (2 + 1) = (3 : Int32) from by decide] <;> rfl) ?_
  refine va_put (D := G.1) (ci := 1) (v := .int 3) (ty := .int) (C := RX1) (T := TX1) (N := 2) hx hb hts hinX1 tyX1 tyX1_ok nmX1 hown hK.1 hP hD hS 43 (wX_43 G A (f_X0_copyFrom_5_1 S) 0) rfl 1 (by decide) (hts (.fieldLink RX1 18 "WireLoops$History" "states" "I") (List.mem_of_getElem? (i := 1) rfl)) (fun _ h9 => h9) rfl (by decide +kernel) rfl rfl (Nat.le_of_ble_eq_true rfl) dX1_record_37 (fun H locs hP hD hS => ?_)
  rw [wX_s43 G A (f_X0_copyFrom_5_1 S) 0 _] at hP hD
  have hP : va_P G.1 vwCl (wX G A (su (f_X0_copyFrom_5_1 S) 7 0 (upd ((f_X0_copyFrom_5_1 S) 7 0) 1 3)) 0) H := hP
  have hD : va_D A0 (wX G A (su (f_X0_copyFrom_5_1 S) 7 0 (upd ((f_X0_copyFrom_5_1 S) 7 0) 1 3)) 0) := hD
  exact endZ hx hb hr hlocks hP hD hS rfl dX1_record_40
def f_X1_record_0_3_0 (S : XS) : XS := su (sc S 6 0) 7 0 (upd (S 7 0) 1 4)
theorem e_X1_record_0_3_0 (S : XS) : f_X1_record_0_3_0 S = su (sc S 6 0) 7 0 (upd (S 7 0) 1 4) := rfl
set_option maxHeartbeats 4000000 in
set_option maxRecDepth 100000 in
theorem c_X1_record_0_3_0 (l : Launch) (G : GG) (A : Nat → Nat) (S : XS)  (hq : S 7 0 1 = 3) (hbe : S 0 0 4 = 0 ∨ S 0 0 4 = 1) : Mz l yX1_record wsX1_record ({ frames := 2, cells := 0, slots := 0, locals := 47 } : Room) G [.ref (A 43), .ref (A (6 * 0))] (wX G A S 0) (wX G A (f_X1_record_0_3_0 S) 0) := by
  refine Mz.of (cc := cX1_record) (maxL := 3) (ret := none) (by decide) rfl (Nat.le_of_ble_eq_true rfl) ?_
  intro p e s m args below meth c A0 hA0 E hr hlocks hP hK hD hA hS ls hl
  have E : CallFix p m c cX1_record 3 s args wsX1_record RX1 := E
  have hx := E.1
  have hb := E.2.1
  have hml := E.2.2.1
  have hown := E.2.2.2.1
  have hts := E.2.2.2.2
  have hl : lv_has ls 3 [(0, .ref (A 43)), (1, .ref (A (6 * 0)))] := hl
  have hinX1 : ∀ w ∈ u_ws RX1 TX1 2, w ∈ wsX1_record := fun _ h => List.mem_cons_of_mem _ (List.mem_append_left _ (List.mem_append_right _ h))
  refine lv_aload_n hx hb dX1_record_0 rfl (lv_at hl 0 rfl) ?_
  refine va_get (D := G.1) (ci := 1) (v := .int (S 7 0 1)) (C := RX1) (T := TX1) (N := 2) hx hb hts hinX1 hown hK.1 hP 43 (wX_43 G A S 0) rfl 1 (by decide) (hts (.fieldLink RX1 18 "WireLoops$History" "states" "I") (List.mem_of_getElem? (i := 1) rfl)) (fun _ h9 => h9) rfl dX1_record_1 ?_
  refine W.eq (g2 := F0 m 4 ls [.int 3]) (by rw [hq] <;> rfl) ?_
  refine lv_iconst (v := 4) hx hb dX1_record_4 (by decide) ?_
  refine lv_icmp_lt (tgt := 12) hx hb dX1_record_5 (by decide) (fun c1 => ?_) (fun c1 => absurd (by decide) c1)
  refine lv_aload_n hx hb dX1_record_12 rfl (lv_at hl 0 rfl) ?_
  refine lv_aload_n hx hb dX1_record_13 rfl (lv_at hl 0 rfl) ?_
  refine va_get (D := G.1) (ci := 1) (v := .int (S 7 0 1)) (C := RX1) (T := TX1) (N := 2) hx hb hts hinX1 hown hK.1 hP 43 (wX_43 G A S 0) rfl 1 (by decide) (hts (.fieldLink RX1 18 "WireLoops$History" "states" "I") (List.mem_of_getElem? (i := 1) rfl)) (fun _ h9 => h9) rfl dX1_record_14 ?_
  refine W.eq (g2 := F0 m 17 ls [.int 3, .ref (A 43)]) (by rw [show (S 7 0 1) = (3 : Int32) from hq] <;> rfl) ?_
  refine crV (rest := []) (As := [.int 3]) E (c_X1_placeAt_3_0 l G A S) (cwV 1 hts gX1_record_X1_placeAt rfl rfl rfl (by decide +kernel) ⟨Nat.le_of_ble_eq_true rfl, Nat.le_of_ble_eq_true rfl⟩) hK hP 43 (wX_43 G A S 0) rfl rfl hl.1 rfl (Nat.le_of_ble_eq_true rfl) dX1_record_17 ⟨Nat.zero_le _, Nat.zero_le _⟩ ?_
  refine lv_astore_n (lv' := [(2, .ref (A (6 * 6))), (0, .ref (A 43)), (1, .ref (A (6 * 0)))]) hx hb dX1_record_20 rfl hl (by decide) rfl (fun ls hl => ?_)
  refine lv_aload_n hx hb dX1_record_21 rfl (lv_at hl 0 rfl) ?_
  refine lv_ifnull hx hb dX1_record_22 ?_
  refine lv_aload_n hx hb dX1_record_25 rfl (lv_at hl 0 rfl) ?_
  refine lv_aload_n hx hb dX1_record_26 rfl (lv_at hl 2 rfl) ?_
  refine czV (rest := []) (As := [.ref (A (6 * 0))]) E (c_X0_copyFrom_6_0 l G A S 0 hbe) (cwV 1 hts gX1_record_X0_copyFrom rfl rfl rfl (by decide +kernel) ⟨Nat.le_of_ble_eq_true rfl, Nat.le_of_ble_eq_true rfl⟩) hK hP hD hS hA (6 * 6) (wX_o G A S 0 6 (by decide)) rfl rfl hl.1 rfl (Nat.le_of_ble_eq_true rfl) dX1_record_27 ⟨Nat.zero_le _, Nat.zero_le _⟩ (fun H locs hP hD hS => ?_)
  refine lv_aload_n hx hb dX1_record_30 rfl (lv_at hl 1 rfl) ?_
  refine lv_dup hx hb dX1_record_31 rfl ?_
  refine va_get (D := G.1) (ci := 1) (v := .int (((f_X0_copyFrom_6_0 S) 7 0) 1)) (C := RX1) (T := TX1) (N := 2) hx hb hts hinX1 hown hK.1 hP 43 (wX_43 G A (f_X0_copyFrom_6_0 S) 0) rfl 1 (by decide) (hts (.fieldLink RX1 18 "WireLoops$History" "states" "I") (List.mem_of_getElem? (i := 1) rfl)) (fun _ h9 => h9) rfl dX1_record_32 ?_
  refine W.eq (g2 := F0 m 35 ls [.int 3, .ref (A 43)]) (by rw [show (((f_X0_copyFrom_6_0 S) 7 0) 1) = (3 : Int32) from hq] <;> rfl) ?_
  refine lv_iconst (v := 1) hx hb dX1_record_35 (by decide) ?_
  refine lv_iadd hx hb dX1_record_36 ?_
  refine W.eq (g2 := F0 m 37 ls [.int 4, .ref (A 43)]) (by rw [show (3 + 1) = (4 : Int32) from by decide] <;> rfl) ?_
  refine va_put (D := G.1) (ci := 1) (v := .int 4) (ty := .int) (C := RX1) (T := TX1) (N := 2) hx hb hts hinX1 tyX1 tyX1_ok nmX1 hown hK.1 hP hD hS 43 (wX_43 G A (f_X0_copyFrom_6_0 S) 0) rfl 1 (by decide) (hts (.fieldLink RX1 18 "WireLoops$History" "states" "I") (List.mem_of_getElem? (i := 1) rfl)) (fun _ h9 => h9) rfl (by decide +kernel) rfl rfl (Nat.le_of_ble_eq_true rfl) dX1_record_37 (fun H locs hP hD hS => ?_)
  rw [wX_s43 G A (f_X0_copyFrom_6_0 S) 0 _] at hP hD
  have hP : va_P G.1 vwCl (wX G A (su (f_X0_copyFrom_6_0 S) 7 0 (upd ((f_X0_copyFrom_6_0 S) 7 0) 1 4)) 0) H := hP
  have hD : va_D A0 (wX G A (su (f_X0_copyFrom_6_0 S) 7 0 (upd ((f_X0_copyFrom_6_0 S) 7 0) 1 4)) 0) := hD
  exact endZ hx hb hr hlocks hP hD hS rfl dX1_record_40
def f_X1_record_1_3_0 (S : XS) : XS := su (sc S 6 1) 7 0 (upd (S 7 0) 1 4)
theorem e_X1_record_1_3_0 (S : XS) : f_X1_record_1_3_0 S = su (sc S 6 1) 7 0 (upd (S 7 0) 1 4) := rfl
set_option maxHeartbeats 4000000 in
set_option maxRecDepth 100000 in
theorem c_X1_record_1_3_0 (l : Launch) (G : GG) (A : Nat → Nat) (S : XS)  (hq : S 7 0 1 = 3) (hbe : S 1 0 4 = 0 ∨ S 1 0 4 = 1) : Mz l yX1_record wsX1_record ({ frames := 2, cells := 0, slots := 0, locals := 47 } : Room) G [.ref (A 43), .ref (A (6 * 1))] (wX G A S 0) (wX G A (f_X1_record_1_3_0 S) 0) := by
  refine Mz.of (cc := cX1_record) (maxL := 3) (ret := none) (by decide) rfl (Nat.le_of_ble_eq_true rfl) ?_
  intro p e s m args below meth c A0 hA0 E hr hlocks hP hK hD hA hS ls hl
  have E : CallFix p m c cX1_record 3 s args wsX1_record RX1 := E
  have hx := E.1
  have hb := E.2.1
  have hml := E.2.2.1
  have hown := E.2.2.2.1
  have hts := E.2.2.2.2
  have hl : lv_has ls 3 [(0, .ref (A 43)), (1, .ref (A (6 * 1)))] := hl
  have hinX1 : ∀ w ∈ u_ws RX1 TX1 2, w ∈ wsX1_record := fun _ h => List.mem_cons_of_mem _ (List.mem_append_left _ (List.mem_append_right _ h))
  refine lv_aload_n hx hb dX1_record_0 rfl (lv_at hl 0 rfl) ?_
  refine va_get (D := G.1) (ci := 1) (v := .int (S 7 0 1)) (C := RX1) (T := TX1) (N := 2) hx hb hts hinX1 hown hK.1 hP 43 (wX_43 G A S 0) rfl 1 (by decide) (hts (.fieldLink RX1 18 "WireLoops$History" "states" "I") (List.mem_of_getElem? (i := 1) rfl)) (fun _ h9 => h9) rfl dX1_record_1 ?_
  refine W.eq (g2 := F0 m 4 ls [.int 3]) (by rw [hq] <;> rfl) ?_
  refine lv_iconst (v := 4) hx hb dX1_record_4 (by decide) ?_
  refine lv_icmp_lt (tgt := 12) hx hb dX1_record_5 (by decide) (fun c1 => ?_) (fun c1 => absurd (by decide) c1)
  refine lv_aload_n hx hb dX1_record_12 rfl (lv_at hl 0 rfl) ?_
  refine lv_aload_n hx hb dX1_record_13 rfl (lv_at hl 0 rfl) ?_
  refine va_get (D := G.1) (ci := 1) (v := .int (S 7 0 1)) (C := RX1) (T := TX1) (N := 2) hx hb hts hinX1 hown hK.1 hP 43 (wX_43 G A S 0) rfl 1 (by decide) (hts (.fieldLink RX1 18 "WireLoops$History" "states" "I") (List.mem_of_getElem? (i := 1) rfl)) (fun _ h9 => h9) rfl dX1_record_14 ?_
  refine W.eq (g2 := F0 m 17 ls [.int 3, .ref (A 43)]) (by rw [show (S 7 0 1) = (3 : Int32) from hq] <;> rfl) ?_
  refine crV (rest := []) (As := [.int 3]) E (c_X1_placeAt_3_0 l G A S) (cwV 1 hts gX1_record_X1_placeAt rfl rfl rfl (by decide +kernel) ⟨Nat.le_of_ble_eq_true rfl, Nat.le_of_ble_eq_true rfl⟩) hK hP 43 (wX_43 G A S 0) rfl rfl hl.1 rfl (Nat.le_of_ble_eq_true rfl) dX1_record_17 ⟨Nat.zero_le _, Nat.zero_le _⟩ ?_
  refine lv_astore_n (lv' := [(2, .ref (A (6 * 6))), (0, .ref (A 43)), (1, .ref (A (6 * 1)))]) hx hb dX1_record_20 rfl hl (by decide) rfl (fun ls hl => ?_)
  refine lv_aload_n hx hb dX1_record_21 rfl (lv_at hl 0 rfl) ?_
  refine lv_ifnull hx hb dX1_record_22 ?_
  refine lv_aload_n hx hb dX1_record_25 rfl (lv_at hl 0 rfl) ?_
  refine lv_aload_n hx hb dX1_record_26 rfl (lv_at hl 2 rfl) ?_
  refine czV (rest := []) (As := [.ref (A (6 * 1))]) E (c_X0_copyFrom_6_1 l G A S 0 hbe) (cwV 1 hts gX1_record_X0_copyFrom rfl rfl rfl (by decide +kernel) ⟨Nat.le_of_ble_eq_true rfl, Nat.le_of_ble_eq_true rfl⟩) hK hP hD hS hA (6 * 6) (wX_o G A S 0 6 (by decide)) rfl rfl hl.1 rfl (Nat.le_of_ble_eq_true rfl) dX1_record_27 ⟨Nat.zero_le _, Nat.zero_le _⟩ (fun H locs hP hD hS => ?_)
  refine lv_aload_n hx hb dX1_record_30 rfl (lv_at hl 1 rfl) ?_
  refine lv_dup hx hb dX1_record_31 rfl ?_
  refine va_get (D := G.1) (ci := 1) (v := .int (((f_X0_copyFrom_6_1 S) 7 0) 1)) (C := RX1) (T := TX1) (N := 2) hx hb hts hinX1 hown hK.1 hP 43 (wX_43 G A (f_X0_copyFrom_6_1 S) 0) rfl 1 (by decide) (hts (.fieldLink RX1 18 "WireLoops$History" "states" "I") (List.mem_of_getElem? (i := 1) rfl)) (fun _ h9 => h9) rfl dX1_record_32 ?_
  refine W.eq (g2 := F0 m 35 ls [.int 3, .ref (A 43)]) (by rw [show (((f_X0_copyFrom_6_1 S) 7 0) 1) = (3 : Int32) from hq] <;> rfl) ?_
  refine lv_iconst (v := 1) hx hb dX1_record_35 (by decide) ?_
  refine lv_iadd hx hb dX1_record_36 ?_
  refine W.eq (g2 := F0 m 37 ls [.int 4, .ref (A 43)]) (by rw [show (3 + 1) = (4 : Int32) from by decide] <;> rfl) ?_
  refine va_put (D := G.1) (ci := 1) (v := .int 4) (ty := .int) (C := RX1) (T := TX1) (N := 2) hx hb hts hinX1 tyX1 tyX1_ok nmX1 hown hK.1 hP hD hS 43 (wX_43 G A (f_X0_copyFrom_6_1 S) 0) rfl 1 (by decide) (hts (.fieldLink RX1 18 "WireLoops$History" "states" "I") (List.mem_of_getElem? (i := 1) rfl)) (fun _ h9 => h9) rfl (by decide +kernel) rfl rfl (Nat.le_of_ble_eq_true rfl) dX1_record_37 (fun H locs hP hD hS => ?_)
  rw [wX_s43 G A (f_X0_copyFrom_6_1 S) 0 _] at hP hD
  have hP : va_P G.1 vwCl (wX G A (su (f_X0_copyFrom_6_1 S) 7 0 (upd ((f_X0_copyFrom_6_1 S) 7 0) 1 4)) 0) H := hP
  have hD : va_D A0 (wX G A (su (f_X0_copyFrom_6_1 S) 7 0 (upd ((f_X0_copyFrom_6_1 S) 7 0) 1 4)) 0) := hD
  exact endZ hx hb hr hlocks hP hD hS rfl dX1_record_40
def f_X1_record_0_4_0 (S : XS) : XS := su (sc (su S 7 0 (upd (S 7 0) 1 3)) 3 0) 7 0 (upd (upd (S 7 0) 1 3) 1 4)
theorem e_X1_record_0_4_0 (S : XS) : f_X1_record_0_4_0 S = su (sc (su S 7 0 (upd (S 7 0) 1 3)) 3 0) 7 0 (upd (upd (S 7 0) 1 3) 1 4) := rfl
set_option maxHeartbeats 4000000 in
set_option maxRecDepth 100000 in
theorem c_X1_record_0_4_0 (l : Launch) (G : GG) (A : Nat → Nat) (S : XS)  (hq : S 7 0 1 = 4) (hbe : S 0 0 4 = 0 ∨ S 0 0 4 = 1) : Mz l yX1_record wsX1_record ({ frames := 2, cells := 0, slots := 0, locals := 47 } : Room) G [.ref (A 43), .ref (A (6 * 0))] (wX G A S 0) (wX G A (f_X1_record_0_4_0 S) 1) := by
  refine Mz.of (cc := cX1_record) (maxL := 3) (ret := none) (by decide) rfl (Nat.le_of_ble_eq_true rfl) ?_
  intro p e s m args below meth c A0 hA0 E hr hlocks hP hK hD hA hS ls hl
  have E : CallFix p m c cX1_record 3 s args wsX1_record RX1 := E
  have hx := E.1
  have hb := E.2.1
  have hml := E.2.2.1
  have hown := E.2.2.2.1
  have hts := E.2.2.2.2
  have hl : lv_has ls 3 [(0, .ref (A 43)), (1, .ref (A (6 * 0)))] := hl
  have hinX1 : ∀ w ∈ u_ws RX1 TX1 2, w ∈ wsX1_record := fun _ h => List.mem_cons_of_mem _ (List.mem_append_left _ (List.mem_append_right _ h))
  refine lv_aload_n hx hb dX1_record_0 rfl (lv_at hl 0 rfl) ?_
  refine va_get (D := G.1) (ci := 1) (v := .int (S 7 0 1)) (C := RX1) (T := TX1) (N := 2) hx hb hts hinX1 hown hK.1 hP 43 (wX_43 G A S 0) rfl 1 (by decide) (hts (.fieldLink RX1 18 "WireLoops$History" "states" "I") (List.mem_of_getElem? (i := 1) rfl)) (fun _ h9 => h9) rfl dX1_record_1 ?_
  refine W.eq (g2 := F0 m 4 ls [.int 4]) (by rw [hq] <;> rfl) ?_
  refine lv_iconst (v := 4) hx hb dX1_record_4 (by decide) ?_
  refine lv_icmp_lt (tgt := 12) hx hb dX1_record_5 (by decide) (fun c1 => absurd c1 (by decide)) (fun c1 => ?_)
  refine lv_aload_n hx hb dX1_record_8 rfl (lv_at hl 0 rfl) ?_
  refine czV (rest := []) (As := []) E (c_X1_dropOldest_0 l G A S) (cwV 0 hts gX1_record_X1_dropOldest rfl rfl rfl (by decide +kernel) ⟨Nat.le_of_ble_eq_true rfl, Nat.le_of_ble_eq_true rfl⟩) hK hP hD hS hA 43 (wX_43 G A S 0) rfl rfl hl.1 rfl (Nat.le_of_ble_eq_true rfl) dX1_record_9 ⟨Nat.zero_le _, Nat.zero_le _⟩ (fun H locs hP hD hS => ?_)
  refine lv_aload_n hx hb dX1_record_12 rfl (lv_at hl 0 rfl) ?_
  refine lv_aload_n hx hb dX1_record_13 rfl (lv_at hl 0 rfl) ?_
  refine va_get (D := G.1) (ci := 1) (v := .int (((f_X1_dropOldest_0 S) 7 0) 1)) (C := RX1) (T := TX1) (N := 2) hx hb hts hinX1 hown hK.1 hP 43 (wX_43 G A (f_X1_dropOldest_0 S) 1) rfl 1 (by decide) (hts (.fieldLink RX1 18 "WireLoops$History" "states" "I") (List.mem_of_getElem? (i := 1) rfl)) (fun _ h9 => h9) rfl dX1_record_14 ?_
  refine W.eq (g2 := F0 m 17 ls [.int 3, .ref (A 43)]) (by rw [show (((f_X1_dropOldest_0 S) 7 0) 1) = (3 : Int32) from rfl] <;> rfl) ?_
  refine crV (rest := []) (As := [.int 3]) E (c_X1_placeAt_3_1 l G A (f_X1_dropOldest_0 S)) (cwV 1 hts gX1_record_X1_placeAt rfl rfl rfl (by decide +kernel) ⟨Nat.le_of_ble_eq_true rfl, Nat.le_of_ble_eq_true rfl⟩) hK hP 43 (wX_43 G A (f_X1_dropOldest_0 S) 1) rfl rfl hl.1 rfl (Nat.le_of_ble_eq_true rfl) dX1_record_17 ⟨Nat.zero_le _, Nat.zero_le _⟩ ?_
  refine lv_astore_n (lv' := [(2, .ref (A (6 * 3))), (0, .ref (A 43)), (1, .ref (A (6 * 0)))]) hx hb dX1_record_20 rfl hl (by decide) rfl (fun ls hl => ?_)
  refine lv_aload_n hx hb dX1_record_21 rfl (lv_at hl 0 rfl) ?_
  refine lv_ifnull hx hb dX1_record_22 ?_
  refine lv_aload_n hx hb dX1_record_25 rfl (lv_at hl 0 rfl) ?_
  refine lv_aload_n hx hb dX1_record_26 rfl (lv_at hl 2 rfl) ?_
  refine czV (rest := []) (As := [.ref (A (6 * 0))]) E (c_X0_copyFrom_3_0 l G A (f_X1_dropOldest_0 S) 1 hbe) (cwV 1 hts gX1_record_X0_copyFrom rfl rfl rfl (by decide +kernel) ⟨Nat.le_of_ble_eq_true rfl, Nat.le_of_ble_eq_true rfl⟩) hK hP hD hS hA (6 * 3) (wX_o G A (f_X1_dropOldest_0 S) 1 3 (by decide)) rfl rfl hl.1 rfl (Nat.le_of_ble_eq_true rfl) dX1_record_27 ⟨Nat.zero_le _, Nat.zero_le _⟩ (fun H locs hP hD hS => ?_)
  refine lv_aload_n hx hb dX1_record_30 rfl (lv_at hl 1 rfl) ?_
  refine lv_dup hx hb dX1_record_31 rfl ?_
  refine va_get (D := G.1) (ci := 1) (v := .int (((f_X0_copyFrom_3_0 (f_X1_dropOldest_0 S)) 7 0) 1)) (C := RX1) (T := TX1) (N := 2) hx hb hts hinX1 hown hK.1 hP 43 (wX_43 G A (f_X0_copyFrom_3_0 (f_X1_dropOldest_0 S)) 1) rfl 1 (by decide) (hts (.fieldLink RX1 18 "WireLoops$History" "states" "I") (List.mem_of_getElem? (i := 1) rfl)) (fun _ h9 => h9) rfl dX1_record_32 ?_
  refine W.eq (g2 := F0 m 35 ls [.int 3, .ref (A 43)]) (by rw [show (((f_X0_copyFrom_3_0 (f_X1_dropOldest_0 S)) 7 0) 1) = (3 : Int32) from rfl] <;> rfl) ?_
  refine lv_iconst (v := 1) hx hb dX1_record_35 (by decide) ?_
  refine lv_iadd hx hb dX1_record_36 ?_
  refine W.eq (g2 := F0 m 37 ls [.int 4, .ref (A 43)]) (by rw [show (3 + 1) = (4 : Int32) from by decide] <;> rfl) ?_
  refine va_put (D := G.1) (ci := 1) (v := .int 4) (ty := .int) (C := RX1) (T := TX1) (N := 2) hx hb hts hinX1 tyX1 tyX1_ok nmX1 hown hK.1 hP hD hS 43 (wX_43 G A (f_X0_copyFrom_3_0 (f_X1_dropOldest_0 S)) 1) rfl 1 (by decide) (hts (.fieldLink RX1 18 "WireLoops$History" "states" "I") (List.mem_of_getElem? (i := 1) rfl)) (fun _ h9 => h9) rfl (by decide +kernel) rfl rfl (Nat.le_of_ble_eq_true rfl) dX1_record_37 (fun H locs hP hD hS => ?_)
  rw [wX_s43 G A (f_X0_copyFrom_3_0 (f_X1_dropOldest_0 S)) 1 _] at hP hD
  have hP : va_P G.1 vwCl (wX G A (su (f_X0_copyFrom_3_0 (f_X1_dropOldest_0 S)) 7 0 (upd ((f_X0_copyFrom_3_0 (f_X1_dropOldest_0 S)) 7 0) 1 4)) 1) H := hP
  have hD : va_D A0 (wX G A (su (f_X0_copyFrom_3_0 (f_X1_dropOldest_0 S)) 7 0 (upd ((f_X0_copyFrom_3_0 (f_X1_dropOldest_0 S)) 7 0) 1 4)) 1) := hD
  exact endZ hx hb hr hlocks hP hD hS rfl dX1_record_40
def f_X1_record_1_4_0 (S : XS) : XS := su (sc (su S 7 0 (upd (S 7 0) 1 3)) 3 1) 7 0 (upd (upd (S 7 0) 1 3) 1 4)
theorem e_X1_record_1_4_0 (S : XS) : f_X1_record_1_4_0 S = su (sc (su S 7 0 (upd (S 7 0) 1 3)) 3 1) 7 0 (upd (upd (S 7 0) 1 3) 1 4) := rfl
set_option maxHeartbeats 4000000 in
set_option maxRecDepth 100000 in
theorem c_X1_record_1_4_0 (l : Launch) (G : GG) (A : Nat → Nat) (S : XS)  (hq : S 7 0 1 = 4) (hbe : S 1 0 4 = 0 ∨ S 1 0 4 = 1) : Mz l yX1_record wsX1_record ({ frames := 2, cells := 0, slots := 0, locals := 47 } : Room) G [.ref (A 43), .ref (A (6 * 1))] (wX G A S 0) (wX G A (f_X1_record_1_4_0 S) 1) := by
  refine Mz.of (cc := cX1_record) (maxL := 3) (ret := none) (by decide) rfl (Nat.le_of_ble_eq_true rfl) ?_
  intro p e s m args below meth c A0 hA0 E hr hlocks hP hK hD hA hS ls hl
  have E : CallFix p m c cX1_record 3 s args wsX1_record RX1 := E
  have hx := E.1
  have hb := E.2.1
  have hml := E.2.2.1
  have hown := E.2.2.2.1
  have hts := E.2.2.2.2
  have hl : lv_has ls 3 [(0, .ref (A 43)), (1, .ref (A (6 * 1)))] := hl
  have hinX1 : ∀ w ∈ u_ws RX1 TX1 2, w ∈ wsX1_record := fun _ h => List.mem_cons_of_mem _ (List.mem_append_left _ (List.mem_append_right _ h))
  refine lv_aload_n hx hb dX1_record_0 rfl (lv_at hl 0 rfl) ?_
  refine va_get (D := G.1) (ci := 1) (v := .int (S 7 0 1)) (C := RX1) (T := TX1) (N := 2) hx hb hts hinX1 hown hK.1 hP 43 (wX_43 G A S 0) rfl 1 (by decide) (hts (.fieldLink RX1 18 "WireLoops$History" "states" "I") (List.mem_of_getElem? (i := 1) rfl)) (fun _ h9 => h9) rfl dX1_record_1 ?_
  refine W.eq (g2 := F0 m 4 ls [.int 4]) (by rw [hq] <;> rfl) ?_
  refine lv_iconst (v := 4) hx hb dX1_record_4 (by decide) ?_
  refine lv_icmp_lt (tgt := 12) hx hb dX1_record_5 (by decide) (fun c1 => absurd c1 (by decide)) (fun c1 => ?_)
  refine lv_aload_n hx hb dX1_record_8 rfl (lv_at hl 0 rfl) ?_
  refine czV (rest := []) (As := []) E (c_X1_dropOldest_0 l G A S) (cwV 0 hts gX1_record_X1_dropOldest rfl rfl rfl (by decide +kernel) ⟨Nat.le_of_ble_eq_true rfl, Nat.le_of_ble_eq_true rfl⟩) hK hP hD hS hA 43 (wX_43 G A S 0) rfl rfl hl.1 rfl (Nat.le_of_ble_eq_true rfl) dX1_record_9 ⟨Nat.zero_le _, Nat.zero_le _⟩ (fun H locs hP hD hS => ?_)
  refine lv_aload_n hx hb dX1_record_12 rfl (lv_at hl 0 rfl) ?_
  refine lv_aload_n hx hb dX1_record_13 rfl (lv_at hl 0 rfl) ?_
  refine va_get (D := G.1) (ci := 1) (v := .int (((f_X1_dropOldest_0 S) 7 0) 1)) (C := RX1) (T := TX1) (N := 2) hx hb hts hinX1 hown hK.1 hP 43 (wX_43 G A (f_X1_dropOldest_0 S) 1) rfl 1 (by decide) (hts (.fieldLink RX1 18 "WireLoops$History" "states" "I") (List.mem_of_getElem? (i := 1) rfl)) (fun _ h9 => h9) rfl dX1_record_14 ?_
  refine W.eq (g2 := F0 m 17 ls [.int 3, .ref (A 43)]) (by rw [show (((f_X1_dropOldest_0 S) 7 0) 1) = (3 : Int32) from rfl] <;> rfl) ?_
  refine crV (rest := []) (As := [.int 3]) E (c_X1_placeAt_3_1 l G A (f_X1_dropOldest_0 S)) (cwV 1 hts gX1_record_X1_placeAt rfl rfl rfl (by decide +kernel) ⟨Nat.le_of_ble_eq_true rfl, Nat.le_of_ble_eq_true rfl⟩) hK hP 43 (wX_43 G A (f_X1_dropOldest_0 S) 1) rfl rfl hl.1 rfl (Nat.le_of_ble_eq_true rfl) dX1_record_17 ⟨Nat.zero_le _, Nat.zero_le _⟩ ?_
  refine lv_astore_n (lv' := [(2, .ref (A (6 * 3))), (0, .ref (A 43)), (1, .ref (A (6 * 1)))]) hx hb dX1_record_20 rfl hl (by decide) rfl (fun ls hl => ?_)
  refine lv_aload_n hx hb dX1_record_21 rfl (lv_at hl 0 rfl) ?_
  refine lv_ifnull hx hb dX1_record_22 ?_
  refine lv_aload_n hx hb dX1_record_25 rfl (lv_at hl 0 rfl) ?_
  refine lv_aload_n hx hb dX1_record_26 rfl (lv_at hl 2 rfl) ?_
  refine czV (rest := []) (As := [.ref (A (6 * 1))]) E (c_X0_copyFrom_3_1 l G A (f_X1_dropOldest_0 S) 1 hbe) (cwV 1 hts gX1_record_X0_copyFrom rfl rfl rfl (by decide +kernel) ⟨Nat.le_of_ble_eq_true rfl, Nat.le_of_ble_eq_true rfl⟩) hK hP hD hS hA (6 * 3) (wX_o G A (f_X1_dropOldest_0 S) 1 3 (by decide)) rfl rfl hl.1 rfl (Nat.le_of_ble_eq_true rfl) dX1_record_27 ⟨Nat.zero_le _, Nat.zero_le _⟩ (fun H locs hP hD hS => ?_)
  refine lv_aload_n hx hb dX1_record_30 rfl (lv_at hl 1 rfl) ?_
  refine lv_dup hx hb dX1_record_31 rfl ?_
  refine va_get (D := G.1) (ci := 1) (v := .int (((f_X0_copyFrom_3_1 (f_X1_dropOldest_0 S)) 7 0) 1)) (C := RX1) (T := TX1) (N := 2) hx hb hts hinX1 hown hK.1 hP 43 (wX_43 G A (f_X0_copyFrom_3_1 (f_X1_dropOldest_0 S)) 1) rfl 1 (by decide) (hts (.fieldLink RX1 18 "WireLoops$History" "states" "I") (List.mem_of_getElem? (i := 1) rfl)) (fun _ h9 => h9) rfl dX1_record_32 ?_
  refine W.eq (g2 := F0 m 35 ls [.int 3, .ref (A 43)]) (by rw [show (((f_X0_copyFrom_3_1 (f_X1_dropOldest_0 S)) 7 0) 1) = (3 : Int32) from rfl] <;> rfl) ?_
  refine lv_iconst (v := 1) hx hb dX1_record_35 (by decide) ?_
  refine lv_iadd hx hb dX1_record_36 ?_
  refine W.eq (g2 := F0 m 37 ls [.int 4, .ref (A 43)]) (by rw [show (3 + 1) = (4 : Int32) from by decide] <;> rfl) ?_
  refine va_put (D := G.1) (ci := 1) (v := .int 4) (ty := .int) (C := RX1) (T := TX1) (N := 2) hx hb hts hinX1 tyX1 tyX1_ok nmX1 hown hK.1 hP hD hS 43 (wX_43 G A (f_X0_copyFrom_3_1 (f_X1_dropOldest_0 S)) 1) rfl 1 (by decide) (hts (.fieldLink RX1 18 "WireLoops$History" "states" "I") (List.mem_of_getElem? (i := 1) rfl)) (fun _ h9 => h9) rfl (by decide +kernel) rfl rfl (Nat.le_of_ble_eq_true rfl) dX1_record_37 (fun H locs hP hD hS => ?_)
  rw [wX_s43 G A (f_X0_copyFrom_3_1 (f_X1_dropOldest_0 S)) 1 _] at hP hD
  have hP : va_P G.1 vwCl (wX G A (su (f_X0_copyFrom_3_1 (f_X1_dropOldest_0 S)) 7 0 (upd ((f_X0_copyFrom_3_1 (f_X1_dropOldest_0 S)) 7 0) 1 4)) 1) H := hP
  have hD : va_D A0 (wX G A (su (f_X0_copyFrom_3_1 (f_X1_dropOldest_0 S)) 7 0 (upd ((f_X0_copyFrom_3_1 (f_X1_dropOldest_0 S)) 7 0) 1 4)) 1) := hD
  exact endZ hx hb hr hlocks hP hD hS rfl dX1_record_40
def f_X1_record_0_0_1 (S : XS) : XS := su (sc S 4 0) 7 0 (upd (S 7 0) 1 1)
theorem e_X1_record_0_0_1 (S : XS) : f_X1_record_0_0_1 S = su (sc S 4 0) 7 0 (upd (S 7 0) 1 1) := rfl
set_option maxHeartbeats 4000000 in
set_option maxRecDepth 100000 in
theorem c_X1_record_0_0_1 (l : Launch) (G : GG) (A : Nat → Nat) (S : XS)  (hq : S 7 0 1 = 0) (hbe : S 0 0 4 = 0 ∨ S 0 0 4 = 1) : Mz l yX1_record wsX1_record ({ frames := 2, cells := 0, slots := 0, locals := 47 } : Room) G [.ref (A 43), .ref (A (6 * 0))] (wX G A S 1) (wX G A (f_X1_record_0_0_1 S) 1) := by
  refine Mz.of (cc := cX1_record) (maxL := 3) (ret := none) (by decide) rfl (Nat.le_of_ble_eq_true rfl) ?_
  intro p e s m args below meth c A0 hA0 E hr hlocks hP hK hD hA hS ls hl
  have E : CallFix p m c cX1_record 3 s args wsX1_record RX1 := E
  have hx := E.1
  have hb := E.2.1
  have hml := E.2.2.1
  have hown := E.2.2.2.1
  have hts := E.2.2.2.2
  have hl : lv_has ls 3 [(0, .ref (A 43)), (1, .ref (A (6 * 0)))] := hl
  have hinX1 : ∀ w ∈ u_ws RX1 TX1 2, w ∈ wsX1_record := fun _ h => List.mem_cons_of_mem _ (List.mem_append_left _ (List.mem_append_right _ h))
  refine lv_aload_n hx hb dX1_record_0 rfl (lv_at hl 0 rfl) ?_
  refine va_get (D := G.1) (ci := 1) (v := .int (S 7 0 1)) (C := RX1) (T := TX1) (N := 2) hx hb hts hinX1 hown hK.1 hP 43 (wX_43 G A S 1) rfl 1 (by decide) (hts (.fieldLink RX1 18 "WireLoops$History" "states" "I") (List.mem_of_getElem? (i := 1) rfl)) (fun _ h9 => h9) rfl dX1_record_1 ?_
  refine W.eq (g2 := F0 m 4 ls [.int 0]) (by rw [hq] <;> rfl) ?_
  refine lv_iconst (v := 4) hx hb dX1_record_4 (by decide) ?_
  refine lv_icmp_lt (tgt := 12) hx hb dX1_record_5 (by decide) (fun c1 => ?_) (fun c1 => absurd (by decide) c1)
  refine lv_aload_n hx hb dX1_record_12 rfl (lv_at hl 0 rfl) ?_
  refine lv_aload_n hx hb dX1_record_13 rfl (lv_at hl 0 rfl) ?_
  refine va_get (D := G.1) (ci := 1) (v := .int (S 7 0 1)) (C := RX1) (T := TX1) (N := 2) hx hb hts hinX1 hown hK.1 hP 43 (wX_43 G A S 1) rfl 1 (by decide) (hts (.fieldLink RX1 18 "WireLoops$History" "states" "I") (List.mem_of_getElem? (i := 1) rfl)) (fun _ h9 => h9) rfl dX1_record_14 ?_
  refine W.eq (g2 := F0 m 17 ls [.int 0, .ref (A 43)]) (by rw [show (S 7 0 1) = (0 : Int32) from hq] <;> rfl) ?_
  refine crV (rest := []) (As := [.int 0]) E (c_X1_placeAt_0_1 l G A S) (cwV 1 hts gX1_record_X1_placeAt rfl rfl rfl (by decide +kernel) ⟨Nat.le_of_ble_eq_true rfl, Nat.le_of_ble_eq_true rfl⟩) hK hP 43 (wX_43 G A S 1) rfl rfl hl.1 rfl (Nat.le_of_ble_eq_true rfl) dX1_record_17 ⟨Nat.zero_le _, Nat.zero_le _⟩ ?_
  refine lv_astore_n (lv' := [(2, .ref (A (6 * 4))), (0, .ref (A 43)), (1, .ref (A (6 * 0)))]) hx hb dX1_record_20 rfl hl (by decide) rfl (fun ls hl => ?_)
  refine lv_aload_n hx hb dX1_record_21 rfl (lv_at hl 0 rfl) ?_
  refine lv_ifnull hx hb dX1_record_22 ?_
  refine lv_aload_n hx hb dX1_record_25 rfl (lv_at hl 0 rfl) ?_
  refine lv_aload_n hx hb dX1_record_26 rfl (lv_at hl 2 rfl) ?_
  refine czV (rest := []) (As := [.ref (A (6 * 0))]) E (c_X0_copyFrom_4_0 l G A S 1 hbe) (cwV 1 hts gX1_record_X0_copyFrom rfl rfl rfl (by decide +kernel) ⟨Nat.le_of_ble_eq_true rfl, Nat.le_of_ble_eq_true rfl⟩) hK hP hD hS hA (6 * 4) (wX_o G A S 1 4 (by decide)) rfl rfl hl.1 rfl (Nat.le_of_ble_eq_true rfl) dX1_record_27 ⟨Nat.zero_le _, Nat.zero_le _⟩ (fun H locs hP hD hS => ?_)
  refine lv_aload_n hx hb dX1_record_30 rfl (lv_at hl 1 rfl) ?_
  refine lv_dup hx hb dX1_record_31 rfl ?_
  refine va_get (D := G.1) (ci := 1) (v := .int (((f_X0_copyFrom_4_0 S) 7 0) 1)) (C := RX1) (T := TX1) (N := 2) hx hb hts hinX1 hown hK.1 hP 43 (wX_43 G A (f_X0_copyFrom_4_0 S) 1) rfl 1 (by decide) (hts (.fieldLink RX1 18 "WireLoops$History" "states" "I") (List.mem_of_getElem? (i := 1) rfl)) (fun _ h9 => h9) rfl dX1_record_32 ?_
  refine W.eq (g2 := F0 m 35 ls [.int 0, .ref (A 43)]) (by rw [show (((f_X0_copyFrom_4_0 S) 7 0) 1) = (0 : Int32) from hq] <;> rfl) ?_
  refine lv_iconst (v := 1) hx hb dX1_record_35 (by decide) ?_
  refine lv_iadd hx hb dX1_record_36 ?_
  refine W.eq (g2 := F0 m 37 ls [.int 1, .ref (A 43)]) (by rw [show (0 + 1) = (1 : Int32) from by decide] <;> rfl) ?_
  refine va_put (D := G.1) (ci := 1) (v := .int 1) (ty := .int) (C := RX1) (T := TX1) (N := 2) hx hb hts hinX1 tyX1 tyX1_ok nmX1 hown hK.1 hP hD hS 43 (wX_43 G A (f_X0_copyFrom_4_0 S) 1) rfl 1 (by decide) (hts (.fieldLink RX1 18 "WireLoops$History" "states" "I") (List.mem_of_getElem? (i := 1) rfl)) (fun _ h9 => h9) rfl (by decide +kernel) rfl rfl (Nat.le_of_ble_eq_true rfl) dX1_record_37 (fun H locs hP hD hS => ?_)
  rw [wX_s43 G A (f_X0_copyFrom_4_0 S) 1 _] at hP hD
  have hP : va_P G.1 vwCl (wX G A (su (f_X0_copyFrom_4_0 S) 7 0 (upd ((f_X0_copyFrom_4_0 S) 7 0) 1 1)) 1) H := hP
  have hD : va_D A0 (wX G A (su (f_X0_copyFrom_4_0 S) 7 0 (upd ((f_X0_copyFrom_4_0 S) 7 0) 1 1)) 1) := hD
  exact endZ hx hb hr hlocks hP hD hS rfl dX1_record_40
def f_X1_record_1_0_1 (S : XS) : XS := su (sc S 4 1) 7 0 (upd (S 7 0) 1 1)
theorem e_X1_record_1_0_1 (S : XS) : f_X1_record_1_0_1 S = su (sc S 4 1) 7 0 (upd (S 7 0) 1 1) := rfl
set_option maxHeartbeats 4000000 in
set_option maxRecDepth 100000 in
theorem c_X1_record_1_0_1 (l : Launch) (G : GG) (A : Nat → Nat) (S : XS)  (hq : S 7 0 1 = 0) (hbe : S 1 0 4 = 0 ∨ S 1 0 4 = 1) : Mz l yX1_record wsX1_record ({ frames := 2, cells := 0, slots := 0, locals := 47 } : Room) G [.ref (A 43), .ref (A (6 * 1))] (wX G A S 1) (wX G A (f_X1_record_1_0_1 S) 1) := by
  refine Mz.of (cc := cX1_record) (maxL := 3) (ret := none) (by decide) rfl (Nat.le_of_ble_eq_true rfl) ?_
  intro p e s m args below meth c A0 hA0 E hr hlocks hP hK hD hA hS ls hl
  have E : CallFix p m c cX1_record 3 s args wsX1_record RX1 := E
  have hx := E.1
  have hb := E.2.1
  have hml := E.2.2.1
  have hown := E.2.2.2.1
  have hts := E.2.2.2.2
  have hl : lv_has ls 3 [(0, .ref (A 43)), (1, .ref (A (6 * 1)))] := hl
  have hinX1 : ∀ w ∈ u_ws RX1 TX1 2, w ∈ wsX1_record := fun _ h => List.mem_cons_of_mem _ (List.mem_append_left _ (List.mem_append_right _ h))
  refine lv_aload_n hx hb dX1_record_0 rfl (lv_at hl 0 rfl) ?_
  refine va_get (D := G.1) (ci := 1) (v := .int (S 7 0 1)) (C := RX1) (T := TX1) (N := 2) hx hb hts hinX1 hown hK.1 hP 43 (wX_43 G A S 1) rfl 1 (by decide) (hts (.fieldLink RX1 18 "WireLoops$History" "states" "I") (List.mem_of_getElem? (i := 1) rfl)) (fun _ h9 => h9) rfl dX1_record_1 ?_
  refine W.eq (g2 := F0 m 4 ls [.int 0]) (by rw [hq] <;> rfl) ?_
  refine lv_iconst (v := 4) hx hb dX1_record_4 (by decide) ?_
  refine lv_icmp_lt (tgt := 12) hx hb dX1_record_5 (by decide) (fun c1 => ?_) (fun c1 => absurd (by decide) c1)
  refine lv_aload_n hx hb dX1_record_12 rfl (lv_at hl 0 rfl) ?_
  refine lv_aload_n hx hb dX1_record_13 rfl (lv_at hl 0 rfl) ?_
  refine va_get (D := G.1) (ci := 1) (v := .int (S 7 0 1)) (C := RX1) (T := TX1) (N := 2) hx hb hts hinX1 hown hK.1 hP 43 (wX_43 G A S 1) rfl 1 (by decide) (hts (.fieldLink RX1 18 "WireLoops$History" "states" "I") (List.mem_of_getElem? (i := 1) rfl)) (fun _ h9 => h9) rfl dX1_record_14 ?_
  refine W.eq (g2 := F0 m 17 ls [.int 0, .ref (A 43)]) (by rw [show (S 7 0 1) = (0 : Int32) from hq] <;> rfl) ?_
  refine crV (rest := []) (As := [.int 0]) E (c_X1_placeAt_0_1 l G A S) (cwV 1 hts gX1_record_X1_placeAt rfl rfl rfl (by decide +kernel) ⟨Nat.le_of_ble_eq_true rfl, Nat.le_of_ble_eq_true rfl⟩) hK hP 43 (wX_43 G A S 1) rfl rfl hl.1 rfl (Nat.le_of_ble_eq_true rfl) dX1_record_17 ⟨Nat.zero_le _, Nat.zero_le _⟩ ?_
  refine lv_astore_n (lv' := [(2, .ref (A (6 * 4))), (0, .ref (A 43)), (1, .ref (A (6 * 1)))]) hx hb dX1_record_20 rfl hl (by decide) rfl (fun ls hl => ?_)
  refine lv_aload_n hx hb dX1_record_21 rfl (lv_at hl 0 rfl) ?_
  refine lv_ifnull hx hb dX1_record_22 ?_
  refine lv_aload_n hx hb dX1_record_25 rfl (lv_at hl 0 rfl) ?_
  refine lv_aload_n hx hb dX1_record_26 rfl (lv_at hl 2 rfl) ?_
  refine czV (rest := []) (As := [.ref (A (6 * 1))]) E (c_X0_copyFrom_4_1 l G A S 1 hbe) (cwV 1 hts gX1_record_X0_copyFrom rfl rfl rfl (by decide +kernel) ⟨Nat.le_of_ble_eq_true rfl, Nat.le_of_ble_eq_true rfl⟩) hK hP hD hS hA (6 * 4) (wX_o G A S 1 4 (by decide)) rfl rfl hl.1 rfl (Nat.le_of_ble_eq_true rfl) dX1_record_27 ⟨Nat.zero_le _, Nat.zero_le _⟩ (fun H locs hP hD hS => ?_)
  refine lv_aload_n hx hb dX1_record_30 rfl (lv_at hl 1 rfl) ?_
  refine lv_dup hx hb dX1_record_31 rfl ?_
  refine va_get (D := G.1) (ci := 1) (v := .int (((f_X0_copyFrom_4_1 S) 7 0) 1)) (C := RX1) (T := TX1) (N := 2) hx hb hts hinX1 hown hK.1 hP 43 (wX_43 G A (f_X0_copyFrom_4_1 S) 1) rfl 1 (by decide) (hts (.fieldLink RX1 18 "WireLoops$History" "states" "I") (List.mem_of_getElem? (i := 1) rfl)) (fun _ h9 => h9) rfl dX1_record_32 ?_
  refine W.eq (g2 := F0 m 35 ls [.int 0, .ref (A 43)]) (by rw [show (((f_X0_copyFrom_4_1 S) 7 0) 1) = (0 : Int32) from hq] <;> rfl) ?_
  refine lv_iconst (v := 1) hx hb dX1_record_35 (by decide) ?_
  refine lv_iadd hx hb dX1_record_36 ?_
  refine W.eq (g2 := F0 m 37 ls [.int 1, .ref (A 43)]) (by rw [show (0 + 1) = (1 : Int32) from by decide] <;> rfl) ?_
  refine va_put (D := G.1) (ci := 1) (v := .int 1) (ty := .int) (C := RX1) (T := TX1) (N := 2) hx hb hts hinX1 tyX1 tyX1_ok nmX1 hown hK.1 hP hD hS 43 (wX_43 G A (f_X0_copyFrom_4_1 S) 1) rfl 1 (by decide) (hts (.fieldLink RX1 18 "WireLoops$History" "states" "I") (List.mem_of_getElem? (i := 1) rfl)) (fun _ h9 => h9) rfl (by decide +kernel) rfl rfl (Nat.le_of_ble_eq_true rfl) dX1_record_37 (fun H locs hP hD hS => ?_)
  rw [wX_s43 G A (f_X0_copyFrom_4_1 S) 1 _] at hP hD
  have hP : va_P G.1 vwCl (wX G A (su (f_X0_copyFrom_4_1 S) 7 0 (upd ((f_X0_copyFrom_4_1 S) 7 0) 1 1)) 1) H := hP
  have hD : va_D A0 (wX G A (su (f_X0_copyFrom_4_1 S) 7 0 (upd ((f_X0_copyFrom_4_1 S) 7 0) 1 1)) 1) := hD
  exact endZ hx hb hr hlocks hP hD hS rfl dX1_record_40
def f_X1_record_0_1_1 (S : XS) : XS := su (sc S 5 0) 7 0 (upd (S 7 0) 1 2)
theorem e_X1_record_0_1_1 (S : XS) : f_X1_record_0_1_1 S = su (sc S 5 0) 7 0 (upd (S 7 0) 1 2) := rfl
set_option maxHeartbeats 4000000 in
set_option maxRecDepth 100000 in
theorem c_X1_record_0_1_1 (l : Launch) (G : GG) (A : Nat → Nat) (S : XS)  (hq : S 7 0 1 = 1) (hbe : S 0 0 4 = 0 ∨ S 0 0 4 = 1) : Mz l yX1_record wsX1_record ({ frames := 2, cells := 0, slots := 0, locals := 47 } : Room) G [.ref (A 43), .ref (A (6 * 0))] (wX G A S 1) (wX G A (f_X1_record_0_1_1 S) 1) := by
  refine Mz.of (cc := cX1_record) (maxL := 3) (ret := none) (by decide) rfl (Nat.le_of_ble_eq_true rfl) ?_
  intro p e s m args below meth c A0 hA0 E hr hlocks hP hK hD hA hS ls hl
  have E : CallFix p m c cX1_record 3 s args wsX1_record RX1 := E
  have hx := E.1
  have hb := E.2.1
  have hml := E.2.2.1
  have hown := E.2.2.2.1
  have hts := E.2.2.2.2
  have hl : lv_has ls 3 [(0, .ref (A 43)), (1, .ref (A (6 * 0)))] := hl
  have hinX1 : ∀ w ∈ u_ws RX1 TX1 2, w ∈ wsX1_record := fun _ h => List.mem_cons_of_mem _ (List.mem_append_left _ (List.mem_append_right _ h))
  refine lv_aload_n hx hb dX1_record_0 rfl (lv_at hl 0 rfl) ?_
  refine va_get (D := G.1) (ci := 1) (v := .int (S 7 0 1)) (C := RX1) (T := TX1) (N := 2) hx hb hts hinX1 hown hK.1 hP 43 (wX_43 G A S 1) rfl 1 (by decide) (hts (.fieldLink RX1 18 "WireLoops$History" "states" "I") (List.mem_of_getElem? (i := 1) rfl)) (fun _ h9 => h9) rfl dX1_record_1 ?_
  refine W.eq (g2 := F0 m 4 ls [.int 1]) (by rw [hq] <;> rfl) ?_
  refine lv_iconst (v := 4) hx hb dX1_record_4 (by decide) ?_
  refine lv_icmp_lt (tgt := 12) hx hb dX1_record_5 (by decide) (fun c1 => ?_) (fun c1 => absurd (by decide) c1)
  refine lv_aload_n hx hb dX1_record_12 rfl (lv_at hl 0 rfl) ?_
  refine lv_aload_n hx hb dX1_record_13 rfl (lv_at hl 0 rfl) ?_
  refine va_get (D := G.1) (ci := 1) (v := .int (S 7 0 1)) (C := RX1) (T := TX1) (N := 2) hx hb hts hinX1 hown hK.1 hP 43 (wX_43 G A S 1) rfl 1 (by decide) (hts (.fieldLink RX1 18 "WireLoops$History" "states" "I") (List.mem_of_getElem? (i := 1) rfl)) (fun _ h9 => h9) rfl dX1_record_14 ?_
  refine W.eq (g2 := F0 m 17 ls [.int 1, .ref (A 43)]) (by rw [show (S 7 0 1) = (1 : Int32) from hq] <;> rfl) ?_
  refine crV (rest := []) (As := [.int 1]) E (c_X1_placeAt_1_1 l G A S) (cwV 1 hts gX1_record_X1_placeAt rfl rfl rfl (by decide +kernel) ⟨Nat.le_of_ble_eq_true rfl, Nat.le_of_ble_eq_true rfl⟩) hK hP 43 (wX_43 G A S 1) rfl rfl hl.1 rfl (Nat.le_of_ble_eq_true rfl) dX1_record_17 ⟨Nat.zero_le _, Nat.zero_le _⟩ ?_
  refine lv_astore_n (lv' := [(2, .ref (A (6 * 5))), (0, .ref (A 43)), (1, .ref (A (6 * 0)))]) hx hb dX1_record_20 rfl hl (by decide) rfl (fun ls hl => ?_)
  refine lv_aload_n hx hb dX1_record_21 rfl (lv_at hl 0 rfl) ?_
  refine lv_ifnull hx hb dX1_record_22 ?_
  refine lv_aload_n hx hb dX1_record_25 rfl (lv_at hl 0 rfl) ?_
  refine lv_aload_n hx hb dX1_record_26 rfl (lv_at hl 2 rfl) ?_
  refine czV (rest := []) (As := [.ref (A (6 * 0))]) E (c_X0_copyFrom_5_0 l G A S 1 hbe) (cwV 1 hts gX1_record_X0_copyFrom rfl rfl rfl (by decide +kernel) ⟨Nat.le_of_ble_eq_true rfl, Nat.le_of_ble_eq_true rfl⟩) hK hP hD hS hA (6 * 5) (wX_o G A S 1 5 (by decide)) rfl rfl hl.1 rfl (Nat.le_of_ble_eq_true rfl) dX1_record_27 ⟨Nat.zero_le _, Nat.zero_le _⟩ (fun H locs hP hD hS => ?_)
  refine lv_aload_n hx hb dX1_record_30 rfl (lv_at hl 1 rfl) ?_
  refine lv_dup hx hb dX1_record_31 rfl ?_
  refine va_get (D := G.1) (ci := 1) (v := .int (((f_X0_copyFrom_5_0 S) 7 0) 1)) (C := RX1) (T := TX1) (N := 2) hx hb hts hinX1 hown hK.1 hP 43 (wX_43 G A (f_X0_copyFrom_5_0 S) 1) rfl 1 (by decide) (hts (.fieldLink RX1 18 "WireLoops$History" "states" "I") (List.mem_of_getElem? (i := 1) rfl)) (fun _ h9 => h9) rfl dX1_record_32 ?_
  refine W.eq (g2 := F0 m 35 ls [.int 1, .ref (A 43)]) (by rw [show (((f_X0_copyFrom_5_0 S) 7 0) 1) = (1 : Int32) from hq] <;> rfl) ?_
  refine lv_iconst (v := 1) hx hb dX1_record_35 (by decide) ?_
  refine lv_iadd hx hb dX1_record_36 ?_
  refine W.eq (g2 := F0 m 37 ls [.int 2, .ref (A 43)]) (by rw [show (1 + 1) = (2 : Int32) from by decide] <;> rfl) ?_
  refine va_put (D := G.1) (ci := 1) (v := .int 2) (ty := .int) (C := RX1) (T := TX1) (N := 2) hx hb hts hinX1 tyX1 tyX1_ok nmX1 hown hK.1 hP hD hS 43 (wX_43 G A (f_X0_copyFrom_5_0 S) 1) rfl 1 (by decide) (hts (.fieldLink RX1 18 "WireLoops$History" "states" "I") (List.mem_of_getElem? (i := 1) rfl)) (fun _ h9 => h9) rfl (by decide +kernel) rfl rfl (Nat.le_of_ble_eq_true rfl) dX1_record_37 (fun H locs hP hD hS => ?_)
  rw [wX_s43 G A (f_X0_copyFrom_5_0 S) 1 _] at hP hD
  have hP : va_P G.1 vwCl (wX G A (su (f_X0_copyFrom_5_0 S) 7 0 (upd ((f_X0_copyFrom_5_0 S) 7 0) 1 2)) 1) H := hP
  have hD : va_D A0 (wX G A (su (f_X0_copyFrom_5_0 S) 7 0 (upd ((f_X0_copyFrom_5_0 S) 7 0) 1 2)) 1) := hD
  exact endZ hx hb hr hlocks hP hD hS rfl dX1_record_40
def f_X1_record_1_1_1 (S : XS) : XS := su (sc S 5 1) 7 0 (upd (S 7 0) 1 2)
theorem e_X1_record_1_1_1 (S : XS) : f_X1_record_1_1_1 S = su (sc S 5 1) 7 0 (upd (S 7 0) 1 2) := rfl
set_option maxHeartbeats 4000000 in
set_option maxRecDepth 100000 in
theorem c_X1_record_1_1_1 (l : Launch) (G : GG) (A : Nat → Nat) (S : XS)  (hq : S 7 0 1 = 1) (hbe : S 1 0 4 = 0 ∨ S 1 0 4 = 1) : Mz l yX1_record wsX1_record ({ frames := 2, cells := 0, slots := 0, locals := 47 } : Room) G [.ref (A 43), .ref (A (6 * 1))] (wX G A S 1) (wX G A (f_X1_record_1_1_1 S) 1) := by
  refine Mz.of (cc := cX1_record) (maxL := 3) (ret := none) (by decide) rfl (Nat.le_of_ble_eq_true rfl) ?_
  intro p e s m args below meth c A0 hA0 E hr hlocks hP hK hD hA hS ls hl
  have E : CallFix p m c cX1_record 3 s args wsX1_record RX1 := E
  have hx := E.1
  have hb := E.2.1
  have hml := E.2.2.1
  have hown := E.2.2.2.1
  have hts := E.2.2.2.2
  have hl : lv_has ls 3 [(0, .ref (A 43)), (1, .ref (A (6 * 1)))] := hl
  have hinX1 : ∀ w ∈ u_ws RX1 TX1 2, w ∈ wsX1_record := fun _ h => List.mem_cons_of_mem _ (List.mem_append_left _ (List.mem_append_right _ h))
  refine lv_aload_n hx hb dX1_record_0 rfl (lv_at hl 0 rfl) ?_
  refine va_get (D := G.1) (ci := 1) (v := .int (S 7 0 1)) (C := RX1) (T := TX1) (N := 2) hx hb hts hinX1 hown hK.1 hP 43 (wX_43 G A S 1) rfl 1 (by decide) (hts (.fieldLink RX1 18 "WireLoops$History" "states" "I") (List.mem_of_getElem? (i := 1) rfl)) (fun _ h9 => h9) rfl dX1_record_1 ?_
  refine W.eq (g2 := F0 m 4 ls [.int 1]) (by rw [hq] <;> rfl) ?_
  refine lv_iconst (v := 4) hx hb dX1_record_4 (by decide) ?_
  refine lv_icmp_lt (tgt := 12) hx hb dX1_record_5 (by decide) (fun c1 => ?_) (fun c1 => absurd (by decide) c1)
  refine lv_aload_n hx hb dX1_record_12 rfl (lv_at hl 0 rfl) ?_
  refine lv_aload_n hx hb dX1_record_13 rfl (lv_at hl 0 rfl) ?_
  refine va_get (D := G.1) (ci := 1) (v := .int (S 7 0 1)) (C := RX1) (T := TX1) (N := 2) hx hb hts hinX1 hown hK.1 hP 43 (wX_43 G A S 1) rfl 1 (by decide) (hts (.fieldLink RX1 18 "WireLoops$History" "states" "I") (List.mem_of_getElem? (i := 1) rfl)) (fun _ h9 => h9) rfl dX1_record_14 ?_
  refine W.eq (g2 := F0 m 17 ls [.int 1, .ref (A 43)]) (by rw [show (S 7 0 1) = (1 : Int32) from hq] <;> rfl) ?_
  refine crV (rest := []) (As := [.int 1]) E (c_X1_placeAt_1_1 l G A S) (cwV 1 hts gX1_record_X1_placeAt rfl rfl rfl (by decide +kernel) ⟨Nat.le_of_ble_eq_true rfl, Nat.le_of_ble_eq_true rfl⟩) hK hP 43 (wX_43 G A S 1) rfl rfl hl.1 rfl (Nat.le_of_ble_eq_true rfl) dX1_record_17 ⟨Nat.zero_le _, Nat.zero_le _⟩ ?_
  refine lv_astore_n (lv' := [(2, .ref (A (6 * 5))), (0, .ref (A 43)), (1, .ref (A (6 * 1)))]) hx hb dX1_record_20 rfl hl (by decide) rfl (fun ls hl => ?_)
  refine lv_aload_n hx hb dX1_record_21 rfl (lv_at hl 0 rfl) ?_
  refine lv_ifnull hx hb dX1_record_22 ?_
  refine lv_aload_n hx hb dX1_record_25 rfl (lv_at hl 0 rfl) ?_
  refine lv_aload_n hx hb dX1_record_26 rfl (lv_at hl 2 rfl) ?_
  refine czV (rest := []) (As := [.ref (A (6 * 1))]) E (c_X0_copyFrom_5_1 l G A S 1 hbe) (cwV 1 hts gX1_record_X0_copyFrom rfl rfl rfl (by decide +kernel) ⟨Nat.le_of_ble_eq_true rfl, Nat.le_of_ble_eq_true rfl⟩) hK hP hD hS hA (6 * 5) (wX_o G A S 1 5 (by decide)) rfl rfl hl.1 rfl (Nat.le_of_ble_eq_true rfl) dX1_record_27 ⟨Nat.zero_le _, Nat.zero_le _⟩ (fun H locs hP hD hS => ?_)
  refine lv_aload_n hx hb dX1_record_30 rfl (lv_at hl 1 rfl) ?_
  refine lv_dup hx hb dX1_record_31 rfl ?_
  refine va_get (D := G.1) (ci := 1) (v := .int (((f_X0_copyFrom_5_1 S) 7 0) 1)) (C := RX1) (T := TX1) (N := 2) hx hb hts hinX1 hown hK.1 hP 43 (wX_43 G A (f_X0_copyFrom_5_1 S) 1) rfl 1 (by decide) (hts (.fieldLink RX1 18 "WireLoops$History" "states" "I") (List.mem_of_getElem? (i := 1) rfl)) (fun _ h9 => h9) rfl dX1_record_32 ?_
  refine W.eq (g2 := F0 m 35 ls [.int 1, .ref (A 43)]) (by rw [show (((f_X0_copyFrom_5_1 S) 7 0) 1) = (1 : Int32) from hq] <;> rfl) ?_
  refine lv_iconst (v := 1) hx hb dX1_record_35 (by decide) ?_
  refine lv_iadd hx hb dX1_record_36 ?_
  refine W.eq (g2 := F0 m 37 ls [.int 2, .ref (A 43)]) (by rw [show (1 + 1) = (2 : Int32) from by decide] <;> rfl) ?_
  refine va_put (D := G.1) (ci := 1) (v := .int 2) (ty := .int) (C := RX1) (T := TX1) (N := 2) hx hb hts hinX1 tyX1 tyX1_ok nmX1 hown hK.1 hP hD hS 43 (wX_43 G A (f_X0_copyFrom_5_1 S) 1) rfl 1 (by decide) (hts (.fieldLink RX1 18 "WireLoops$History" "states" "I") (List.mem_of_getElem? (i := 1) rfl)) (fun _ h9 => h9) rfl (by decide +kernel) rfl rfl (Nat.le_of_ble_eq_true rfl) dX1_record_37 (fun H locs hP hD hS => ?_)
  rw [wX_s43 G A (f_X0_copyFrom_5_1 S) 1 _] at hP hD
  have hP : va_P G.1 vwCl (wX G A (su (f_X0_copyFrom_5_1 S) 7 0 (upd ((f_X0_copyFrom_5_1 S) 7 0) 1 2)) 1) H := hP
  have hD : va_D A0 (wX G A (su (f_X0_copyFrom_5_1 S) 7 0 (upd ((f_X0_copyFrom_5_1 S) 7 0) 1 2)) 1) := hD
  exact endZ hx hb hr hlocks hP hD hS rfl dX1_record_40
def f_X1_record_0_2_1 (S : XS) : XS := su (sc S 6 0) 7 0 (upd (S 7 0) 1 3)
theorem e_X1_record_0_2_1 (S : XS) : f_X1_record_0_2_1 S = su (sc S 6 0) 7 0 (upd (S 7 0) 1 3) := rfl
set_option maxHeartbeats 4000000 in
set_option maxRecDepth 100000 in
theorem c_X1_record_0_2_1 (l : Launch) (G : GG) (A : Nat → Nat) (S : XS)  (hq : S 7 0 1 = 2) (hbe : S 0 0 4 = 0 ∨ S 0 0 4 = 1) : Mz l yX1_record wsX1_record ({ frames := 2, cells := 0, slots := 0, locals := 47 } : Room) G [.ref (A 43), .ref (A (6 * 0))] (wX G A S 1) (wX G A (f_X1_record_0_2_1 S) 1) := by
  refine Mz.of (cc := cX1_record) (maxL := 3) (ret := none) (by decide) rfl (Nat.le_of_ble_eq_true rfl) ?_
  intro p e s m args below meth c A0 hA0 E hr hlocks hP hK hD hA hS ls hl
  have E : CallFix p m c cX1_record 3 s args wsX1_record RX1 := E
  have hx := E.1
  have hb := E.2.1
  have hml := E.2.2.1
  have hown := E.2.2.2.1
  have hts := E.2.2.2.2
  have hl : lv_has ls 3 [(0, .ref (A 43)), (1, .ref (A (6 * 0)))] := hl
  have hinX1 : ∀ w ∈ u_ws RX1 TX1 2, w ∈ wsX1_record := fun _ h => List.mem_cons_of_mem _ (List.mem_append_left _ (List.mem_append_right _ h))
  refine lv_aload_n hx hb dX1_record_0 rfl (lv_at hl 0 rfl) ?_
  refine va_get (D := G.1) (ci := 1) (v := .int (S 7 0 1)) (C := RX1) (T := TX1) (N := 2) hx hb hts hinX1 hown hK.1 hP 43 (wX_43 G A S 1) rfl 1 (by decide) (hts (.fieldLink RX1 18 "WireLoops$History" "states" "I") (List.mem_of_getElem? (i := 1) rfl)) (fun _ h9 => h9) rfl dX1_record_1 ?_
  refine W.eq (g2 := F0 m 4 ls [.int 2]) (by rw [hq] <;> rfl) ?_
  refine lv_iconst (v := 4) hx hb dX1_record_4 (by decide) ?_
  refine lv_icmp_lt (tgt := 12) hx hb dX1_record_5 (by decide) (fun c1 => ?_) (fun c1 => absurd (by decide) c1)
  refine lv_aload_n hx hb dX1_record_12 rfl (lv_at hl 0 rfl) ?_
  refine lv_aload_n hx hb dX1_record_13 rfl (lv_at hl 0 rfl) ?_
  refine va_get (D := G.1) (ci := 1) (v := .int (S 7 0 1)) (C := RX1) (T := TX1) (N := 2) hx hb hts hinX1 hown hK.1 hP 43 (wX_43 G A S 1) rfl 1 (by decide) (hts (.fieldLink RX1 18 "WireLoops$History" "states" "I") (List.mem_of_getElem? (i := 1) rfl)) (fun _ h9 => h9) rfl dX1_record_14 ?_
  refine W.eq (g2 := F0 m 17 ls [.int 2, .ref (A 43)]) (by rw [show (S 7 0 1) = (2 : Int32) from hq] <;> rfl) ?_
  refine crV (rest := []) (As := [.int 2]) E (c_X1_placeAt_2_1 l G A S) (cwV 1 hts gX1_record_X1_placeAt rfl rfl rfl (by decide +kernel) ⟨Nat.le_of_ble_eq_true rfl, Nat.le_of_ble_eq_true rfl⟩) hK hP 43 (wX_43 G A S 1) rfl rfl hl.1 rfl (Nat.le_of_ble_eq_true rfl) dX1_record_17 ⟨Nat.zero_le _, Nat.zero_le _⟩ ?_
  refine lv_astore_n (lv' := [(2, .ref (A (6 * 6))), (0, .ref (A 43)), (1, .ref (A (6 * 0)))]) hx hb dX1_record_20 rfl hl (by decide) rfl (fun ls hl => ?_)
  refine lv_aload_n hx hb dX1_record_21 rfl (lv_at hl 0 rfl) ?_
  refine lv_ifnull hx hb dX1_record_22 ?_
  refine lv_aload_n hx hb dX1_record_25 rfl (lv_at hl 0 rfl) ?_
  refine lv_aload_n hx hb dX1_record_26 rfl (lv_at hl 2 rfl) ?_
  refine czV (rest := []) (As := [.ref (A (6 * 0))]) E (c_X0_copyFrom_6_0 l G A S 1 hbe) (cwV 1 hts gX1_record_X0_copyFrom rfl rfl rfl (by decide +kernel) ⟨Nat.le_of_ble_eq_true rfl, Nat.le_of_ble_eq_true rfl⟩) hK hP hD hS hA (6 * 6) (wX_o G A S 1 6 (by decide)) rfl rfl hl.1 rfl (Nat.le_of_ble_eq_true rfl) dX1_record_27 ⟨Nat.zero_le _, Nat.zero_le _⟩ (fun H locs hP hD hS => ?_)
  refine lv_aload_n hx hb dX1_record_30 rfl (lv_at hl 1 rfl) ?_
  refine lv_dup hx hb dX1_record_31 rfl ?_
  refine va_get (D := G.1) (ci := 1) (v := .int (((f_X0_copyFrom_6_0 S) 7 0) 1)) (C := RX1) (T := TX1) (N := 2) hx hb hts hinX1 hown hK.1 hP 43 (wX_43 G A (f_X0_copyFrom_6_0 S) 1) rfl 1 (by decide) (hts (.fieldLink RX1 18 "WireLoops$History" "states" "I") (List.mem_of_getElem? (i := 1) rfl)) (fun _ h9 => h9) rfl dX1_record_32 ?_
  refine W.eq (g2 := F0 m 35 ls [.int 2, .ref (A 43)]) (by rw [show (((f_X0_copyFrom_6_0 S) 7 0) 1) = (2 : Int32) from hq] <;> rfl) ?_
  refine lv_iconst (v := 1) hx hb dX1_record_35 (by decide) ?_
  refine lv_iadd hx hb dX1_record_36 ?_
  refine W.eq (g2 := F0 m 37 ls [.int 3, .ref (A 43)]) (by rw [show (2 + 1) = (3 : Int32) from by decide] <;> rfl) ?_
  refine va_put (D := G.1) (ci := 1) (v := .int 3) (ty := .int) (C := RX1) (T := TX1) (N := 2) hx hb hts hinX1 tyX1 tyX1_ok nmX1 hown hK.1 hP hD hS 43 (wX_43 G A (f_X0_copyFrom_6_0 S) 1) rfl 1 (by decide) (hts (.fieldLink RX1 18 "WireLoops$History" "states" "I") (List.mem_of_getElem? (i := 1) rfl)) (fun _ h9 => h9) rfl (by decide +kernel) rfl rfl (Nat.le_of_ble_eq_true rfl) dX1_record_37 (fun H locs hP hD hS => ?_)
  rw [wX_s43 G A (f_X0_copyFrom_6_0 S) 1 _] at hP hD
  have hP : va_P G.1 vwCl (wX G A (su (f_X0_copyFrom_6_0 S) 7 0 (upd ((f_X0_copyFrom_6_0 S) 7 0) 1 3)) 1) H := hP
  have hD : va_D A0 (wX G A (su (f_X0_copyFrom_6_0 S) 7 0 (upd ((f_X0_copyFrom_6_0 S) 7 0) 1 3)) 1) := hD
  exact endZ hx hb hr hlocks hP hD hS rfl dX1_record_40
def f_X1_record_1_2_1 (S : XS) : XS := su (sc S 6 1) 7 0 (upd (S 7 0) 1 3)
theorem e_X1_record_1_2_1 (S : XS) : f_X1_record_1_2_1 S = su (sc S 6 1) 7 0 (upd (S 7 0) 1 3) := rfl
set_option maxHeartbeats 4000000 in
set_option maxRecDepth 100000 in
theorem c_X1_record_1_2_1 (l : Launch) (G : GG) (A : Nat → Nat) (S : XS)  (hq : S 7 0 1 = 2) (hbe : S 1 0 4 = 0 ∨ S 1 0 4 = 1) : Mz l yX1_record wsX1_record ({ frames := 2, cells := 0, slots := 0, locals := 47 } : Room) G [.ref (A 43), .ref (A (6 * 1))] (wX G A S 1) (wX G A (f_X1_record_1_2_1 S) 1) := by
  refine Mz.of (cc := cX1_record) (maxL := 3) (ret := none) (by decide) rfl (Nat.le_of_ble_eq_true rfl) ?_
  intro p e s m args below meth c A0 hA0 E hr hlocks hP hK hD hA hS ls hl
  have E : CallFix p m c cX1_record 3 s args wsX1_record RX1 := E
  have hx := E.1
  have hb := E.2.1
  have hml := E.2.2.1
  have hown := E.2.2.2.1
  have hts := E.2.2.2.2
  have hl : lv_has ls 3 [(0, .ref (A 43)), (1, .ref (A (6 * 1)))] := hl
  have hinX1 : ∀ w ∈ u_ws RX1 TX1 2, w ∈ wsX1_record := fun _ h => List.mem_cons_of_mem _ (List.mem_append_left _ (List.mem_append_right _ h))
  refine lv_aload_n hx hb dX1_record_0 rfl (lv_at hl 0 rfl) ?_
  refine va_get (D := G.1) (ci := 1) (v := .int (S 7 0 1)) (C := RX1) (T := TX1) (N := 2) hx hb hts hinX1 hown hK.1 hP 43 (wX_43 G A S 1) rfl 1 (by decide) (hts (.fieldLink RX1 18 "WireLoops$History" "states" "I") (List.mem_of_getElem? (i := 1) rfl)) (fun _ h9 => h9) rfl dX1_record_1 ?_
  refine W.eq (g2 := F0 m 4 ls [.int 2]) (by rw [hq] <;> rfl) ?_
  refine lv_iconst (v := 4) hx hb dX1_record_4 (by decide) ?_
  refine lv_icmp_lt (tgt := 12) hx hb dX1_record_5 (by decide) (fun c1 => ?_) (fun c1 => absurd (by decide) c1)
  refine lv_aload_n hx hb dX1_record_12 rfl (lv_at hl 0 rfl) ?_
  refine lv_aload_n hx hb dX1_record_13 rfl (lv_at hl 0 rfl) ?_
  refine va_get (D := G.1) (ci := 1) (v := .int (S 7 0 1)) (C := RX1) (T := TX1) (N := 2) hx hb hts hinX1 hown hK.1 hP 43 (wX_43 G A S 1) rfl 1 (by decide) (hts (.fieldLink RX1 18 "WireLoops$History" "states" "I") (List.mem_of_getElem? (i := 1) rfl)) (fun _ h9 => h9) rfl dX1_record_14 ?_
  refine W.eq (g2 := F0 m 17 ls [.int 2, .ref (A 43)]) (by rw [show (S 7 0 1) = (2 : Int32) from hq] <;> rfl) ?_
  refine crV (rest := []) (As := [.int 2]) E (c_X1_placeAt_2_1 l G A S) (cwV 1 hts gX1_record_X1_placeAt rfl rfl rfl (by decide +kernel) ⟨Nat.le_of_ble_eq_true rfl, Nat.le_of_ble_eq_true rfl⟩) hK hP 43 (wX_43 G A S 1) rfl rfl hl.1 rfl (Nat.le_of_ble_eq_true rfl) dX1_record_17 ⟨Nat.zero_le _, Nat.zero_le _⟩ ?_
  refine lv_astore_n (lv' := [(2, .ref (A (6 * 6))), (0, .ref (A 43)), (1, .ref (A (6 * 1)))]) hx hb dX1_record_20 rfl hl (by decide) rfl (fun ls hl => ?_)
  refine lv_aload_n hx hb dX1_record_21 rfl (lv_at hl 0 rfl) ?_
  refine lv_ifnull hx hb dX1_record_22 ?_
  refine lv_aload_n hx hb dX1_record_25 rfl (lv_at hl 0 rfl) ?_
  refine lv_aload_n hx hb dX1_record_26 rfl (lv_at hl 2 rfl) ?_
  refine czV (rest := []) (As := [.ref (A (6 * 1))]) E (c_X0_copyFrom_6_1 l G A S 1 hbe) (cwV 1 hts gX1_record_X0_copyFrom rfl rfl rfl (by decide +kernel) ⟨Nat.le_of_ble_eq_true rfl, Nat.le_of_ble_eq_true rfl⟩) hK hP hD hS hA (6 * 6) (wX_o G A S 1 6 (by decide)) rfl rfl hl.1 rfl (Nat.le_of_ble_eq_true rfl) dX1_record_27 ⟨Nat.zero_le _, Nat.zero_le _⟩ (fun H locs hP hD hS => ?_)
  refine lv_aload_n hx hb dX1_record_30 rfl (lv_at hl 1 rfl) ?_
  refine lv_dup hx hb dX1_record_31 rfl ?_
  refine va_get (D := G.1) (ci := 1) (v := .int (((f_X0_copyFrom_6_1 S) 7 0) 1)) (C := RX1) (T := TX1) (N := 2) hx hb hts hinX1 hown hK.1 hP 43 (wX_43 G A (f_X0_copyFrom_6_1 S) 1) rfl 1 (by decide) (hts (.fieldLink RX1 18 "WireLoops$History" "states" "I") (List.mem_of_getElem? (i := 1) rfl)) (fun _ h9 => h9) rfl dX1_record_32 ?_
  refine W.eq (g2 := F0 m 35 ls [.int 2, .ref (A 43)]) (by rw [show (((f_X0_copyFrom_6_1 S) 7 0) 1) = (2 : Int32) from hq] <;> rfl) ?_
  refine lv_iconst (v := 1) hx hb dX1_record_35 (by decide) ?_
  refine lv_iadd hx hb dX1_record_36 ?_
  refine W.eq (g2 := F0 m 37 ls [.int 3, .ref (A 43)]) (by rw [show (2 + 1) = (3 : Int32) from by decide] <;> rfl) ?_
  refine va_put (D := G.1) (ci := 1) (v := .int 3) (ty := .int) (C := RX1) (T := TX1) (N := 2) hx hb hts hinX1 tyX1 tyX1_ok nmX1 hown hK.1 hP hD hS 43 (wX_43 G A (f_X0_copyFrom_6_1 S) 1) rfl 1 (by decide) (hts (.fieldLink RX1 18 "WireLoops$History" "states" "I") (List.mem_of_getElem? (i := 1) rfl)) (fun _ h9 => h9) rfl (by decide +kernel) rfl rfl (Nat.le_of_ble_eq_true rfl) dX1_record_37 (fun H locs hP hD hS => ?_)
  rw [wX_s43 G A (f_X0_copyFrom_6_1 S) 1 _] at hP hD
  have hP : va_P G.1 vwCl (wX G A (su (f_X0_copyFrom_6_1 S) 7 0 (upd ((f_X0_copyFrom_6_1 S) 7 0) 1 3)) 1) H := hP
  have hD : va_D A0 (wX G A (su (f_X0_copyFrom_6_1 S) 7 0 (upd ((f_X0_copyFrom_6_1 S) 7 0) 1 3)) 1) := hD
  exact endZ hx hb hr hlocks hP hD hS rfl dX1_record_40
def f_X1_record_0_3_1 (S : XS) : XS := su (sc S 3 0) 7 0 (upd (S 7 0) 1 4)
theorem e_X1_record_0_3_1 (S : XS) : f_X1_record_0_3_1 S = su (sc S 3 0) 7 0 (upd (S 7 0) 1 4) := rfl
set_option maxHeartbeats 4000000 in
set_option maxRecDepth 100000 in
theorem c_X1_record_0_3_1 (l : Launch) (G : GG) (A : Nat → Nat) (S : XS)  (hq : S 7 0 1 = 3) (hbe : S 0 0 4 = 0 ∨ S 0 0 4 = 1) : Mz l yX1_record wsX1_record ({ frames := 2, cells := 0, slots := 0, locals := 47 } : Room) G [.ref (A 43), .ref (A (6 * 0))] (wX G A S 1) (wX G A (f_X1_record_0_3_1 S) 1) := by
  refine Mz.of (cc := cX1_record) (maxL := 3) (ret := none) (by decide) rfl (Nat.le_of_ble_eq_true rfl) ?_
  intro p e s m args below meth c A0 hA0 E hr hlocks hP hK hD hA hS ls hl
  have E : CallFix p m c cX1_record 3 s args wsX1_record RX1 := E
  have hx := E.1
  have hb := E.2.1
  have hml := E.2.2.1
  have hown := E.2.2.2.1
  have hts := E.2.2.2.2
  have hl : lv_has ls 3 [(0, .ref (A 43)), (1, .ref (A (6 * 0)))] := hl
  have hinX1 : ∀ w ∈ u_ws RX1 TX1 2, w ∈ wsX1_record := fun _ h => List.mem_cons_of_mem _ (List.mem_append_left _ (List.mem_append_right _ h))
  refine lv_aload_n hx hb dX1_record_0 rfl (lv_at hl 0 rfl) ?_
  refine va_get (D := G.1) (ci := 1) (v := .int (S 7 0 1)) (C := RX1) (T := TX1) (N := 2) hx hb hts hinX1 hown hK.1 hP 43 (wX_43 G A S 1) rfl 1 (by decide) (hts (.fieldLink RX1 18 "WireLoops$History" "states" "I") (List.mem_of_getElem? (i := 1) rfl)) (fun _ h9 => h9) rfl dX1_record_1 ?_
  refine W.eq (g2 := F0 m 4 ls [.int 3]) (by rw [hq] <;> rfl) ?_
  refine lv_iconst (v := 4) hx hb dX1_record_4 (by decide) ?_
  refine lv_icmp_lt (tgt := 12) hx hb dX1_record_5 (by decide) (fun c1 => ?_) (fun c1 => absurd (by decide) c1)
  refine lv_aload_n hx hb dX1_record_12 rfl (lv_at hl 0 rfl) ?_
  refine lv_aload_n hx hb dX1_record_13 rfl (lv_at hl 0 rfl) ?_
  refine va_get (D := G.1) (ci := 1) (v := .int (S 7 0 1)) (C := RX1) (T := TX1) (N := 2) hx hb hts hinX1 hown hK.1 hP 43 (wX_43 G A S 1) rfl 1 (by decide) (hts (.fieldLink RX1 18 "WireLoops$History" "states" "I") (List.mem_of_getElem? (i := 1) rfl)) (fun _ h9 => h9) rfl dX1_record_14 ?_
  refine W.eq (g2 := F0 m 17 ls [.int 3, .ref (A 43)]) (by rw [show (S 7 0 1) = (3 : Int32) from hq] <;> rfl) ?_
  refine crV (rest := []) (As := [.int 3]) E (c_X1_placeAt_3_1 l G A S) (cwV 1 hts gX1_record_X1_placeAt rfl rfl rfl (by decide +kernel) ⟨Nat.le_of_ble_eq_true rfl, Nat.le_of_ble_eq_true rfl⟩) hK hP 43 (wX_43 G A S 1) rfl rfl hl.1 rfl (Nat.le_of_ble_eq_true rfl) dX1_record_17 ⟨Nat.zero_le _, Nat.zero_le _⟩ ?_
  refine lv_astore_n (lv' := [(2, .ref (A (6 * 3))), (0, .ref (A 43)), (1, .ref (A (6 * 0)))]) hx hb dX1_record_20 rfl hl (by decide) rfl (fun ls hl => ?_)
  refine lv_aload_n hx hb dX1_record_21 rfl (lv_at hl 0 rfl) ?_
  refine lv_ifnull hx hb dX1_record_22 ?_
  refine lv_aload_n hx hb dX1_record_25 rfl (lv_at hl 0 rfl) ?_
  refine lv_aload_n hx hb dX1_record_26 rfl (lv_at hl 2 rfl) ?_
  refine czV (rest := []) (As := [.ref (A (6 * 0))]) E (c_X0_copyFrom_3_0 l G A S 1 hbe) (cwV 1 hts gX1_record_X0_copyFrom rfl rfl rfl (by decide +kernel) ⟨Nat.le_of_ble_eq_true rfl, Nat.le_of_ble_eq_true rfl⟩) hK hP hD hS hA (6 * 3) (wX_o G A S 1 3 (by decide)) rfl rfl hl.1 rfl (Nat.le_of_ble_eq_true rfl) dX1_record_27 ⟨Nat.zero_le _, Nat.zero_le _⟩ (fun H locs hP hD hS => ?_)
  refine lv_aload_n hx hb dX1_record_30 rfl (lv_at hl 1 rfl) ?_
  refine lv_dup hx hb dX1_record_31 rfl ?_
  refine va_get (D := G.1) (ci := 1) (v := .int (((f_X0_copyFrom_3_0 S) 7 0) 1)) (C := RX1) (T := TX1) (N := 2) hx hb hts hinX1 hown hK.1 hP 43 (wX_43 G A (f_X0_copyFrom_3_0 S) 1) rfl 1 (by decide) (hts (.fieldLink RX1 18 "WireLoops$History" "states" "I") (List.mem_of_getElem? (i := 1) rfl)) (fun _ h9 => h9) rfl dX1_record_32 ?_
  refine W.eq (g2 := F0 m 35 ls [.int 3, .ref (A 43)]) (by rw [show (((f_X0_copyFrom_3_0 S) 7 0) 1) = (3 : Int32) from hq] <;> rfl) ?_
  refine lv_iconst (v := 1) hx hb dX1_record_35 (by decide) ?_
  refine lv_iadd hx hb dX1_record_36 ?_
  refine W.eq (g2 := F0 m 37 ls [.int 4, .ref (A 43)]) (by rw [show (3 + 1) = (4 : Int32) from by decide] <;> rfl) ?_
  refine va_put (D := G.1) (ci := 1) (v := .int 4) (ty := .int) (C := RX1) (T := TX1) (N := 2) hx hb hts hinX1 tyX1 tyX1_ok nmX1 hown hK.1 hP hD hS 43 (wX_43 G A (f_X0_copyFrom_3_0 S) 1) rfl 1 (by decide) (hts (.fieldLink RX1 18 "WireLoops$History" "states" "I") (List.mem_of_getElem? (i := 1) rfl)) (fun _ h9 => h9) rfl (by decide +kernel) rfl rfl (Nat.le_of_ble_eq_true rfl) dX1_record_37 (fun H locs hP hD hS => ?_)
  rw [wX_s43 G A (f_X0_copyFrom_3_0 S) 1 _] at hP hD
  have hP : va_P G.1 vwCl (wX G A (su (f_X0_copyFrom_3_0 S) 7 0 (upd ((f_X0_copyFrom_3_0 S) 7 0) 1 4)) 1) H := hP
  have hD : va_D A0 (wX G A (su (f_X0_copyFrom_3_0 S) 7 0 (upd ((f_X0_copyFrom_3_0 S) 7 0) 1 4)) 1) := hD
  exact endZ hx hb hr hlocks hP hD hS rfl dX1_record_40
def f_X1_record_1_3_1 (S : XS) : XS := su (sc S 3 1) 7 0 (upd (S 7 0) 1 4)
theorem e_X1_record_1_3_1 (S : XS) : f_X1_record_1_3_1 S = su (sc S 3 1) 7 0 (upd (S 7 0) 1 4) := rfl
set_option maxHeartbeats 4000000 in
set_option maxRecDepth 100000 in
theorem c_X1_record_1_3_1 (l : Launch) (G : GG) (A : Nat → Nat) (S : XS)  (hq : S 7 0 1 = 3) (hbe : S 1 0 4 = 0 ∨ S 1 0 4 = 1) : Mz l yX1_record wsX1_record ({ frames := 2, cells := 0, slots := 0, locals := 47 } : Room) G [.ref (A 43), .ref (A (6 * 1))] (wX G A S 1) (wX G A (f_X1_record_1_3_1 S) 1) := by
  refine Mz.of (cc := cX1_record) (maxL := 3) (ret := none) (by decide) rfl (Nat.le_of_ble_eq_true rfl) ?_
  intro p e s m args below meth c A0 hA0 E hr hlocks hP hK hD hA hS ls hl
  have E : CallFix p m c cX1_record 3 s args wsX1_record RX1 := E
  have hx := E.1
  have hb := E.2.1
  have hml := E.2.2.1
  have hown := E.2.2.2.1
  have hts := E.2.2.2.2
  have hl : lv_has ls 3 [(0, .ref (A 43)), (1, .ref (A (6 * 1)))] := hl
  have hinX1 : ∀ w ∈ u_ws RX1 TX1 2, w ∈ wsX1_record := fun _ h => List.mem_cons_of_mem _ (List.mem_append_left _ (List.mem_append_right _ h))
  refine lv_aload_n hx hb dX1_record_0 rfl (lv_at hl 0 rfl) ?_
  refine va_get (D := G.1) (ci := 1) (v := .int (S 7 0 1)) (C := RX1) (T := TX1) (N := 2) hx hb hts hinX1 hown hK.1 hP 43 (wX_43 G A S 1) rfl 1 (by decide) (hts (.fieldLink RX1 18 "WireLoops$History" "states" "I") (List.mem_of_getElem? (i := 1) rfl)) (fun _ h9 => h9) rfl dX1_record_1 ?_
  refine W.eq (g2 := F0 m 4 ls [.int 3]) (by rw [hq] <;> rfl) ?_
  refine lv_iconst (v := 4) hx hb dX1_record_4 (by decide) ?_
  refine lv_icmp_lt (tgt := 12) hx hb dX1_record_5 (by decide) (fun c1 => ?_) (fun c1 => absurd (by decide) c1)
  refine lv_aload_n hx hb dX1_record_12 rfl (lv_at hl 0 rfl) ?_
  refine lv_aload_n hx hb dX1_record_13 rfl (lv_at hl 0 rfl) ?_
  refine va_get (D := G.1) (ci := 1) (v := .int (S 7 0 1)) (C := RX1) (T := TX1) (N := 2) hx hb hts hinX1 hown hK.1 hP 43 (wX_43 G A S 1) rfl 1 (by decide) (hts (.fieldLink RX1 18 "WireLoops$History" "states" "I") (List.mem_of_getElem? (i := 1) rfl)) (fun _ h9 => h9) rfl dX1_record_14 ?_
  refine W.eq (g2 := F0 m 17 ls [.int 3, .ref (A 43)]) (by rw [show (S 7 0 1) = (3 : Int32) from hq] <;> rfl) ?_
  refine crV (rest := []) (As := [.int 3]) E (c_X1_placeAt_3_1 l G A S) (cwV 1 hts gX1_record_X1_placeAt rfl rfl rfl (by decide +kernel) ⟨Nat.le_of_ble_eq_true rfl, Nat.le_of_ble_eq_true rfl⟩) hK hP 43 (wX_43 G A S 1) rfl rfl hl.1 rfl (Nat.le_of_ble_eq_true rfl) dX1_record_17 ⟨Nat.zero_le _, Nat.zero_le _⟩ ?_
  refine lv_astore_n (lv' := [(2, .ref (A (6 * 3))), (0, .ref (A 43)), (1, .ref (A (6 * 1)))]) hx hb dX1_record_20 rfl hl (by decide) rfl (fun ls hl => ?_)
  refine lv_aload_n hx hb dX1_record_21 rfl (lv_at hl 0 rfl) ?_
  refine lv_ifnull hx hb dX1_record_22 ?_
  refine lv_aload_n hx hb dX1_record_25 rfl (lv_at hl 0 rfl) ?_
  refine lv_aload_n hx hb dX1_record_26 rfl (lv_at hl 2 rfl) ?_
  refine czV (rest := []) (As := [.ref (A (6 * 1))]) E (c_X0_copyFrom_3_1 l G A S 1 hbe) (cwV 1 hts gX1_record_X0_copyFrom rfl rfl rfl (by decide +kernel) ⟨Nat.le_of_ble_eq_true rfl, Nat.le_of_ble_eq_true rfl⟩) hK hP hD hS hA (6 * 3) (wX_o G A S 1 3 (by decide)) rfl rfl hl.1 rfl (Nat.le_of_ble_eq_true rfl) dX1_record_27 ⟨Nat.zero_le _, Nat.zero_le _⟩ (fun H locs hP hD hS => ?_)
  refine lv_aload_n hx hb dX1_record_30 rfl (lv_at hl 1 rfl) ?_
  refine lv_dup hx hb dX1_record_31 rfl ?_
  refine va_get (D := G.1) (ci := 1) (v := .int (((f_X0_copyFrom_3_1 S) 7 0) 1)) (C := RX1) (T := TX1) (N := 2) hx hb hts hinX1 hown hK.1 hP 43 (wX_43 G A (f_X0_copyFrom_3_1 S) 1) rfl 1 (by decide) (hts (.fieldLink RX1 18 "WireLoops$History" "states" "I") (List.mem_of_getElem? (i := 1) rfl)) (fun _ h9 => h9) rfl dX1_record_32 ?_
  refine W.eq (g2 := F0 m 35 ls [.int 3, .ref (A 43)]) (by rw [show (((f_X0_copyFrom_3_1 S) 7 0) 1) = (3 : Int32) from hq] <;> rfl) ?_
  refine lv_iconst (v := 1) hx hb dX1_record_35 (by decide) ?_
  refine lv_iadd hx hb dX1_record_36 ?_
  refine W.eq (g2 := F0 m 37 ls [.int 4, .ref (A 43)]) (by rw [show (3 + 1) = (4 : Int32) from by decide] <;> rfl) ?_
  refine va_put (D := G.1) (ci := 1) (v := .int 4) (ty := .int) (C := RX1) (T := TX1) (N := 2) hx hb hts hinX1 tyX1 tyX1_ok nmX1 hown hK.1 hP hD hS 43 (wX_43 G A (f_X0_copyFrom_3_1 S) 1) rfl 1 (by decide) (hts (.fieldLink RX1 18 "WireLoops$History" "states" "I") (List.mem_of_getElem? (i := 1) rfl)) (fun _ h9 => h9) rfl (by decide +kernel) rfl rfl (Nat.le_of_ble_eq_true rfl) dX1_record_37 (fun H locs hP hD hS => ?_)
  rw [wX_s43 G A (f_X0_copyFrom_3_1 S) 1 _] at hP hD
  have hP : va_P G.1 vwCl (wX G A (su (f_X0_copyFrom_3_1 S) 7 0 (upd ((f_X0_copyFrom_3_1 S) 7 0) 1 4)) 1) H := hP
  have hD : va_D A0 (wX G A (su (f_X0_copyFrom_3_1 S) 7 0 (upd ((f_X0_copyFrom_3_1 S) 7 0) 1 4)) 1) := hD
  exact endZ hx hb hr hlocks hP hD hS rfl dX1_record_40
def f_X1_record_0_4_1 (S : XS) : XS := su (sc (su S 7 0 (upd (S 7 0) 1 3)) 4 0) 7 0 (upd (upd (S 7 0) 1 3) 1 4)
theorem e_X1_record_0_4_1 (S : XS) : f_X1_record_0_4_1 S = su (sc (su S 7 0 (upd (S 7 0) 1 3)) 4 0) 7 0 (upd (upd (S 7 0) 1 3) 1 4) := rfl
set_option maxHeartbeats 4000000 in
set_option maxRecDepth 100000 in
theorem c_X1_record_0_4_1 (l : Launch) (G : GG) (A : Nat → Nat) (S : XS)  (hq : S 7 0 1 = 4) (hbe : S 0 0 4 = 0 ∨ S 0 0 4 = 1) : Mz l yX1_record wsX1_record ({ frames := 2, cells := 0, slots := 0, locals := 47 } : Room) G [.ref (A 43), .ref (A (6 * 0))] (wX G A S 1) (wX G A (f_X1_record_0_4_1 S) 2) := by
  refine Mz.of (cc := cX1_record) (maxL := 3) (ret := none) (by decide) rfl (Nat.le_of_ble_eq_true rfl) ?_
  intro p e s m args below meth c A0 hA0 E hr hlocks hP hK hD hA hS ls hl
  have E : CallFix p m c cX1_record 3 s args wsX1_record RX1 := E
  have hx := E.1
  have hb := E.2.1
  have hml := E.2.2.1
  have hown := E.2.2.2.1
  have hts := E.2.2.2.2
  have hl : lv_has ls 3 [(0, .ref (A 43)), (1, .ref (A (6 * 0)))] := hl
  have hinX1 : ∀ w ∈ u_ws RX1 TX1 2, w ∈ wsX1_record := fun _ h => List.mem_cons_of_mem _ (List.mem_append_left _ (List.mem_append_right _ h))
  refine lv_aload_n hx hb dX1_record_0 rfl (lv_at hl 0 rfl) ?_
  refine va_get (D := G.1) (ci := 1) (v := .int (S 7 0 1)) (C := RX1) (T := TX1) (N := 2) hx hb hts hinX1 hown hK.1 hP 43 (wX_43 G A S 1) rfl 1 (by decide) (hts (.fieldLink RX1 18 "WireLoops$History" "states" "I") (List.mem_of_getElem? (i := 1) rfl)) (fun _ h9 => h9) rfl dX1_record_1 ?_
  refine W.eq (g2 := F0 m 4 ls [.int 4]) (by rw [hq] <;> rfl) ?_
  refine lv_iconst (v := 4) hx hb dX1_record_4 (by decide) ?_
  refine lv_icmp_lt (tgt := 12) hx hb dX1_record_5 (by decide) (fun c1 => absurd c1 (by decide)) (fun c1 => ?_)
  refine lv_aload_n hx hb dX1_record_8 rfl (lv_at hl 0 rfl) ?_
  refine czV (rest := []) (As := []) E (c_X1_dropOldest_1 l G A S) (cwV 0 hts gX1_record_X1_dropOldest rfl rfl rfl (by decide +kernel) ⟨Nat.le_of_ble_eq_true rfl, Nat.le_of_ble_eq_true rfl⟩) hK hP hD hS hA 43 (wX_43 G A S 1) rfl rfl hl.1 rfl (Nat.le_of_ble_eq_true rfl) dX1_record_9 ⟨Nat.zero_le _, Nat.zero_le _⟩ (fun H locs hP hD hS => ?_)
  refine lv_aload_n hx hb dX1_record_12 rfl (lv_at hl 0 rfl) ?_
  refine lv_aload_n hx hb dX1_record_13 rfl (lv_at hl 0 rfl) ?_
  refine va_get (D := G.1) (ci := 1) (v := .int (((f_X1_dropOldest_1 S) 7 0) 1)) (C := RX1) (T := TX1) (N := 2) hx hb hts hinX1 hown hK.1 hP 43 (wX_43 G A (f_X1_dropOldest_1 S) 2) rfl 1 (by decide) (hts (.fieldLink RX1 18 "WireLoops$History" "states" "I") (List.mem_of_getElem? (i := 1) rfl)) (fun _ h9 => h9) rfl dX1_record_14 ?_
  refine W.eq (g2 := F0 m 17 ls [.int 3, .ref (A 43)]) (by rw [show (((f_X1_dropOldest_1 S) 7 0) 1) = (3 : Int32) from rfl] <;> rfl) ?_
  refine crV (rest := []) (As := [.int 3]) E (c_X1_placeAt_3_2 l G A (f_X1_dropOldest_1 S)) (cwV 1 hts gX1_record_X1_placeAt rfl rfl rfl (by decide +kernel) ⟨Nat.le_of_ble_eq_true rfl, Nat.le_of_ble_eq_true rfl⟩) hK hP 43 (wX_43 G A (f_X1_dropOldest_1 S) 2) rfl rfl hl.1 rfl (Nat.le_of_ble_eq_true rfl) dX1_record_17 ⟨Nat.zero_le _, Nat.zero_le _⟩ ?_
  refine lv_astore_n (lv' := [(2, .ref (A (6 * 4))), (0, .ref (A 43)), (1, .ref (A (6 * 0)))]) hx hb dX1_record_20 rfl hl (by decide) rfl (fun ls hl => ?_)
  refine lv_aload_n hx hb dX1_record_21 rfl (lv_at hl 0 rfl) ?_
  refine lv_ifnull hx hb dX1_record_22 ?_
  refine lv_aload_n hx hb dX1_record_25 rfl (lv_at hl 0 rfl) ?_
  refine lv_aload_n hx hb dX1_record_26 rfl (lv_at hl 2 rfl) ?_
  refine czV (rest := []) (As := [.ref (A (6 * 0))]) E (c_X0_copyFrom_4_0 l G A (f_X1_dropOldest_1 S) 2 hbe) (cwV 1 hts gX1_record_X0_copyFrom rfl rfl rfl (by decide +kernel) ⟨Nat.le_of_ble_eq_true rfl, Nat.le_of_ble_eq_true rfl⟩) hK hP hD hS hA (6 * 4) (wX_o G A (f_X1_dropOldest_1 S) 2 4 (by decide)) rfl rfl hl.1 rfl (Nat.le_of_ble_eq_true rfl) dX1_record_27 ⟨Nat.zero_le _, Nat.zero_le _⟩ (fun H locs hP hD hS => ?_)
  refine lv_aload_n hx hb dX1_record_30 rfl (lv_at hl 1 rfl) ?_
  refine lv_dup hx hb dX1_record_31 rfl ?_
  refine va_get (D := G.1) (ci := 1) (v := .int (((f_X0_copyFrom_4_0 (f_X1_dropOldest_1 S)) 7 0) 1)) (C := RX1) (T := TX1) (N := 2) hx hb hts hinX1 hown hK.1 hP 43 (wX_43 G A (f_X0_copyFrom_4_0 (f_X1_dropOldest_1 S)) 2) rfl 1 (by decide) (hts (.fieldLink RX1 18 "WireLoops$History" "states" "I") (List.mem_of_getElem? (i := 1) rfl)) (fun _ h9 => h9) rfl dX1_record_32 ?_
  refine W.eq (g2 := F0 m 35 ls [.int 3, .ref (A 43)]) (by rw [show (((f_X0_copyFrom_4_0 (f_X1_dropOldest_1 S)) 7 0) 1) = (3 : Int32) from rfl] <;> rfl) ?_
  refine lv_iconst (v := 1) hx hb dX1_record_35 (by decide) ?_
  refine lv_iadd hx hb dX1_record_36 ?_
  refine W.eq (g2 := F0 m 37 ls [.int 4, .ref (A 43)]) (by rw [show (3 + 1) = (4 : Int32) from by decide] <;> rfl) ?_
  refine va_put (D := G.1) (ci := 1) (v := .int 4) (ty := .int) (C := RX1) (T := TX1) (N := 2) hx hb hts hinX1 tyX1 tyX1_ok nmX1 hown hK.1 hP hD hS 43 (wX_43 G A (f_X0_copyFrom_4_0 (f_X1_dropOldest_1 S)) 2) rfl 1 (by decide) (hts (.fieldLink RX1 18 "WireLoops$History" "states" "I") (List.mem_of_getElem? (i := 1) rfl)) (fun _ h9 => h9) rfl (by decide +kernel) rfl rfl (Nat.le_of_ble_eq_true rfl) dX1_record_37 (fun H locs hP hD hS => ?_)
  rw [wX_s43 G A (f_X0_copyFrom_4_0 (f_X1_dropOldest_1 S)) 2 _] at hP hD
  have hP : va_P G.1 vwCl (wX G A (su (f_X0_copyFrom_4_0 (f_X1_dropOldest_1 S)) 7 0 (upd ((f_X0_copyFrom_4_0 (f_X1_dropOldest_1 S)) 7 0) 1 4)) 2) H := hP
  have hD : va_D A0 (wX G A (su (f_X0_copyFrom_4_0 (f_X1_dropOldest_1 S)) 7 0 (upd ((f_X0_copyFrom_4_0 (f_X1_dropOldest_1 S)) 7 0) 1 4)) 2) := hD
  exact endZ hx hb hr hlocks hP hD hS rfl dX1_record_40
def f_X1_record_1_4_1 (S : XS) : XS := su (sc (su S 7 0 (upd (S 7 0) 1 3)) 4 1) 7 0 (upd (upd (S 7 0) 1 3) 1 4)
theorem e_X1_record_1_4_1 (S : XS) : f_X1_record_1_4_1 S = su (sc (su S 7 0 (upd (S 7 0) 1 3)) 4 1) 7 0 (upd (upd (S 7 0) 1 3) 1 4) := rfl
set_option maxHeartbeats 4000000 in
set_option maxRecDepth 100000 in
theorem c_X1_record_1_4_1 (l : Launch) (G : GG) (A : Nat → Nat) (S : XS)  (hq : S 7 0 1 = 4) (hbe : S 1 0 4 = 0 ∨ S 1 0 4 = 1) : Mz l yX1_record wsX1_record ({ frames := 2, cells := 0, slots := 0, locals := 47 } : Room) G [.ref (A 43), .ref (A (6 * 1))] (wX G A S 1) (wX G A (f_X1_record_1_4_1 S) 2) := by
  refine Mz.of (cc := cX1_record) (maxL := 3) (ret := none) (by decide) rfl (Nat.le_of_ble_eq_true rfl) ?_
  intro p e s m args below meth c A0 hA0 E hr hlocks hP hK hD hA hS ls hl
  have E : CallFix p m c cX1_record 3 s args wsX1_record RX1 := E
  have hx := E.1
  have hb := E.2.1
  have hml := E.2.2.1
  have hown := E.2.2.2.1
  have hts := E.2.2.2.2
  have hl : lv_has ls 3 [(0, .ref (A 43)), (1, .ref (A (6 * 1)))] := hl
  have hinX1 : ∀ w ∈ u_ws RX1 TX1 2, w ∈ wsX1_record := fun _ h => List.mem_cons_of_mem _ (List.mem_append_left _ (List.mem_append_right _ h))
  refine lv_aload_n hx hb dX1_record_0 rfl (lv_at hl 0 rfl) ?_
  refine va_get (D := G.1) (ci := 1) (v := .int (S 7 0 1)) (C := RX1) (T := TX1) (N := 2) hx hb hts hinX1 hown hK.1 hP 43 (wX_43 G A S 1) rfl 1 (by decide) (hts (.fieldLink RX1 18 "WireLoops$History" "states" "I") (List.mem_of_getElem? (i := 1) rfl)) (fun _ h9 => h9) rfl dX1_record_1 ?_
  refine W.eq (g2 := F0 m 4 ls [.int 4]) (by rw [hq] <;> rfl) ?_
  refine lv_iconst (v := 4) hx hb dX1_record_4 (by decide) ?_
  refine lv_icmp_lt (tgt := 12) hx hb dX1_record_5 (by decide) (fun c1 => absurd c1 (by decide)) (fun c1 => ?_)
  refine lv_aload_n hx hb dX1_record_8 rfl (lv_at hl 0 rfl) ?_
  refine czV (rest := []) (As := []) E (c_X1_dropOldest_1 l G A S) (cwV 0 hts gX1_record_X1_dropOldest rfl rfl rfl (by decide +kernel) ⟨Nat.le_of_ble_eq_true rfl, Nat.le_of_ble_eq_true rfl⟩) hK hP hD hS hA 43 (wX_43 G A S 1) rfl rfl hl.1 rfl (Nat.le_of_ble_eq_true rfl) dX1_record_9 ⟨Nat.zero_le _, Nat.zero_le _⟩ (fun H locs hP hD hS => ?_)
  refine lv_aload_n hx hb dX1_record_12 rfl (lv_at hl 0 rfl) ?_
  refine lv_aload_n hx hb dX1_record_13 rfl (lv_at hl 0 rfl) ?_
  refine va_get (D := G.1) (ci := 1) (v := .int (((f_X1_dropOldest_1 S) 7 0) 1)) (C := RX1) (T := TX1) (N := 2) hx hb hts hinX1 hown hK.1 hP 43 (wX_43 G A (f_X1_dropOldest_1 S) 2) rfl 1 (by decide) (hts (.fieldLink RX1 18 "WireLoops$History" "states" "I") (List.mem_of_getElem? (i := 1) rfl)) (fun _ h9 => h9) rfl dX1_record_14 ?_
  refine W.eq (g2 := F0 m 17 ls [.int 3, .ref (A 43)]) (by rw [show (((f_X1_dropOldest_1 S) 7 0) 1) = (3 : Int32) from rfl] <;> rfl) ?_
  refine crV (rest := []) (As := [.int 3]) E (c_X1_placeAt_3_2 l G A (f_X1_dropOldest_1 S)) (cwV 1 hts gX1_record_X1_placeAt rfl rfl rfl (by decide +kernel) ⟨Nat.le_of_ble_eq_true rfl, Nat.le_of_ble_eq_true rfl⟩) hK hP 43 (wX_43 G A (f_X1_dropOldest_1 S) 2) rfl rfl hl.1 rfl (Nat.le_of_ble_eq_true rfl) dX1_record_17 ⟨Nat.zero_le _, Nat.zero_le _⟩ ?_
  refine lv_astore_n (lv' := [(2, .ref (A (6 * 4))), (0, .ref (A 43)), (1, .ref (A (6 * 1)))]) hx hb dX1_record_20 rfl hl (by decide) rfl (fun ls hl => ?_)
  refine lv_aload_n hx hb dX1_record_21 rfl (lv_at hl 0 rfl) ?_
  refine lv_ifnull hx hb dX1_record_22 ?_
  refine lv_aload_n hx hb dX1_record_25 rfl (lv_at hl 0 rfl) ?_
  refine lv_aload_n hx hb dX1_record_26 rfl (lv_at hl 2 rfl) ?_
  refine czV (rest := []) (As := [.ref (A (6 * 1))]) E (c_X0_copyFrom_4_1 l G A (f_X1_dropOldest_1 S) 2 hbe) (cwV 1 hts gX1_record_X0_copyFrom rfl rfl rfl (by decide +kernel) ⟨Nat.le_of_ble_eq_true rfl, Nat.le_of_ble_eq_true rfl⟩) hK hP hD hS hA (6 * 4) (wX_o G A (f_X1_dropOldest_1 S) 2 4 (by decide)) rfl rfl hl.1 rfl (Nat.le_of_ble_eq_true rfl) dX1_record_27 ⟨Nat.zero_le _, Nat.zero_le _⟩ (fun H locs hP hD hS => ?_)
  refine lv_aload_n hx hb dX1_record_30 rfl (lv_at hl 1 rfl) ?_
  refine lv_dup hx hb dX1_record_31 rfl ?_
  refine va_get (D := G.1) (ci := 1) (v := .int (((f_X0_copyFrom_4_1 (f_X1_dropOldest_1 S)) 7 0) 1)) (C := RX1) (T := TX1) (N := 2) hx hb hts hinX1 hown hK.1 hP 43 (wX_43 G A (f_X0_copyFrom_4_1 (f_X1_dropOldest_1 S)) 2) rfl 1 (by decide) (hts (.fieldLink RX1 18 "WireLoops$History" "states" "I") (List.mem_of_getElem? (i := 1) rfl)) (fun _ h9 => h9) rfl dX1_record_32 ?_
  refine W.eq (g2 := F0 m 35 ls [.int 3, .ref (A 43)]) (by rw [show (((f_X0_copyFrom_4_1 (f_X1_dropOldest_1 S)) 7 0) 1) = (3 : Int32) from rfl] <;> rfl) ?_
  refine lv_iconst (v := 1) hx hb dX1_record_35 (by decide) ?_
  refine lv_iadd hx hb dX1_record_36 ?_
  refine W.eq (g2 := F0 m 37 ls [.int 4, .ref (A 43)]) (by rw [show (3 + 1) = (4 : Int32) from by decide] <;> rfl) ?_
  refine va_put (D := G.1) (ci := 1) (v := .int 4) (ty := .int) (C := RX1) (T := TX1) (N := 2) hx hb hts hinX1 tyX1 tyX1_ok nmX1 hown hK.1 hP hD hS 43 (wX_43 G A (f_X0_copyFrom_4_1 (f_X1_dropOldest_1 S)) 2) rfl 1 (by decide) (hts (.fieldLink RX1 18 "WireLoops$History" "states" "I") (List.mem_of_getElem? (i := 1) rfl)) (fun _ h9 => h9) rfl (by decide +kernel) rfl rfl (Nat.le_of_ble_eq_true rfl) dX1_record_37 (fun H locs hP hD hS => ?_)
  rw [wX_s43 G A (f_X0_copyFrom_4_1 (f_X1_dropOldest_1 S)) 2 _] at hP hD
  have hP : va_P G.1 vwCl (wX G A (su (f_X0_copyFrom_4_1 (f_X1_dropOldest_1 S)) 7 0 (upd ((f_X0_copyFrom_4_1 (f_X1_dropOldest_1 S)) 7 0) 1 4)) 2) H := hP
  have hD : va_D A0 (wX G A (su (f_X0_copyFrom_4_1 (f_X1_dropOldest_1 S)) 7 0 (upd ((f_X0_copyFrom_4_1 (f_X1_dropOldest_1 S)) 7 0) 1 4)) 2) := hD
  exact endZ hx hb hr hlocks hP hD hS rfl dX1_record_40
def f_X1_record_0_0_2 (S : XS) : XS := su (sc S 5 0) 7 0 (upd (S 7 0) 1 1)
theorem e_X1_record_0_0_2 (S : XS) : f_X1_record_0_0_2 S = su (sc S 5 0) 7 0 (upd (S 7 0) 1 1) := rfl
set_option maxHeartbeats 4000000 in
set_option maxRecDepth 100000 in
theorem c_X1_record_0_0_2 (l : Launch) (G : GG) (A : Nat → Nat) (S : XS)  (hq : S 7 0 1 = 0) (hbe : S 0 0 4 = 0 ∨ S 0 0 4 = 1) : Mz l yX1_record wsX1_record ({ frames := 2, cells := 0, slots := 0, locals := 47 } : Room) G [.ref (A 43), .ref (A (6 * 0))] (wX G A S 2) (wX G A (f_X1_record_0_0_2 S) 2) := by
  refine Mz.of (cc := cX1_record) (maxL := 3) (ret := none) (by decide) rfl (Nat.le_of_ble_eq_true rfl) ?_
  intro p e s m args below meth c A0 hA0 E hr hlocks hP hK hD hA hS ls hl
  have E : CallFix p m c cX1_record 3 s args wsX1_record RX1 := E
  have hx := E.1
  have hb := E.2.1
  have hml := E.2.2.1
  have hown := E.2.2.2.1
  have hts := E.2.2.2.2
  have hl : lv_has ls 3 [(0, .ref (A 43)), (1, .ref (A (6 * 0)))] := hl
  have hinX1 : ∀ w ∈ u_ws RX1 TX1 2, w ∈ wsX1_record := fun _ h => List.mem_cons_of_mem _ (List.mem_append_left _ (List.mem_append_right _ h))
  refine lv_aload_n hx hb dX1_record_0 rfl (lv_at hl 0 rfl) ?_
  refine va_get (D := G.1) (ci := 1) (v := .int (S 7 0 1)) (C := RX1) (T := TX1) (N := 2) hx hb hts hinX1 hown hK.1 hP 43 (wX_43 G A S 2) rfl 1 (by decide) (hts (.fieldLink RX1 18 "WireLoops$History" "states" "I") (List.mem_of_getElem? (i := 1) rfl)) (fun _ h9 => h9) rfl dX1_record_1 ?_
  refine W.eq (g2 := F0 m 4 ls [.int 0]) (by rw [hq] <;> rfl) ?_
  refine lv_iconst (v := 4) hx hb dX1_record_4 (by decide) ?_
  refine lv_icmp_lt (tgt := 12) hx hb dX1_record_5 (by decide) (fun c1 => ?_) (fun c1 => absurd (by decide) c1)
  refine lv_aload_n hx hb dX1_record_12 rfl (lv_at hl 0 rfl) ?_
  refine lv_aload_n hx hb dX1_record_13 rfl (lv_at hl 0 rfl) ?_
  refine va_get (D := G.1) (ci := 1) (v := .int (S 7 0 1)) (C := RX1) (T := TX1) (N := 2) hx hb hts hinX1 hown hK.1 hP 43 (wX_43 G A S 2) rfl 1 (by decide) (hts (.fieldLink RX1 18 "WireLoops$History" "states" "I") (List.mem_of_getElem? (i := 1) rfl)) (fun _ h9 => h9) rfl dX1_record_14 ?_
  refine W.eq (g2 := F0 m 17 ls [.int 0, .ref (A 43)]) (by rw [show (S 7 0 1) = (0 : Int32) from hq] <;> rfl) ?_
  refine crV (rest := []) (As := [.int 0]) E (c_X1_placeAt_0_2 l G A S) (cwV 1 hts gX1_record_X1_placeAt rfl rfl rfl (by decide +kernel) ⟨Nat.le_of_ble_eq_true rfl, Nat.le_of_ble_eq_true rfl⟩) hK hP 43 (wX_43 G A S 2) rfl rfl hl.1 rfl (Nat.le_of_ble_eq_true rfl) dX1_record_17 ⟨Nat.zero_le _, Nat.zero_le _⟩ ?_
  refine lv_astore_n (lv' := [(2, .ref (A (6 * 5))), (0, .ref (A 43)), (1, .ref (A (6 * 0)))]) hx hb dX1_record_20 rfl hl (by decide) rfl (fun ls hl => ?_)
  refine lv_aload_n hx hb dX1_record_21 rfl (lv_at hl 0 rfl) ?_
  refine lv_ifnull hx hb dX1_record_22 ?_
  refine lv_aload_n hx hb dX1_record_25 rfl (lv_at hl 0 rfl) ?_
  refine lv_aload_n hx hb dX1_record_26 rfl (lv_at hl 2 rfl) ?_
  refine czV (rest := []) (As := [.ref (A (6 * 0))]) E (c_X0_copyFrom_5_0 l G A S 2 hbe) (cwV 1 hts gX1_record_X0_copyFrom rfl rfl rfl (by decide +kernel) ⟨Nat.le_of_ble_eq_true rfl, Nat.le_of_ble_eq_true rfl⟩) hK hP hD hS hA (6 * 5) (wX_o G A S 2 5 (by decide)) rfl rfl hl.1 rfl (Nat.le_of_ble_eq_true rfl) dX1_record_27 ⟨Nat.zero_le _, Nat.zero_le _⟩ (fun H locs hP hD hS => ?_)
  refine lv_aload_n hx hb dX1_record_30 rfl (lv_at hl 1 rfl) ?_
  refine lv_dup hx hb dX1_record_31 rfl ?_
  refine va_get (D := G.1) (ci := 1) (v := .int (((f_X0_copyFrom_5_0 S) 7 0) 1)) (C := RX1) (T := TX1) (N := 2) hx hb hts hinX1 hown hK.1 hP 43 (wX_43 G A (f_X0_copyFrom_5_0 S) 2) rfl 1 (by decide) (hts (.fieldLink RX1 18 "WireLoops$History" "states" "I") (List.mem_of_getElem? (i := 1) rfl)) (fun _ h9 => h9) rfl dX1_record_32 ?_
  refine W.eq (g2 := F0 m 35 ls [.int 0, .ref (A 43)]) (by rw [show (((f_X0_copyFrom_5_0 S) 7 0) 1) = (0 : Int32) from hq] <;> rfl) ?_
  refine lv_iconst (v := 1) hx hb dX1_record_35 (by decide) ?_
  refine lv_iadd hx hb dX1_record_36 ?_
  refine W.eq (g2 := F0 m 37 ls [.int 1, .ref (A 43)]) (by rw [show (0 + 1) = (1 : Int32) from by decide] <;> rfl) ?_
  refine va_put (D := G.1) (ci := 1) (v := .int 1) (ty := .int) (C := RX1) (T := TX1) (N := 2) hx hb hts hinX1 tyX1 tyX1_ok nmX1 hown hK.1 hP hD hS 43 (wX_43 G A (f_X0_copyFrom_5_0 S) 2) rfl 1 (by decide) (hts (.fieldLink RX1 18 "WireLoops$History" "states" "I") (List.mem_of_getElem? (i := 1) rfl)) (fun _ h9 => h9) rfl (by decide +kernel) rfl rfl (Nat.le_of_ble_eq_true rfl) dX1_record_37 (fun H locs hP hD hS => ?_)
  rw [wX_s43 G A (f_X0_copyFrom_5_0 S) 2 _] at hP hD
  have hP : va_P G.1 vwCl (wX G A (su (f_X0_copyFrom_5_0 S) 7 0 (upd ((f_X0_copyFrom_5_0 S) 7 0) 1 1)) 2) H := hP
  have hD : va_D A0 (wX G A (su (f_X0_copyFrom_5_0 S) 7 0 (upd ((f_X0_copyFrom_5_0 S) 7 0) 1 1)) 2) := hD
  exact endZ hx hb hr hlocks hP hD hS rfl dX1_record_40
def f_X1_record_1_0_2 (S : XS) : XS := su (sc S 5 1) 7 0 (upd (S 7 0) 1 1)
theorem e_X1_record_1_0_2 (S : XS) : f_X1_record_1_0_2 S = su (sc S 5 1) 7 0 (upd (S 7 0) 1 1) := rfl
set_option maxHeartbeats 4000000 in
set_option maxRecDepth 100000 in
theorem c_X1_record_1_0_2 (l : Launch) (G : GG) (A : Nat → Nat) (S : XS)  (hq : S 7 0 1 = 0) (hbe : S 1 0 4 = 0 ∨ S 1 0 4 = 1) : Mz l yX1_record wsX1_record ({ frames := 2, cells := 0, slots := 0, locals := 47 } : Room) G [.ref (A 43), .ref (A (6 * 1))] (wX G A S 2) (wX G A (f_X1_record_1_0_2 S) 2) := by
  refine Mz.of (cc := cX1_record) (maxL := 3) (ret := none) (by decide) rfl (Nat.le_of_ble_eq_true rfl) ?_
  intro p e s m args below meth c A0 hA0 E hr hlocks hP hK hD hA hS ls hl
  have E : CallFix p m c cX1_record 3 s args wsX1_record RX1 := E
  have hx := E.1
  have hb := E.2.1
  have hml := E.2.2.1
  have hown := E.2.2.2.1
  have hts := E.2.2.2.2
  have hl : lv_has ls 3 [(0, .ref (A 43)), (1, .ref (A (6 * 1)))] := hl
  have hinX1 : ∀ w ∈ u_ws RX1 TX1 2, w ∈ wsX1_record := fun _ h => List.mem_cons_of_mem _ (List.mem_append_left _ (List.mem_append_right _ h))
  refine lv_aload_n hx hb dX1_record_0 rfl (lv_at hl 0 rfl) ?_
  refine va_get (D := G.1) (ci := 1) (v := .int (S 7 0 1)) (C := RX1) (T := TX1) (N := 2) hx hb hts hinX1 hown hK.1 hP 43 (wX_43 G A S 2) rfl 1 (by decide) (hts (.fieldLink RX1 18 "WireLoops$History" "states" "I") (List.mem_of_getElem? (i := 1) rfl)) (fun _ h9 => h9) rfl dX1_record_1 ?_
  refine W.eq (g2 := F0 m 4 ls [.int 0]) (by rw [hq] <;> rfl) ?_
  refine lv_iconst (v := 4) hx hb dX1_record_4 (by decide) ?_
  refine lv_icmp_lt (tgt := 12) hx hb dX1_record_5 (by decide) (fun c1 => ?_) (fun c1 => absurd (by decide) c1)
  refine lv_aload_n hx hb dX1_record_12 rfl (lv_at hl 0 rfl) ?_
  refine lv_aload_n hx hb dX1_record_13 rfl (lv_at hl 0 rfl) ?_
  refine va_get (D := G.1) (ci := 1) (v := .int (S 7 0 1)) (C := RX1) (T := TX1) (N := 2) hx hb hts hinX1 hown hK.1 hP 43 (wX_43 G A S 2) rfl 1 (by decide) (hts (.fieldLink RX1 18 "WireLoops$History" "states" "I") (List.mem_of_getElem? (i := 1) rfl)) (fun _ h9 => h9) rfl dX1_record_14 ?_
  refine W.eq (g2 := F0 m 17 ls [.int 0, .ref (A 43)]) (by rw [show (S 7 0 1) = (0 : Int32) from hq] <;> rfl) ?_
  refine crV (rest := []) (As := [.int 0]) E (c_X1_placeAt_0_2 l G A S) (cwV 1 hts gX1_record_X1_placeAt rfl rfl rfl (by decide +kernel) ⟨Nat.le_of_ble_eq_true rfl, Nat.le_of_ble_eq_true rfl⟩) hK hP 43 (wX_43 G A S 2) rfl rfl hl.1 rfl (Nat.le_of_ble_eq_true rfl) dX1_record_17 ⟨Nat.zero_le _, Nat.zero_le _⟩ ?_
  refine lv_astore_n (lv' := [(2, .ref (A (6 * 5))), (0, .ref (A 43)), (1, .ref (A (6 * 1)))]) hx hb dX1_record_20 rfl hl (by decide) rfl (fun ls hl => ?_)
  refine lv_aload_n hx hb dX1_record_21 rfl (lv_at hl 0 rfl) ?_
  refine lv_ifnull hx hb dX1_record_22 ?_
  refine lv_aload_n hx hb dX1_record_25 rfl (lv_at hl 0 rfl) ?_
  refine lv_aload_n hx hb dX1_record_26 rfl (lv_at hl 2 rfl) ?_
  refine czV (rest := []) (As := [.ref (A (6 * 1))]) E (c_X0_copyFrom_5_1 l G A S 2 hbe) (cwV 1 hts gX1_record_X0_copyFrom rfl rfl rfl (by decide +kernel) ⟨Nat.le_of_ble_eq_true rfl, Nat.le_of_ble_eq_true rfl⟩) hK hP hD hS hA (6 * 5) (wX_o G A S 2 5 (by decide)) rfl rfl hl.1 rfl (Nat.le_of_ble_eq_true rfl) dX1_record_27 ⟨Nat.zero_le _, Nat.zero_le _⟩ (fun H locs hP hD hS => ?_)
  refine lv_aload_n hx hb dX1_record_30 rfl (lv_at hl 1 rfl) ?_
  refine lv_dup hx hb dX1_record_31 rfl ?_
  refine va_get (D := G.1) (ci := 1) (v := .int (((f_X0_copyFrom_5_1 S) 7 0) 1)) (C := RX1) (T := TX1) (N := 2) hx hb hts hinX1 hown hK.1 hP 43 (wX_43 G A (f_X0_copyFrom_5_1 S) 2) rfl 1 (by decide) (hts (.fieldLink RX1 18 "WireLoops$History" "states" "I") (List.mem_of_getElem? (i := 1) rfl)) (fun _ h9 => h9) rfl dX1_record_32 ?_
  refine W.eq (g2 := F0 m 35 ls [.int 0, .ref (A 43)]) (by rw [show (((f_X0_copyFrom_5_1 S) 7 0) 1) = (0 : Int32) from hq] <;> rfl) ?_
  refine lv_iconst (v := 1) hx hb dX1_record_35 (by decide) ?_
  refine lv_iadd hx hb dX1_record_36 ?_
  refine W.eq (g2 := F0 m 37 ls [.int 1, .ref (A 43)]) (by rw [show (0 + 1) = (1 : Int32) from by decide] <;> rfl) ?_
  refine va_put (D := G.1) (ci := 1) (v := .int 1) (ty := .int) (C := RX1) (T := TX1) (N := 2) hx hb hts hinX1 tyX1 tyX1_ok nmX1 hown hK.1 hP hD hS 43 (wX_43 G A (f_X0_copyFrom_5_1 S) 2) rfl 1 (by decide) (hts (.fieldLink RX1 18 "WireLoops$History" "states" "I") (List.mem_of_getElem? (i := 1) rfl)) (fun _ h9 => h9) rfl (by decide +kernel) rfl rfl (Nat.le_of_ble_eq_true rfl) dX1_record_37 (fun H locs hP hD hS => ?_)
  rw [wX_s43 G A (f_X0_copyFrom_5_1 S) 2 _] at hP hD
  have hP : va_P G.1 vwCl (wX G A (su (f_X0_copyFrom_5_1 S) 7 0 (upd ((f_X0_copyFrom_5_1 S) 7 0) 1 1)) 2) H := hP
  have hD : va_D A0 (wX G A (su (f_X0_copyFrom_5_1 S) 7 0 (upd ((f_X0_copyFrom_5_1 S) 7 0) 1 1)) 2) := hD
  exact endZ hx hb hr hlocks hP hD hS rfl dX1_record_40
def f_X1_record_0_1_2 (S : XS) : XS := su (sc S 6 0) 7 0 (upd (S 7 0) 1 2)
theorem e_X1_record_0_1_2 (S : XS) : f_X1_record_0_1_2 S = su (sc S 6 0) 7 0 (upd (S 7 0) 1 2) := rfl
set_option maxHeartbeats 4000000 in
set_option maxRecDepth 100000 in
theorem c_X1_record_0_1_2 (l : Launch) (G : GG) (A : Nat → Nat) (S : XS)  (hq : S 7 0 1 = 1) (hbe : S 0 0 4 = 0 ∨ S 0 0 4 = 1) : Mz l yX1_record wsX1_record ({ frames := 2, cells := 0, slots := 0, locals := 47 } : Room) G [.ref (A 43), .ref (A (6 * 0))] (wX G A S 2) (wX G A (f_X1_record_0_1_2 S) 2) := by
  refine Mz.of (cc := cX1_record) (maxL := 3) (ret := none) (by decide) rfl (Nat.le_of_ble_eq_true rfl) ?_
  intro p e s m args below meth c A0 hA0 E hr hlocks hP hK hD hA hS ls hl
  have E : CallFix p m c cX1_record 3 s args wsX1_record RX1 := E
  have hx := E.1
  have hb := E.2.1
  have hml := E.2.2.1
  have hown := E.2.2.2.1
  have hts := E.2.2.2.2
  have hl : lv_has ls 3 [(0, .ref (A 43)), (1, .ref (A (6 * 0)))] := hl
  have hinX1 : ∀ w ∈ u_ws RX1 TX1 2, w ∈ wsX1_record := fun _ h => List.mem_cons_of_mem _ (List.mem_append_left _ (List.mem_append_right _ h))
  refine lv_aload_n hx hb dX1_record_0 rfl (lv_at hl 0 rfl) ?_
  refine va_get (D := G.1) (ci := 1) (v := .int (S 7 0 1)) (C := RX1) (T := TX1) (N := 2) hx hb hts hinX1 hown hK.1 hP 43 (wX_43 G A S 2) rfl 1 (by decide) (hts (.fieldLink RX1 18 "WireLoops$History" "states" "I") (List.mem_of_getElem? (i := 1) rfl)) (fun _ h9 => h9) rfl dX1_record_1 ?_
  refine W.eq (g2 := F0 m 4 ls [.int 1]) (by rw [hq] <;> rfl) ?_
  refine lv_iconst (v := 4) hx hb dX1_record_4 (by decide) ?_
  refine lv_icmp_lt (tgt := 12) hx hb dX1_record_5 (by decide) (fun c1 => ?_) (fun c1 => absurd (by decide) c1)
  refine lv_aload_n hx hb dX1_record_12 rfl (lv_at hl 0 rfl) ?_
  refine lv_aload_n hx hb dX1_record_13 rfl (lv_at hl 0 rfl) ?_
  refine va_get (D := G.1) (ci := 1) (v := .int (S 7 0 1)) (C := RX1) (T := TX1) (N := 2) hx hb hts hinX1 hown hK.1 hP 43 (wX_43 G A S 2) rfl 1 (by decide) (hts (.fieldLink RX1 18 "WireLoops$History" "states" "I") (List.mem_of_getElem? (i := 1) rfl)) (fun _ h9 => h9) rfl dX1_record_14 ?_
  refine W.eq (g2 := F0 m 17 ls [.int 1, .ref (A 43)]) (by rw [show (S 7 0 1) = (1 : Int32) from hq] <;> rfl) ?_
  refine crV (rest := []) (As := [.int 1]) E (c_X1_placeAt_1_2 l G A S) (cwV 1 hts gX1_record_X1_placeAt rfl rfl rfl (by decide +kernel) ⟨Nat.le_of_ble_eq_true rfl, Nat.le_of_ble_eq_true rfl⟩) hK hP 43 (wX_43 G A S 2) rfl rfl hl.1 rfl (Nat.le_of_ble_eq_true rfl) dX1_record_17 ⟨Nat.zero_le _, Nat.zero_le _⟩ ?_
  refine lv_astore_n (lv' := [(2, .ref (A (6 * 6))), (0, .ref (A 43)), (1, .ref (A (6 * 0)))]) hx hb dX1_record_20 rfl hl (by decide) rfl (fun ls hl => ?_)
  refine lv_aload_n hx hb dX1_record_21 rfl (lv_at hl 0 rfl) ?_
  refine lv_ifnull hx hb dX1_record_22 ?_
  refine lv_aload_n hx hb dX1_record_25 rfl (lv_at hl 0 rfl) ?_
  refine lv_aload_n hx hb dX1_record_26 rfl (lv_at hl 2 rfl) ?_
  refine czV (rest := []) (As := [.ref (A (6 * 0))]) E (c_X0_copyFrom_6_0 l G A S 2 hbe) (cwV 1 hts gX1_record_X0_copyFrom rfl rfl rfl (by decide +kernel) ⟨Nat.le_of_ble_eq_true rfl, Nat.le_of_ble_eq_true rfl⟩) hK hP hD hS hA (6 * 6) (wX_o G A S 2 6 (by decide)) rfl rfl hl.1 rfl (Nat.le_of_ble_eq_true rfl) dX1_record_27 ⟨Nat.zero_le _, Nat.zero_le _⟩ (fun H locs hP hD hS => ?_)
  refine lv_aload_n hx hb dX1_record_30 rfl (lv_at hl 1 rfl) ?_
  refine lv_dup hx hb dX1_record_31 rfl ?_
  refine va_get (D := G.1) (ci := 1) (v := .int (((f_X0_copyFrom_6_0 S) 7 0) 1)) (C := RX1) (T := TX1) (N := 2) hx hb hts hinX1 hown hK.1 hP 43 (wX_43 G A (f_X0_copyFrom_6_0 S) 2) rfl 1 (by decide) (hts (.fieldLink RX1 18 "WireLoops$History" "states" "I") (List.mem_of_getElem? (i := 1) rfl)) (fun _ h9 => h9) rfl dX1_record_32 ?_
  refine W.eq (g2 := F0 m 35 ls [.int 1, .ref (A 43)]) (by rw [show (((f_X0_copyFrom_6_0 S) 7 0) 1) = (1 : Int32) from hq] <;> rfl) ?_
  refine lv_iconst (v := 1) hx hb dX1_record_35 (by decide) ?_
  refine lv_iadd hx hb dX1_record_36 ?_
  refine W.eq (g2 := F0 m 37 ls [.int 2, .ref (A 43)]) (by rw [show (1 + 1) = (2 : Int32) from by decide] <;> rfl) ?_
  refine va_put (D := G.1) (ci := 1) (v := .int 2) (ty := .int) (C := RX1) (T := TX1) (N := 2) hx hb hts hinX1 tyX1 tyX1_ok nmX1 hown hK.1 hP hD hS 43 (wX_43 G A (f_X0_copyFrom_6_0 S) 2) rfl 1 (by decide) (hts (.fieldLink RX1 18 "WireLoops$History" "states" "I") (List.mem_of_getElem? (i := 1) rfl)) (fun _ h9 => h9) rfl (by decide +kernel) rfl rfl (Nat.le_of_ble_eq_true rfl) dX1_record_37 (fun H locs hP hD hS => ?_)
  rw [wX_s43 G A (f_X0_copyFrom_6_0 S) 2 _] at hP hD
  have hP : va_P G.1 vwCl (wX G A (su (f_X0_copyFrom_6_0 S) 7 0 (upd ((f_X0_copyFrom_6_0 S) 7 0) 1 2)) 2) H := hP
  have hD : va_D A0 (wX G A (su (f_X0_copyFrom_6_0 S) 7 0 (upd ((f_X0_copyFrom_6_0 S) 7 0) 1 2)) 2) := hD
  exact endZ hx hb hr hlocks hP hD hS rfl dX1_record_40
def f_X1_record_1_1_2 (S : XS) : XS := su (sc S 6 1) 7 0 (upd (S 7 0) 1 2)
theorem e_X1_record_1_1_2 (S : XS) : f_X1_record_1_1_2 S = su (sc S 6 1) 7 0 (upd (S 7 0) 1 2) := rfl
set_option maxHeartbeats 4000000 in
set_option maxRecDepth 100000 in
theorem c_X1_record_1_1_2 (l : Launch) (G : GG) (A : Nat → Nat) (S : XS)  (hq : S 7 0 1 = 1) (hbe : S 1 0 4 = 0 ∨ S 1 0 4 = 1) : Mz l yX1_record wsX1_record ({ frames := 2, cells := 0, slots := 0, locals := 47 } : Room) G [.ref (A 43), .ref (A (6 * 1))] (wX G A S 2) (wX G A (f_X1_record_1_1_2 S) 2) := by
  refine Mz.of (cc := cX1_record) (maxL := 3) (ret := none) (by decide) rfl (Nat.le_of_ble_eq_true rfl) ?_
  intro p e s m args below meth c A0 hA0 E hr hlocks hP hK hD hA hS ls hl
  have E : CallFix p m c cX1_record 3 s args wsX1_record RX1 := E
  have hx := E.1
  have hb := E.2.1
  have hml := E.2.2.1
  have hown := E.2.2.2.1
  have hts := E.2.2.2.2
  have hl : lv_has ls 3 [(0, .ref (A 43)), (1, .ref (A (6 * 1)))] := hl
  have hinX1 : ∀ w ∈ u_ws RX1 TX1 2, w ∈ wsX1_record := fun _ h => List.mem_cons_of_mem _ (List.mem_append_left _ (List.mem_append_right _ h))
  refine lv_aload_n hx hb dX1_record_0 rfl (lv_at hl 0 rfl) ?_
  refine va_get (D := G.1) (ci := 1) (v := .int (S 7 0 1)) (C := RX1) (T := TX1) (N := 2) hx hb hts hinX1 hown hK.1 hP 43 (wX_43 G A S 2) rfl 1 (by decide) (hts (.fieldLink RX1 18 "WireLoops$History" "states" "I") (List.mem_of_getElem? (i := 1) rfl)) (fun _ h9 => h9) rfl dX1_record_1 ?_
  refine W.eq (g2 := F0 m 4 ls [.int 1]) (by rw [hq] <;> rfl) ?_
  refine lv_iconst (v := 4) hx hb dX1_record_4 (by decide) ?_
  refine lv_icmp_lt (tgt := 12) hx hb dX1_record_5 (by decide) (fun c1 => ?_) (fun c1 => absurd (by decide) c1)
  refine lv_aload_n hx hb dX1_record_12 rfl (lv_at hl 0 rfl) ?_
  refine lv_aload_n hx hb dX1_record_13 rfl (lv_at hl 0 rfl) ?_
  refine va_get (D := G.1) (ci := 1) (v := .int (S 7 0 1)) (C := RX1) (T := TX1) (N := 2) hx hb hts hinX1 hown hK.1 hP 43 (wX_43 G A S 2) rfl 1 (by decide) (hts (.fieldLink RX1 18 "WireLoops$History" "states" "I") (List.mem_of_getElem? (i := 1) rfl)) (fun _ h9 => h9) rfl dX1_record_14 ?_
  refine W.eq (g2 := F0 m 17 ls [.int 1, .ref (A 43)]) (by rw [show (S 7 0 1) = (1 : Int32) from hq] <;> rfl) ?_
  refine crV (rest := []) (As := [.int 1]) E (c_X1_placeAt_1_2 l G A S) (cwV 1 hts gX1_record_X1_placeAt rfl rfl rfl (by decide +kernel) ⟨Nat.le_of_ble_eq_true rfl, Nat.le_of_ble_eq_true rfl⟩) hK hP 43 (wX_43 G A S 2) rfl rfl hl.1 rfl (Nat.le_of_ble_eq_true rfl) dX1_record_17 ⟨Nat.zero_le _, Nat.zero_le _⟩ ?_
  refine lv_astore_n (lv' := [(2, .ref (A (6 * 6))), (0, .ref (A 43)), (1, .ref (A (6 * 1)))]) hx hb dX1_record_20 rfl hl (by decide) rfl (fun ls hl => ?_)
  refine lv_aload_n hx hb dX1_record_21 rfl (lv_at hl 0 rfl) ?_
  refine lv_ifnull hx hb dX1_record_22 ?_
  refine lv_aload_n hx hb dX1_record_25 rfl (lv_at hl 0 rfl) ?_
  refine lv_aload_n hx hb dX1_record_26 rfl (lv_at hl 2 rfl) ?_
  refine czV (rest := []) (As := [.ref (A (6 * 1))]) E (c_X0_copyFrom_6_1 l G A S 2 hbe) (cwV 1 hts gX1_record_X0_copyFrom rfl rfl rfl (by decide +kernel) ⟨Nat.le_of_ble_eq_true rfl, Nat.le_of_ble_eq_true rfl⟩) hK hP hD hS hA (6 * 6) (wX_o G A S 2 6 (by decide)) rfl rfl hl.1 rfl (Nat.le_of_ble_eq_true rfl) dX1_record_27 ⟨Nat.zero_le _, Nat.zero_le _⟩ (fun H locs hP hD hS => ?_)
  refine lv_aload_n hx hb dX1_record_30 rfl (lv_at hl 1 rfl) ?_
  refine lv_dup hx hb dX1_record_31 rfl ?_
  refine va_get (D := G.1) (ci := 1) (v := .int (((f_X0_copyFrom_6_1 S) 7 0) 1)) (C := RX1) (T := TX1) (N := 2) hx hb hts hinX1 hown hK.1 hP 43 (wX_43 G A (f_X0_copyFrom_6_1 S) 2) rfl 1 (by decide) (hts (.fieldLink RX1 18 "WireLoops$History" "states" "I") (List.mem_of_getElem? (i := 1) rfl)) (fun _ h9 => h9) rfl dX1_record_32 ?_
  refine W.eq (g2 := F0 m 35 ls [.int 1, .ref (A 43)]) (by rw [show (((f_X0_copyFrom_6_1 S) 7 0) 1) = (1 : Int32) from hq] <;> rfl) ?_
  refine lv_iconst (v := 1) hx hb dX1_record_35 (by decide) ?_
  refine lv_iadd hx hb dX1_record_36 ?_
  refine W.eq (g2 := F0 m 37 ls [.int 2, .ref (A 43)]) (by rw [show (1 + 1) = (2 : Int32) from by decide] <;> rfl) ?_
  refine va_put (D := G.1) (ci := 1) (v := .int 2) (ty := .int) (C := RX1) (T := TX1) (N := 2) hx hb hts hinX1 tyX1 tyX1_ok nmX1 hown hK.1 hP hD hS 43 (wX_43 G A (f_X0_copyFrom_6_1 S) 2) rfl 1 (by decide) (hts (.fieldLink RX1 18 "WireLoops$History" "states" "I") (List.mem_of_getElem? (i := 1) rfl)) (fun _ h9 => h9) rfl (by decide +kernel) rfl rfl (Nat.le_of_ble_eq_true rfl) dX1_record_37 (fun H locs hP hD hS => ?_)
  rw [wX_s43 G A (f_X0_copyFrom_6_1 S) 2 _] at hP hD
  have hP : va_P G.1 vwCl (wX G A (su (f_X0_copyFrom_6_1 S) 7 0 (upd ((f_X0_copyFrom_6_1 S) 7 0) 1 2)) 2) H := hP
  have hD : va_D A0 (wX G A (su (f_X0_copyFrom_6_1 S) 7 0 (upd ((f_X0_copyFrom_6_1 S) 7 0) 1 2)) 2) := hD
  exact endZ hx hb hr hlocks hP hD hS rfl dX1_record_40
def f_X1_record_0_2_2 (S : XS) : XS := su (sc S 3 0) 7 0 (upd (S 7 0) 1 3)
theorem e_X1_record_0_2_2 (S : XS) : f_X1_record_0_2_2 S = su (sc S 3 0) 7 0 (upd (S 7 0) 1 3) := rfl
set_option maxHeartbeats 4000000 in
set_option maxRecDepth 100000 in
theorem c_X1_record_0_2_2 (l : Launch) (G : GG) (A : Nat → Nat) (S : XS)  (hq : S 7 0 1 = 2) (hbe : S 0 0 4 = 0 ∨ S 0 0 4 = 1) : Mz l yX1_record wsX1_record ({ frames := 2, cells := 0, slots := 0, locals := 47 } : Room) G [.ref (A 43), .ref (A (6 * 0))] (wX G A S 2) (wX G A (f_X1_record_0_2_2 S) 2) := by
  refine Mz.of (cc := cX1_record) (maxL := 3) (ret := none) (by decide) rfl (Nat.le_of_ble_eq_true rfl) ?_
  intro p e s m args below meth c A0 hA0 E hr hlocks hP hK hD hA hS ls hl
  have E : CallFix p m c cX1_record 3 s args wsX1_record RX1 := E
  have hx := E.1
  have hb := E.2.1
  have hml := E.2.2.1
  have hown := E.2.2.2.1
  have hts := E.2.2.2.2
  have hl : lv_has ls 3 [(0, .ref (A 43)), (1, .ref (A (6 * 0)))] := hl
  have hinX1 : ∀ w ∈ u_ws RX1 TX1 2, w ∈ wsX1_record := fun _ h => List.mem_cons_of_mem _ (List.mem_append_left _ (List.mem_append_right _ h))
  refine lv_aload_n hx hb dX1_record_0 rfl (lv_at hl 0 rfl) ?_
  refine va_get (D := G.1) (ci := 1) (v := .int (S 7 0 1)) (C := RX1) (T := TX1) (N := 2) hx hb hts hinX1 hown hK.1 hP 43 (wX_43 G A S 2) rfl 1 (by decide) (hts (.fieldLink RX1 18 "WireLoops$History" "states" "I") (List.mem_of_getElem? (i := 1) rfl)) (fun _ h9 => h9) rfl dX1_record_1 ?_
  refine W.eq (g2 := F0 m 4 ls [.int 2]) (by rw [hq] <;> rfl) ?_
  refine lv_iconst (v := 4) hx hb dX1_record_4 (by decide) ?_
  refine lv_icmp_lt (tgt := 12) hx hb dX1_record_5 (by decide) (fun c1 => ?_) (fun c1 => absurd (by decide) c1)
  refine lv_aload_n hx hb dX1_record_12 rfl (lv_at hl 0 rfl) ?_
  refine lv_aload_n hx hb dX1_record_13 rfl (lv_at hl 0 rfl) ?_
  refine va_get (D := G.1) (ci := 1) (v := .int (S 7 0 1)) (C := RX1) (T := TX1) (N := 2) hx hb hts hinX1 hown hK.1 hP 43 (wX_43 G A S 2) rfl 1 (by decide) (hts (.fieldLink RX1 18 "WireLoops$History" "states" "I") (List.mem_of_getElem? (i := 1) rfl)) (fun _ h9 => h9) rfl dX1_record_14 ?_
  refine W.eq (g2 := F0 m 17 ls [.int 2, .ref (A 43)]) (by rw [show (S 7 0 1) = (2 : Int32) from hq] <;> rfl) ?_
  refine crV (rest := []) (As := [.int 2]) E (c_X1_placeAt_2_2 l G A S) (cwV 1 hts gX1_record_X1_placeAt rfl rfl rfl (by decide +kernel) ⟨Nat.le_of_ble_eq_true rfl, Nat.le_of_ble_eq_true rfl⟩) hK hP 43 (wX_43 G A S 2) rfl rfl hl.1 rfl (Nat.le_of_ble_eq_true rfl) dX1_record_17 ⟨Nat.zero_le _, Nat.zero_le _⟩ ?_
  refine lv_astore_n (lv' := [(2, .ref (A (6 * 3))), (0, .ref (A 43)), (1, .ref (A (6 * 0)))]) hx hb dX1_record_20 rfl hl (by decide) rfl (fun ls hl => ?_)
  refine lv_aload_n hx hb dX1_record_21 rfl (lv_at hl 0 rfl) ?_
  refine lv_ifnull hx hb dX1_record_22 ?_
  refine lv_aload_n hx hb dX1_record_25 rfl (lv_at hl 0 rfl) ?_
  refine lv_aload_n hx hb dX1_record_26 rfl (lv_at hl 2 rfl) ?_
  refine czV (rest := []) (As := [.ref (A (6 * 0))]) E (c_X0_copyFrom_3_0 l G A S 2 hbe) (cwV 1 hts gX1_record_X0_copyFrom rfl rfl rfl (by decide +kernel) ⟨Nat.le_of_ble_eq_true rfl, Nat.le_of_ble_eq_true rfl⟩) hK hP hD hS hA (6 * 3) (wX_o G A S 2 3 (by decide)) rfl rfl hl.1 rfl (Nat.le_of_ble_eq_true rfl) dX1_record_27 ⟨Nat.zero_le _, Nat.zero_le _⟩ (fun H locs hP hD hS => ?_)
  refine lv_aload_n hx hb dX1_record_30 rfl (lv_at hl 1 rfl) ?_
  refine lv_dup hx hb dX1_record_31 rfl ?_
  refine va_get (D := G.1) (ci := 1) (v := .int (((f_X0_copyFrom_3_0 S) 7 0) 1)) (C := RX1) (T := TX1) (N := 2) hx hb hts hinX1 hown hK.1 hP 43 (wX_43 G A (f_X0_copyFrom_3_0 S) 2) rfl 1 (by decide) (hts (.fieldLink RX1 18 "WireLoops$History" "states" "I") (List.mem_of_getElem? (i := 1) rfl)) (fun _ h9 => h9) rfl dX1_record_32 ?_
  refine W.eq (g2 := F0 m 35 ls [.int 2, .ref (A 43)]) (by rw [show (((f_X0_copyFrom_3_0 S) 7 0) 1) = (2 : Int32) from hq] <;> rfl) ?_
  refine lv_iconst (v := 1) hx hb dX1_record_35 (by decide) ?_
  refine lv_iadd hx hb dX1_record_36 ?_
  refine W.eq (g2 := F0 m 37 ls [.int 3, .ref (A 43)]) (by rw [show (2 + 1) = (3 : Int32) from by decide] <;> rfl) ?_
  refine va_put (D := G.1) (ci := 1) (v := .int 3) (ty := .int) (C := RX1) (T := TX1) (N := 2) hx hb hts hinX1 tyX1 tyX1_ok nmX1 hown hK.1 hP hD hS 43 (wX_43 G A (f_X0_copyFrom_3_0 S) 2) rfl 1 (by decide) (hts (.fieldLink RX1 18 "WireLoops$History" "states" "I") (List.mem_of_getElem? (i := 1) rfl)) (fun _ h9 => h9) rfl (by decide +kernel) rfl rfl (Nat.le_of_ble_eq_true rfl) dX1_record_37 (fun H locs hP hD hS => ?_)
  rw [wX_s43 G A (f_X0_copyFrom_3_0 S) 2 _] at hP hD
  have hP : va_P G.1 vwCl (wX G A (su (f_X0_copyFrom_3_0 S) 7 0 (upd ((f_X0_copyFrom_3_0 S) 7 0) 1 3)) 2) H := hP
  have hD : va_D A0 (wX G A (su (f_X0_copyFrom_3_0 S) 7 0 (upd ((f_X0_copyFrom_3_0 S) 7 0) 1 3)) 2) := hD
  exact endZ hx hb hr hlocks hP hD hS rfl dX1_record_40
def f_X1_record_1_2_2 (S : XS) : XS := su (sc S 3 1) 7 0 (upd (S 7 0) 1 3)
theorem e_X1_record_1_2_2 (S : XS) : f_X1_record_1_2_2 S = su (sc S 3 1) 7 0 (upd (S 7 0) 1 3) := rfl
set_option maxHeartbeats 4000000 in
set_option maxRecDepth 100000 in
theorem c_X1_record_1_2_2 (l : Launch) (G : GG) (A : Nat → Nat) (S : XS)  (hq : S 7 0 1 = 2) (hbe : S 1 0 4 = 0 ∨ S 1 0 4 = 1) : Mz l yX1_record wsX1_record ({ frames := 2, cells := 0, slots := 0, locals := 47 } : Room) G [.ref (A 43), .ref (A (6 * 1))] (wX G A S 2) (wX G A (f_X1_record_1_2_2 S) 2) := by
  refine Mz.of (cc := cX1_record) (maxL := 3) (ret := none) (by decide) rfl (Nat.le_of_ble_eq_true rfl) ?_
  intro p e s m args below meth c A0 hA0 E hr hlocks hP hK hD hA hS ls hl
  have E : CallFix p m c cX1_record 3 s args wsX1_record RX1 := E
  have hx := E.1
  have hb := E.2.1
  have hml := E.2.2.1
  have hown := E.2.2.2.1
  have hts := E.2.2.2.2
  have hl : lv_has ls 3 [(0, .ref (A 43)), (1, .ref (A (6 * 1)))] := hl
  have hinX1 : ∀ w ∈ u_ws RX1 TX1 2, w ∈ wsX1_record := fun _ h => List.mem_cons_of_mem _ (List.mem_append_left _ (List.mem_append_right _ h))
  refine lv_aload_n hx hb dX1_record_0 rfl (lv_at hl 0 rfl) ?_
  refine va_get (D := G.1) (ci := 1) (v := .int (S 7 0 1)) (C := RX1) (T := TX1) (N := 2) hx hb hts hinX1 hown hK.1 hP 43 (wX_43 G A S 2) rfl 1 (by decide) (hts (.fieldLink RX1 18 "WireLoops$History" "states" "I") (List.mem_of_getElem? (i := 1) rfl)) (fun _ h9 => h9) rfl dX1_record_1 ?_
  refine W.eq (g2 := F0 m 4 ls [.int 2]) (by rw [hq] <;> rfl) ?_
  refine lv_iconst (v := 4) hx hb dX1_record_4 (by decide) ?_
  refine lv_icmp_lt (tgt := 12) hx hb dX1_record_5 (by decide) (fun c1 => ?_) (fun c1 => absurd (by decide) c1)
  refine lv_aload_n hx hb dX1_record_12 rfl (lv_at hl 0 rfl) ?_
  refine lv_aload_n hx hb dX1_record_13 rfl (lv_at hl 0 rfl) ?_
  refine va_get (D := G.1) (ci := 1) (v := .int (S 7 0 1)) (C := RX1) (T := TX1) (N := 2) hx hb hts hinX1 hown hK.1 hP 43 (wX_43 G A S 2) rfl 1 (by decide) (hts (.fieldLink RX1 18 "WireLoops$History" "states" "I") (List.mem_of_getElem? (i := 1) rfl)) (fun _ h9 => h9) rfl dX1_record_14 ?_
  refine W.eq (g2 := F0 m 17 ls [.int 2, .ref (A 43)]) (by rw [show (S 7 0 1) = (2 : Int32) from hq] <;> rfl) ?_
  refine crV (rest := []) (As := [.int 2]) E (c_X1_placeAt_2_2 l G A S) (cwV 1 hts gX1_record_X1_placeAt rfl rfl rfl (by decide +kernel) ⟨Nat.le_of_ble_eq_true rfl, Nat.le_of_ble_eq_true rfl⟩) hK hP 43 (wX_43 G A S 2) rfl rfl hl.1 rfl (Nat.le_of_ble_eq_true rfl) dX1_record_17 ⟨Nat.zero_le _, Nat.zero_le _⟩ ?_
  refine lv_astore_n (lv' := [(2, .ref (A (6 * 3))), (0, .ref (A 43)), (1, .ref (A (6 * 1)))]) hx hb dX1_record_20 rfl hl (by decide) rfl (fun ls hl => ?_)
  refine lv_aload_n hx hb dX1_record_21 rfl (lv_at hl 0 rfl) ?_
  refine lv_ifnull hx hb dX1_record_22 ?_
  refine lv_aload_n hx hb dX1_record_25 rfl (lv_at hl 0 rfl) ?_
  refine lv_aload_n hx hb dX1_record_26 rfl (lv_at hl 2 rfl) ?_
  refine czV (rest := []) (As := [.ref (A (6 * 1))]) E (c_X0_copyFrom_3_1 l G A S 2 hbe) (cwV 1 hts gX1_record_X0_copyFrom rfl rfl rfl (by decide +kernel) ⟨Nat.le_of_ble_eq_true rfl, Nat.le_of_ble_eq_true rfl⟩) hK hP hD hS hA (6 * 3) (wX_o G A S 2 3 (by decide)) rfl rfl hl.1 rfl (Nat.le_of_ble_eq_true rfl) dX1_record_27 ⟨Nat.zero_le _, Nat.zero_le _⟩ (fun H locs hP hD hS => ?_)
  refine lv_aload_n hx hb dX1_record_30 rfl (lv_at hl 1 rfl) ?_
  refine lv_dup hx hb dX1_record_31 rfl ?_
  refine va_get (D := G.1) (ci := 1) (v := .int (((f_X0_copyFrom_3_1 S) 7 0) 1)) (C := RX1) (T := TX1) (N := 2) hx hb hts hinX1 hown hK.1 hP 43 (wX_43 G A (f_X0_copyFrom_3_1 S) 2) rfl 1 (by decide) (hts (.fieldLink RX1 18 "WireLoops$History" "states" "I") (List.mem_of_getElem? (i := 1) rfl)) (fun _ h9 => h9) rfl dX1_record_32 ?_
  refine W.eq (g2 := F0 m 35 ls [.int 2, .ref (A 43)]) (by rw [show (((f_X0_copyFrom_3_1 S) 7 0) 1) = (2 : Int32) from hq] <;> rfl) ?_
  refine lv_iconst (v := 1) hx hb dX1_record_35 (by decide) ?_
  refine lv_iadd hx hb dX1_record_36 ?_
  refine W.eq (g2 := F0 m 37 ls [.int 3, .ref (A 43)]) (by rw [show (2 + 1) = (3 : Int32) from by decide] <;> rfl) ?_
  refine va_put (D := G.1) (ci := 1) (v := .int 3) (ty := .int) (C := RX1) (T := TX1) (N := 2) hx hb hts hinX1 tyX1 tyX1_ok nmX1 hown hK.1 hP hD hS 43 (wX_43 G A (f_X0_copyFrom_3_1 S) 2) rfl 1 (by decide) (hts (.fieldLink RX1 18 "WireLoops$History" "states" "I") (List.mem_of_getElem? (i := 1) rfl)) (fun _ h9 => h9) rfl (by decide +kernel) rfl rfl (Nat.le_of_ble_eq_true rfl) dX1_record_37 (fun H locs hP hD hS => ?_)
  rw [wX_s43 G A (f_X0_copyFrom_3_1 S) 2 _] at hP hD
  have hP : va_P G.1 vwCl (wX G A (su (f_X0_copyFrom_3_1 S) 7 0 (upd ((f_X0_copyFrom_3_1 S) 7 0) 1 3)) 2) H := hP
  have hD : va_D A0 (wX G A (su (f_X0_copyFrom_3_1 S) 7 0 (upd ((f_X0_copyFrom_3_1 S) 7 0) 1 3)) 2) := hD
  exact endZ hx hb hr hlocks hP hD hS rfl dX1_record_40
def f_X1_record_0_3_2 (S : XS) : XS := su (sc S 4 0) 7 0 (upd (S 7 0) 1 4)
theorem e_X1_record_0_3_2 (S : XS) : f_X1_record_0_3_2 S = su (sc S 4 0) 7 0 (upd (S 7 0) 1 4) := rfl
set_option maxHeartbeats 4000000 in
set_option maxRecDepth 100000 in
theorem c_X1_record_0_3_2 (l : Launch) (G : GG) (A : Nat → Nat) (S : XS)  (hq : S 7 0 1 = 3) (hbe : S 0 0 4 = 0 ∨ S 0 0 4 = 1) : Mz l yX1_record wsX1_record ({ frames := 2, cells := 0, slots := 0, locals := 47 } : Room) G [.ref (A 43), .ref (A (6 * 0))] (wX G A S 2) (wX G A (f_X1_record_0_3_2 S) 2) := by
  refine Mz.of (cc := cX1_record) (maxL := 3) (ret := none) (by decide) rfl (Nat.le_of_ble_eq_true rfl) ?_
  intro p e s m args below meth c A0 hA0 E hr hlocks hP hK hD hA hS ls hl
  have E : CallFix p m c cX1_record 3 s args wsX1_record RX1 := E
  have hx := E.1
  have hb := E.2.1
  have hml := E.2.2.1
  have hown := E.2.2.2.1
  have hts := E.2.2.2.2
  have hl : lv_has ls 3 [(0, .ref (A 43)), (1, .ref (A (6 * 0)))] := hl
  have hinX1 : ∀ w ∈ u_ws RX1 TX1 2, w ∈ wsX1_record := fun _ h => List.mem_cons_of_mem _ (List.mem_append_left _ (List.mem_append_right _ h))
  refine lv_aload_n hx hb dX1_record_0 rfl (lv_at hl 0 rfl) ?_
  refine va_get (D := G.1) (ci := 1) (v := .int (S 7 0 1)) (C := RX1) (T := TX1) (N := 2) hx hb hts hinX1 hown hK.1 hP 43 (wX_43 G A S 2) rfl 1 (by decide) (hts (.fieldLink RX1 18 "WireLoops$History" "states" "I") (List.mem_of_getElem? (i := 1) rfl)) (fun _ h9 => h9) rfl dX1_record_1 ?_
  refine W.eq (g2 := F0 m 4 ls [.int 3]) (by rw [hq] <;> rfl) ?_
  refine lv_iconst (v := 4) hx hb dX1_record_4 (by decide) ?_
  refine lv_icmp_lt (tgt := 12) hx hb dX1_record_5 (by decide) (fun c1 => ?_) (fun c1 => absurd (by decide) c1)
  refine lv_aload_n hx hb dX1_record_12 rfl (lv_at hl 0 rfl) ?_
  refine lv_aload_n hx hb dX1_record_13 rfl (lv_at hl 0 rfl) ?_
  refine va_get (D := G.1) (ci := 1) (v := .int (S 7 0 1)) (C := RX1) (T := TX1) (N := 2) hx hb hts hinX1 hown hK.1 hP 43 (wX_43 G A S 2) rfl 1 (by decide) (hts (.fieldLink RX1 18 "WireLoops$History" "states" "I") (List.mem_of_getElem? (i := 1) rfl)) (fun _ h9 => h9) rfl dX1_record_14 ?_
  refine W.eq (g2 := F0 m 17 ls [.int 3, .ref (A 43)]) (by rw [show (S 7 0 1) = (3 : Int32) from hq] <;> rfl) ?_
  refine crV (rest := []) (As := [.int 3]) E (c_X1_placeAt_3_2 l G A S) (cwV 1 hts gX1_record_X1_placeAt rfl rfl rfl (by decide +kernel) ⟨Nat.le_of_ble_eq_true rfl, Nat.le_of_ble_eq_true rfl⟩) hK hP 43 (wX_43 G A S 2) rfl rfl hl.1 rfl (Nat.le_of_ble_eq_true rfl) dX1_record_17 ⟨Nat.zero_le _, Nat.zero_le _⟩ ?_
  refine lv_astore_n (lv' := [(2, .ref (A (6 * 4))), (0, .ref (A 43)), (1, .ref (A (6 * 0)))]) hx hb dX1_record_20 rfl hl (by decide) rfl (fun ls hl => ?_)
  refine lv_aload_n hx hb dX1_record_21 rfl (lv_at hl 0 rfl) ?_
  refine lv_ifnull hx hb dX1_record_22 ?_
  refine lv_aload_n hx hb dX1_record_25 rfl (lv_at hl 0 rfl) ?_
  refine lv_aload_n hx hb dX1_record_26 rfl (lv_at hl 2 rfl) ?_
  refine czV (rest := []) (As := [.ref (A (6 * 0))]) E (c_X0_copyFrom_4_0 l G A S 2 hbe) (cwV 1 hts gX1_record_X0_copyFrom rfl rfl rfl (by decide +kernel) ⟨Nat.le_of_ble_eq_true rfl, Nat.le_of_ble_eq_true rfl⟩) hK hP hD hS hA (6 * 4) (wX_o G A S 2 4 (by decide)) rfl rfl hl.1 rfl (Nat.le_of_ble_eq_true rfl) dX1_record_27 ⟨Nat.zero_le _, Nat.zero_le _⟩ (fun H locs hP hD hS => ?_)
  refine lv_aload_n hx hb dX1_record_30 rfl (lv_at hl 1 rfl) ?_
  refine lv_dup hx hb dX1_record_31 rfl ?_
  refine va_get (D := G.1) (ci := 1) (v := .int (((f_X0_copyFrom_4_0 S) 7 0) 1)) (C := RX1) (T := TX1) (N := 2) hx hb hts hinX1 hown hK.1 hP 43 (wX_43 G A (f_X0_copyFrom_4_0 S) 2) rfl 1 (by decide) (hts (.fieldLink RX1 18 "WireLoops$History" "states" "I") (List.mem_of_getElem? (i := 1) rfl)) (fun _ h9 => h9) rfl dX1_record_32 ?_
  refine W.eq (g2 := F0 m 35 ls [.int 3, .ref (A 43)]) (by rw [show (((f_X0_copyFrom_4_0 S) 7 0) 1) = (3 : Int32) from hq] <;> rfl) ?_
  refine lv_iconst (v := 1) hx hb dX1_record_35 (by decide) ?_
  refine lv_iadd hx hb dX1_record_36 ?_
  refine W.eq (g2 := F0 m 37 ls [.int 4, .ref (A 43)]) (by rw [show (3 + 1) = (4 : Int32) from by decide] <;> rfl) ?_
  refine va_put (D := G.1) (ci := 1) (v := .int 4) (ty := .int) (C := RX1) (T := TX1) (N := 2) hx hb hts hinX1 tyX1 tyX1_ok nmX1 hown hK.1 hP hD hS 43 (wX_43 G A (f_X0_copyFrom_4_0 S) 2) rfl 1 (by decide) (hts (.fieldLink RX1 18 "WireLoops$History" "states" "I") (List.mem_of_getElem? (i := 1) rfl)) (fun _ h9 => h9) rfl (by decide +kernel) rfl rfl (Nat.le_of_ble_eq_true rfl) dX1_record_37 (fun H locs hP hD hS => ?_)
  rw [wX_s43 G A (f_X0_copyFrom_4_0 S) 2 _] at hP hD
  have hP : va_P G.1 vwCl (wX G A (su (f_X0_copyFrom_4_0 S) 7 0 (upd ((f_X0_copyFrom_4_0 S) 7 0) 1 4)) 2) H := hP
  have hD : va_D A0 (wX G A (su (f_X0_copyFrom_4_0 S) 7 0 (upd ((f_X0_copyFrom_4_0 S) 7 0) 1 4)) 2) := hD
  exact endZ hx hb hr hlocks hP hD hS rfl dX1_record_40
def f_X1_record_1_3_2 (S : XS) : XS := su (sc S 4 1) 7 0 (upd (S 7 0) 1 4)
theorem e_X1_record_1_3_2 (S : XS) : f_X1_record_1_3_2 S = su (sc S 4 1) 7 0 (upd (S 7 0) 1 4) := rfl
set_option maxHeartbeats 4000000 in
set_option maxRecDepth 100000 in
theorem c_X1_record_1_3_2 (l : Launch) (G : GG) (A : Nat → Nat) (S : XS)  (hq : S 7 0 1 = 3) (hbe : S 1 0 4 = 0 ∨ S 1 0 4 = 1) : Mz l yX1_record wsX1_record ({ frames := 2, cells := 0, slots := 0, locals := 47 } : Room) G [.ref (A 43), .ref (A (6 * 1))] (wX G A S 2) (wX G A (f_X1_record_1_3_2 S) 2) := by
  refine Mz.of (cc := cX1_record) (maxL := 3) (ret := none) (by decide) rfl (Nat.le_of_ble_eq_true rfl) ?_
  intro p e s m args below meth c A0 hA0 E hr hlocks hP hK hD hA hS ls hl
  have E : CallFix p m c cX1_record 3 s args wsX1_record RX1 := E
  have hx := E.1
  have hb := E.2.1
  have hml := E.2.2.1
  have hown := E.2.2.2.1
  have hts := E.2.2.2.2
  have hl : lv_has ls 3 [(0, .ref (A 43)), (1, .ref (A (6 * 1)))] := hl
  have hinX1 : ∀ w ∈ u_ws RX1 TX1 2, w ∈ wsX1_record := fun _ h => List.mem_cons_of_mem _ (List.mem_append_left _ (List.mem_append_right _ h))
  refine lv_aload_n hx hb dX1_record_0 rfl (lv_at hl 0 rfl) ?_
  refine va_get (D := G.1) (ci := 1) (v := .int (S 7 0 1)) (C := RX1) (T := TX1) (N := 2) hx hb hts hinX1 hown hK.1 hP 43 (wX_43 G A S 2) rfl 1 (by decide) (hts (.fieldLink RX1 18 "WireLoops$History" "states" "I") (List.mem_of_getElem? (i := 1) rfl)) (fun _ h9 => h9) rfl dX1_record_1 ?_
  refine W.eq (g2 := F0 m 4 ls [.int 3]) (by rw [hq] <;> rfl) ?_
  refine lv_iconst (v := 4) hx hb dX1_record_4 (by decide) ?_
  refine lv_icmp_lt (tgt := 12) hx hb dX1_record_5 (by decide) (fun c1 => ?_) (fun c1 => absurd (by decide) c1)
  refine lv_aload_n hx hb dX1_record_12 rfl (lv_at hl 0 rfl) ?_
  refine lv_aload_n hx hb dX1_record_13 rfl (lv_at hl 0 rfl) ?_
  refine va_get (D := G.1) (ci := 1) (v := .int (S 7 0 1)) (C := RX1) (T := TX1) (N := 2) hx hb hts hinX1 hown hK.1 hP 43 (wX_43 G A S 2) rfl 1 (by decide) (hts (.fieldLink RX1 18 "WireLoops$History" "states" "I") (List.mem_of_getElem? (i := 1) rfl)) (fun _ h9 => h9) rfl dX1_record_14 ?_
  refine W.eq (g2 := F0 m 17 ls [.int 3, .ref (A 43)]) (by rw [show (S 7 0 1) = (3 : Int32) from hq] <;> rfl) ?_
  refine crV (rest := []) (As := [.int 3]) E (c_X1_placeAt_3_2 l G A S) (cwV 1 hts gX1_record_X1_placeAt rfl rfl rfl (by decide +kernel) ⟨Nat.le_of_ble_eq_true rfl, Nat.le_of_ble_eq_true rfl⟩) hK hP 43 (wX_43 G A S 2) rfl rfl hl.1 rfl (Nat.le_of_ble_eq_true rfl) dX1_record_17 ⟨Nat.zero_le _, Nat.zero_le _⟩ ?_
  refine lv_astore_n (lv' := [(2, .ref (A (6 * 4))), (0, .ref (A 43)), (1, .ref (A (6 * 1)))]) hx hb dX1_record_20 rfl hl (by decide) rfl (fun ls hl => ?_)
  refine lv_aload_n hx hb dX1_record_21 rfl (lv_at hl 0 rfl) ?_
  refine lv_ifnull hx hb dX1_record_22 ?_
  refine lv_aload_n hx hb dX1_record_25 rfl (lv_at hl 0 rfl) ?_
  refine lv_aload_n hx hb dX1_record_26 rfl (lv_at hl 2 rfl) ?_
  refine czV (rest := []) (As := [.ref (A (6 * 1))]) E (c_X0_copyFrom_4_1 l G A S 2 hbe) (cwV 1 hts gX1_record_X0_copyFrom rfl rfl rfl (by decide +kernel) ⟨Nat.le_of_ble_eq_true rfl, Nat.le_of_ble_eq_true rfl⟩) hK hP hD hS hA (6 * 4) (wX_o G A S 2 4 (by decide)) rfl rfl hl.1 rfl (Nat.le_of_ble_eq_true rfl) dX1_record_27 ⟨Nat.zero_le _, Nat.zero_le _⟩ (fun H locs hP hD hS => ?_)
  refine lv_aload_n hx hb dX1_record_30 rfl (lv_at hl 1 rfl) ?_
  refine lv_dup hx hb dX1_record_31 rfl ?_
  refine va_get (D := G.1) (ci := 1) (v := .int (((f_X0_copyFrom_4_1 S) 7 0) 1)) (C := RX1) (T := TX1) (N := 2) hx hb hts hinX1 hown hK.1 hP 43 (wX_43 G A (f_X0_copyFrom_4_1 S) 2) rfl 1 (by decide) (hts (.fieldLink RX1 18 "WireLoops$History" "states" "I") (List.mem_of_getElem? (i := 1) rfl)) (fun _ h9 => h9) rfl dX1_record_32 ?_
  refine W.eq (g2 := F0 m 35 ls [.int 3, .ref (A 43)]) (by rw [show (((f_X0_copyFrom_4_1 S) 7 0) 1) = (3 : Int32) from hq] <;> rfl) ?_
  refine lv_iconst (v := 1) hx hb dX1_record_35 (by decide) ?_
  refine lv_iadd hx hb dX1_record_36 ?_
  refine W.eq (g2 := F0 m 37 ls [.int 4, .ref (A 43)]) (by rw [show (3 + 1) = (4 : Int32) from by decide] <;> rfl) ?_
  refine va_put (D := G.1) (ci := 1) (v := .int 4) (ty := .int) (C := RX1) (T := TX1) (N := 2) hx hb hts hinX1 tyX1 tyX1_ok nmX1 hown hK.1 hP hD hS 43 (wX_43 G A (f_X0_copyFrom_4_1 S) 2) rfl 1 (by decide) (hts (.fieldLink RX1 18 "WireLoops$History" "states" "I") (List.mem_of_getElem? (i := 1) rfl)) (fun _ h9 => h9) rfl (by decide +kernel) rfl rfl (Nat.le_of_ble_eq_true rfl) dX1_record_37 (fun H locs hP hD hS => ?_)
  rw [wX_s43 G A (f_X0_copyFrom_4_1 S) 2 _] at hP hD
  have hP : va_P G.1 vwCl (wX G A (su (f_X0_copyFrom_4_1 S) 7 0 (upd ((f_X0_copyFrom_4_1 S) 7 0) 1 4)) 2) H := hP
  have hD : va_D A0 (wX G A (su (f_X0_copyFrom_4_1 S) 7 0 (upd ((f_X0_copyFrom_4_1 S) 7 0) 1 4)) 2) := hD
  exact endZ hx hb hr hlocks hP hD hS rfl dX1_record_40
def f_X1_record_0_4_2 (S : XS) : XS := su (sc (su S 7 0 (upd (S 7 0) 1 3)) 5 0) 7 0 (upd (upd (S 7 0) 1 3) 1 4)
theorem e_X1_record_0_4_2 (S : XS) : f_X1_record_0_4_2 S = su (sc (su S 7 0 (upd (S 7 0) 1 3)) 5 0) 7 0 (upd (upd (S 7 0) 1 3) 1 4) := rfl
set_option maxHeartbeats 4000000 in
set_option maxRecDepth 100000 in
theorem c_X1_record_0_4_2 (l : Launch) (G : GG) (A : Nat → Nat) (S : XS)  (hq : S 7 0 1 = 4) (hbe : S 0 0 4 = 0 ∨ S 0 0 4 = 1) : Mz l yX1_record wsX1_record ({ frames := 2, cells := 0, slots := 0, locals := 47 } : Room) G [.ref (A 43), .ref (A (6 * 0))] (wX G A S 2) (wX G A (f_X1_record_0_4_2 S) 3) := by
  refine Mz.of (cc := cX1_record) (maxL := 3) (ret := none) (by decide) rfl (Nat.le_of_ble_eq_true rfl) ?_
  intro p e s m args below meth c A0 hA0 E hr hlocks hP hK hD hA hS ls hl
  have E : CallFix p m c cX1_record 3 s args wsX1_record RX1 := E
  have hx := E.1
  have hb := E.2.1
  have hml := E.2.2.1
  have hown := E.2.2.2.1
  have hts := E.2.2.2.2
  have hl : lv_has ls 3 [(0, .ref (A 43)), (1, .ref (A (6 * 0)))] := hl
  have hinX1 : ∀ w ∈ u_ws RX1 TX1 2, w ∈ wsX1_record := fun _ h => List.mem_cons_of_mem _ (List.mem_append_left _ (List.mem_append_right _ h))
  refine lv_aload_n hx hb dX1_record_0 rfl (lv_at hl 0 rfl) ?_
  refine va_get (D := G.1) (ci := 1) (v := .int (S 7 0 1)) (C := RX1) (T := TX1) (N := 2) hx hb hts hinX1 hown hK.1 hP 43 (wX_43 G A S 2) rfl 1 (by decide) (hts (.fieldLink RX1 18 "WireLoops$History" "states" "I") (List.mem_of_getElem? (i := 1) rfl)) (fun _ h9 => h9) rfl dX1_record_1 ?_
  refine W.eq (g2 := F0 m 4 ls [.int 4]) (by rw [hq] <;> rfl) ?_
  refine lv_iconst (v := 4) hx hb dX1_record_4 (by decide) ?_
  refine lv_icmp_lt (tgt := 12) hx hb dX1_record_5 (by decide) (fun c1 => absurd c1 (by decide)) (fun c1 => ?_)
  refine lv_aload_n hx hb dX1_record_8 rfl (lv_at hl 0 rfl) ?_
  refine czV (rest := []) (As := []) E (c_X1_dropOldest_2 l G A S) (cwV 0 hts gX1_record_X1_dropOldest rfl rfl rfl (by decide +kernel) ⟨Nat.le_of_ble_eq_true rfl, Nat.le_of_ble_eq_true rfl⟩) hK hP hD hS hA 43 (wX_43 G A S 2) rfl rfl hl.1 rfl (Nat.le_of_ble_eq_true rfl) dX1_record_9 ⟨Nat.zero_le _, Nat.zero_le _⟩ (fun H locs hP hD hS => ?_)
  refine lv_aload_n hx hb dX1_record_12 rfl (lv_at hl 0 rfl) ?_
  refine lv_aload_n hx hb dX1_record_13 rfl (lv_at hl 0 rfl) ?_
  refine va_get (D := G.1) (ci := 1) (v := .int (((f_X1_dropOldest_2 S) 7 0) 1)) (C := RX1) (T := TX1) (N := 2) hx hb hts hinX1 hown hK.1 hP 43 (wX_43 G A (f_X1_dropOldest_2 S) 3) rfl 1 (by decide) (hts (.fieldLink RX1 18 "WireLoops$History" "states" "I") (List.mem_of_getElem? (i := 1) rfl)) (fun _ h9 => h9) rfl dX1_record_14 ?_
  refine W.eq (g2 := F0 m 17 ls [.int 3, .ref (A 43)]) (by rw [show (((f_X1_dropOldest_2 S) 7 0) 1) = (3 : Int32) from rfl] <;> rfl) ?_
  refine crV (rest := []) (As := [.int 3]) E (c_X1_placeAt_3_3 l G A (f_X1_dropOldest_2 S)) (cwV 1 hts gX1_record_X1_placeAt rfl rfl rfl (by decide +kernel) ⟨Nat.le_of_ble_eq_true rfl, Nat.le_of_ble_eq_true rfl⟩) hK hP 43 (wX_43 G A (f_X1_dropOldest_2 S) 3) rfl rfl hl.1 rfl (Nat.le_of_ble_eq_true rfl) dX1_record_17 ⟨Nat.zero_le _, Nat.zero_le _⟩ ?_
  refine lv_astore_n (lv' := [(2, .ref (A (6 * 5))), (0, .ref (A 43)), (1, .ref (A (6 * 0)))]) hx hb dX1_record_20 rfl hl (by decide) rfl (fun ls hl => ?_)
  refine lv_aload_n hx hb dX1_record_21 rfl (lv_at hl 0 rfl) ?_
  refine lv_ifnull hx hb dX1_record_22 ?_
  refine lv_aload_n hx hb dX1_record_25 rfl (lv_at hl 0 rfl) ?_
  refine lv_aload_n hx hb dX1_record_26 rfl (lv_at hl 2 rfl) ?_
  refine czV (rest := []) (As := [.ref (A (6 * 0))]) E (c_X0_copyFrom_5_0 l G A (f_X1_dropOldest_2 S) 3 hbe) (cwV 1 hts gX1_record_X0_copyFrom rfl rfl rfl (by decide +kernel) ⟨Nat.le_of_ble_eq_true rfl, Nat.le_of_ble_eq_true rfl⟩) hK hP hD hS hA (6 * 5) (wX_o G A (f_X1_dropOldest_2 S) 3 5 (by decide)) rfl rfl hl.1 rfl (Nat.le_of_ble_eq_true rfl) dX1_record_27 ⟨Nat.zero_le _, Nat.zero_le _⟩ (fun H locs hP hD hS => ?_)
  refine lv_aload_n hx hb dX1_record_30 rfl (lv_at hl 1 rfl) ?_
  refine lv_dup hx hb dX1_record_31 rfl ?_
  refine va_get (D := G.1) (ci := 1) (v := .int (((f_X0_copyFrom_5_0 (f_X1_dropOldest_2 S)) 7 0) 1)) (C := RX1) (T := TX1) (N := 2) hx hb hts hinX1 hown hK.1 hP 43 (wX_43 G A (f_X0_copyFrom_5_0 (f_X1_dropOldest_2 S)) 3) rfl 1 (by decide) (hts (.fieldLink RX1 18 "WireLoops$History" "states" "I") (List.mem_of_getElem? (i := 1) rfl)) (fun _ h9 => h9) rfl dX1_record_32 ?_
  refine W.eq (g2 := F0 m 35 ls [.int 3, .ref (A 43)]) (by rw [show (((f_X0_copyFrom_5_0 (f_X1_dropOldest_2 S)) 7 0) 1) = (3 : Int32) from rfl] <;> rfl) ?_
  refine lv_iconst (v := 1) hx hb dX1_record_35 (by decide) ?_
  refine lv_iadd hx hb dX1_record_36 ?_
  refine W.eq (g2 := F0 m 37 ls [.int 4, .ref (A 43)]) (by rw [show (3 + 1) = (4 : Int32) from by decide] <;> rfl) ?_
  refine va_put (D := G.1) (ci := 1) (v := .int 4) (ty := .int) (C := RX1) (T := TX1) (N := 2) hx hb hts hinX1 tyX1 tyX1_ok nmX1 hown hK.1 hP hD hS 43 (wX_43 G A (f_X0_copyFrom_5_0 (f_X1_dropOldest_2 S)) 3) rfl 1 (by decide) (hts (.fieldLink RX1 18 "WireLoops$History" "states" "I") (List.mem_of_getElem? (i := 1) rfl)) (fun _ h9 => h9) rfl (by decide +kernel) rfl rfl (Nat.le_of_ble_eq_true rfl) dX1_record_37 (fun H locs hP hD hS => ?_)
  rw [wX_s43 G A (f_X0_copyFrom_5_0 (f_X1_dropOldest_2 S)) 3 _] at hP hD
  have hP : va_P G.1 vwCl (wX G A (su (f_X0_copyFrom_5_0 (f_X1_dropOldest_2 S)) 7 0 (upd ((f_X0_copyFrom_5_0 (f_X1_dropOldest_2 S)) 7 0) 1 4)) 3) H := hP
  have hD : va_D A0 (wX G A (su (f_X0_copyFrom_5_0 (f_X1_dropOldest_2 S)) 7 0 (upd ((f_X0_copyFrom_5_0 (f_X1_dropOldest_2 S)) 7 0) 1 4)) 3) := hD
  exact endZ hx hb hr hlocks hP hD hS rfl dX1_record_40
def f_X1_record_1_4_2 (S : XS) : XS := su (sc (su S 7 0 (upd (S 7 0) 1 3)) 5 1) 7 0 (upd (upd (S 7 0) 1 3) 1 4)
theorem e_X1_record_1_4_2 (S : XS) : f_X1_record_1_4_2 S = su (sc (su S 7 0 (upd (S 7 0) 1 3)) 5 1) 7 0 (upd (upd (S 7 0) 1 3) 1 4) := rfl
set_option maxHeartbeats 4000000 in
set_option maxRecDepth 100000 in
theorem c_X1_record_1_4_2 (l : Launch) (G : GG) (A : Nat → Nat) (S : XS)  (hq : S 7 0 1 = 4) (hbe : S 1 0 4 = 0 ∨ S 1 0 4 = 1) : Mz l yX1_record wsX1_record ({ frames := 2, cells := 0, slots := 0, locals := 47 } : Room) G [.ref (A 43), .ref (A (6 * 1))] (wX G A S 2) (wX G A (f_X1_record_1_4_2 S) 3) := by
  refine Mz.of (cc := cX1_record) (maxL := 3) (ret := none) (by decide) rfl (Nat.le_of_ble_eq_true rfl) ?_
  intro p e s m args below meth c A0 hA0 E hr hlocks hP hK hD hA hS ls hl
  have E : CallFix p m c cX1_record 3 s args wsX1_record RX1 := E
  have hx := E.1
  have hb := E.2.1
  have hml := E.2.2.1
  have hown := E.2.2.2.1
  have hts := E.2.2.2.2
  have hl : lv_has ls 3 [(0, .ref (A 43)), (1, .ref (A (6 * 1)))] := hl
  have hinX1 : ∀ w ∈ u_ws RX1 TX1 2, w ∈ wsX1_record := fun _ h => List.mem_cons_of_mem _ (List.mem_append_left _ (List.mem_append_right _ h))
  refine lv_aload_n hx hb dX1_record_0 rfl (lv_at hl 0 rfl) ?_
  refine va_get (D := G.1) (ci := 1) (v := .int (S 7 0 1)) (C := RX1) (T := TX1) (N := 2) hx hb hts hinX1 hown hK.1 hP 43 (wX_43 G A S 2) rfl 1 (by decide) (hts (.fieldLink RX1 18 "WireLoops$History" "states" "I") (List.mem_of_getElem? (i := 1) rfl)) (fun _ h9 => h9) rfl dX1_record_1 ?_
  refine W.eq (g2 := F0 m 4 ls [.int 4]) (by rw [hq] <;> rfl) ?_
  refine lv_iconst (v := 4) hx hb dX1_record_4 (by decide) ?_
  refine lv_icmp_lt (tgt := 12) hx hb dX1_record_5 (by decide) (fun c1 => absurd c1 (by decide)) (fun c1 => ?_)
  refine lv_aload_n hx hb dX1_record_8 rfl (lv_at hl 0 rfl) ?_
  refine czV (rest := []) (As := []) E (c_X1_dropOldest_2 l G A S) (cwV 0 hts gX1_record_X1_dropOldest rfl rfl rfl (by decide +kernel) ⟨Nat.le_of_ble_eq_true rfl, Nat.le_of_ble_eq_true rfl⟩) hK hP hD hS hA 43 (wX_43 G A S 2) rfl rfl hl.1 rfl (Nat.le_of_ble_eq_true rfl) dX1_record_9 ⟨Nat.zero_le _, Nat.zero_le _⟩ (fun H locs hP hD hS => ?_)
  refine lv_aload_n hx hb dX1_record_12 rfl (lv_at hl 0 rfl) ?_
  refine lv_aload_n hx hb dX1_record_13 rfl (lv_at hl 0 rfl) ?_
  refine va_get (D := G.1) (ci := 1) (v := .int (((f_X1_dropOldest_2 S) 7 0) 1)) (C := RX1) (T := TX1) (N := 2) hx hb hts hinX1 hown hK.1 hP 43 (wX_43 G A (f_X1_dropOldest_2 S) 3) rfl 1 (by decide) (hts (.fieldLink RX1 18 "WireLoops$History" "states" "I") (List.mem_of_getElem? (i := 1) rfl)) (fun _ h9 => h9) rfl dX1_record_14 ?_
  refine W.eq (g2 := F0 m 17 ls [.int 3, .ref (A 43)]) (by rw [show (((f_X1_dropOldest_2 S) 7 0) 1) = (3 : Int32) from rfl] <;> rfl) ?_
  refine crV (rest := []) (As := [.int 3]) E (c_X1_placeAt_3_3 l G A (f_X1_dropOldest_2 S)) (cwV 1 hts gX1_record_X1_placeAt rfl rfl rfl (by decide +kernel) ⟨Nat.le_of_ble_eq_true rfl, Nat.le_of_ble_eq_true rfl⟩) hK hP 43 (wX_43 G A (f_X1_dropOldest_2 S) 3) rfl rfl hl.1 rfl (Nat.le_of_ble_eq_true rfl) dX1_record_17 ⟨Nat.zero_le _, Nat.zero_le _⟩ ?_
  refine lv_astore_n (lv' := [(2, .ref (A (6 * 5))), (0, .ref (A 43)), (1, .ref (A (6 * 1)))]) hx hb dX1_record_20 rfl hl (by decide) rfl (fun ls hl => ?_)
  refine lv_aload_n hx hb dX1_record_21 rfl (lv_at hl 0 rfl) ?_
  refine lv_ifnull hx hb dX1_record_22 ?_
  refine lv_aload_n hx hb dX1_record_25 rfl (lv_at hl 0 rfl) ?_
  refine lv_aload_n hx hb dX1_record_26 rfl (lv_at hl 2 rfl) ?_
  refine czV (rest := []) (As := [.ref (A (6 * 1))]) E (c_X0_copyFrom_5_1 l G A (f_X1_dropOldest_2 S) 3 hbe) (cwV 1 hts gX1_record_X0_copyFrom rfl rfl rfl (by decide +kernel) ⟨Nat.le_of_ble_eq_true rfl, Nat.le_of_ble_eq_true rfl⟩) hK hP hD hS hA (6 * 5) (wX_o G A (f_X1_dropOldest_2 S) 3 5 (by decide)) rfl rfl hl.1 rfl (Nat.le_of_ble_eq_true rfl) dX1_record_27 ⟨Nat.zero_le _, Nat.zero_le _⟩ (fun H locs hP hD hS => ?_)
  refine lv_aload_n hx hb dX1_record_30 rfl (lv_at hl 1 rfl) ?_
  refine lv_dup hx hb dX1_record_31 rfl ?_
  refine va_get (D := G.1) (ci := 1) (v := .int (((f_X0_copyFrom_5_1 (f_X1_dropOldest_2 S)) 7 0) 1)) (C := RX1) (T := TX1) (N := 2) hx hb hts hinX1 hown hK.1 hP 43 (wX_43 G A (f_X0_copyFrom_5_1 (f_X1_dropOldest_2 S)) 3) rfl 1 (by decide) (hts (.fieldLink RX1 18 "WireLoops$History" "states" "I") (List.mem_of_getElem? (i := 1) rfl)) (fun _ h9 => h9) rfl dX1_record_32 ?_
  refine W.eq (g2 := F0 m 35 ls [.int 3, .ref (A 43)]) (by rw [show (((f_X0_copyFrom_5_1 (f_X1_dropOldest_2 S)) 7 0) 1) = (3 : Int32) from rfl] <;> rfl) ?_
  refine lv_iconst (v := 1) hx hb dX1_record_35 (by decide) ?_
  refine lv_iadd hx hb dX1_record_36 ?_
  refine W.eq (g2 := F0 m 37 ls [.int 4, .ref (A 43)]) (by rw [show (3 + 1) = (4 : Int32) from by decide] <;> rfl) ?_
  refine va_put (D := G.1) (ci := 1) (v := .int 4) (ty := .int) (C := RX1) (T := TX1) (N := 2) hx hb hts hinX1 tyX1 tyX1_ok nmX1 hown hK.1 hP hD hS 43 (wX_43 G A (f_X0_copyFrom_5_1 (f_X1_dropOldest_2 S)) 3) rfl 1 (by decide) (hts (.fieldLink RX1 18 "WireLoops$History" "states" "I") (List.mem_of_getElem? (i := 1) rfl)) (fun _ h9 => h9) rfl (by decide +kernel) rfl rfl (Nat.le_of_ble_eq_true rfl) dX1_record_37 (fun H locs hP hD hS => ?_)
  rw [wX_s43 G A (f_X0_copyFrom_5_1 (f_X1_dropOldest_2 S)) 3 _] at hP hD
  have hP : va_P G.1 vwCl (wX G A (su (f_X0_copyFrom_5_1 (f_X1_dropOldest_2 S)) 7 0 (upd ((f_X0_copyFrom_5_1 (f_X1_dropOldest_2 S)) 7 0) 1 4)) 3) H := hP
  have hD : va_D A0 (wX G A (su (f_X0_copyFrom_5_1 (f_X1_dropOldest_2 S)) 7 0 (upd ((f_X0_copyFrom_5_1 (f_X1_dropOldest_2 S)) 7 0) 1 4)) 3) := hD
  exact endZ hx hb hr hlocks hP hD hS rfl dX1_record_40
def f_X1_record_0_0_3 (S : XS) : XS := su (sc S 6 0) 7 0 (upd (S 7 0) 1 1)
theorem e_X1_record_0_0_3 (S : XS) : f_X1_record_0_0_3 S = su (sc S 6 0) 7 0 (upd (S 7 0) 1 1) := rfl
set_option maxHeartbeats 4000000 in
set_option maxRecDepth 100000 in
theorem c_X1_record_0_0_3 (l : Launch) (G : GG) (A : Nat → Nat) (S : XS)  (hq : S 7 0 1 = 0) (hbe : S 0 0 4 = 0 ∨ S 0 0 4 = 1) : Mz l yX1_record wsX1_record ({ frames := 2, cells := 0, slots := 0, locals := 47 } : Room) G [.ref (A 43), .ref (A (6 * 0))] (wX G A S 3) (wX G A (f_X1_record_0_0_3 S) 3) := by
  refine Mz.of (cc := cX1_record) (maxL := 3) (ret := none) (by decide) rfl (Nat.le_of_ble_eq_true rfl) ?_
  intro p e s m args below meth c A0 hA0 E hr hlocks hP hK hD hA hS ls hl
  have E : CallFix p m c cX1_record 3 s args wsX1_record RX1 := E
  have hx := E.1
  have hb := E.2.1
  have hml := E.2.2.1
  have hown := E.2.2.2.1
  have hts := E.2.2.2.2
  have hl : lv_has ls 3 [(0, .ref (A 43)), (1, .ref (A (6 * 0)))] := hl
  have hinX1 : ∀ w ∈ u_ws RX1 TX1 2, w ∈ wsX1_record := fun _ h => List.mem_cons_of_mem _ (List.mem_append_left _ (List.mem_append_right _ h))
  refine lv_aload_n hx hb dX1_record_0 rfl (lv_at hl 0 rfl) ?_
  refine va_get (D := G.1) (ci := 1) (v := .int (S 7 0 1)) (C := RX1) (T := TX1) (N := 2) hx hb hts hinX1 hown hK.1 hP 43 (wX_43 G A S 3) rfl 1 (by decide) (hts (.fieldLink RX1 18 "WireLoops$History" "states" "I") (List.mem_of_getElem? (i := 1) rfl)) (fun _ h9 => h9) rfl dX1_record_1 ?_
  refine W.eq (g2 := F0 m 4 ls [.int 0]) (by rw [hq] <;> rfl) ?_
  refine lv_iconst (v := 4) hx hb dX1_record_4 (by decide) ?_
  refine lv_icmp_lt (tgt := 12) hx hb dX1_record_5 (by decide) (fun c1 => ?_) (fun c1 => absurd (by decide) c1)
  refine lv_aload_n hx hb dX1_record_12 rfl (lv_at hl 0 rfl) ?_
  refine lv_aload_n hx hb dX1_record_13 rfl (lv_at hl 0 rfl) ?_
  refine va_get (D := G.1) (ci := 1) (v := .int (S 7 0 1)) (C := RX1) (T := TX1) (N := 2) hx hb hts hinX1 hown hK.1 hP 43 (wX_43 G A S 3) rfl 1 (by decide) (hts (.fieldLink RX1 18 "WireLoops$History" "states" "I") (List.mem_of_getElem? (i := 1) rfl)) (fun _ h9 => h9) rfl dX1_record_14 ?_
  refine W.eq (g2 := F0 m 17 ls [.int 0, .ref (A 43)]) (by rw [show (S 7 0 1) = (0 : Int32) from hq] <;> rfl) ?_
  refine crV (rest := []) (As := [.int 0]) E (c_X1_placeAt_0_3 l G A S) (cwV 1 hts gX1_record_X1_placeAt rfl rfl rfl (by decide +kernel) ⟨Nat.le_of_ble_eq_true rfl, Nat.le_of_ble_eq_true rfl⟩) hK hP 43 (wX_43 G A S 3) rfl rfl hl.1 rfl (Nat.le_of_ble_eq_true rfl) dX1_record_17 ⟨Nat.zero_le _, Nat.zero_le _⟩ ?_
  refine lv_astore_n (lv' := [(2, .ref (A (6 * 6))), (0, .ref (A 43)), (1, .ref (A (6 * 0)))]) hx hb dX1_record_20 rfl hl (by decide) rfl (fun ls hl => ?_)
  refine lv_aload_n hx hb dX1_record_21 rfl (lv_at hl 0 rfl) ?_
  refine lv_ifnull hx hb dX1_record_22 ?_
  refine lv_aload_n hx hb dX1_record_25 rfl (lv_at hl 0 rfl) ?_
  refine lv_aload_n hx hb dX1_record_26 rfl (lv_at hl 2 rfl) ?_
  refine czV (rest := []) (As := [.ref (A (6 * 0))]) E (c_X0_copyFrom_6_0 l G A S 3 hbe) (cwV 1 hts gX1_record_X0_copyFrom rfl rfl rfl (by decide +kernel) ⟨Nat.le_of_ble_eq_true rfl, Nat.le_of_ble_eq_true rfl⟩) hK hP hD hS hA (6 * 6) (wX_o G A S 3 6 (by decide)) rfl rfl hl.1 rfl (Nat.le_of_ble_eq_true rfl) dX1_record_27 ⟨Nat.zero_le _, Nat.zero_le _⟩ (fun H locs hP hD hS => ?_)
  refine lv_aload_n hx hb dX1_record_30 rfl (lv_at hl 1 rfl) ?_
  refine lv_dup hx hb dX1_record_31 rfl ?_
  refine va_get (D := G.1) (ci := 1) (v := .int (((f_X0_copyFrom_6_0 S) 7 0) 1)) (C := RX1) (T := TX1) (N := 2) hx hb hts hinX1 hown hK.1 hP 43 (wX_43 G A (f_X0_copyFrom_6_0 S) 3) rfl 1 (by decide) (hts (.fieldLink RX1 18 "WireLoops$History" "states" "I") (List.mem_of_getElem? (i := 1) rfl)) (fun _ h9 => h9) rfl dX1_record_32 ?_
  refine W.eq (g2 := F0 m 35 ls [.int 0, .ref (A 43)]) (by rw [show (((f_X0_copyFrom_6_0 S) 7 0) 1) = (0 : Int32) from hq] <;> rfl) ?_
  refine lv_iconst (v := 1) hx hb dX1_record_35 (by decide) ?_
  refine lv_iadd hx hb dX1_record_36 ?_
  refine W.eq (g2 := F0 m 37 ls [.int 1, .ref (A 43)]) (by rw [show (0 + 1) = (1 : Int32) from by decide] <;> rfl) ?_
  refine va_put (D := G.1) (ci := 1) (v := .int 1) (ty := .int) (C := RX1) (T := TX1) (N := 2) hx hb hts hinX1 tyX1 tyX1_ok nmX1 hown hK.1 hP hD hS 43 (wX_43 G A (f_X0_copyFrom_6_0 S) 3) rfl 1 (by decide) (hts (.fieldLink RX1 18 "WireLoops$History" "states" "I") (List.mem_of_getElem? (i := 1) rfl)) (fun _ h9 => h9) rfl (by decide +kernel) rfl rfl (Nat.le_of_ble_eq_true rfl) dX1_record_37 (fun H locs hP hD hS => ?_)
  rw [wX_s43 G A (f_X0_copyFrom_6_0 S) 3 _] at hP hD
  have hP : va_P G.1 vwCl (wX G A (su (f_X0_copyFrom_6_0 S) 7 0 (upd ((f_X0_copyFrom_6_0 S) 7 0) 1 1)) 3) H := hP
  have hD : va_D A0 (wX G A (su (f_X0_copyFrom_6_0 S) 7 0 (upd ((f_X0_copyFrom_6_0 S) 7 0) 1 1)) 3) := hD
  exact endZ hx hb hr hlocks hP hD hS rfl dX1_record_40
def f_X1_record_1_0_3 (S : XS) : XS := su (sc S 6 1) 7 0 (upd (S 7 0) 1 1)
theorem e_X1_record_1_0_3 (S : XS) : f_X1_record_1_0_3 S = su (sc S 6 1) 7 0 (upd (S 7 0) 1 1) := rfl
set_option maxHeartbeats 4000000 in
set_option maxRecDepth 100000 in
theorem c_X1_record_1_0_3 (l : Launch) (G : GG) (A : Nat → Nat) (S : XS)  (hq : S 7 0 1 = 0) (hbe : S 1 0 4 = 0 ∨ S 1 0 4 = 1) : Mz l yX1_record wsX1_record ({ frames := 2, cells := 0, slots := 0, locals := 47 } : Room) G [.ref (A 43), .ref (A (6 * 1))] (wX G A S 3) (wX G A (f_X1_record_1_0_3 S) 3) := by
  refine Mz.of (cc := cX1_record) (maxL := 3) (ret := none) (by decide) rfl (Nat.le_of_ble_eq_true rfl) ?_
  intro p e s m args below meth c A0 hA0 E hr hlocks hP hK hD hA hS ls hl
  have E : CallFix p m c cX1_record 3 s args wsX1_record RX1 := E
  have hx := E.1
  have hb := E.2.1
  have hml := E.2.2.1
  have hown := E.2.2.2.1
  have hts := E.2.2.2.2
  have hl : lv_has ls 3 [(0, .ref (A 43)), (1, .ref (A (6 * 1)))] := hl
  have hinX1 : ∀ w ∈ u_ws RX1 TX1 2, w ∈ wsX1_record := fun _ h => List.mem_cons_of_mem _ (List.mem_append_left _ (List.mem_append_right _ h))
  refine lv_aload_n hx hb dX1_record_0 rfl (lv_at hl 0 rfl) ?_
  refine va_get (D := G.1) (ci := 1) (v := .int (S 7 0 1)) (C := RX1) (T := TX1) (N := 2) hx hb hts hinX1 hown hK.1 hP 43 (wX_43 G A S 3) rfl 1 (by decide) (hts (.fieldLink RX1 18 "WireLoops$History" "states" "I") (List.mem_of_getElem? (i := 1) rfl)) (fun _ h9 => h9) rfl dX1_record_1 ?_
  refine W.eq (g2 := F0 m 4 ls [.int 0]) (by rw [hq] <;> rfl) ?_
  refine lv_iconst (v := 4) hx hb dX1_record_4 (by decide) ?_
  refine lv_icmp_lt (tgt := 12) hx hb dX1_record_5 (by decide) (fun c1 => ?_) (fun c1 => absurd (by decide) c1)
  refine lv_aload_n hx hb dX1_record_12 rfl (lv_at hl 0 rfl) ?_
  refine lv_aload_n hx hb dX1_record_13 rfl (lv_at hl 0 rfl) ?_
  refine va_get (D := G.1) (ci := 1) (v := .int (S 7 0 1)) (C := RX1) (T := TX1) (N := 2) hx hb hts hinX1 hown hK.1 hP 43 (wX_43 G A S 3) rfl 1 (by decide) (hts (.fieldLink RX1 18 "WireLoops$History" "states" "I") (List.mem_of_getElem? (i := 1) rfl)) (fun _ h9 => h9) rfl dX1_record_14 ?_
  refine W.eq (g2 := F0 m 17 ls [.int 0, .ref (A 43)]) (by rw [show (S 7 0 1) = (0 : Int32) from hq] <;> rfl) ?_
  refine crV (rest := []) (As := [.int 0]) E (c_X1_placeAt_0_3 l G A S) (cwV 1 hts gX1_record_X1_placeAt rfl rfl rfl (by decide +kernel) ⟨Nat.le_of_ble_eq_true rfl, Nat.le_of_ble_eq_true rfl⟩) hK hP 43 (wX_43 G A S 3) rfl rfl hl.1 rfl (Nat.le_of_ble_eq_true rfl) dX1_record_17 ⟨Nat.zero_le _, Nat.zero_le _⟩ ?_
  refine lv_astore_n (lv' := [(2, .ref (A (6 * 6))), (0, .ref (A 43)), (1, .ref (A (6 * 1)))]) hx hb dX1_record_20 rfl hl (by decide) rfl (fun ls hl => ?_)
  refine lv_aload_n hx hb dX1_record_21 rfl (lv_at hl 0 rfl) ?_
  refine lv_ifnull hx hb dX1_record_22 ?_
  refine lv_aload_n hx hb dX1_record_25 rfl (lv_at hl 0 rfl) ?_
  refine lv_aload_n hx hb dX1_record_26 rfl (lv_at hl 2 rfl) ?_
  refine czV (rest := []) (As := [.ref (A (6 * 1))]) E (c_X0_copyFrom_6_1 l G A S 3 hbe) (cwV 1 hts gX1_record_X0_copyFrom rfl rfl rfl (by decide +kernel) ⟨Nat.le_of_ble_eq_true rfl, Nat.le_of_ble_eq_true rfl⟩) hK hP hD hS hA (6 * 6) (wX_o G A S 3 6 (by decide)) rfl rfl hl.1 rfl (Nat.le_of_ble_eq_true rfl) dX1_record_27 ⟨Nat.zero_le _, Nat.zero_le _⟩ (fun H locs hP hD hS => ?_)
  refine lv_aload_n hx hb dX1_record_30 rfl (lv_at hl 1 rfl) ?_
  refine lv_dup hx hb dX1_record_31 rfl ?_
  refine va_get (D := G.1) (ci := 1) (v := .int (((f_X0_copyFrom_6_1 S) 7 0) 1)) (C := RX1) (T := TX1) (N := 2) hx hb hts hinX1 hown hK.1 hP 43 (wX_43 G A (f_X0_copyFrom_6_1 S) 3) rfl 1 (by decide) (hts (.fieldLink RX1 18 "WireLoops$History" "states" "I") (List.mem_of_getElem? (i := 1) rfl)) (fun _ h9 => h9) rfl dX1_record_32 ?_
  refine W.eq (g2 := F0 m 35 ls [.int 0, .ref (A 43)]) (by rw [show (((f_X0_copyFrom_6_1 S) 7 0) 1) = (0 : Int32) from hq] <;> rfl) ?_
  refine lv_iconst (v := 1) hx hb dX1_record_35 (by decide) ?_
  refine lv_iadd hx hb dX1_record_36 ?_
  refine W.eq (g2 := F0 m 37 ls [.int 1, .ref (A 43)]) (by rw [show (0 + 1) = (1 : Int32) from by decide] <;> rfl) ?_
  refine va_put (D := G.1) (ci := 1) (v := .int 1) (ty := .int) (C := RX1) (T := TX1) (N := 2) hx hb hts hinX1 tyX1 tyX1_ok nmX1 hown hK.1 hP hD hS 43 (wX_43 G A (f_X0_copyFrom_6_1 S) 3) rfl 1 (by decide) (hts (.fieldLink RX1 18 "WireLoops$History" "states" "I") (List.mem_of_getElem? (i := 1) rfl)) (fun _ h9 => h9) rfl (by decide +kernel) rfl rfl (Nat.le_of_ble_eq_true rfl) dX1_record_37 (fun H locs hP hD hS => ?_)
  rw [wX_s43 G A (f_X0_copyFrom_6_1 S) 3 _] at hP hD
  have hP : va_P G.1 vwCl (wX G A (su (f_X0_copyFrom_6_1 S) 7 0 (upd ((f_X0_copyFrom_6_1 S) 7 0) 1 1)) 3) H := hP
  have hD : va_D A0 (wX G A (su (f_X0_copyFrom_6_1 S) 7 0 (upd ((f_X0_copyFrom_6_1 S) 7 0) 1 1)) 3) := hD
  exact endZ hx hb hr hlocks hP hD hS rfl dX1_record_40
def f_X1_record_0_1_3 (S : XS) : XS := su (sc S 3 0) 7 0 (upd (S 7 0) 1 2)
theorem e_X1_record_0_1_3 (S : XS) : f_X1_record_0_1_3 S = su (sc S 3 0) 7 0 (upd (S 7 0) 1 2) := rfl
set_option maxHeartbeats 4000000 in
set_option maxRecDepth 100000 in
theorem c_X1_record_0_1_3 (l : Launch) (G : GG) (A : Nat → Nat) (S : XS)  (hq : S 7 0 1 = 1) (hbe : S 0 0 4 = 0 ∨ S 0 0 4 = 1) : Mz l yX1_record wsX1_record ({ frames := 2, cells := 0, slots := 0, locals := 47 } : Room) G [.ref (A 43), .ref (A (6 * 0))] (wX G A S 3) (wX G A (f_X1_record_0_1_3 S) 3) := by
  refine Mz.of (cc := cX1_record) (maxL := 3) (ret := none) (by decide) rfl (Nat.le_of_ble_eq_true rfl) ?_
  intro p e s m args below meth c A0 hA0 E hr hlocks hP hK hD hA hS ls hl
  have E : CallFix p m c cX1_record 3 s args wsX1_record RX1 := E
  have hx := E.1
  have hb := E.2.1
  have hml := E.2.2.1
  have hown := E.2.2.2.1
  have hts := E.2.2.2.2
  have hl : lv_has ls 3 [(0, .ref (A 43)), (1, .ref (A (6 * 0)))] := hl
  have hinX1 : ∀ w ∈ u_ws RX1 TX1 2, w ∈ wsX1_record := fun _ h => List.mem_cons_of_mem _ (List.mem_append_left _ (List.mem_append_right _ h))
  refine lv_aload_n hx hb dX1_record_0 rfl (lv_at hl 0 rfl) ?_
  refine va_get (D := G.1) (ci := 1) (v := .int (S 7 0 1)) (C := RX1) (T := TX1) (N := 2) hx hb hts hinX1 hown hK.1 hP 43 (wX_43 G A S 3) rfl 1 (by decide) (hts (.fieldLink RX1 18 "WireLoops$History" "states" "I") (List.mem_of_getElem? (i := 1) rfl)) (fun _ h9 => h9) rfl dX1_record_1 ?_
  refine W.eq (g2 := F0 m 4 ls [.int 1]) (by rw [hq] <;> rfl) ?_
  refine lv_iconst (v := 4) hx hb dX1_record_4 (by decide) ?_
  refine lv_icmp_lt (tgt := 12) hx hb dX1_record_5 (by decide) (fun c1 => ?_) (fun c1 => absurd (by decide) c1)
  refine lv_aload_n hx hb dX1_record_12 rfl (lv_at hl 0 rfl) ?_
  refine lv_aload_n hx hb dX1_record_13 rfl (lv_at hl 0 rfl) ?_
  refine va_get (D := G.1) (ci := 1) (v := .int (S 7 0 1)) (C := RX1) (T := TX1) (N := 2) hx hb hts hinX1 hown hK.1 hP 43 (wX_43 G A S 3) rfl 1 (by decide) (hts (.fieldLink RX1 18 "WireLoops$History" "states" "I") (List.mem_of_getElem? (i := 1) rfl)) (fun _ h9 => h9) rfl dX1_record_14 ?_
  refine W.eq (g2 := F0 m 17 ls [.int 1, .ref (A 43)]) (by rw [show (S 7 0 1) = (1 : Int32) from hq] <;> rfl) ?_
  refine crV (rest := []) (As := [.int 1]) E (c_X1_placeAt_1_3 l G A S) (cwV 1 hts gX1_record_X1_placeAt rfl rfl rfl (by decide +kernel) ⟨Nat.le_of_ble_eq_true rfl, Nat.le_of_ble_eq_true rfl⟩) hK hP 43 (wX_43 G A S 3) rfl rfl hl.1 rfl (Nat.le_of_ble_eq_true rfl) dX1_record_17 ⟨Nat.zero_le _, Nat.zero_le _⟩ ?_
  refine lv_astore_n (lv' := [(2, .ref (A (6 * 3))), (0, .ref (A 43)), (1, .ref (A (6 * 0)))]) hx hb dX1_record_20 rfl hl (by decide) rfl (fun ls hl => ?_)
  refine lv_aload_n hx hb dX1_record_21 rfl (lv_at hl 0 rfl) ?_
  refine lv_ifnull hx hb dX1_record_22 ?_
  refine lv_aload_n hx hb dX1_record_25 rfl (lv_at hl 0 rfl) ?_
  refine lv_aload_n hx hb dX1_record_26 rfl (lv_at hl 2 rfl) ?_
  refine czV (rest := []) (As := [.ref (A (6 * 0))]) E (c_X0_copyFrom_3_0 l G A S 3 hbe) (cwV 1 hts gX1_record_X0_copyFrom rfl rfl rfl (by decide +kernel) ⟨Nat.le_of_ble_eq_true rfl, Nat.le_of_ble_eq_true rfl⟩) hK hP hD hS hA (6 * 3) (wX_o G A S 3 3 (by decide)) rfl rfl hl.1 rfl (Nat.le_of_ble_eq_true rfl) dX1_record_27 ⟨Nat.zero_le _, Nat.zero_le _⟩ (fun H locs hP hD hS => ?_)
  refine lv_aload_n hx hb dX1_record_30 rfl (lv_at hl 1 rfl) ?_
  refine lv_dup hx hb dX1_record_31 rfl ?_
  refine va_get (D := G.1) (ci := 1) (v := .int (((f_X0_copyFrom_3_0 S) 7 0) 1)) (C := RX1) (T := TX1) (N := 2) hx hb hts hinX1 hown hK.1 hP 43 (wX_43 G A (f_X0_copyFrom_3_0 S) 3) rfl 1 (by decide) (hts (.fieldLink RX1 18 "WireLoops$History" "states" "I") (List.mem_of_getElem? (i := 1) rfl)) (fun _ h9 => h9) rfl dX1_record_32 ?_
  refine W.eq (g2 := F0 m 35 ls [.int 1, .ref (A 43)]) (by rw [show (((f_X0_copyFrom_3_0 S) 7 0) 1) = (1 : Int32) from hq] <;> rfl) ?_
  refine lv_iconst (v := 1) hx hb dX1_record_35 (by decide) ?_
  refine lv_iadd hx hb dX1_record_36 ?_
  refine W.eq (g2 := F0 m 37 ls [.int 2, .ref (A 43)]) (by rw [show (1 + 1) = (2 : Int32) from by decide] <;> rfl) ?_
  refine va_put (D := G.1) (ci := 1) (v := .int 2) (ty := .int) (C := RX1) (T := TX1) (N := 2) hx hb hts hinX1 tyX1 tyX1_ok nmX1 hown hK.1 hP hD hS 43 (wX_43 G A (f_X0_copyFrom_3_0 S) 3) rfl 1 (by decide) (hts (.fieldLink RX1 18 "WireLoops$History" "states" "I") (List.mem_of_getElem? (i := 1) rfl)) (fun _ h9 => h9) rfl (by decide +kernel) rfl rfl (Nat.le_of_ble_eq_true rfl) dX1_record_37 (fun H locs hP hD hS => ?_)
  rw [wX_s43 G A (f_X0_copyFrom_3_0 S) 3 _] at hP hD
  have hP : va_P G.1 vwCl (wX G A (su (f_X0_copyFrom_3_0 S) 7 0 (upd ((f_X0_copyFrom_3_0 S) 7 0) 1 2)) 3) H := hP
  have hD : va_D A0 (wX G A (su (f_X0_copyFrom_3_0 S) 7 0 (upd ((f_X0_copyFrom_3_0 S) 7 0) 1 2)) 3) := hD
  exact endZ hx hb hr hlocks hP hD hS rfl dX1_record_40
def f_X1_record_1_1_3 (S : XS) : XS := su (sc S 3 1) 7 0 (upd (S 7 0) 1 2)
theorem e_X1_record_1_1_3 (S : XS) : f_X1_record_1_1_3 S = su (sc S 3 1) 7 0 (upd (S 7 0) 1 2) := rfl
set_option maxHeartbeats 4000000 in
set_option maxRecDepth 100000 in
theorem c_X1_record_1_1_3 (l : Launch) (G : GG) (A : Nat → Nat) (S : XS)  (hq : S 7 0 1 = 1) (hbe : S 1 0 4 = 0 ∨ S 1 0 4 = 1) : Mz l yX1_record wsX1_record ({ frames := 2, cells := 0, slots := 0, locals := 47 } : Room) G [.ref (A 43), .ref (A (6 * 1))] (wX G A S 3) (wX G A (f_X1_record_1_1_3 S) 3) := by
  refine Mz.of (cc := cX1_record) (maxL := 3) (ret := none) (by decide) rfl (Nat.le_of_ble_eq_true rfl) ?_
  intro p e s m args below meth c A0 hA0 E hr hlocks hP hK hD hA hS ls hl
  have E : CallFix p m c cX1_record 3 s args wsX1_record RX1 := E
  have hx := E.1
  have hb := E.2.1
  have hml := E.2.2.1
  have hown := E.2.2.2.1
  have hts := E.2.2.2.2
  have hl : lv_has ls 3 [(0, .ref (A 43)), (1, .ref (A (6 * 1)))] := hl
  have hinX1 : ∀ w ∈ u_ws RX1 TX1 2, w ∈ wsX1_record := fun _ h => List.mem_cons_of_mem _ (List.mem_append_left _ (List.mem_append_right _ h))
  refine lv_aload_n hx hb dX1_record_0 rfl (lv_at hl 0 rfl) ?_
  refine va_get (D := G.1) (ci := 1) (v := .int (S 7 0 1)) (C := RX1) (T := TX1) (N := 2) hx hb hts hinX1 hown hK.1 hP 43 (wX_43 G A S 3) rfl 1 (by decide) (hts (.fieldLink RX1 18 "WireLoops$History" "states" "I") (List.mem_of_getElem? (i := 1) rfl)) (fun _ h9 => h9) rfl dX1_record_1 ?_
  refine W.eq (g2 := F0 m 4 ls [.int 1]) (by rw [hq] <;> rfl) ?_
  refine lv_iconst (v := 4) hx hb dX1_record_4 (by decide) ?_
  refine lv_icmp_lt (tgt := 12) hx hb dX1_record_5 (by decide) (fun c1 => ?_) (fun c1 => absurd (by decide) c1)
  refine lv_aload_n hx hb dX1_record_12 rfl (lv_at hl 0 rfl) ?_
  refine lv_aload_n hx hb dX1_record_13 rfl (lv_at hl 0 rfl) ?_
  refine va_get (D := G.1) (ci := 1) (v := .int (S 7 0 1)) (C := RX1) (T := TX1) (N := 2) hx hb hts hinX1 hown hK.1 hP 43 (wX_43 G A S 3) rfl 1 (by decide) (hts (.fieldLink RX1 18 "WireLoops$History" "states" "I") (List.mem_of_getElem? (i := 1) rfl)) (fun _ h9 => h9) rfl dX1_record_14 ?_
  refine W.eq (g2 := F0 m 17 ls [.int 1, .ref (A 43)]) (by rw [show (S 7 0 1) = (1 : Int32) from hq] <;> rfl) ?_
  refine crV (rest := []) (As := [.int 1]) E (c_X1_placeAt_1_3 l G A S) (cwV 1 hts gX1_record_X1_placeAt rfl rfl rfl (by decide +kernel) ⟨Nat.le_of_ble_eq_true rfl, Nat.le_of_ble_eq_true rfl⟩) hK hP 43 (wX_43 G A S 3) rfl rfl hl.1 rfl (Nat.le_of_ble_eq_true rfl) dX1_record_17 ⟨Nat.zero_le _, Nat.zero_le _⟩ ?_
  refine lv_astore_n (lv' := [(2, .ref (A (6 * 3))), (0, .ref (A 43)), (1, .ref (A (6 * 1)))]) hx hb dX1_record_20 rfl hl (by decide) rfl (fun ls hl => ?_)
  refine lv_aload_n hx hb dX1_record_21 rfl (lv_at hl 0 rfl) ?_
  refine lv_ifnull hx hb dX1_record_22 ?_
  refine lv_aload_n hx hb dX1_record_25 rfl (lv_at hl 0 rfl) ?_
  refine lv_aload_n hx hb dX1_record_26 rfl (lv_at hl 2 rfl) ?_
  refine czV (rest := []) (As := [.ref (A (6 * 1))]) E (c_X0_copyFrom_3_1 l G A S 3 hbe) (cwV 1 hts gX1_record_X0_copyFrom rfl rfl rfl (by decide +kernel) ⟨Nat.le_of_ble_eq_true rfl, Nat.le_of_ble_eq_true rfl⟩) hK hP hD hS hA (6 * 3) (wX_o G A S 3 3 (by decide)) rfl rfl hl.1 rfl (Nat.le_of_ble_eq_true rfl) dX1_record_27 ⟨Nat.zero_le _, Nat.zero_le _⟩ (fun H locs hP hD hS => ?_)
  refine lv_aload_n hx hb dX1_record_30 rfl (lv_at hl 1 rfl) ?_
  refine lv_dup hx hb dX1_record_31 rfl ?_
  refine va_get (D := G.1) (ci := 1) (v := .int (((f_X0_copyFrom_3_1 S) 7 0) 1)) (C := RX1) (T := TX1) (N := 2) hx hb hts hinX1 hown hK.1 hP 43 (wX_43 G A (f_X0_copyFrom_3_1 S) 3) rfl 1 (by decide) (hts (.fieldLink RX1 18 "WireLoops$History" "states" "I") (List.mem_of_getElem? (i := 1) rfl)) (fun _ h9 => h9) rfl dX1_record_32 ?_
  refine W.eq (g2 := F0 m 35 ls [.int 1, .ref (A 43)]) (by rw [show (((f_X0_copyFrom_3_1 S) 7 0) 1) = (1 : Int32) from hq] <;> rfl) ?_
  refine lv_iconst (v := 1) hx hb dX1_record_35 (by decide) ?_
  refine lv_iadd hx hb dX1_record_36 ?_
  refine W.eq (g2 := F0 m 37 ls [.int 2, .ref (A 43)]) (by rw [show (1 + 1) = (2 : Int32) from by decide] <;> rfl) ?_
  refine va_put (D := G.1) (ci := 1) (v := .int 2) (ty := .int) (C := RX1) (T := TX1) (N := 2) hx hb hts hinX1 tyX1 tyX1_ok nmX1 hown hK.1 hP hD hS 43 (wX_43 G A (f_X0_copyFrom_3_1 S) 3) rfl 1 (by decide) (hts (.fieldLink RX1 18 "WireLoops$History" "states" "I") (List.mem_of_getElem? (i := 1) rfl)) (fun _ h9 => h9) rfl (by decide +kernel) rfl rfl (Nat.le_of_ble_eq_true rfl) dX1_record_37 (fun H locs hP hD hS => ?_)
  rw [wX_s43 G A (f_X0_copyFrom_3_1 S) 3 _] at hP hD
  have hP : va_P G.1 vwCl (wX G A (su (f_X0_copyFrom_3_1 S) 7 0 (upd ((f_X0_copyFrom_3_1 S) 7 0) 1 2)) 3) H := hP
  have hD : va_D A0 (wX G A (su (f_X0_copyFrom_3_1 S) 7 0 (upd ((f_X0_copyFrom_3_1 S) 7 0) 1 2)) 3) := hD
  exact endZ hx hb hr hlocks hP hD hS rfl dX1_record_40
def f_X1_record_0_2_3 (S : XS) : XS := su (sc S 4 0) 7 0 (upd (S 7 0) 1 3)
theorem e_X1_record_0_2_3 (S : XS) : f_X1_record_0_2_3 S = su (sc S 4 0) 7 0 (upd (S 7 0) 1 3) := rfl
set_option maxHeartbeats 4000000 in
set_option maxRecDepth 100000 in
theorem c_X1_record_0_2_3 (l : Launch) (G : GG) (A : Nat → Nat) (S : XS)  (hq : S 7 0 1 = 2) (hbe : S 0 0 4 = 0 ∨ S 0 0 4 = 1) : Mz l yX1_record wsX1_record ({ frames := 2, cells := 0, slots := 0, locals := 47 } : Room) G [.ref (A 43), .ref (A (6 * 0))] (wX G A S 3) (wX G A (f_X1_record_0_2_3 S) 3) := by
  refine Mz.of (cc := cX1_record) (maxL := 3) (ret := none) (by decide) rfl (Nat.le_of_ble_eq_true rfl) ?_
  intro p e s m args below meth c A0 hA0 E hr hlocks hP hK hD hA hS ls hl
  have E : CallFix p m c cX1_record 3 s args wsX1_record RX1 := E
  have hx := E.1
  have hb := E.2.1
  have hml := E.2.2.1
  have hown := E.2.2.2.1
  have hts := E.2.2.2.2
  have hl : lv_has ls 3 [(0, .ref (A 43)), (1, .ref (A (6 * 0)))] := hl
  have hinX1 : ∀ w ∈ u_ws RX1 TX1 2, w ∈ wsX1_record := fun _ h => List.mem_cons_of_mem _ (List.mem_append_left _ (List.mem_append_right _ h))
  refine lv_aload_n hx hb dX1_record_0 rfl (lv_at hl 0 rfl) ?_
  refine va_get (D := G.1) (ci := 1) (v := .int (S 7 0 1)) (C := RX1) (T := TX1) (N := 2) hx hb hts hinX1 hown hK.1 hP 43 (wX_43 G A S 3) rfl 1 (by decide) (hts (.fieldLink RX1 18 "WireLoops$History" "states" "I") (List.mem_of_getElem? (i := 1) rfl)) (fun _ h9 => h9) rfl dX1_record_1 ?_
  refine W.eq (g2 := F0 m 4 ls [.int 2]) (by rw [hq] <;> rfl) ?_
  refine lv_iconst (v := 4) hx hb dX1_record_4 (by decide) ?_
  refine lv_icmp_lt (tgt := 12) hx hb dX1_record_5 (by decide) (fun c1 => ?_) (fun c1 => absurd (by decide) c1)
  refine lv_aload_n hx hb dX1_record_12 rfl (lv_at hl 0 rfl) ?_
  refine lv_aload_n hx hb dX1_record_13 rfl (lv_at hl 0 rfl) ?_
  refine va_get (D := G.1) (ci := 1) (v := .int (S 7 0 1)) (C := RX1) (T := TX1) (N := 2) hx hb hts hinX1 hown hK.1 hP 43 (wX_43 G A S 3) rfl 1 (by decide) (hts (.fieldLink RX1 18 "WireLoops$History" "states" "I") (List.mem_of_getElem? (i := 1) rfl)) (fun _ h9 => h9) rfl dX1_record_14 ?_
  refine W.eq (g2 := F0 m 17 ls [.int 2, .ref (A 43)]) (by rw [show (S 7 0 1) = (2 : Int32) from hq] <;> rfl) ?_
  refine crV (rest := []) (As := [.int 2]) E (c_X1_placeAt_2_3 l G A S) (cwV 1 hts gX1_record_X1_placeAt rfl rfl rfl (by decide +kernel) ⟨Nat.le_of_ble_eq_true rfl, Nat.le_of_ble_eq_true rfl⟩) hK hP 43 (wX_43 G A S 3) rfl rfl hl.1 rfl (Nat.le_of_ble_eq_true rfl) dX1_record_17 ⟨Nat.zero_le _, Nat.zero_le _⟩ ?_
  refine lv_astore_n (lv' := [(2, .ref (A (6 * 4))), (0, .ref (A 43)), (1, .ref (A (6 * 0)))]) hx hb dX1_record_20 rfl hl (by decide) rfl (fun ls hl => ?_)
  refine lv_aload_n hx hb dX1_record_21 rfl (lv_at hl 0 rfl) ?_
  refine lv_ifnull hx hb dX1_record_22 ?_
  refine lv_aload_n hx hb dX1_record_25 rfl (lv_at hl 0 rfl) ?_
  refine lv_aload_n hx hb dX1_record_26 rfl (lv_at hl 2 rfl) ?_
  refine czV (rest := []) (As := [.ref (A (6 * 0))]) E (c_X0_copyFrom_4_0 l G A S 3 hbe) (cwV 1 hts gX1_record_X0_copyFrom rfl rfl rfl (by decide +kernel) ⟨Nat.le_of_ble_eq_true rfl, Nat.le_of_ble_eq_true rfl⟩) hK hP hD hS hA (6 * 4) (wX_o G A S 3 4 (by decide)) rfl rfl hl.1 rfl (Nat.le_of_ble_eq_true rfl) dX1_record_27 ⟨Nat.zero_le _, Nat.zero_le _⟩ (fun H locs hP hD hS => ?_)
  refine lv_aload_n hx hb dX1_record_30 rfl (lv_at hl 1 rfl) ?_
  refine lv_dup hx hb dX1_record_31 rfl ?_
  refine va_get (D := G.1) (ci := 1) (v := .int (((f_X0_copyFrom_4_0 S) 7 0) 1)) (C := RX1) (T := TX1) (N := 2) hx hb hts hinX1 hown hK.1 hP 43 (wX_43 G A (f_X0_copyFrom_4_0 S) 3) rfl 1 (by decide) (hts (.fieldLink RX1 18 "WireLoops$History" "states" "I") (List.mem_of_getElem? (i := 1) rfl)) (fun _ h9 => h9) rfl dX1_record_32 ?_
  refine W.eq (g2 := F0 m 35 ls [.int 2, .ref (A 43)]) (by rw [show (((f_X0_copyFrom_4_0 S) 7 0) 1) = (2 : Int32) from hq] <;> rfl) ?_
  refine lv_iconst (v := 1) hx hb dX1_record_35 (by decide) ?_
  refine lv_iadd hx hb dX1_record_36 ?_
  refine W.eq (g2 := F0 m 37 ls [.int 3, .ref (A 43)]) (by rw [show (2 + 1) = (3 : Int32) from by decide] <;> rfl) ?_
  refine va_put (D := G.1) (ci := 1) (v := .int 3) (ty := .int) (C := RX1) (T := TX1) (N := 2) hx hb hts hinX1 tyX1 tyX1_ok nmX1 hown hK.1 hP hD hS 43 (wX_43 G A (f_X0_copyFrom_4_0 S) 3) rfl 1 (by decide) (hts (.fieldLink RX1 18 "WireLoops$History" "states" "I") (List.mem_of_getElem? (i := 1) rfl)) (fun _ h9 => h9) rfl (by decide +kernel) rfl rfl (Nat.le_of_ble_eq_true rfl) dX1_record_37 (fun H locs hP hD hS => ?_)
  rw [wX_s43 G A (f_X0_copyFrom_4_0 S) 3 _] at hP hD
  have hP : va_P G.1 vwCl (wX G A (su (f_X0_copyFrom_4_0 S) 7 0 (upd ((f_X0_copyFrom_4_0 S) 7 0) 1 3)) 3) H := hP
  have hD : va_D A0 (wX G A (su (f_X0_copyFrom_4_0 S) 7 0 (upd ((f_X0_copyFrom_4_0 S) 7 0) 1 3)) 3) := hD
  exact endZ hx hb hr hlocks hP hD hS rfl dX1_record_40
def f_X1_record_1_2_3 (S : XS) : XS := su (sc S 4 1) 7 0 (upd (S 7 0) 1 3)
theorem e_X1_record_1_2_3 (S : XS) : f_X1_record_1_2_3 S = su (sc S 4 1) 7 0 (upd (S 7 0) 1 3) := rfl
set_option maxHeartbeats 4000000 in
set_option maxRecDepth 100000 in
theorem c_X1_record_1_2_3 (l : Launch) (G : GG) (A : Nat → Nat) (S : XS)  (hq : S 7 0 1 = 2) (hbe : S 1 0 4 = 0 ∨ S 1 0 4 = 1) : Mz l yX1_record wsX1_record ({ frames := 2, cells := 0, slots := 0, locals := 47 } : Room) G [.ref (A 43), .ref (A (6 * 1))] (wX G A S 3) (wX G A (f_X1_record_1_2_3 S) 3) := by
  refine Mz.of (cc := cX1_record) (maxL := 3) (ret := none) (by decide) rfl (Nat.le_of_ble_eq_true rfl) ?_
  intro p e s m args below meth c A0 hA0 E hr hlocks hP hK hD hA hS ls hl
  have E : CallFix p m c cX1_record 3 s args wsX1_record RX1 := E
  have hx := E.1
  have hb := E.2.1
  have hml := E.2.2.1
  have hown := E.2.2.2.1
  have hts := E.2.2.2.2
  have hl : lv_has ls 3 [(0, .ref (A 43)), (1, .ref (A (6 * 1)))] := hl
  have hinX1 : ∀ w ∈ u_ws RX1 TX1 2, w ∈ wsX1_record := fun _ h => List.mem_cons_of_mem _ (List.mem_append_left _ (List.mem_append_right _ h))
  refine lv_aload_n hx hb dX1_record_0 rfl (lv_at hl 0 rfl) ?_
  refine va_get (D := G.1) (ci := 1) (v := .int (S 7 0 1)) (C := RX1) (T := TX1) (N := 2) hx hb hts hinX1 hown hK.1 hP 43 (wX_43 G A S 3) rfl 1 (by decide) (hts (.fieldLink RX1 18 "WireLoops$History" "states" "I") (List.mem_of_getElem? (i := 1) rfl)) (fun _ h9 => h9) rfl dX1_record_1 ?_
  refine W.eq (g2 := F0 m 4 ls [.int 2]) (by rw [hq] <;> rfl) ?_
  refine lv_iconst (v := 4) hx hb dX1_record_4 (by decide) ?_
  refine lv_icmp_lt (tgt := 12) hx hb dX1_record_5 (by decide) (fun c1 => ?_) (fun c1 => absurd (by decide) c1)
  refine lv_aload_n hx hb dX1_record_12 rfl (lv_at hl 0 rfl) ?_
  refine lv_aload_n hx hb dX1_record_13 rfl (lv_at hl 0 rfl) ?_
  refine va_get (D := G.1) (ci := 1) (v := .int (S 7 0 1)) (C := RX1) (T := TX1) (N := 2) hx hb hts hinX1 hown hK.1 hP 43 (wX_43 G A S 3) rfl 1 (by decide) (hts (.fieldLink RX1 18 "WireLoops$History" "states" "I") (List.mem_of_getElem? (i := 1) rfl)) (fun _ h9 => h9) rfl dX1_record_14 ?_
  refine W.eq (g2 := F0 m 17 ls [.int 2, .ref (A 43)]) (by rw [show (S 7 0 1) = (2 : Int32) from hq] <;> rfl) ?_
  refine crV (rest := []) (As := [.int 2]) E (c_X1_placeAt_2_3 l G A S) (cwV 1 hts gX1_record_X1_placeAt rfl rfl rfl (by decide +kernel) ⟨Nat.le_of_ble_eq_true rfl, Nat.le_of_ble_eq_true rfl⟩) hK hP 43 (wX_43 G A S 3) rfl rfl hl.1 rfl (Nat.le_of_ble_eq_true rfl) dX1_record_17 ⟨Nat.zero_le _, Nat.zero_le _⟩ ?_
  refine lv_astore_n (lv' := [(2, .ref (A (6 * 4))), (0, .ref (A 43)), (1, .ref (A (6 * 1)))]) hx hb dX1_record_20 rfl hl (by decide) rfl (fun ls hl => ?_)
  refine lv_aload_n hx hb dX1_record_21 rfl (lv_at hl 0 rfl) ?_
  refine lv_ifnull hx hb dX1_record_22 ?_
  refine lv_aload_n hx hb dX1_record_25 rfl (lv_at hl 0 rfl) ?_
  refine lv_aload_n hx hb dX1_record_26 rfl (lv_at hl 2 rfl) ?_
  refine czV (rest := []) (As := [.ref (A (6 * 1))]) E (c_X0_copyFrom_4_1 l G A S 3 hbe) (cwV 1 hts gX1_record_X0_copyFrom rfl rfl rfl (by decide +kernel) ⟨Nat.le_of_ble_eq_true rfl, Nat.le_of_ble_eq_true rfl⟩) hK hP hD hS hA (6 * 4) (wX_o G A S 3 4 (by decide)) rfl rfl hl.1 rfl (Nat.le_of_ble_eq_true rfl) dX1_record_27 ⟨Nat.zero_le _, Nat.zero_le _⟩ (fun H locs hP hD hS => ?_)
  refine lv_aload_n hx hb dX1_record_30 rfl (lv_at hl 1 rfl) ?_
  refine lv_dup hx hb dX1_record_31 rfl ?_
  refine va_get (D := G.1) (ci := 1) (v := .int (((f_X0_copyFrom_4_1 S) 7 0) 1)) (C := RX1) (T := TX1) (N := 2) hx hb hts hinX1 hown hK.1 hP 43 (wX_43 G A (f_X0_copyFrom_4_1 S) 3) rfl 1 (by decide) (hts (.fieldLink RX1 18 "WireLoops$History" "states" "I") (List.mem_of_getElem? (i := 1) rfl)) (fun _ h9 => h9) rfl dX1_record_32 ?_
  refine W.eq (g2 := F0 m 35 ls [.int 2, .ref (A 43)]) (by rw [show (((f_X0_copyFrom_4_1 S) 7 0) 1) = (2 : Int32) from hq] <;> rfl) ?_
  refine lv_iconst (v := 1) hx hb dX1_record_35 (by decide) ?_
  refine lv_iadd hx hb dX1_record_36 ?_
  refine W.eq (g2 := F0 m 37 ls [.int 3, .ref (A 43)]) (by rw [show (2 + 1) = (3 : Int32) from by decide] <;> rfl) ?_
  refine va_put (D := G.1) (ci := 1) (v := .int 3) (ty := .int) (C := RX1) (T := TX1) (N := 2) hx hb hts hinX1 tyX1 tyX1_ok nmX1 hown hK.1 hP hD hS 43 (wX_43 G A (f_X0_copyFrom_4_1 S) 3) rfl 1 (by decide) (hts (.fieldLink RX1 18 "WireLoops$History" "states" "I") (List.mem_of_getElem? (i := 1) rfl)) (fun _ h9 => h9) rfl (by decide +kernel) rfl rfl (Nat.le_of_ble_eq_true rfl) dX1_record_37 (fun H locs hP hD hS => ?_)
  rw [wX_s43 G A (f_X0_copyFrom_4_1 S) 3 _] at hP hD
  have hP : va_P G.1 vwCl (wX G A (su (f_X0_copyFrom_4_1 S) 7 0 (upd ((f_X0_copyFrom_4_1 S) 7 0) 1 3)) 3) H := hP
  have hD : va_D A0 (wX G A (su (f_X0_copyFrom_4_1 S) 7 0 (upd ((f_X0_copyFrom_4_1 S) 7 0) 1 3)) 3) := hD
  exact endZ hx hb hr hlocks hP hD hS rfl dX1_record_40
def f_X1_record_0_3_3 (S : XS) : XS := su (sc S 5 0) 7 0 (upd (S 7 0) 1 4)
theorem e_X1_record_0_3_3 (S : XS) : f_X1_record_0_3_3 S = su (sc S 5 0) 7 0 (upd (S 7 0) 1 4) := rfl
set_option maxHeartbeats 4000000 in
set_option maxRecDepth 100000 in
theorem c_X1_record_0_3_3 (l : Launch) (G : GG) (A : Nat → Nat) (S : XS)  (hq : S 7 0 1 = 3) (hbe : S 0 0 4 = 0 ∨ S 0 0 4 = 1) : Mz l yX1_record wsX1_record ({ frames := 2, cells := 0, slots := 0, locals := 47 } : Room) G [.ref (A 43), .ref (A (6 * 0))] (wX G A S 3) (wX G A (f_X1_record_0_3_3 S) 3) := by
  refine Mz.of (cc := cX1_record) (maxL := 3) (ret := none) (by decide) rfl (Nat.le_of_ble_eq_true rfl) ?_
  intro p e s m args below meth c A0 hA0 E hr hlocks hP hK hD hA hS ls hl
  have E : CallFix p m c cX1_record 3 s args wsX1_record RX1 := E
  have hx := E.1
  have hb := E.2.1
  have hml := E.2.2.1
  have hown := E.2.2.2.1
  have hts := E.2.2.2.2
  have hl : lv_has ls 3 [(0, .ref (A 43)), (1, .ref (A (6 * 0)))] := hl
  have hinX1 : ∀ w ∈ u_ws RX1 TX1 2, w ∈ wsX1_record := fun _ h => List.mem_cons_of_mem _ (List.mem_append_left _ (List.mem_append_right _ h))
  refine lv_aload_n hx hb dX1_record_0 rfl (lv_at hl 0 rfl) ?_
  refine va_get (D := G.1) (ci := 1) (v := .int (S 7 0 1)) (C := RX1) (T := TX1) (N := 2) hx hb hts hinX1 hown hK.1 hP 43 (wX_43 G A S 3) rfl 1 (by decide) (hts (.fieldLink RX1 18 "WireLoops$History" "states" "I") (List.mem_of_getElem? (i := 1) rfl)) (fun _ h9 => h9) rfl dX1_record_1 ?_
  refine W.eq (g2 := F0 m 4 ls [.int 3]) (by rw [hq] <;> rfl) ?_
  refine lv_iconst (v := 4) hx hb dX1_record_4 (by decide) ?_
  refine lv_icmp_lt (tgt := 12) hx hb dX1_record_5 (by decide) (fun c1 => ?_) (fun c1 => absurd (by decide) c1)
  refine lv_aload_n hx hb dX1_record_12 rfl (lv_at hl 0 rfl) ?_
  refine lv_aload_n hx hb dX1_record_13 rfl (lv_at hl 0 rfl) ?_
  refine va_get (D := G.1) (ci := 1) (v := .int (S 7 0 1)) (C := RX1) (T := TX1) (N := 2) hx hb hts hinX1 hown hK.1 hP 43 (wX_43 G A S 3) rfl 1 (by decide) (hts (.fieldLink RX1 18 "WireLoops$History" "states" "I") (List.mem_of_getElem? (i := 1) rfl)) (fun _ h9 => h9) rfl dX1_record_14 ?_
  refine W.eq (g2 := F0 m 17 ls [.int 3, .ref (A 43)]) (by rw [show (S 7 0 1) = (3 : Int32) from hq] <;> rfl) ?_
  refine crV (rest := []) (As := [.int 3]) E (c_X1_placeAt_3_3 l G A S) (cwV 1 hts gX1_record_X1_placeAt rfl rfl rfl (by decide +kernel) ⟨Nat.le_of_ble_eq_true rfl, Nat.le_of_ble_eq_true rfl⟩) hK hP 43 (wX_43 G A S 3) rfl rfl hl.1 rfl (Nat.le_of_ble_eq_true rfl) dX1_record_17 ⟨Nat.zero_le _, Nat.zero_le _⟩ ?_
  refine lv_astore_n (lv' := [(2, .ref (A (6 * 5))), (0, .ref (A 43)), (1, .ref (A (6 * 0)))]) hx hb dX1_record_20 rfl hl (by decide) rfl (fun ls hl => ?_)
  refine lv_aload_n hx hb dX1_record_21 rfl (lv_at hl 0 rfl) ?_
  refine lv_ifnull hx hb dX1_record_22 ?_
  refine lv_aload_n hx hb dX1_record_25 rfl (lv_at hl 0 rfl) ?_
  refine lv_aload_n hx hb dX1_record_26 rfl (lv_at hl 2 rfl) ?_
  refine czV (rest := []) (As := [.ref (A (6 * 0))]) E (c_X0_copyFrom_5_0 l G A S 3 hbe) (cwV 1 hts gX1_record_X0_copyFrom rfl rfl rfl (by decide +kernel) ⟨Nat.le_of_ble_eq_true rfl, Nat.le_of_ble_eq_true rfl⟩) hK hP hD hS hA (6 * 5) (wX_o G A S 3 5 (by decide)) rfl rfl hl.1 rfl (Nat.le_of_ble_eq_true rfl) dX1_record_27 ⟨Nat.zero_le _, Nat.zero_le _⟩ (fun H locs hP hD hS => ?_)
  refine lv_aload_n hx hb dX1_record_30 rfl (lv_at hl 1 rfl) ?_
  refine lv_dup hx hb dX1_record_31 rfl ?_
  refine va_get (D := G.1) (ci := 1) (v := .int (((f_X0_copyFrom_5_0 S) 7 0) 1)) (C := RX1) (T := TX1) (N := 2) hx hb hts hinX1 hown hK.1 hP 43 (wX_43 G A (f_X0_copyFrom_5_0 S) 3) rfl 1 (by decide) (hts (.fieldLink RX1 18 "WireLoops$History" "states" "I") (List.mem_of_getElem? (i := 1) rfl)) (fun _ h9 => h9) rfl dX1_record_32 ?_
  refine W.eq (g2 := F0 m 35 ls [.int 3, .ref (A 43)]) (by rw [show (((f_X0_copyFrom_5_0 S) 7 0) 1) = (3 : Int32) from hq] <;> rfl) ?_
  refine lv_iconst (v := 1) hx hb dX1_record_35 (by decide) ?_
  refine lv_iadd hx hb dX1_record_36 ?_
  refine W.eq (g2 := F0 m 37 ls [.int 4, .ref (A 43)]) (by rw [show (3 + 1) = (4 : Int32) from by decide] <;> rfl) ?_
  refine va_put (D := G.1) (ci := 1) (v := .int 4) (ty := .int) (C := RX1) (T := TX1) (N := 2) hx hb hts hinX1 tyX1 tyX1_ok nmX1 hown hK.1 hP hD hS 43 (wX_43 G A (f_X0_copyFrom_5_0 S) 3) rfl 1 (by decide) (hts (.fieldLink RX1 18 "WireLoops$History" "states" "I") (List.mem_of_getElem? (i := 1) rfl)) (fun _ h9 => h9) rfl (by decide +kernel) rfl rfl (Nat.le_of_ble_eq_true rfl) dX1_record_37 (fun H locs hP hD hS => ?_)
  rw [wX_s43 G A (f_X0_copyFrom_5_0 S) 3 _] at hP hD
  have hP : va_P G.1 vwCl (wX G A (su (f_X0_copyFrom_5_0 S) 7 0 (upd ((f_X0_copyFrom_5_0 S) 7 0) 1 4)) 3) H := hP
  have hD : va_D A0 (wX G A (su (f_X0_copyFrom_5_0 S) 7 0 (upd ((f_X0_copyFrom_5_0 S) 7 0) 1 4)) 3) := hD
  exact endZ hx hb hr hlocks hP hD hS rfl dX1_record_40
def f_X1_record_1_3_3 (S : XS) : XS := su (sc S 5 1) 7 0 (upd (S 7 0) 1 4)
theorem e_X1_record_1_3_3 (S : XS) : f_X1_record_1_3_3 S = su (sc S 5 1) 7 0 (upd (S 7 0) 1 4) := rfl
set_option maxHeartbeats 4000000 in
set_option maxRecDepth 100000 in
theorem c_X1_record_1_3_3 (l : Launch) (G : GG) (A : Nat → Nat) (S : XS)  (hq : S 7 0 1 = 3) (hbe : S 1 0 4 = 0 ∨ S 1 0 4 = 1) : Mz l yX1_record wsX1_record ({ frames := 2, cells := 0, slots := 0, locals := 47 } : Room) G [.ref (A 43), .ref (A (6 * 1))] (wX G A S 3) (wX G A (f_X1_record_1_3_3 S) 3) := by
  refine Mz.of (cc := cX1_record) (maxL := 3) (ret := none) (by decide) rfl (Nat.le_of_ble_eq_true rfl) ?_
  intro p e s m args below meth c A0 hA0 E hr hlocks hP hK hD hA hS ls hl
  have E : CallFix p m c cX1_record 3 s args wsX1_record RX1 := E
  have hx := E.1
  have hb := E.2.1
  have hml := E.2.2.1
  have hown := E.2.2.2.1
  have hts := E.2.2.2.2
  have hl : lv_has ls 3 [(0, .ref (A 43)), (1, .ref (A (6 * 1)))] := hl
  have hinX1 : ∀ w ∈ u_ws RX1 TX1 2, w ∈ wsX1_record := fun _ h => List.mem_cons_of_mem _ (List.mem_append_left _ (List.mem_append_right _ h))
  refine lv_aload_n hx hb dX1_record_0 rfl (lv_at hl 0 rfl) ?_
  refine va_get (D := G.1) (ci := 1) (v := .int (S 7 0 1)) (C := RX1) (T := TX1) (N := 2) hx hb hts hinX1 hown hK.1 hP 43 (wX_43 G A S 3) rfl 1 (by decide) (hts (.fieldLink RX1 18 "WireLoops$History" "states" "I") (List.mem_of_getElem? (i := 1) rfl)) (fun _ h9 => h9) rfl dX1_record_1 ?_
  refine W.eq (g2 := F0 m 4 ls [.int 3]) (by rw [hq] <;> rfl) ?_
  refine lv_iconst (v := 4) hx hb dX1_record_4 (by decide) ?_
  refine lv_icmp_lt (tgt := 12) hx hb dX1_record_5 (by decide) (fun c1 => ?_) (fun c1 => absurd (by decide) c1)
  refine lv_aload_n hx hb dX1_record_12 rfl (lv_at hl 0 rfl) ?_
  refine lv_aload_n hx hb dX1_record_13 rfl (lv_at hl 0 rfl) ?_
  refine va_get (D := G.1) (ci := 1) (v := .int (S 7 0 1)) (C := RX1) (T := TX1) (N := 2) hx hb hts hinX1 hown hK.1 hP 43 (wX_43 G A S 3) rfl 1 (by decide) (hts (.fieldLink RX1 18 "WireLoops$History" "states" "I") (List.mem_of_getElem? (i := 1) rfl)) (fun _ h9 => h9) rfl dX1_record_14 ?_
  refine W.eq (g2 := F0 m 17 ls [.int 3, .ref (A 43)]) (by rw [show (S 7 0 1) = (3 : Int32) from hq] <;> rfl) ?_
  refine crV (rest := []) (As := [.int 3]) E (c_X1_placeAt_3_3 l G A S) (cwV 1 hts gX1_record_X1_placeAt rfl rfl rfl (by decide +kernel) ⟨Nat.le_of_ble_eq_true rfl, Nat.le_of_ble_eq_true rfl⟩) hK hP 43 (wX_43 G A S 3) rfl rfl hl.1 rfl (Nat.le_of_ble_eq_true rfl) dX1_record_17 ⟨Nat.zero_le _, Nat.zero_le _⟩ ?_
  refine lv_astore_n (lv' := [(2, .ref (A (6 * 5))), (0, .ref (A 43)), (1, .ref (A (6 * 1)))]) hx hb dX1_record_20 rfl hl (by decide) rfl (fun ls hl => ?_)
  refine lv_aload_n hx hb dX1_record_21 rfl (lv_at hl 0 rfl) ?_
  refine lv_ifnull hx hb dX1_record_22 ?_
  refine lv_aload_n hx hb dX1_record_25 rfl (lv_at hl 0 rfl) ?_
  refine lv_aload_n hx hb dX1_record_26 rfl (lv_at hl 2 rfl) ?_
  refine czV (rest := []) (As := [.ref (A (6 * 1))]) E (c_X0_copyFrom_5_1 l G A S 3 hbe) (cwV 1 hts gX1_record_X0_copyFrom rfl rfl rfl (by decide +kernel) ⟨Nat.le_of_ble_eq_true rfl, Nat.le_of_ble_eq_true rfl⟩) hK hP hD hS hA (6 * 5) (wX_o G A S 3 5 (by decide)) rfl rfl hl.1 rfl (Nat.le_of_ble_eq_true rfl) dX1_record_27 ⟨Nat.zero_le _, Nat.zero_le _⟩ (fun H locs hP hD hS => ?_)
  refine lv_aload_n hx hb dX1_record_30 rfl (lv_at hl 1 rfl) ?_
  refine lv_dup hx hb dX1_record_31 rfl ?_
  refine va_get (D := G.1) (ci := 1) (v := .int (((f_X0_copyFrom_5_1 S) 7 0) 1)) (C := RX1) (T := TX1) (N := 2) hx hb hts hinX1 hown hK.1 hP 43 (wX_43 G A (f_X0_copyFrom_5_1 S) 3) rfl 1 (by decide) (hts (.fieldLink RX1 18 "WireLoops$History" "states" "I") (List.mem_of_getElem? (i := 1) rfl)) (fun _ h9 => h9) rfl dX1_record_32 ?_
  refine W.eq (g2 := F0 m 35 ls [.int 3, .ref (A 43)]) (by rw [show (((f_X0_copyFrom_5_1 S) 7 0) 1) = (3 : Int32) from hq] <;> rfl) ?_
  refine lv_iconst (v := 1) hx hb dX1_record_35 (by decide) ?_
  refine lv_iadd hx hb dX1_record_36 ?_
  refine W.eq (g2 := F0 m 37 ls [.int 4, .ref (A 43)]) (by rw [show (3 + 1) = (4 : Int32) from by decide] <;> rfl) ?_
  refine va_put (D := G.1) (ci := 1) (v := .int 4) (ty := .int) (C := RX1) (T := TX1) (N := 2) hx hb hts hinX1 tyX1 tyX1_ok nmX1 hown hK.1 hP hD hS 43 (wX_43 G A (f_X0_copyFrom_5_1 S) 3) rfl 1 (by decide) (hts (.fieldLink RX1 18 "WireLoops$History" "states" "I") (List.mem_of_getElem? (i := 1) rfl)) (fun _ h9 => h9) rfl (by decide +kernel) rfl rfl (Nat.le_of_ble_eq_true rfl) dX1_record_37 (fun H locs hP hD hS => ?_)
  rw [wX_s43 G A (f_X0_copyFrom_5_1 S) 3 _] at hP hD
  have hP : va_P G.1 vwCl (wX G A (su (f_X0_copyFrom_5_1 S) 7 0 (upd ((f_X0_copyFrom_5_1 S) 7 0) 1 4)) 3) H := hP
  have hD : va_D A0 (wX G A (su (f_X0_copyFrom_5_1 S) 7 0 (upd ((f_X0_copyFrom_5_1 S) 7 0) 1 4)) 3) := hD
  exact endZ hx hb hr hlocks hP hD hS rfl dX1_record_40
def f_X1_record_0_4_3 (S : XS) : XS := su (sc (su S 7 0 (upd (S 7 0) 1 3)) 6 0) 7 0 (upd (upd (S 7 0) 1 3) 1 4)
theorem e_X1_record_0_4_3 (S : XS) : f_X1_record_0_4_3 S = su (sc (su S 7 0 (upd (S 7 0) 1 3)) 6 0) 7 0 (upd (upd (S 7 0) 1 3) 1 4) := rfl
set_option maxHeartbeats 4000000 in
set_option maxRecDepth 100000 in
theorem c_X1_record_0_4_3 (l : Launch) (G : GG) (A : Nat → Nat) (S : XS)  (hq : S 7 0 1 = 4) (hbe : S 0 0 4 = 0 ∨ S 0 0 4 = 1) : Mz l yX1_record wsX1_record ({ frames := 2, cells := 0, slots := 0, locals := 47 } : Room) G [.ref (A 43), .ref (A (6 * 0))] (wX G A S 3) (wX G A (f_X1_record_0_4_3 S) 0) := by
  refine Mz.of (cc := cX1_record) (maxL := 3) (ret := none) (by decide) rfl (Nat.le_of_ble_eq_true rfl) ?_
  intro p e s m args below meth c A0 hA0 E hr hlocks hP hK hD hA hS ls hl
  have E : CallFix p m c cX1_record 3 s args wsX1_record RX1 := E
  have hx := E.1
  have hb := E.2.1
  have hml := E.2.2.1
  have hown := E.2.2.2.1
  have hts := E.2.2.2.2
  have hl : lv_has ls 3 [(0, .ref (A 43)), (1, .ref (A (6 * 0)))] := hl
  have hinX1 : ∀ w ∈ u_ws RX1 TX1 2, w ∈ wsX1_record := fun _ h => List.mem_cons_of_mem _ (List.mem_append_left _ (List.mem_append_right _ h))
  refine lv_aload_n hx hb dX1_record_0 rfl (lv_at hl 0 rfl) ?_
  refine va_get (D := G.1) (ci := 1) (v := .int (S 7 0 1)) (C := RX1) (T := TX1) (N := 2) hx hb hts hinX1 hown hK.1 hP 43 (wX_43 G A S 3) rfl 1 (by decide) (hts (.fieldLink RX1 18 "WireLoops$History" "states" "I") (List.mem_of_getElem? (i := 1) rfl)) (fun _ h9 => h9) rfl dX1_record_1 ?_
  refine W.eq (g2 := F0 m 4 ls [.int 4]) (by rw [hq] <;> rfl) ?_
  refine lv_iconst (v := 4) hx hb dX1_record_4 (by decide) ?_
  refine lv_icmp_lt (tgt := 12) hx hb dX1_record_5 (by decide) (fun c1 => absurd c1 (by decide)) (fun c1 => ?_)
  refine lv_aload_n hx hb dX1_record_8 rfl (lv_at hl 0 rfl) ?_
  refine czV (rest := []) (As := []) E (c_X1_dropOldest_3 l G A S) (cwV 0 hts gX1_record_X1_dropOldest rfl rfl rfl (by decide +kernel) ⟨Nat.le_of_ble_eq_true rfl, Nat.le_of_ble_eq_true rfl⟩) hK hP hD hS hA 43 (wX_43 G A S 3) rfl rfl hl.1 rfl (Nat.le_of_ble_eq_true rfl) dX1_record_9 ⟨Nat.zero_le _, Nat.zero_le _⟩ (fun H locs hP hD hS => ?_)
  refine lv_aload_n hx hb dX1_record_12 rfl (lv_at hl 0 rfl) ?_
  refine lv_aload_n hx hb dX1_record_13 rfl (lv_at hl 0 rfl) ?_
  refine va_get (D := G.1) (ci := 1) (v := .int (((f_X1_dropOldest_3 S) 7 0) 1)) (C := RX1) (T := TX1) (N := 2) hx hb hts hinX1 hown hK.1 hP 43 (wX_43 G A (f_X1_dropOldest_3 S) 0) rfl 1 (by decide) (hts (.fieldLink RX1 18 "WireLoops$History" "states" "I") (List.mem_of_getElem? (i := 1) rfl)) (fun _ h9 => h9) rfl dX1_record_14 ?_
  refine W.eq (g2 := F0 m 17 ls [.int 3, .ref (A 43)]) (by rw [show (((f_X1_dropOldest_3 S) 7 0) 1) = (3 : Int32) from rfl] <;> rfl) ?_
  refine crV (rest := []) (As := [.int 3]) E (c_X1_placeAt_3_0 l G A (f_X1_dropOldest_3 S)) (cwV 1 hts gX1_record_X1_placeAt rfl rfl rfl (by decide +kernel) ⟨Nat.le_of_ble_eq_true rfl, Nat.le_of_ble_eq_true rfl⟩) hK hP 43 (wX_43 G A (f_X1_dropOldest_3 S) 0) rfl rfl hl.1 rfl (Nat.le_of_ble_eq_true rfl) dX1_record_17 ⟨Nat.zero_le _, Nat.zero_le _⟩ ?_
  refine lv_astore_n (lv' := [(2, .ref (A (6 * 6))), (0, .ref (A 43)), (1, .ref (A (6 * 0)))]) hx hb dX1_record_20 rfl hl (by decide) rfl (fun ls hl => ?_)
  refine lv_aload_n hx hb dX1_record_21 rfl (lv_at hl 0 rfl) ?_
  refine lv_ifnull hx hb dX1_record_22 ?_
  refine lv_aload_n hx hb dX1_record_25 rfl (lv_at hl 0 rfl) ?_
  refine lv_aload_n hx hb dX1_record_26 rfl (lv_at hl 2 rfl) ?_
  refine czV (rest := []) (As := [.ref (A (6 * 0))]) E (c_X0_copyFrom_6_0 l G A (f_X1_dropOldest_3 S) 0 hbe) (cwV 1 hts gX1_record_X0_copyFrom rfl rfl rfl (by decide +kernel) ⟨Nat.le_of_ble_eq_true rfl, Nat.le_of_ble_eq_true rfl⟩) hK hP hD hS hA (6 * 6) (wX_o G A (f_X1_dropOldest_3 S) 0 6 (by decide)) rfl rfl hl.1 rfl (Nat.le_of_ble_eq_true rfl) dX1_record_27 ⟨Nat.zero_le _, Nat.zero_le _⟩ (fun H locs hP hD hS => ?_)
  refine lv_aload_n hx hb dX1_record_30 rfl (lv_at hl 1 rfl) ?_
  refine lv_dup hx hb dX1_record_31 rfl ?_
  refine va_get (D := G.1) (ci := 1) (v := .int (((f_X0_copyFrom_6_0 (f_X1_dropOldest_3 S)) 7 0) 1)) (C := RX1) (T := TX1) (N := 2) hx hb hts hinX1 hown hK.1 hP 43 (wX_43 G A (f_X0_copyFrom_6_0 (f_X1_dropOldest_3 S)) 0) rfl 1 (by decide) (hts (.fieldLink RX1 18 "WireLoops$History" "states" "I") (List.mem_of_getElem? (i := 1) rfl)) (fun _ h9 => h9) rfl dX1_record_32 ?_
  refine W.eq (g2 := F0 m 35 ls [.int 3, .ref (A 43)]) (by rw [show (((f_X0_copyFrom_6_0 (f_X1_dropOldest_3 S)) 7 0) 1) = (3 : Int32) from rfl] <;> rfl) ?_
  refine lv_iconst (v := 1) hx hb dX1_record_35 (by decide) ?_
  refine lv_iadd hx hb dX1_record_36 ?_
  refine W.eq (g2 := F0 m 37 ls [.int 4, .ref (A 43)]) (by rw [show (3 + 1) = (4 : Int32) from by decide] <;> rfl) ?_
  refine va_put (D := G.1) (ci := 1) (v := .int 4) (ty := .int) (C := RX1) (T := TX1) (N := 2) hx hb hts hinX1 tyX1 tyX1_ok nmX1 hown hK.1 hP hD hS 43 (wX_43 G A (f_X0_copyFrom_6_0 (f_X1_dropOldest_3 S)) 0) rfl 1 (by decide) (hts (.fieldLink RX1 18 "WireLoops$History" "states" "I") (List.mem_of_getElem? (i := 1) rfl)) (fun _ h9 => h9) rfl (by decide +kernel) rfl rfl (Nat.le_of_ble_eq_true rfl) dX1_record_37 (fun H locs hP hD hS => ?_)
  rw [wX_s43 G A (f_X0_copyFrom_6_0 (f_X1_dropOldest_3 S)) 0 _] at hP hD
  have hP : va_P G.1 vwCl (wX G A (su (f_X0_copyFrom_6_0 (f_X1_dropOldest_3 S)) 7 0 (upd ((f_X0_copyFrom_6_0 (f_X1_dropOldest_3 S)) 7 0) 1 4)) 0) H := hP
  have hD : va_D A0 (wX G A (su (f_X0_copyFrom_6_0 (f_X1_dropOldest_3 S)) 7 0 (upd ((f_X0_copyFrom_6_0 (f_X1_dropOldest_3 S)) 7 0) 1 4)) 0) := hD
  exact endZ hx hb hr hlocks hP hD hS rfl dX1_record_40
def f_X1_record_1_4_3 (S : XS) : XS := su (sc (su S 7 0 (upd (S 7 0) 1 3)) 6 1) 7 0 (upd (upd (S 7 0) 1 3) 1 4)
theorem e_X1_record_1_4_3 (S : XS) : f_X1_record_1_4_3 S = su (sc (su S 7 0 (upd (S 7 0) 1 3)) 6 1) 7 0 (upd (upd (S 7 0) 1 3) 1 4) := rfl
set_option maxHeartbeats 4000000 in
set_option maxRecDepth 100000 in
theorem c_X1_record_1_4_3 (l : Launch) (G : GG) (A : Nat → Nat) (S : XS)  (hq : S 7 0 1 = 4) (hbe : S 1 0 4 = 0 ∨ S 1 0 4 = 1) : Mz l yX1_record wsX1_record ({ frames := 2, cells := 0, slots := 0, locals := 47 } : Room) G [.ref (A 43), .ref (A (6 * 1))] (wX G A S 3) (wX G A (f_X1_record_1_4_3 S) 0) := by
  refine Mz.of (cc := cX1_record) (maxL := 3) (ret := none) (by decide) rfl (Nat.le_of_ble_eq_true rfl) ?_
  intro p e s m args below meth c A0 hA0 E hr hlocks hP hK hD hA hS ls hl
  have E : CallFix p m c cX1_record 3 s args wsX1_record RX1 := E
  have hx := E.1
  have hb := E.2.1
  have hml := E.2.2.1
  have hown := E.2.2.2.1
  have hts := E.2.2.2.2
  have hl : lv_has ls 3 [(0, .ref (A 43)), (1, .ref (A (6 * 1)))] := hl
  have hinX1 : ∀ w ∈ u_ws RX1 TX1 2, w ∈ wsX1_record := fun _ h => List.mem_cons_of_mem _ (List.mem_append_left _ (List.mem_append_right _ h))
  refine lv_aload_n hx hb dX1_record_0 rfl (lv_at hl 0 rfl) ?_
  refine va_get (D := G.1) (ci := 1) (v := .int (S 7 0 1)) (C := RX1) (T := TX1) (N := 2) hx hb hts hinX1 hown hK.1 hP 43 (wX_43 G A S 3) rfl 1 (by decide) (hts (.fieldLink RX1 18 "WireLoops$History" "states" "I") (List.mem_of_getElem? (i := 1) rfl)) (fun _ h9 => h9) rfl dX1_record_1 ?_
  refine W.eq (g2 := F0 m 4 ls [.int 4]) (by rw [hq] <;> rfl) ?_
  refine lv_iconst (v := 4) hx hb dX1_record_4 (by decide) ?_
  refine lv_icmp_lt (tgt := 12) hx hb dX1_record_5 (by decide) (fun c1 => absurd c1 (by decide)) (fun c1 => ?_)
  refine lv_aload_n hx hb dX1_record_8 rfl (lv_at hl 0 rfl) ?_
  refine czV (rest := []) (As := []) E (c_X1_dropOldest_3 l G A S) (cwV 0 hts gX1_record_X1_dropOldest rfl rfl rfl (by decide +kernel) ⟨Nat.le_of_ble_eq_true rfl, Nat.le_of_ble_eq_true rfl⟩) hK hP hD hS hA 43 (wX_43 G A S 3) rfl rfl hl.1 rfl (Nat.le_of_ble_eq_true rfl) dX1_record_9 ⟨Nat.zero_le _, Nat.zero_le _⟩ (fun H locs hP hD hS => ?_)
  refine lv_aload_n hx hb dX1_record_12 rfl (lv_at hl 0 rfl) ?_
  refine lv_aload_n hx hb dX1_record_13 rfl (lv_at hl 0 rfl) ?_
  refine va_get (D := G.1) (ci := 1) (v := .int (((f_X1_dropOldest_3 S) 7 0) 1)) (C := RX1) (T := TX1) (N := 2) hx hb hts hinX1 hown hK.1 hP 43 (wX_43 G A (f_X1_dropOldest_3 S) 0) rfl 1 (by decide) (hts (.fieldLink RX1 18 "WireLoops$History" "states" "I") (List.mem_of_getElem? (i := 1) rfl)) (fun _ h9 => h9) rfl dX1_record_14 ?_
  refine W.eq (g2 := F0 m 17 ls [.int 3, .ref (A 43)]) (by rw [show (((f_X1_dropOldest_3 S) 7 0) 1) = (3 : Int32) from rfl] <;> rfl) ?_
  refine crV (rest := []) (As := [.int 3]) E (c_X1_placeAt_3_0 l G A (f_X1_dropOldest_3 S)) (cwV 1 hts gX1_record_X1_placeAt rfl rfl rfl (by decide +kernel) ⟨Nat.le_of_ble_eq_true rfl, Nat.le_of_ble_eq_true rfl⟩) hK hP 43 (wX_43 G A (f_X1_dropOldest_3 S) 0) rfl rfl hl.1 rfl (Nat.le_of_ble_eq_true rfl) dX1_record_17 ⟨Nat.zero_le _, Nat.zero_le _⟩ ?_
  refine lv_astore_n (lv' := [(2, .ref (A (6 * 6))), (0, .ref (A 43)), (1, .ref (A (6 * 1)))]) hx hb dX1_record_20 rfl hl (by decide) rfl (fun ls hl => ?_)
  refine lv_aload_n hx hb dX1_record_21 rfl (lv_at hl 0 rfl) ?_
  refine lv_ifnull hx hb dX1_record_22 ?_
  refine lv_aload_n hx hb dX1_record_25 rfl (lv_at hl 0 rfl) ?_
  refine lv_aload_n hx hb dX1_record_26 rfl (lv_at hl 2 rfl) ?_
  refine czV (rest := []) (As := [.ref (A (6 * 1))]) E (c_X0_copyFrom_6_1 l G A (f_X1_dropOldest_3 S) 0 hbe) (cwV 1 hts gX1_record_X0_copyFrom rfl rfl rfl (by decide +kernel) ⟨Nat.le_of_ble_eq_true rfl, Nat.le_of_ble_eq_true rfl⟩) hK hP hD hS hA (6 * 6) (wX_o G A (f_X1_dropOldest_3 S) 0 6 (by decide)) rfl rfl hl.1 rfl (Nat.le_of_ble_eq_true rfl) dX1_record_27 ⟨Nat.zero_le _, Nat.zero_le _⟩ (fun H locs hP hD hS => ?_)
  refine lv_aload_n hx hb dX1_record_30 rfl (lv_at hl 1 rfl) ?_
  refine lv_dup hx hb dX1_record_31 rfl ?_
  refine va_get (D := G.1) (ci := 1) (v := .int (((f_X0_copyFrom_6_1 (f_X1_dropOldest_3 S)) 7 0) 1)) (C := RX1) (T := TX1) (N := 2) hx hb hts hinX1 hown hK.1 hP 43 (wX_43 G A (f_X0_copyFrom_6_1 (f_X1_dropOldest_3 S)) 0) rfl 1 (by decide) (hts (.fieldLink RX1 18 "WireLoops$History" "states" "I") (List.mem_of_getElem? (i := 1) rfl)) (fun _ h9 => h9) rfl dX1_record_32 ?_
  refine W.eq (g2 := F0 m 35 ls [.int 3, .ref (A 43)]) (by rw [show (((f_X0_copyFrom_6_1 (f_X1_dropOldest_3 S)) 7 0) 1) = (3 : Int32) from rfl] <;> rfl) ?_
  refine lv_iconst (v := 1) hx hb dX1_record_35 (by decide) ?_
  refine lv_iadd hx hb dX1_record_36 ?_
  refine W.eq (g2 := F0 m 37 ls [.int 4, .ref (A 43)]) (by rw [show (3 + 1) = (4 : Int32) from by decide] <;> rfl) ?_
  refine va_put (D := G.1) (ci := 1) (v := .int 4) (ty := .int) (C := RX1) (T := TX1) (N := 2) hx hb hts hinX1 tyX1 tyX1_ok nmX1 hown hK.1 hP hD hS 43 (wX_43 G A (f_X0_copyFrom_6_1 (f_X1_dropOldest_3 S)) 0) rfl 1 (by decide) (hts (.fieldLink RX1 18 "WireLoops$History" "states" "I") (List.mem_of_getElem? (i := 1) rfl)) (fun _ h9 => h9) rfl (by decide +kernel) rfl rfl (Nat.le_of_ble_eq_true rfl) dX1_record_37 (fun H locs hP hD hS => ?_)
  rw [wX_s43 G A (f_X0_copyFrom_6_1 (f_X1_dropOldest_3 S)) 0 _] at hP hD
  have hP : va_P G.1 vwCl (wX G A (su (f_X0_copyFrom_6_1 (f_X1_dropOldest_3 S)) 7 0 (upd ((f_X0_copyFrom_6_1 (f_X1_dropOldest_3 S)) 7 0) 1 4)) 0) H := hP
  have hD : va_D A0 (wX G A (su (f_X0_copyFrom_6_1 (f_X1_dropOldest_3 S)) 7 0 (upd ((f_X0_copyFrom_6_1 (f_X1_dropOldest_3 S)) 7 0) 1 4)) 0) := hD
  exact endZ hx hb hr hlocks hP hD hS rfl dX1_record_40
def f_X1_takeLatest_1_0 (S : XS) : XS := su (sc S 0 3) 7 0 (upd (S 7 0) 1 0)
theorem e_X1_takeLatest_1_0 (S : XS) : f_X1_takeLatest_1_0 S = su (sc S 0 3) 7 0 (upd (S 7 0) 1 0) := rfl
set_option maxHeartbeats 4000000 in
set_option maxRecDepth 100000 in
theorem c_X1_takeLatest_1_0 (l : Launch) (G : GG) (A : Nat → Nat) (S : XS)  (hq : S 7 0 1 = 1) (hbe : S 3 0 4 = 0 ∨ S 3 0 4 = 1) : Mz l yX1_takeLatest wsX1_takeLatest ({ frames := 2, cells := 0, slots := 0, locals := 47 } : Room) G [.ref (A 43), .ref (A (6 * 0))] (wX G A S 0) (wX G A (f_X1_takeLatest_1_0 S) 0) := by
  refine Mz.of (cc := cX1_takeLatest) (maxL := 3) (ret := none) (by decide) rfl (Nat.le_of_ble_eq_true rfl) ?_
  intro p e s m args below meth c A0 hA0 E hr hlocks hP hK hD hA hS ls hl
  have E : CallFix p m c cX1_takeLatest 3 s args wsX1_takeLatest RX1 := E
  have hx := E.1
  have hb := E.2.1
  have hml := E.2.2.1
  have hown := E.2.2.2.1
  have hts := E.2.2.2.2
  have hl : lv_has ls 3 [(0, .ref (A 43)), (1, .ref (A (6 * 0)))] := hl
  have hinX1 : ∀ w ∈ u_ws RX1 TX1 2, w ∈ wsX1_takeLatest := fun _ h => List.mem_cons_of_mem _ (List.mem_append_left _ (List.mem_append_right _ h))
  refine lv_aload_n hx hb dX1_takeLatest_0 rfl (lv_at hl 0 rfl) ?_
  refine lv_aload_n hx hb dX1_takeLatest_1 rfl (lv_at hl 0 rfl) ?_
  refine va_get (D := G.1) (ci := 1) (v := .int (S 7 0 1)) (C := RX1) (T := TX1) (N := 2) hx hb hts hinX1 hown hK.1 hP 43 (wX_43 G A S 0) rfl 1 (by decide) (hts (.fieldLink RX1 18 "WireLoops$History" "states" "I") (List.mem_of_getElem? (i := 1) rfl)) (fun _ h9 => h9) rfl dX1_takeLatest_2 ?_
  refine W.eq (g2 := F0 m 5 ls [.int 1, .ref (A 43)]) (by rw [hq] <;> rfl) ?_
  refine lv_iconst (v := 1) hx hb dX1_takeLatest_5 (by decide) ?_
  refine lv_isub hx hb dX1_takeLatest_6 ?_
  refine W.eq (g2 := F0 m 7 ls [.int 0, .ref (A 43)]) (by rw [show (1 - 1) = (0 : Int32) from by decide] <;> rfl) ?_
  refine crV (rest := []) (As := [.int 0]) E (c_X1_placeAt_0_0 l G A S) (cwV 1 hts gX1_takeLatest_X1_placeAt rfl rfl rfl (by decide +kernel) ⟨Nat.le_of_ble_eq_true rfl, Nat.le_of_ble_eq_true rfl⟩) hK hP 43 (wX_43 G A S 0) rfl rfl hl.1 rfl (Nat.le_of_ble_eq_true rfl) dX1_takeLatest_7 ⟨Nat.zero_le _, Nat.zero_le _⟩ ?_
  refine lv_astore_n (lv' := [(2, .ref (A (6 * 3))), (0, .ref (A 43)), (1, .ref (A (6 * 0)))]) hx hb dX1_takeLatest_10 rfl hl (by decide) rfl (fun ls hl => ?_)
  refine lv_aload_n hx hb dX1_takeLatest_11 rfl (lv_at hl 0 rfl) ?_
  refine lv_ifnull hx hb dX1_takeLatest_12 ?_
  refine lv_aload_n hx hb dX1_takeLatest_15 rfl (lv_at hl 2 rfl) ?_
  refine lv_aload_n hx hb dX1_takeLatest_16 rfl (lv_at hl 0 rfl) ?_
  refine czV (rest := []) (As := [.ref (A (6 * 3))]) E (c_X0_copyFrom_0_3 l G A S 0 hbe) (cwV 1 hts gX1_takeLatest_X0_copyFrom rfl rfl rfl (by decide +kernel) ⟨Nat.le_of_ble_eq_true rfl, Nat.le_of_ble_eq_true rfl⟩) hK hP hD hS hA (6 * 0) (wX_o G A S 0 0 (by decide)) rfl rfl hl.1 rfl (Nat.le_of_ble_eq_true rfl) dX1_takeLatest_17 ⟨Nat.zero_le _, Nat.zero_le _⟩ (fun H locs hP hD hS => ?_)
  refine lv_aload_n hx hb dX1_takeLatest_20 rfl (lv_at hl 1 rfl) ?_
  refine lv_dup hx hb dX1_takeLatest_21 rfl ?_
  refine va_get (D := G.1) (ci := 1) (v := .int (((f_X0_copyFrom_0_3 S) 7 0) 1)) (C := RX1) (T := TX1) (N := 2) hx hb hts hinX1 hown hK.1 hP 43 (wX_43 G A (f_X0_copyFrom_0_3 S) 0) rfl 1 (by decide) (hts (.fieldLink RX1 18 "WireLoops$History" "states" "I") (List.mem_of_getElem? (i := 1) rfl)) (fun _ h9 => h9) rfl dX1_takeLatest_22 ?_
  refine W.eq (g2 := F0 m 25 ls [.int 1, .ref (A 43)]) (by rw [show (((f_X0_copyFrom_0_3 S) 7 0) 1) = (1 : Int32) from hq] <;> rfl) ?_
  refine lv_iconst (v := 1) hx hb dX1_takeLatest_25 (by decide) ?_
  refine lv_isub hx hb dX1_takeLatest_26 ?_
  refine W.eq (g2 := F0 m 27 ls [.int 0, .ref (A 43)]) (by rw [show (1 - 1) = (0 : Int32) from by decide] <;> rfl) ?_
  refine va_put (D := G.1) (ci := 1) (v := .int 0) (ty := .int) (C := RX1) (T := TX1) (N := 2) hx hb hts hinX1 tyX1 tyX1_ok nmX1 hown hK.1 hP hD hS 43 (wX_43 G A (f_X0_copyFrom_0_3 S) 0) rfl 1 (by decide) (hts (.fieldLink RX1 18 "WireLoops$History" "states" "I") (List.mem_of_getElem? (i := 1) rfl)) (fun _ h9 => h9) rfl (by decide +kernel) rfl rfl (Nat.le_of_ble_eq_true rfl) dX1_takeLatest_27 (fun H locs hP hD hS => ?_)
  rw [wX_s43 G A (f_X0_copyFrom_0_3 S) 0 _] at hP hD
  have hP : va_P G.1 vwCl (wX G A (su (f_X0_copyFrom_0_3 S) 7 0 (upd ((f_X0_copyFrom_0_3 S) 7 0) 1 0)) 0) H := hP
  have hD : va_D A0 (wX G A (su (f_X0_copyFrom_0_3 S) 7 0 (upd ((f_X0_copyFrom_0_3 S) 7 0) 1 0)) 0) := hD
  exact endZ hx hb hr hlocks hP hD hS rfl dX1_takeLatest_30
def f_X1_takeLatest_2_0 (S : XS) : XS := su (sc S 0 4) 7 0 (upd (S 7 0) 1 1)
theorem e_X1_takeLatest_2_0 (S : XS) : f_X1_takeLatest_2_0 S = su (sc S 0 4) 7 0 (upd (S 7 0) 1 1) := rfl
set_option maxHeartbeats 4000000 in
set_option maxRecDepth 100000 in
theorem c_X1_takeLatest_2_0 (l : Launch) (G : GG) (A : Nat → Nat) (S : XS)  (hq : S 7 0 1 = 2) (hbe : S 4 0 4 = 0 ∨ S 4 0 4 = 1) : Mz l yX1_takeLatest wsX1_takeLatest ({ frames := 2, cells := 0, slots := 0, locals := 47 } : Room) G [.ref (A 43), .ref (A (6 * 0))] (wX G A S 0) (wX G A (f_X1_takeLatest_2_0 S) 0) := by
  refine Mz.of (cc := cX1_takeLatest) (maxL := 3) (ret := none) (by decide) rfl (Nat.le_of_ble_eq_true rfl) ?_
  intro p e s m args below meth c A0 hA0 E hr hlocks hP hK hD hA hS ls hl
  have E : CallFix p m c cX1_takeLatest 3 s args wsX1_takeLatest RX1 := E
  have hx := E.1
  have hb := E.2.1
  have hml := E.2.2.1
  have hown := E.2.2.2.1
  have hts := E.2.2.2.2
  have hl : lv_has ls 3 [(0, .ref (A 43)), (1, .ref (A (6 * 0)))] := hl
  have hinX1 : ∀ w ∈ u_ws RX1 TX1 2, w ∈ wsX1_takeLatest := fun _ h => List.mem_cons_of_mem _ (List.mem_append_left _ (List.mem_append_right _ h))
  refine lv_aload_n hx hb dX1_takeLatest_0 rfl (lv_at hl 0 rfl) ?_
  refine lv_aload_n hx hb dX1_takeLatest_1 rfl (lv_at hl 0 rfl) ?_
  refine va_get (D := G.1) (ci := 1) (v := .int (S 7 0 1)) (C := RX1) (T := TX1) (N := 2) hx hb hts hinX1 hown hK.1 hP 43 (wX_43 G A S 0) rfl 1 (by decide) (hts (.fieldLink RX1 18 "WireLoops$History" "states" "I") (List.mem_of_getElem? (i := 1) rfl)) (fun _ h9 => h9) rfl dX1_takeLatest_2 ?_
  refine W.eq (g2 := F0 m 5 ls [.int 2, .ref (A 43)]) (by rw [hq] <;> rfl) ?_
  refine lv_iconst (v := 1) hx hb dX1_takeLatest_5 (by decide) ?_
  refine lv_isub hx hb dX1_takeLatest_6 ?_
  refine W.eq (g2 := F0 m 7 ls [.int 1, .ref (A 43)]) (by rw [show (2 - 1) = (1 : Int32) from by decide] <;> rfl) ?_
  refine crV (rest := []) (As := [.int 1]) E (c_X1_placeAt_1_0 l G A S) (cwV 1 hts gX1_takeLatest_X1_placeAt rfl rfl rfl (by decide +kernel) ⟨Nat.le_of_ble_eq_true rfl, Nat.le_of_ble_eq_true rfl⟩) hK hP 43 (wX_43 G A S 0) rfl rfl hl.1 rfl (Nat.le_of_ble_eq_true rfl) dX1_takeLatest_7 ⟨Nat.zero_le _, Nat.zero_le _⟩ ?_
  refine lv_astore_n (lv' := [(2, .ref (A (6 * 4))), (0, .ref (A 43)), (1, .ref (A (6 * 0)))]) hx hb dX1_takeLatest_10 rfl hl (by decide) rfl (fun ls hl => ?_)
  refine lv_aload_n hx hb dX1_takeLatest_11 rfl (lv_at hl 0 rfl) ?_
  refine lv_ifnull hx hb dX1_takeLatest_12 ?_
  refine lv_aload_n hx hb dX1_takeLatest_15 rfl (lv_at hl 2 rfl) ?_
  refine lv_aload_n hx hb dX1_takeLatest_16 rfl (lv_at hl 0 rfl) ?_
  refine czV (rest := []) (As := [.ref (A (6 * 4))]) E (c_X0_copyFrom_0_4 l G A S 0 hbe) (cwV 1 hts gX1_takeLatest_X0_copyFrom rfl rfl rfl (by decide +kernel) ⟨Nat.le_of_ble_eq_true rfl, Nat.le_of_ble_eq_true rfl⟩) hK hP hD hS hA (6 * 0) (wX_o G A S 0 0 (by decide)) rfl rfl hl.1 rfl (Nat.le_of_ble_eq_true rfl) dX1_takeLatest_17 ⟨Nat.zero_le _, Nat.zero_le _⟩ (fun H locs hP hD hS => ?_)
  refine lv_aload_n hx hb dX1_takeLatest_20 rfl (lv_at hl 1 rfl) ?_
  refine lv_dup hx hb dX1_takeLatest_21 rfl ?_
  refine va_get (D := G.1) (ci := 1) (v := .int (((f_X0_copyFrom_0_4 S) 7 0) 1)) (C := RX1) (T := TX1) (N := 2) hx hb hts hinX1 hown hK.1 hP 43 (wX_43 G A (f_X0_copyFrom_0_4 S) 0) rfl 1 (by decide) (hts (.fieldLink RX1 18 "WireLoops$History" "states" "I") (List.mem_of_getElem? (i := 1) rfl)) (fun _ h9 => h9) rfl dX1_takeLatest_22 ?_
  refine W.eq (g2 := F0 m 25 ls [.int 2, .ref (A 43)]) (by rw [show (((f_X0_copyFrom_0_4 S) 7 0) 1) = (2 : Int32) from hq] <;> rfl) ?_
  refine lv_iconst (v := 1) hx hb dX1_takeLatest_25 (by decide) ?_
  refine lv_isub hx hb dX1_takeLatest_26 ?_
  refine W.eq (g2 := F0 m 27 ls [.int 1, .ref (A 43)]) (by rw [show (2 - 1) = (1 : Int32) from by decide] <;> rfl) ?_
  refine va_put (D := G.1) (ci := 1) (v := .int 1) (ty := .int) (C := RX1) (T := TX1) (N := 2) hx hb hts hinX1 tyX1 tyX1_ok nmX1 hown hK.1 hP hD hS 43 (wX_43 G A (f_X0_copyFrom_0_4 S) 0) rfl 1 (by decide) (hts (.fieldLink RX1 18 "WireLoops$History" "states" "I") (List.mem_of_getElem? (i := 1) rfl)) (fun _ h9 => h9) rfl (by decide +kernel) rfl rfl (Nat.le_of_ble_eq_true rfl) dX1_takeLatest_27 (fun H locs hP hD hS => ?_)
  rw [wX_s43 G A (f_X0_copyFrom_0_4 S) 0 _] at hP hD
  have hP : va_P G.1 vwCl (wX G A (su (f_X0_copyFrom_0_4 S) 7 0 (upd ((f_X0_copyFrom_0_4 S) 7 0) 1 1)) 0) H := hP
  have hD : va_D A0 (wX G A (su (f_X0_copyFrom_0_4 S) 7 0 (upd ((f_X0_copyFrom_0_4 S) 7 0) 1 1)) 0) := hD
  exact endZ hx hb hr hlocks hP hD hS rfl dX1_takeLatest_30
def f_X1_takeLatest_3_0 (S : XS) : XS := su (sc S 0 5) 7 0 (upd (S 7 0) 1 2)
theorem e_X1_takeLatest_3_0 (S : XS) : f_X1_takeLatest_3_0 S = su (sc S 0 5) 7 0 (upd (S 7 0) 1 2) := rfl
set_option maxHeartbeats 4000000 in
set_option maxRecDepth 100000 in
theorem c_X1_takeLatest_3_0 (l : Launch) (G : GG) (A : Nat → Nat) (S : XS)  (hq : S 7 0 1 = 3) (hbe : S 5 0 4 = 0 ∨ S 5 0 4 = 1) : Mz l yX1_takeLatest wsX1_takeLatest ({ frames := 2, cells := 0, slots := 0, locals := 47 } : Room) G [.ref (A 43), .ref (A (6 * 0))] (wX G A S 0) (wX G A (f_X1_takeLatest_3_0 S) 0) := by
  refine Mz.of (cc := cX1_takeLatest) (maxL := 3) (ret := none) (by decide) rfl (Nat.le_of_ble_eq_true rfl) ?_
  intro p e s m args below meth c A0 hA0 E hr hlocks hP hK hD hA hS ls hl
  have E : CallFix p m c cX1_takeLatest 3 s args wsX1_takeLatest RX1 := E
  have hx := E.1
  have hb := E.2.1
  have hml := E.2.2.1
  have hown := E.2.2.2.1
  have hts := E.2.2.2.2
  have hl : lv_has ls 3 [(0, .ref (A 43)), (1, .ref (A (6 * 0)))] := hl
  have hinX1 : ∀ w ∈ u_ws RX1 TX1 2, w ∈ wsX1_takeLatest := fun _ h => List.mem_cons_of_mem _ (List.mem_append_left _ (List.mem_append_right _ h))
  refine lv_aload_n hx hb dX1_takeLatest_0 rfl (lv_at hl 0 rfl) ?_
  refine lv_aload_n hx hb dX1_takeLatest_1 rfl (lv_at hl 0 rfl) ?_
  refine va_get (D := G.1) (ci := 1) (v := .int (S 7 0 1)) (C := RX1) (T := TX1) (N := 2) hx hb hts hinX1 hown hK.1 hP 43 (wX_43 G A S 0) rfl 1 (by decide) (hts (.fieldLink RX1 18 "WireLoops$History" "states" "I") (List.mem_of_getElem? (i := 1) rfl)) (fun _ h9 => h9) rfl dX1_takeLatest_2 ?_
  refine W.eq (g2 := F0 m 5 ls [.int 3, .ref (A 43)]) (by rw [hq] <;> rfl) ?_
  refine lv_iconst (v := 1) hx hb dX1_takeLatest_5 (by decide) ?_
  refine lv_isub hx hb dX1_takeLatest_6 ?_
  refine W.eq (g2 := F0 m 7 ls [.int 2, .ref (A 43)]) (by rw [show (3 - 1) = (2 : Int32) from by decide] <;> rfl) ?_
  refine crV (rest := []) (As := [.int 2]) E (c_X1_placeAt_2_0 l G A S) (cwV 1 hts gX1_takeLatest_X1_placeAt rfl rfl rfl (by decide +kernel) ⟨Nat.le_of_ble_eq_true rfl, Nat.le_of_ble_eq_true rfl⟩) hK hP 43 (wX_43 G A S 0) rfl rfl hl.1 rfl (Nat.le_of_ble_eq_true rfl) dX1_takeLatest_7 ⟨Nat.zero_le _, Nat.zero_le _⟩ ?_
  refine lv_astore_n (lv' := [(2, .ref (A (6 * 5))), (0, .ref (A 43)), (1, .ref (A (6 * 0)))]) hx hb dX1_takeLatest_10 rfl hl (by decide) rfl (fun ls hl => ?_)
  refine lv_aload_n hx hb dX1_takeLatest_11 rfl (lv_at hl 0 rfl) ?_
  refine lv_ifnull hx hb dX1_takeLatest_12 ?_
  refine lv_aload_n hx hb dX1_takeLatest_15 rfl (lv_at hl 2 rfl) ?_
  refine lv_aload_n hx hb dX1_takeLatest_16 rfl (lv_at hl 0 rfl) ?_
  refine czV (rest := []) (As := [.ref (A (6 * 5))]) E (c_X0_copyFrom_0_5 l G A S 0 hbe) (cwV 1 hts gX1_takeLatest_X0_copyFrom rfl rfl rfl (by decide +kernel) ⟨Nat.le_of_ble_eq_true rfl, Nat.le_of_ble_eq_true rfl⟩) hK hP hD hS hA (6 * 0) (wX_o G A S 0 0 (by decide)) rfl rfl hl.1 rfl (Nat.le_of_ble_eq_true rfl) dX1_takeLatest_17 ⟨Nat.zero_le _, Nat.zero_le _⟩ (fun H locs hP hD hS => ?_)
  refine lv_aload_n hx hb dX1_takeLatest_20 rfl (lv_at hl 1 rfl) ?_
  refine lv_dup hx hb dX1_takeLatest_21 rfl ?_
  refine va_get (D := G.1) (ci := 1) (v := .int (((f_X0_copyFrom_0_5 S) 7 0) 1)) (C := RX1) (T := TX1) (N := 2) hx hb hts hinX1 hown hK.1 hP 43 (wX_43 G A (f_X0_copyFrom_0_5 S) 0) rfl 1 (by decide) (hts (.fieldLink RX1 18 "WireLoops$History" "states" "I") (List.mem_of_getElem? (i := 1) rfl)) (fun _ h9 => h9) rfl dX1_takeLatest_22 ?_
  refine W.eq (g2 := F0 m 25 ls [.int 3, .ref (A 43)]) (by rw [show (((f_X0_copyFrom_0_5 S) 7 0) 1) = (3 : Int32) from hq] <;> rfl) ?_
  refine lv_iconst (v := 1) hx hb dX1_takeLatest_25 (by decide) ?_
  refine lv_isub hx hb dX1_takeLatest_26 ?_
  refine W.eq (g2 := F0 m 27 ls [.int 2, .ref (A 43)]) (by rw [show (3 - 1) = (2 : Int32) from by decide] <;> rfl) ?_
  refine va_put (D := G.1) (ci := 1) (v := .int 2) (ty := .int) (C := RX1) (T := TX1) (N := 2) hx hb hts hinX1 tyX1 tyX1_ok nmX1 hown hK.1 hP hD hS 43 (wX_43 G A (f_X0_copyFrom_0_5 S) 0) rfl 1 (by decide) (hts (.fieldLink RX1 18 "WireLoops$History" "states" "I") (List.mem_of_getElem? (i := 1) rfl)) (fun _ h9 => h9) rfl (by decide +kernel) rfl rfl (Nat.le_of_ble_eq_true rfl) dX1_takeLatest_27 (fun H locs hP hD hS => ?_)
  rw [wX_s43 G A (f_X0_copyFrom_0_5 S) 0 _] at hP hD
  have hP : va_P G.1 vwCl (wX G A (su (f_X0_copyFrom_0_5 S) 7 0 (upd ((f_X0_copyFrom_0_5 S) 7 0) 1 2)) 0) H := hP
  have hD : va_D A0 (wX G A (su (f_X0_copyFrom_0_5 S) 7 0 (upd ((f_X0_copyFrom_0_5 S) 7 0) 1 2)) 0) := hD
  exact endZ hx hb hr hlocks hP hD hS rfl dX1_takeLatest_30
def f_X1_takeLatest_4_0 (S : XS) : XS := su (sc S 0 6) 7 0 (upd (S 7 0) 1 3)
theorem e_X1_takeLatest_4_0 (S : XS) : f_X1_takeLatest_4_0 S = su (sc S 0 6) 7 0 (upd (S 7 0) 1 3) := rfl
set_option maxHeartbeats 4000000 in
set_option maxRecDepth 100000 in
theorem c_X1_takeLatest_4_0 (l : Launch) (G : GG) (A : Nat → Nat) (S : XS)  (hq : S 7 0 1 = 4) (hbe : S 6 0 4 = 0 ∨ S 6 0 4 = 1) : Mz l yX1_takeLatest wsX1_takeLatest ({ frames := 2, cells := 0, slots := 0, locals := 47 } : Room) G [.ref (A 43), .ref (A (6 * 0))] (wX G A S 0) (wX G A (f_X1_takeLatest_4_0 S) 0) := by
  refine Mz.of (cc := cX1_takeLatest) (maxL := 3) (ret := none) (by decide) rfl (Nat.le_of_ble_eq_true rfl) ?_
  intro p e s m args below meth c A0 hA0 E hr hlocks hP hK hD hA hS ls hl
  have E : CallFix p m c cX1_takeLatest 3 s args wsX1_takeLatest RX1 := E
  have hx := E.1
  have hb := E.2.1
  have hml := E.2.2.1
  have hown := E.2.2.2.1
  have hts := E.2.2.2.2
  have hl : lv_has ls 3 [(0, .ref (A 43)), (1, .ref (A (6 * 0)))] := hl
  have hinX1 : ∀ w ∈ u_ws RX1 TX1 2, w ∈ wsX1_takeLatest := fun _ h => List.mem_cons_of_mem _ (List.mem_append_left _ (List.mem_append_right _ h))
  refine lv_aload_n hx hb dX1_takeLatest_0 rfl (lv_at hl 0 rfl) ?_
  refine lv_aload_n hx hb dX1_takeLatest_1 rfl (lv_at hl 0 rfl) ?_
  refine va_get (D := G.1) (ci := 1) (v := .int (S 7 0 1)) (C := RX1) (T := TX1) (N := 2) hx hb hts hinX1 hown hK.1 hP 43 (wX_43 G A S 0) rfl 1 (by decide) (hts (.fieldLink RX1 18 "WireLoops$History" "states" "I") (List.mem_of_getElem? (i := 1) rfl)) (fun _ h9 => h9) rfl dX1_takeLatest_2 ?_
  refine W.eq (g2 := F0 m 5 ls [.int 4, .ref (A 43)]) (by rw [hq] <;> rfl) ?_
  refine lv_iconst (v := 1) hx hb dX1_takeLatest_5 (by decide) ?_
  refine lv_isub hx hb dX1_takeLatest_6 ?_
  refine W.eq (g2 := F0 m 7 ls [.int 3, .ref (A 43)]) (by rw [show (4 - 1) = (3 : Int32) from by decide] <;> rfl) ?_
  refine crV (rest := []) (As := [.int 3]) E (c_X1_placeAt_3_0 l G A S) (cwV 1 hts gX1_takeLatest_X1_placeAt rfl rfl rfl (by decide +kernel) ⟨Nat.le_of_ble_eq_true rfl, Nat.le_of_ble_eq_true rfl⟩) hK hP 43 (wX_43 G A S 0) rfl rfl hl.1 rfl (Nat.le_of_ble_eq_true rfl) dX1_takeLatest_7 ⟨Nat.zero_le _, Nat.zero_le _⟩ ?_
  refine lv_astore_n (lv' := [(2, .ref (A (6 * 6))), (0, .ref (A 43)), (1, .ref (A (6 * 0)))]) hx hb dX1_takeLatest_10 rfl hl (by decide) rfl (fun ls hl => ?_)
  refine lv_aload_n hx hb dX1_takeLatest_11 rfl (lv_at hl 0 rfl) ?_
  refine lv_ifnull hx hb dX1_takeLatest_12 ?_
  refine lv_aload_n hx hb dX1_takeLatest_15 rfl (lv_at hl 2 rfl) ?_
  refine lv_aload_n hx hb dX1_takeLatest_16 rfl (lv_at hl 0 rfl) ?_
  refine czV (rest := []) (As := [.ref (A (6 * 6))]) E (c_X0_copyFrom_0_6 l G A S 0 hbe) (cwV 1 hts gX1_takeLatest_X0_copyFrom rfl rfl rfl (by decide +kernel) ⟨Nat.le_of_ble_eq_true rfl, Nat.le_of_ble_eq_true rfl⟩) hK hP hD hS hA (6 * 0) (wX_o G A S 0 0 (by decide)) rfl rfl hl.1 rfl (Nat.le_of_ble_eq_true rfl) dX1_takeLatest_17 ⟨Nat.zero_le _, Nat.zero_le _⟩ (fun H locs hP hD hS => ?_)
  refine lv_aload_n hx hb dX1_takeLatest_20 rfl (lv_at hl 1 rfl) ?_
  refine lv_dup hx hb dX1_takeLatest_21 rfl ?_
  refine va_get (D := G.1) (ci := 1) (v := .int (((f_X0_copyFrom_0_6 S) 7 0) 1)) (C := RX1) (T := TX1) (N := 2) hx hb hts hinX1 hown hK.1 hP 43 (wX_43 G A (f_X0_copyFrom_0_6 S) 0) rfl 1 (by decide) (hts (.fieldLink RX1 18 "WireLoops$History" "states" "I") (List.mem_of_getElem? (i := 1) rfl)) (fun _ h9 => h9) rfl dX1_takeLatest_22 ?_
  refine W.eq (g2 := F0 m 25 ls [.int 4, .ref (A 43)]) (by rw [show (((f_X0_copyFrom_0_6 S) 7 0) 1) = (4 : Int32) from hq] <;> rfl) ?_
  refine lv_iconst (v := 1) hx hb dX1_takeLatest_25 (by decide) ?_
  refine lv_isub hx hb dX1_takeLatest_26 ?_
  refine W.eq (g2 := F0 m 27 ls [.int 3, .ref (A 43)]) (by rw [show (4 - 1) = (3 : Int32) from by decide] <;> rfl) ?_
  refine va_put (D := G.1) (ci := 1) (v := .int 3) (ty := .int) (C := RX1) (T := TX1) (N := 2) hx hb hts hinX1 tyX1 tyX1_ok nmX1 hown hK.1 hP hD hS 43 (wX_43 G A (f_X0_copyFrom_0_6 S) 0) rfl 1 (by decide) (hts (.fieldLink RX1 18 "WireLoops$History" "states" "I") (List.mem_of_getElem? (i := 1) rfl)) (fun _ h9 => h9) rfl (by decide +kernel) rfl rfl (Nat.le_of_ble_eq_true rfl) dX1_takeLatest_27 (fun H locs hP hD hS => ?_)
  rw [wX_s43 G A (f_X0_copyFrom_0_6 S) 0 _] at hP hD
  have hP : va_P G.1 vwCl (wX G A (su (f_X0_copyFrom_0_6 S) 7 0 (upd ((f_X0_copyFrom_0_6 S) 7 0) 1 3)) 0) H := hP
  have hD : va_D A0 (wX G A (su (f_X0_copyFrom_0_6 S) 7 0 (upd ((f_X0_copyFrom_0_6 S) 7 0) 1 3)) 0) := hD
  exact endZ hx hb hr hlocks hP hD hS rfl dX1_takeLatest_30
def f_X1_takeLatest_1_1 (S : XS) : XS := su (sc S 0 4) 7 0 (upd (S 7 0) 1 0)
theorem e_X1_takeLatest_1_1 (S : XS) : f_X1_takeLatest_1_1 S = su (sc S 0 4) 7 0 (upd (S 7 0) 1 0) := rfl
set_option maxHeartbeats 4000000 in
set_option maxRecDepth 100000 in
theorem c_X1_takeLatest_1_1 (l : Launch) (G : GG) (A : Nat → Nat) (S : XS)  (hq : S 7 0 1 = 1) (hbe : S 4 0 4 = 0 ∨ S 4 0 4 = 1) : Mz l yX1_takeLatest wsX1_takeLatest ({ frames := 2, cells := 0, slots := 0, locals := 47 } : Room) G [.ref (A 43), .ref (A (6 * 0))] (wX G A S 1) (wX G A (f_X1_takeLatest_1_1 S) 1) := by
  refine Mz.of (cc := cX1_takeLatest) (maxL := 3) (ret := none) (by decide) rfl (Nat.le_of_ble_eq_true rfl) ?_
  intro p e s m args below meth c A0 hA0 E hr hlocks hP hK hD hA hS ls hl
  have E : CallFix p m c cX1_takeLatest 3 s args wsX1_takeLatest RX1 := E
  have hx := E.1
  have hb := E.2.1
  have hml := E.2.2.1
  have hown := E.2.2.2.1
  have hts := E.2.2.2.2
  have hl : lv_has ls 3 [(0, .ref (A 43)), (1, .ref (A (6 * 0)))] := hl
  have hinX1 : ∀ w ∈ u_ws RX1 TX1 2, w ∈ wsX1_takeLatest := fun _ h => List.mem_cons_of_mem _ (List.mem_append_left _ (List.mem_append_right _ h))
  refine lv_aload_n hx hb dX1_takeLatest_0 rfl (lv_at hl 0 rfl) ?_
  refine lv_aload_n hx hb dX1_takeLatest_1 rfl (lv_at hl 0 rfl) ?_
  refine va_get (D := G.1) (ci := 1) (v := .int (S 7 0 1)) (C := RX1) (T := TX1) (N := 2) hx hb hts hinX1 hown hK.1 hP 43 (wX_43 G A S 1) rfl 1 (by decide) (hts (.fieldLink RX1 18 "WireLoops$History" "states" "I") (List.mem_of_getElem? (i := 1) rfl)) (fun _ h9 => h9) rfl dX1_takeLatest_2 ?_
  refine W.eq (g2 := F0 m 5 ls [.int 1, .ref (A 43)]) (by rw [hq] <;> rfl) ?_
  refine lv_iconst (v := 1) hx hb dX1_takeLatest_5 (by decide) ?_
  refine lv_isub hx hb dX1_takeLatest_6 ?_
  refine W.eq (g2 := F0 m 7 ls [.int 0, .ref (A 43)]) (by rw [show (1 - 1) = (0 : Int32) from by decide] <;> rfl) ?_
  refine crV (rest := []) (As := [.int 0]) E (c_X1_placeAt_0_1 l G A S) (cwV 1 hts gX1_takeLatest_X1_placeAt rfl rfl rfl (by decide +kernel) ⟨Nat.le_of_ble_eq_true rfl, Nat.le_of_ble_eq_true rfl⟩) hK hP 43 (wX_43 G A S 1) rfl rfl hl.1 rfl (Nat.le_of_ble_eq_true rfl) dX1_takeLatest_7 ⟨Nat.zero_le _, Nat.zero_le _⟩ ?_
  refine lv_astore_n (lv' := [(2, .ref (A (6 * 4))), (0, .ref (A 43)), (1, .ref (A (6 * 0)))]) hx hb dX1_takeLatest_10 rfl hl (by decide) rfl (fun ls hl => ?_)
  refine lv_aload_n hx hb dX1_takeLatest_11 rfl (lv_at hl 0 rfl) ?_
  refine lv_ifnull hx hb dX1_takeLatest_12 ?_
  refine lv_aload_n hx hb dX1_takeLatest_15 rfl (lv_at hl 2 rfl) ?_
  refine lv_aload_n hx hb dX1_takeLatest_16 rfl (lv_at hl 0 rfl) ?_
  refine czV (rest := []) (As := [.ref (A (6 * 4))]) E (c_X0_copyFrom_0_4 l G A S 1 hbe) (cwV 1 hts gX1_takeLatest_X0_copyFrom rfl rfl rfl (by decide +kernel) ⟨Nat.le_of_ble_eq_true rfl, Nat.le_of_ble_eq_true rfl⟩) hK hP hD hS hA (6 * 0) (wX_o G A S 1 0 (by decide)) rfl rfl hl.1 rfl (Nat.le_of_ble_eq_true rfl) dX1_takeLatest_17 ⟨Nat.zero_le _, Nat.zero_le _⟩ (fun H locs hP hD hS => ?_)
  refine lv_aload_n hx hb dX1_takeLatest_20 rfl (lv_at hl 1 rfl) ?_
  refine lv_dup hx hb dX1_takeLatest_21 rfl ?_
  refine va_get (D := G.1) (ci := 1) (v := .int (((f_X0_copyFrom_0_4 S) 7 0) 1)) (C := RX1) (T := TX1) (N := 2) hx hb hts hinX1 hown hK.1 hP 43 (wX_43 G A (f_X0_copyFrom_0_4 S) 1) rfl 1 (by decide) (hts (.fieldLink RX1 18 "WireLoops$History" "states" "I") (List.mem_of_getElem? (i := 1) rfl)) (fun _ h9 => h9) rfl dX1_takeLatest_22 ?_
  refine W.eq (g2 := F0 m 25 ls [.int 1, .ref (A 43)]) (by rw [show (((f_X0_copyFrom_0_4 S) 7 0) 1) = (1 : Int32) from hq] <;> rfl) ?_
  refine lv_iconst (v := 1) hx hb dX1_takeLatest_25 (by decide) ?_
  refine lv_isub hx hb dX1_takeLatest_26 ?_
  refine W.eq (g2 := F0 m 27 ls [.int 0, .ref (A 43)]) (by rw [show (1 - 1) = (0 : Int32) from by decide] <;> rfl) ?_
  refine va_put (D := G.1) (ci := 1) (v := .int 0) (ty := .int) (C := RX1) (T := TX1) (N := 2) hx hb hts hinX1 tyX1 tyX1_ok nmX1 hown hK.1 hP hD hS 43 (wX_43 G A (f_X0_copyFrom_0_4 S) 1) rfl 1 (by decide) (hts (.fieldLink RX1 18 "WireLoops$History" "states" "I") (List.mem_of_getElem? (i := 1) rfl)) (fun _ h9 => h9) rfl (by decide +kernel) rfl rfl (Nat.le_of_ble_eq_true rfl) dX1_takeLatest_27 (fun H locs hP hD hS => ?_)
  rw [wX_s43 G A (f_X0_copyFrom_0_4 S) 1 _] at hP hD
  have hP : va_P G.1 vwCl (wX G A (su (f_X0_copyFrom_0_4 S) 7 0 (upd ((f_X0_copyFrom_0_4 S) 7 0) 1 0)) 1) H := hP
  have hD : va_D A0 (wX G A (su (f_X0_copyFrom_0_4 S) 7 0 (upd ((f_X0_copyFrom_0_4 S) 7 0) 1 0)) 1) := hD
  exact endZ hx hb hr hlocks hP hD hS rfl dX1_takeLatest_30
def f_X1_takeLatest_2_1 (S : XS) : XS := su (sc S 0 5) 7 0 (upd (S 7 0) 1 1)
theorem e_X1_takeLatest_2_1 (S : XS) : f_X1_takeLatest_2_1 S = su (sc S 0 5) 7 0 (upd (S 7 0) 1 1) := rfl
set_option maxHeartbeats 4000000 in
set_option maxRecDepth 100000 in
theorem c_X1_takeLatest_2_1 (l : Launch) (G : GG) (A : Nat → Nat) (S : XS)  (hq : S 7 0 1 = 2) (hbe : S 5 0 4 = 0 ∨ S 5 0 4 = 1) : Mz l yX1_takeLatest wsX1_takeLatest ({ frames := 2, cells := 0, slots := 0, locals := 47 } : Room) G [.ref (A 43), .ref (A (6 * 0))] (wX G A S 1) (wX G A (f_X1_takeLatest_2_1 S) 1) := by
  refine Mz.of (cc := cX1_takeLatest) (maxL := 3) (ret := none) (by decide) rfl (Nat.le_of_ble_eq_true rfl) ?_
  intro p e s m args below meth c A0 hA0 E hr hlocks hP hK hD hA hS ls hl
  have E : CallFix p m c cX1_takeLatest 3 s args wsX1_takeLatest RX1 := E
  have hx := E.1
  have hb := E.2.1
  have hml := E.2.2.1
  have hown := E.2.2.2.1
  have hts := E.2.2.2.2
  have hl : lv_has ls 3 [(0, .ref (A 43)), (1, .ref (A (6 * 0)))] := hl
  have hinX1 : ∀ w ∈ u_ws RX1 TX1 2, w ∈ wsX1_takeLatest := fun _ h => List.mem_cons_of_mem _ (List.mem_append_left _ (List.mem_append_right _ h))
  refine lv_aload_n hx hb dX1_takeLatest_0 rfl (lv_at hl 0 rfl) ?_
  refine lv_aload_n hx hb dX1_takeLatest_1 rfl (lv_at hl 0 rfl) ?_
  refine va_get (D := G.1) (ci := 1) (v := .int (S 7 0 1)) (C := RX1) (T := TX1) (N := 2) hx hb hts hinX1 hown hK.1 hP 43 (wX_43 G A S 1) rfl 1 (by decide) (hts (.fieldLink RX1 18 "WireLoops$History" "states" "I") (List.mem_of_getElem? (i := 1) rfl)) (fun _ h9 => h9) rfl dX1_takeLatest_2 ?_
  refine W.eq (g2 := F0 m 5 ls [.int 2, .ref (A 43)]) (by rw [hq] <;> rfl) ?_
  refine lv_iconst (v := 1) hx hb dX1_takeLatest_5 (by decide) ?_
  refine lv_isub hx hb dX1_takeLatest_6 ?_
  refine W.eq (g2 := F0 m 7 ls [.int 1, .ref (A 43)]) (by rw [show (2 - 1) = (1 : Int32) from by decide] <;> rfl) ?_
  refine crV (rest := []) (As := [.int 1]) E (c_X1_placeAt_1_1 l G A S) (cwV 1 hts gX1_takeLatest_X1_placeAt rfl rfl rfl (by decide +kernel) ⟨Nat.le_of_ble_eq_true rfl, Nat.le_of_ble_eq_true rfl⟩) hK hP 43 (wX_43 G A S 1) rfl rfl hl.1 rfl (Nat.le_of_ble_eq_true rfl) dX1_takeLatest_7 ⟨Nat.zero_le _, Nat.zero_le _⟩ ?_
  refine lv_astore_n (lv' := [(2, .ref (A (6 * 5))), (0, .ref (A 43)), (1, .ref (A (6 * 0)))]) hx hb dX1_takeLatest_10 rfl hl (by decide) rfl (fun ls hl => ?_)
  refine lv_aload_n hx hb dX1_takeLatest_11 rfl (lv_at hl 0 rfl) ?_
  refine lv_ifnull hx hb dX1_takeLatest_12 ?_
  refine lv_aload_n hx hb dX1_takeLatest_15 rfl (lv_at hl 2 rfl) ?_
  refine lv_aload_n hx hb dX1_takeLatest_16 rfl (lv_at hl 0 rfl) ?_
  refine czV (rest := []) (As := [.ref (A (6 * 5))]) E (c_X0_copyFrom_0_5 l G A S 1 hbe) (cwV 1 hts gX1_takeLatest_X0_copyFrom rfl rfl rfl (by decide +kernel) ⟨Nat.le_of_ble_eq_true rfl, Nat.le_of_ble_eq_true rfl⟩) hK hP hD hS hA (6 * 0) (wX_o G A S 1 0 (by decide)) rfl rfl hl.1 rfl (Nat.le_of_ble_eq_true rfl) dX1_takeLatest_17 ⟨Nat.zero_le _, Nat.zero_le _⟩ (fun H locs hP hD hS => ?_)
  refine lv_aload_n hx hb dX1_takeLatest_20 rfl (lv_at hl 1 rfl) ?_
  refine lv_dup hx hb dX1_takeLatest_21 rfl ?_
  refine va_get (D := G.1) (ci := 1) (v := .int (((f_X0_copyFrom_0_5 S) 7 0) 1)) (C := RX1) (T := TX1) (N := 2) hx hb hts hinX1 hown hK.1 hP 43 (wX_43 G A (f_X0_copyFrom_0_5 S) 1) rfl 1 (by decide) (hts (.fieldLink RX1 18 "WireLoops$History" "states" "I") (List.mem_of_getElem? (i := 1) rfl)) (fun _ h9 => h9) rfl dX1_takeLatest_22 ?_
  refine W.eq (g2 := F0 m 25 ls [.int 2, .ref (A 43)]) (by rw [show (((f_X0_copyFrom_0_5 S) 7 0) 1) = (2 : Int32) from hq] <;> rfl) ?_
  refine lv_iconst (v := 1) hx hb dX1_takeLatest_25 (by decide) ?_
  refine lv_isub hx hb dX1_takeLatest_26 ?_
  refine W.eq (g2 := F0 m 27 ls [.int 1, .ref (A 43)]) (by rw [show (2 - 1) = (1 : Int32) from by decide] <;> rfl) ?_
  refine va_put (D := G.1) (ci := 1) (v := .int 1) (ty := .int) (C := RX1) (T := TX1) (N := 2) hx hb hts hinX1 tyX1 tyX1_ok nmX1 hown hK.1 hP hD hS 43 (wX_43 G A (f_X0_copyFrom_0_5 S) 1) rfl 1 (by decide) (hts (.fieldLink RX1 18 "WireLoops$History" "states" "I") (List.mem_of_getElem? (i := 1) rfl)) (fun _ h9 => h9) rfl (by decide +kernel) rfl rfl (Nat.le_of_ble_eq_true rfl) dX1_takeLatest_27 (fun H locs hP hD hS => ?_)
  rw [wX_s43 G A (f_X0_copyFrom_0_5 S) 1 _] at hP hD
  have hP : va_P G.1 vwCl (wX G A (su (f_X0_copyFrom_0_5 S) 7 0 (upd ((f_X0_copyFrom_0_5 S) 7 0) 1 1)) 1) H := hP
  have hD : va_D A0 (wX G A (su (f_X0_copyFrom_0_5 S) 7 0 (upd ((f_X0_copyFrom_0_5 S) 7 0) 1 1)) 1) := hD
  exact endZ hx hb hr hlocks hP hD hS rfl dX1_takeLatest_30
def f_X1_takeLatest_3_1 (S : XS) : XS := su (sc S 0 6) 7 0 (upd (S 7 0) 1 2)
theorem e_X1_takeLatest_3_1 (S : XS) : f_X1_takeLatest_3_1 S = su (sc S 0 6) 7 0 (upd (S 7 0) 1 2) := rfl
set_option maxHeartbeats 4000000 in
set_option maxRecDepth 100000 in
theorem c_X1_takeLatest_3_1 (l : Launch) (G : GG) (A : Nat → Nat) (S : XS)  (hq : S 7 0 1 = 3) (hbe : S 6 0 4 = 0 ∨ S 6 0 4 = 1) : Mz l yX1_takeLatest wsX1_takeLatest ({ frames := 2, cells := 0, slots := 0, locals := 47 } : Room) G [.ref (A 43), .ref (A (6 * 0))] (wX G A S 1) (wX G A (f_X1_takeLatest_3_1 S) 1) := by
  refine Mz.of (cc := cX1_takeLatest) (maxL := 3) (ret := none) (by decide) rfl (Nat.le_of_ble_eq_true rfl) ?_
  intro p e s m args below meth c A0 hA0 E hr hlocks hP hK hD hA hS ls hl
  have E : CallFix p m c cX1_takeLatest 3 s args wsX1_takeLatest RX1 := E
  have hx := E.1
  have hb := E.2.1
  have hml := E.2.2.1
  have hown := E.2.2.2.1
  have hts := E.2.2.2.2
  have hl : lv_has ls 3 [(0, .ref (A 43)), (1, .ref (A (6 * 0)))] := hl
  have hinX1 : ∀ w ∈ u_ws RX1 TX1 2, w ∈ wsX1_takeLatest := fun _ h => List.mem_cons_of_mem _ (List.mem_append_left _ (List.mem_append_right _ h))
  refine lv_aload_n hx hb dX1_takeLatest_0 rfl (lv_at hl 0 rfl) ?_
  refine lv_aload_n hx hb dX1_takeLatest_1 rfl (lv_at hl 0 rfl) ?_
  refine va_get (D := G.1) (ci := 1) (v := .int (S 7 0 1)) (C := RX1) (T := TX1) (N := 2) hx hb hts hinX1 hown hK.1 hP 43 (wX_43 G A S 1) rfl 1 (by decide) (hts (.fieldLink RX1 18 "WireLoops$History" "states" "I") (List.mem_of_getElem? (i := 1) rfl)) (fun _ h9 => h9) rfl dX1_takeLatest_2 ?_
  refine W.eq (g2 := F0 m 5 ls [.int 3, .ref (A 43)]) (by rw [hq] <;> rfl) ?_
  refine lv_iconst (v := 1) hx hb dX1_takeLatest_5 (by decide) ?_
  refine lv_isub hx hb dX1_takeLatest_6 ?_
  refine W.eq (g2 := F0 m 7 ls [.int 2, .ref (A 43)]) (by rw [show (3 - 1) = (2 : Int32) from by decide] <;> rfl) ?_
  refine crV (rest := []) (As := [.int 2]) E (c_X1_placeAt_2_1 l G A S) (cwV 1 hts gX1_takeLatest_X1_placeAt rfl rfl rfl (by decide +kernel) ⟨Nat.le_of_ble_eq_true rfl, Nat.le_of_ble_eq_true rfl⟩) hK hP 43 (wX_43 G A S 1) rfl rfl hl.1 rfl (Nat.le_of_ble_eq_true rfl) dX1_takeLatest_7 ⟨Nat.zero_le _, Nat.zero_le _⟩ ?_
  refine lv_astore_n (lv' := [(2, .ref (A (6 * 6))), (0, .ref (A 43)), (1, .ref (A (6 * 0)))]) hx hb dX1_takeLatest_10 rfl hl (by decide) rfl (fun ls hl => ?_)
  refine lv_aload_n hx hb dX1_takeLatest_11 rfl (lv_at hl 0 rfl) ?_
  refine lv_ifnull hx hb dX1_takeLatest_12 ?_
  refine lv_aload_n hx hb dX1_takeLatest_15 rfl (lv_at hl 2 rfl) ?_
  refine lv_aload_n hx hb dX1_takeLatest_16 rfl (lv_at hl 0 rfl) ?_
  refine czV (rest := []) (As := [.ref (A (6 * 6))]) E (c_X0_copyFrom_0_6 l G A S 1 hbe) (cwV 1 hts gX1_takeLatest_X0_copyFrom rfl rfl rfl (by decide +kernel) ⟨Nat.le_of_ble_eq_true rfl, Nat.le_of_ble_eq_true rfl⟩) hK hP hD hS hA (6 * 0) (wX_o G A S 1 0 (by decide)) rfl rfl hl.1 rfl (Nat.le_of_ble_eq_true rfl) dX1_takeLatest_17 ⟨Nat.zero_le _, Nat.zero_le _⟩ (fun H locs hP hD hS => ?_)
  refine lv_aload_n hx hb dX1_takeLatest_20 rfl (lv_at hl 1 rfl) ?_
  refine lv_dup hx hb dX1_takeLatest_21 rfl ?_
  refine va_get (D := G.1) (ci := 1) (v := .int (((f_X0_copyFrom_0_6 S) 7 0) 1)) (C := RX1) (T := TX1) (N := 2) hx hb hts hinX1 hown hK.1 hP 43 (wX_43 G A (f_X0_copyFrom_0_6 S) 1) rfl 1 (by decide) (hts (.fieldLink RX1 18 "WireLoops$History" "states" "I") (List.mem_of_getElem? (i := 1) rfl)) (fun _ h9 => h9) rfl dX1_takeLatest_22 ?_
  refine W.eq (g2 := F0 m 25 ls [.int 3, .ref (A 43)]) (by rw [show (((f_X0_copyFrom_0_6 S) 7 0) 1) = (3 : Int32) from hq] <;> rfl) ?_
  refine lv_iconst (v := 1) hx hb dX1_takeLatest_25 (by decide) ?_
  refine lv_isub hx hb dX1_takeLatest_26 ?_
  refine W.eq (g2 := F0 m 27 ls [.int 2, .ref (A 43)]) (by rw [show (3 - 1) = (2 : Int32) from by decide] <;> rfl) ?_
  refine va_put (D := G.1) (ci := 1) (v := .int 2) (ty := .int) (C := RX1) (T := TX1) (N := 2) hx hb hts hinX1 tyX1 tyX1_ok nmX1 hown hK.1 hP hD hS 43 (wX_43 G A (f_X0_copyFrom_0_6 S) 1) rfl 1 (by decide) (hts (.fieldLink RX1 18 "WireLoops$History" "states" "I") (List.mem_of_getElem? (i := 1) rfl)) (fun _ h9 => h9) rfl (by decide +kernel) rfl rfl (Nat.le_of_ble_eq_true rfl) dX1_takeLatest_27 (fun H locs hP hD hS => ?_)
  rw [wX_s43 G A (f_X0_copyFrom_0_6 S) 1 _] at hP hD
  have hP : va_P G.1 vwCl (wX G A (su (f_X0_copyFrom_0_6 S) 7 0 (upd ((f_X0_copyFrom_0_6 S) 7 0) 1 2)) 1) H := hP
  have hD : va_D A0 (wX G A (su (f_X0_copyFrom_0_6 S) 7 0 (upd ((f_X0_copyFrom_0_6 S) 7 0) 1 2)) 1) := hD
  exact endZ hx hb hr hlocks hP hD hS rfl dX1_takeLatest_30
def f_X1_takeLatest_4_1 (S : XS) : XS := su (sc S 0 3) 7 0 (upd (S 7 0) 1 3)
theorem e_X1_takeLatest_4_1 (S : XS) : f_X1_takeLatest_4_1 S = su (sc S 0 3) 7 0 (upd (S 7 0) 1 3) := rfl
set_option maxHeartbeats 4000000 in
set_option maxRecDepth 100000 in
theorem c_X1_takeLatest_4_1 (l : Launch) (G : GG) (A : Nat → Nat) (S : XS)  (hq : S 7 0 1 = 4) (hbe : S 3 0 4 = 0 ∨ S 3 0 4 = 1) : Mz l yX1_takeLatest wsX1_takeLatest ({ frames := 2, cells := 0, slots := 0, locals := 47 } : Room) G [.ref (A 43), .ref (A (6 * 0))] (wX G A S 1) (wX G A (f_X1_takeLatest_4_1 S) 1) := by
  refine Mz.of (cc := cX1_takeLatest) (maxL := 3) (ret := none) (by decide) rfl (Nat.le_of_ble_eq_true rfl) ?_
  intro p e s m args below meth c A0 hA0 E hr hlocks hP hK hD hA hS ls hl
  have E : CallFix p m c cX1_takeLatest 3 s args wsX1_takeLatest RX1 := E
  have hx := E.1
  have hb := E.2.1
  have hml := E.2.2.1
  have hown := E.2.2.2.1
  have hts := E.2.2.2.2
  have hl : lv_has ls 3 [(0, .ref (A 43)), (1, .ref (A (6 * 0)))] := hl
  have hinX1 : ∀ w ∈ u_ws RX1 TX1 2, w ∈ wsX1_takeLatest := fun _ h => List.mem_cons_of_mem _ (List.mem_append_left _ (List.mem_append_right _ h))
  refine lv_aload_n hx hb dX1_takeLatest_0 rfl (lv_at hl 0 rfl) ?_
  refine lv_aload_n hx hb dX1_takeLatest_1 rfl (lv_at hl 0 rfl) ?_
  refine va_get (D := G.1) (ci := 1) (v := .int (S 7 0 1)) (C := RX1) (T := TX1) (N := 2) hx hb hts hinX1 hown hK.1 hP 43 (wX_43 G A S 1) rfl 1 (by decide) (hts (.fieldLink RX1 18 "WireLoops$History" "states" "I") (List.mem_of_getElem? (i := 1) rfl)) (fun _ h9 => h9) rfl dX1_takeLatest_2 ?_
  refine W.eq (g2 := F0 m 5 ls [.int 4, .ref (A 43)]) (by rw [hq] <;> rfl) ?_
  refine lv_iconst (v := 1) hx hb dX1_takeLatest_5 (by decide) ?_
  refine lv_isub hx hb dX1_takeLatest_6 ?_
  refine W.eq (g2 := F0 m 7 ls [.int 3, .ref (A 43)]) (by rw [show (4 - 1) = (3 : Int32) from by decide] <;> rfl) ?_
  refine crV (rest := []) (As := [.int 3]) E (c_X1_placeAt_3_1 l G A S) (cwV 1 hts gX1_takeLatest_X1_placeAt rfl rfl rfl (by decide +kernel) ⟨Nat.le_of_ble_eq_true rfl, Nat.le_of_ble_eq_true rfl⟩) hK hP 43 (wX_43 G A S 1) rfl rfl hl.1 rfl (Nat.le_of_ble_eq_true rfl) dX1_takeLatest_7 ⟨Nat.zero_le _, Nat.zero_le _⟩ ?_
  refine lv_astore_n (lv' := [(2, .ref (A (6 * 3))), (0, .ref (A 43)), (1, .ref (A (6 * 0)))]) hx hb dX1_takeLatest_10 rfl hl (by decide) rfl (fun ls hl => ?_)
  refine lv_aload_n hx hb dX1_takeLatest_11 rfl (lv_at hl 0 rfl) ?_
  refine lv_ifnull hx hb dX1_takeLatest_12 ?_
  refine lv_aload_n hx hb dX1_takeLatest_15 rfl (lv_at hl 2 rfl) ?_
  refine lv_aload_n hx hb dX1_takeLatest_16 rfl (lv_at hl 0 rfl) ?_
  refine czV (rest := []) (As := [.ref (A (6 * 3))]) E (c_X0_copyFrom_0_3 l G A S 1 hbe) (cwV 1 hts gX1_takeLatest_X0_copyFrom rfl rfl rfl (by decide +kernel) ⟨Nat.le_of_ble_eq_true rfl, Nat.le_of_ble_eq_true rfl⟩) hK hP hD hS hA (6 * 0) (wX_o G A S 1 0 (by decide)) rfl rfl hl.1 rfl (Nat.le_of_ble_eq_true rfl) dX1_takeLatest_17 ⟨Nat.zero_le _, Nat.zero_le _⟩ (fun H locs hP hD hS => ?_)
  refine lv_aload_n hx hb dX1_takeLatest_20 rfl (lv_at hl 1 rfl) ?_
  refine lv_dup hx hb dX1_takeLatest_21 rfl ?_
  refine va_get (D := G.1) (ci := 1) (v := .int (((f_X0_copyFrom_0_3 S) 7 0) 1)) (C := RX1) (T := TX1) (N := 2) hx hb hts hinX1 hown hK.1 hP 43 (wX_43 G A (f_X0_copyFrom_0_3 S) 1) rfl 1 (by decide) (hts (.fieldLink RX1 18 "WireLoops$History" "states" "I") (List.mem_of_getElem? (i := 1) rfl)) (fun _ h9 => h9) rfl dX1_takeLatest_22 ?_
  refine W.eq (g2 := F0 m 25 ls [.int 4, .ref (A 43)]) (by rw [show (((f_X0_copyFrom_0_3 S) 7 0) 1) = (4 : Int32) from hq] <;> rfl) ?_
  refine lv_iconst (v := 1) hx hb dX1_takeLatest_25 (by decide) ?_
  refine lv_isub hx hb dX1_takeLatest_26 ?_
  refine W.eq (g2 := F0 m 27 ls [.int 3, .ref (A 43)]) (by rw [show (4 - 1) = (3 : Int32) from by decide] <;> rfl) ?_
  refine va_put (D := G.1) (ci := 1) (v := .int 3) (ty := .int) (C := RX1) (T := TX1) (N := 2) hx hb hts hinX1 tyX1 tyX1_ok nmX1 hown hK.1 hP hD hS 43 (wX_43 G A (f_X0_copyFrom_0_3 S) 1) rfl 1 (by decide) (hts (.fieldLink RX1 18 "WireLoops$History" "states" "I") (List.mem_of_getElem? (i := 1) rfl)) (fun _ h9 => h9) rfl (by decide +kernel) rfl rfl (Nat.le_of_ble_eq_true rfl) dX1_takeLatest_27 (fun H locs hP hD hS => ?_)
  rw [wX_s43 G A (f_X0_copyFrom_0_3 S) 1 _] at hP hD
  have hP : va_P G.1 vwCl (wX G A (su (f_X0_copyFrom_0_3 S) 7 0 (upd ((f_X0_copyFrom_0_3 S) 7 0) 1 3)) 1) H := hP
  have hD : va_D A0 (wX G A (su (f_X0_copyFrom_0_3 S) 7 0 (upd ((f_X0_copyFrom_0_3 S) 7 0) 1 3)) 1) := hD
  exact endZ hx hb hr hlocks hP hD hS rfl dX1_takeLatest_30
def f_X1_takeLatest_1_2 (S : XS) : XS := su (sc S 0 5) 7 0 (upd (S 7 0) 1 0)
theorem e_X1_takeLatest_1_2 (S : XS) : f_X1_takeLatest_1_2 S = su (sc S 0 5) 7 0 (upd (S 7 0) 1 0) := rfl
set_option maxHeartbeats 4000000 in
set_option maxRecDepth 100000 in
theorem c_X1_takeLatest_1_2 (l : Launch) (G : GG) (A : Nat → Nat) (S : XS)  (hq : S 7 0 1 = 1) (hbe : S 5 0 4 = 0 ∨ S 5 0 4 = 1) : Mz l yX1_takeLatest wsX1_takeLatest ({ frames := 2, cells := 0, slots := 0, locals := 47 } : Room) G [.ref (A 43), .ref (A (6 * 0))] (wX G A S 2) (wX G A (f_X1_takeLatest_1_2 S) 2) := by
  refine Mz.of (cc := cX1_takeLatest) (maxL := 3) (ret := none) (by decide) rfl (Nat.le_of_ble_eq_true rfl) ?_
  intro p e s m args below meth c A0 hA0 E hr hlocks hP hK hD hA hS ls hl
  have E : CallFix p m c cX1_takeLatest 3 s args wsX1_takeLatest RX1 := E
  have hx := E.1
  have hb := E.2.1
  have hml := E.2.2.1
  have hown := E.2.2.2.1
  have hts := E.2.2.2.2
  have hl : lv_has ls 3 [(0, .ref (A 43)), (1, .ref (A (6 * 0)))] := hl
  have hinX1 : ∀ w ∈ u_ws RX1 TX1 2, w ∈ wsX1_takeLatest := fun _ h => List.mem_cons_of_mem _ (List.mem_append_left _ (List.mem_append_right _ h))
  refine lv_aload_n hx hb dX1_takeLatest_0 rfl (lv_at hl 0 rfl) ?_
  refine lv_aload_n hx hb dX1_takeLatest_1 rfl (lv_at hl 0 rfl) ?_
  refine va_get (D := G.1) (ci := 1) (v := .int (S 7 0 1)) (C := RX1) (T := TX1) (N := 2) hx hb hts hinX1 hown hK.1 hP 43 (wX_43 G A S 2) rfl 1 (by decide) (hts (.fieldLink RX1 18 "WireLoops$History" "states" "I") (List.mem_of_getElem? (i := 1) rfl)) (fun _ h9 => h9) rfl dX1_takeLatest_2 ?_
  refine W.eq (g2 := F0 m 5 ls [.int 1, .ref (A 43)]) (by rw [hq] <;> rfl) ?_
  refine lv_iconst (v := 1) hx hb dX1_takeLatest_5 (by decide) ?_
  refine lv_isub hx hb dX1_takeLatest_6 ?_
  refine W.eq (g2 := F0 m 7 ls [.int 0, .ref (A 43)]) (by rw [show (1 - 1) = (0 : Int32) from by decide] <;> rfl) ?_
  refine crV (rest := []) (As := [.int 0]) E (c_X1_placeAt_0_2 l G A S) (cwV 1 hts gX1_takeLatest_X1_placeAt rfl rfl rfl (by decide +kernel) ⟨Nat.le_of_ble_eq_true rfl, Nat.le_of_ble_eq_true rfl⟩) hK hP 43 (wX_43 G A S 2) rfl rfl hl.1 rfl (Nat.le_of_ble_eq_true rfl) dX1_takeLatest_7 ⟨Nat.zero_le _, Nat.zero_le _⟩ ?_
  refine lv_astore_n (lv' := [(2, .ref (A (6 * 5))), (0, .ref (A 43)), (1, .ref (A (6 * 0)))]) hx hb dX1_takeLatest_10 rfl hl (by decide) rfl (fun ls hl => ?_)
  refine lv_aload_n hx hb dX1_takeLatest_11 rfl (lv_at hl 0 rfl) ?_
  refine lv_ifnull hx hb dX1_takeLatest_12 ?_
  refine lv_aload_n hx hb dX1_takeLatest_15 rfl (lv_at hl 2 rfl) ?_
  refine lv_aload_n hx hb dX1_takeLatest_16 rfl (lv_at hl 0 rfl) ?_
  refine czV (rest := []) (As := [.ref (A (6 * 5))]) E (c_X0_copyFrom_0_5 l G A S 2 hbe) (cwV 1 hts gX1_takeLatest_X0_copyFrom rfl rfl rfl (by decide +kernel) ⟨Nat.le_of_ble_eq_true rfl, Nat.le_of_ble_eq_true rfl⟩) hK hP hD hS hA (6 * 0) (wX_o G A S 2 0 (by decide)) rfl rfl hl.1 rfl (Nat.le_of_ble_eq_true rfl) dX1_takeLatest_17 ⟨Nat.zero_le _, Nat.zero_le _⟩ (fun H locs hP hD hS => ?_)
  refine lv_aload_n hx hb dX1_takeLatest_20 rfl (lv_at hl 1 rfl) ?_
  refine lv_dup hx hb dX1_takeLatest_21 rfl ?_
  refine va_get (D := G.1) (ci := 1) (v := .int (((f_X0_copyFrom_0_5 S) 7 0) 1)) (C := RX1) (T := TX1) (N := 2) hx hb hts hinX1 hown hK.1 hP 43 (wX_43 G A (f_X0_copyFrom_0_5 S) 2) rfl 1 (by decide) (hts (.fieldLink RX1 18 "WireLoops$History" "states" "I") (List.mem_of_getElem? (i := 1) rfl)) (fun _ h9 => h9) rfl dX1_takeLatest_22 ?_
  refine W.eq (g2 := F0 m 25 ls [.int 1, .ref (A 43)]) (by rw [show (((f_X0_copyFrom_0_5 S) 7 0) 1) = (1 : Int32) from hq] <;> rfl) ?_
  refine lv_iconst (v := 1) hx hb dX1_takeLatest_25 (by decide) ?_
  refine lv_isub hx hb dX1_takeLatest_26 ?_
  refine W.eq (g2 := F0 m 27 ls [.int 0, .ref (A 43)]) (by rw [show (1 - 1) = (0 : Int32) from by decide] <;> rfl) ?_
  refine va_put (D := G.1) (ci := 1) (v := .int 0) (ty := .int) (C := RX1) (T := TX1) (N := 2) hx hb hts hinX1 tyX1 tyX1_ok nmX1 hown hK.1 hP hD hS 43 (wX_43 G A (f_X0_copyFrom_0_5 S) 2) rfl 1 (by decide) (hts (.fieldLink RX1 18 "WireLoops$History" "states" "I") (List.mem_of_getElem? (i := 1) rfl)) (fun _ h9 => h9) rfl (by decide +kernel) rfl rfl (Nat.le_of_ble_eq_true rfl) dX1_takeLatest_27 (fun H locs hP hD hS => ?_)
  rw [wX_s43 G A (f_X0_copyFrom_0_5 S) 2 _] at hP hD
  have hP : va_P G.1 vwCl (wX G A (su (f_X0_copyFrom_0_5 S) 7 0 (upd ((f_X0_copyFrom_0_5 S) 7 0) 1 0)) 2) H := hP
  have hD : va_D A0 (wX G A (su (f_X0_copyFrom_0_5 S) 7 0 (upd ((f_X0_copyFrom_0_5 S) 7 0) 1 0)) 2) := hD
  exact endZ hx hb hr hlocks hP hD hS rfl dX1_takeLatest_30
def f_X1_takeLatest_2_2 (S : XS) : XS := su (sc S 0 6) 7 0 (upd (S 7 0) 1 1)
theorem e_X1_takeLatest_2_2 (S : XS) : f_X1_takeLatest_2_2 S = su (sc S 0 6) 7 0 (upd (S 7 0) 1 1) := rfl
set_option maxHeartbeats 4000000 in
set_option maxRecDepth 100000 in
theorem c_X1_takeLatest_2_2 (l : Launch) (G : GG) (A : Nat → Nat) (S : XS)  (hq : S 7 0 1 = 2) (hbe : S 6 0 4 = 0 ∨ S 6 0 4 = 1) : Mz l yX1_takeLatest wsX1_takeLatest ({ frames := 2, cells := 0, slots := 0, locals := 47 } : Room) G [.ref (A 43), .ref (A (6 * 0))] (wX G A S 2) (wX G A (f_X1_takeLatest_2_2 S) 2) := by
  refine Mz.of (cc := cX1_takeLatest) (maxL := 3) (ret := none) (by decide) rfl (Nat.le_of_ble_eq_true rfl) ?_
  intro p e s m args below meth c A0 hA0 E hr hlocks hP hK hD hA hS ls hl
  have E : CallFix p m c cX1_takeLatest 3 s args wsX1_takeLatest RX1 := E
  have hx := E.1
  have hb := E.2.1
  have hml := E.2.2.1
  have hown := E.2.2.2.1
  have hts := E.2.2.2.2
  have hl : lv_has ls 3 [(0, .ref (A 43)), (1, .ref (A (6 * 0)))] := hl
  have hinX1 : ∀ w ∈ u_ws RX1 TX1 2, w ∈ wsX1_takeLatest := fun _ h => List.mem_cons_of_mem _ (List.mem_append_left _ (List.mem_append_right _ h))
  refine lv_aload_n hx hb dX1_takeLatest_0 rfl (lv_at hl 0 rfl) ?_
  refine lv_aload_n hx hb dX1_takeLatest_1 rfl (lv_at hl 0 rfl) ?_
  refine va_get (D := G.1) (ci := 1) (v := .int (S 7 0 1)) (C := RX1) (T := TX1) (N := 2) hx hb hts hinX1 hown hK.1 hP 43 (wX_43 G A S 2) rfl 1 (by decide) (hts (.fieldLink RX1 18 "WireLoops$History" "states" "I") (List.mem_of_getElem? (i := 1) rfl)) (fun _ h9 => h9) rfl dX1_takeLatest_2 ?_
  refine W.eq (g2 := F0 m 5 ls [.int 2, .ref (A 43)]) (by rw [hq] <;> rfl) ?_
  refine lv_iconst (v := 1) hx hb dX1_takeLatest_5 (by decide) ?_
  refine lv_isub hx hb dX1_takeLatest_6 ?_
  refine W.eq (g2 := F0 m 7 ls [.int 1, .ref (A 43)]) (by rw [show (2 - 1) = (1 : Int32) from by decide] <;> rfl) ?_
  refine crV (rest := []) (As := [.int 1]) E (c_X1_placeAt_1_2 l G A S) (cwV 1 hts gX1_takeLatest_X1_placeAt rfl rfl rfl (by decide +kernel) ⟨Nat.le_of_ble_eq_true rfl, Nat.le_of_ble_eq_true rfl⟩) hK hP 43 (wX_43 G A S 2) rfl rfl hl.1 rfl (Nat.le_of_ble_eq_true rfl) dX1_takeLatest_7 ⟨Nat.zero_le _, Nat.zero_le _⟩ ?_
  refine lv_astore_n (lv' := [(2, .ref (A (6 * 6))), (0, .ref (A 43)), (1, .ref (A (6 * 0)))]) hx hb dX1_takeLatest_10 rfl hl (by decide) rfl (fun ls hl => ?_)
  refine lv_aload_n hx hb dX1_takeLatest_11 rfl (lv_at hl 0 rfl) ?_
  refine lv_ifnull hx hb dX1_takeLatest_12 ?_
  refine lv_aload_n hx hb dX1_takeLatest_15 rfl (lv_at hl 2 rfl) ?_
  refine lv_aload_n hx hb dX1_takeLatest_16 rfl (lv_at hl 0 rfl) ?_
  refine czV (rest := []) (As := [.ref (A (6 * 6))]) E (c_X0_copyFrom_0_6 l G A S 2 hbe) (cwV 1 hts gX1_takeLatest_X0_copyFrom rfl rfl rfl (by decide +kernel) ⟨Nat.le_of_ble_eq_true rfl, Nat.le_of_ble_eq_true rfl⟩) hK hP hD hS hA (6 * 0) (wX_o G A S 2 0 (by decide)) rfl rfl hl.1 rfl (Nat.le_of_ble_eq_true rfl) dX1_takeLatest_17 ⟨Nat.zero_le _, Nat.zero_le _⟩ (fun H locs hP hD hS => ?_)
  refine lv_aload_n hx hb dX1_takeLatest_20 rfl (lv_at hl 1 rfl) ?_
  refine lv_dup hx hb dX1_takeLatest_21 rfl ?_
  refine va_get (D := G.1) (ci := 1) (v := .int (((f_X0_copyFrom_0_6 S) 7 0) 1)) (C := RX1) (T := TX1) (N := 2) hx hb hts hinX1 hown hK.1 hP 43 (wX_43 G A (f_X0_copyFrom_0_6 S) 2) rfl 1 (by decide) (hts (.fieldLink RX1 18 "WireLoops$History" "states" "I") (List.mem_of_getElem? (i := 1) rfl)) (fun _ h9 => h9) rfl dX1_takeLatest_22 ?_
  refine W.eq (g2 := F0 m 25 ls [.int 2, .ref (A 43)]) (by rw [show (((f_X0_copyFrom_0_6 S) 7 0) 1) = (2 : Int32) from hq] <;> rfl) ?_
  refine lv_iconst (v := 1) hx hb dX1_takeLatest_25 (by decide) ?_
  refine lv_isub hx hb dX1_takeLatest_26 ?_
  refine W.eq (g2 := F0 m 27 ls [.int 1, .ref (A 43)]) (by rw [show (2 - 1) = (1 : Int32) from by decide] <;> rfl) ?_
  refine va_put (D := G.1) (ci := 1) (v := .int 1) (ty := .int) (C := RX1) (T := TX1) (N := 2) hx hb hts hinX1 tyX1 tyX1_ok nmX1 hown hK.1 hP hD hS 43 (wX_43 G A (f_X0_copyFrom_0_6 S) 2) rfl 1 (by decide) (hts (.fieldLink RX1 18 "WireLoops$History" "states" "I") (List.mem_of_getElem? (i := 1) rfl)) (fun _ h9 => h9) rfl (by decide +kernel) rfl rfl (Nat.le_of_ble_eq_true rfl) dX1_takeLatest_27 (fun H locs hP hD hS => ?_)
  rw [wX_s43 G A (f_X0_copyFrom_0_6 S) 2 _] at hP hD
  have hP : va_P G.1 vwCl (wX G A (su (f_X0_copyFrom_0_6 S) 7 0 (upd ((f_X0_copyFrom_0_6 S) 7 0) 1 1)) 2) H := hP
  have hD : va_D A0 (wX G A (su (f_X0_copyFrom_0_6 S) 7 0 (upd ((f_X0_copyFrom_0_6 S) 7 0) 1 1)) 2) := hD
  exact endZ hx hb hr hlocks hP hD hS rfl dX1_takeLatest_30
def f_X1_takeLatest_3_2 (S : XS) : XS := su (sc S 0 3) 7 0 (upd (S 7 0) 1 2)
theorem e_X1_takeLatest_3_2 (S : XS) : f_X1_takeLatest_3_2 S = su (sc S 0 3) 7 0 (upd (S 7 0) 1 2) := rfl
set_option maxHeartbeats 4000000 in
set_option maxRecDepth 100000 in
theorem c_X1_takeLatest_3_2 (l : Launch) (G : GG) (A : Nat → Nat) (S : XS)  (hq : S 7 0 1 = 3) (hbe : S 3 0 4 = 0 ∨ S 3 0 4 = 1) : Mz l yX1_takeLatest wsX1_takeLatest ({ frames := 2, cells := 0, slots := 0, locals := 47 } : Room) G [.ref (A 43), .ref (A (6 * 0))] (wX G A S 2) (wX G A (f_X1_takeLatest_3_2 S) 2) := by
  refine Mz.of (cc := cX1_takeLatest) (maxL := 3) (ret := none) (by decide) rfl (Nat.le_of_ble_eq_true rfl) ?_
  intro p e s m args below meth c A0 hA0 E hr hlocks hP hK hD hA hS ls hl
  have E : CallFix p m c cX1_takeLatest 3 s args wsX1_takeLatest RX1 := E
  have hx := E.1
  have hb := E.2.1
  have hml := E.2.2.1
  have hown := E.2.2.2.1
  have hts := E.2.2.2.2
  have hl : lv_has ls 3 [(0, .ref (A 43)), (1, .ref (A (6 * 0)))] := hl
  have hinX1 : ∀ w ∈ u_ws RX1 TX1 2, w ∈ wsX1_takeLatest := fun _ h => List.mem_cons_of_mem _ (List.mem_append_left _ (List.mem_append_right _ h))
  refine lv_aload_n hx hb dX1_takeLatest_0 rfl (lv_at hl 0 rfl) ?_
  refine lv_aload_n hx hb dX1_takeLatest_1 rfl (lv_at hl 0 rfl) ?_
  refine va_get (D := G.1) (ci := 1) (v := .int (S 7 0 1)) (C := RX1) (T := TX1) (N := 2) hx hb hts hinX1 hown hK.1 hP 43 (wX_43 G A S 2) rfl 1 (by decide) (hts (.fieldLink RX1 18 "WireLoops$History" "states" "I") (List.mem_of_getElem? (i := 1) rfl)) (fun _ h9 => h9) rfl dX1_takeLatest_2 ?_
  refine W.eq (g2 := F0 m 5 ls [.int 3, .ref (A 43)]) (by rw [hq] <;> rfl) ?_
  refine lv_iconst (v := 1) hx hb dX1_takeLatest_5 (by decide) ?_
  refine lv_isub hx hb dX1_takeLatest_6 ?_
  refine W.eq (g2 := F0 m 7 ls [.int 2, .ref (A 43)]) (by rw [show (3 - 1) = (2 : Int32) from by decide] <;> rfl) ?_
  refine crV (rest := []) (As := [.int 2]) E (c_X1_placeAt_2_2 l G A S) (cwV 1 hts gX1_takeLatest_X1_placeAt rfl rfl rfl (by decide +kernel) ⟨Nat.le_of_ble_eq_true rfl, Nat.le_of_ble_eq_true rfl⟩) hK hP 43 (wX_43 G A S 2) rfl rfl hl.1 rfl (Nat.le_of_ble_eq_true rfl) dX1_takeLatest_7 ⟨Nat.zero_le _, Nat.zero_le _⟩ ?_
  refine lv_astore_n (lv' := [(2, .ref (A (6 * 3))), (0, .ref (A 43)), (1, .ref (A (6 * 0)))]) hx hb dX1_takeLatest_10 rfl hl (by decide) rfl (fun ls hl => ?_)
  refine lv_aload_n hx hb dX1_takeLatest_11 rfl (lv_at hl 0 rfl) ?_
  refine lv_ifnull hx hb dX1_takeLatest_12 ?_
  refine lv_aload_n hx hb dX1_takeLatest_15 rfl (lv_at hl 2 rfl) ?_
  refine lv_aload_n hx hb dX1_takeLatest_16 rfl (lv_at hl 0 rfl) ?_
  refine czV (rest := []) (As := [.ref (A (6 * 3))]) E (c_X0_copyFrom_0_3 l G A S 2 hbe) (cwV 1 hts gX1_takeLatest_X0_copyFrom rfl rfl rfl (by decide +kernel) ⟨Nat.le_of_ble_eq_true rfl, Nat.le_of_ble_eq_true rfl⟩) hK hP hD hS hA (6 * 0) (wX_o G A S 2 0 (by decide)) rfl rfl hl.1 rfl (Nat.le_of_ble_eq_true rfl) dX1_takeLatest_17 ⟨Nat.zero_le _, Nat.zero_le _⟩ (fun H locs hP hD hS => ?_)
  refine lv_aload_n hx hb dX1_takeLatest_20 rfl (lv_at hl 1 rfl) ?_
  refine lv_dup hx hb dX1_takeLatest_21 rfl ?_
  refine va_get (D := G.1) (ci := 1) (v := .int (((f_X0_copyFrom_0_3 S) 7 0) 1)) (C := RX1) (T := TX1) (N := 2) hx hb hts hinX1 hown hK.1 hP 43 (wX_43 G A (f_X0_copyFrom_0_3 S) 2) rfl 1 (by decide) (hts (.fieldLink RX1 18 "WireLoops$History" "states" "I") (List.mem_of_getElem? (i := 1) rfl)) (fun _ h9 => h9) rfl dX1_takeLatest_22 ?_
  refine W.eq (g2 := F0 m 25 ls [.int 3, .ref (A 43)]) (by rw [show (((f_X0_copyFrom_0_3 S) 7 0) 1) = (3 : Int32) from hq] <;> rfl) ?_
  refine lv_iconst (v := 1) hx hb dX1_takeLatest_25 (by decide) ?_
  refine lv_isub hx hb dX1_takeLatest_26 ?_
  refine W.eq (g2 := F0 m 27 ls [.int 2, .ref (A 43)]) (by rw [show (3 - 1) = (2 : Int32) from by decide] <;> rfl) ?_
  refine va_put (D := G.1) (ci := 1) (v := .int 2) (ty := .int) (C := RX1) (T := TX1) (N := 2) hx hb hts hinX1 tyX1 tyX1_ok nmX1 hown hK.1 hP hD hS 43 (wX_43 G A (f_X0_copyFrom_0_3 S) 2) rfl 1 (by decide) (hts (.fieldLink RX1 18 "WireLoops$History" "states" "I") (List.mem_of_getElem? (i := 1) rfl)) (fun _ h9 => h9) rfl (by decide +kernel) rfl rfl (Nat.le_of_ble_eq_true rfl) dX1_takeLatest_27 (fun H locs hP hD hS => ?_)
  rw [wX_s43 G A (f_X0_copyFrom_0_3 S) 2 _] at hP hD
  have hP : va_P G.1 vwCl (wX G A (su (f_X0_copyFrom_0_3 S) 7 0 (upd ((f_X0_copyFrom_0_3 S) 7 0) 1 2)) 2) H := hP
  have hD : va_D A0 (wX G A (su (f_X0_copyFrom_0_3 S) 7 0 (upd ((f_X0_copyFrom_0_3 S) 7 0) 1 2)) 2) := hD
  exact endZ hx hb hr hlocks hP hD hS rfl dX1_takeLatest_30
def f_X1_takeLatest_4_2 (S : XS) : XS := su (sc S 0 4) 7 0 (upd (S 7 0) 1 3)
theorem e_X1_takeLatest_4_2 (S : XS) : f_X1_takeLatest_4_2 S = su (sc S 0 4) 7 0 (upd (S 7 0) 1 3) := rfl
set_option maxHeartbeats 4000000 in
set_option maxRecDepth 100000 in
theorem c_X1_takeLatest_4_2 (l : Launch) (G : GG) (A : Nat → Nat) (S : XS)  (hq : S 7 0 1 = 4) (hbe : S 4 0 4 = 0 ∨ S 4 0 4 = 1) : Mz l yX1_takeLatest wsX1_takeLatest ({ frames := 2, cells := 0, slots := 0, locals := 47 } : Room) G [.ref (A 43), .ref (A (6 * 0))] (wX G A S 2) (wX G A (f_X1_takeLatest_4_2 S) 2) := by
  refine Mz.of (cc := cX1_takeLatest) (maxL := 3) (ret := none) (by decide) rfl (Nat.le_of_ble_eq_true rfl) ?_
  intro p e s m args below meth c A0 hA0 E hr hlocks hP hK hD hA hS ls hl
  have E : CallFix p m c cX1_takeLatest 3 s args wsX1_takeLatest RX1 := E
  have hx := E.1
  have hb := E.2.1
  have hml := E.2.2.1
  have hown := E.2.2.2.1
  have hts := E.2.2.2.2
  have hl : lv_has ls 3 [(0, .ref (A 43)), (1, .ref (A (6 * 0)))] := hl
  have hinX1 : ∀ w ∈ u_ws RX1 TX1 2, w ∈ wsX1_takeLatest := fun _ h => List.mem_cons_of_mem _ (List.mem_append_left _ (List.mem_append_right _ h))
  refine lv_aload_n hx hb dX1_takeLatest_0 rfl (lv_at hl 0 rfl) ?_
  refine lv_aload_n hx hb dX1_takeLatest_1 rfl (lv_at hl 0 rfl) ?_
  refine va_get (D := G.1) (ci := 1) (v := .int (S 7 0 1)) (C := RX1) (T := TX1) (N := 2) hx hb hts hinX1 hown hK.1 hP 43 (wX_43 G A S 2) rfl 1 (by decide) (hts (.fieldLink RX1 18 "WireLoops$History" "states" "I") (List.mem_of_getElem? (i := 1) rfl)) (fun _ h9 => h9) rfl dX1_takeLatest_2 ?_
  refine W.eq (g2 := F0 m 5 ls [.int 4, .ref (A 43)]) (by rw [hq] <;> rfl) ?_
  refine lv_iconst (v := 1) hx hb dX1_takeLatest_5 (by decide) ?_
  refine lv_isub hx hb dX1_takeLatest_6 ?_
  refine W.eq (g2 := F0 m 7 ls [.int 3, .ref (A 43)]) (by rw [show (4 - 1) = (3 : Int32) from by decide] <;> rfl) ?_
  refine crV (rest := []) (As := [.int 3]) E (c_X1_placeAt_3_2 l G A S) (cwV 1 hts gX1_takeLatest_X1_placeAt rfl rfl rfl (by decide +kernel) ⟨Nat.le_of_ble_eq_true rfl, Nat.le_of_ble_eq_true rfl⟩) hK hP 43 (wX_43 G A S 2) rfl rfl hl.1 rfl (Nat.le_of_ble_eq_true rfl) dX1_takeLatest_7 ⟨Nat.zero_le _, Nat.zero_le _⟩ ?_
  refine lv_astore_n (lv' := [(2, .ref (A (6 * 4))), (0, .ref (A 43)), (1, .ref (A (6 * 0)))]) hx hb dX1_takeLatest_10 rfl hl (by decide) rfl (fun ls hl => ?_)
  refine lv_aload_n hx hb dX1_takeLatest_11 rfl (lv_at hl 0 rfl) ?_
  refine lv_ifnull hx hb dX1_takeLatest_12 ?_
  refine lv_aload_n hx hb dX1_takeLatest_15 rfl (lv_at hl 2 rfl) ?_
  refine lv_aload_n hx hb dX1_takeLatest_16 rfl (lv_at hl 0 rfl) ?_
  refine czV (rest := []) (As := [.ref (A (6 * 4))]) E (c_X0_copyFrom_0_4 l G A S 2 hbe) (cwV 1 hts gX1_takeLatest_X0_copyFrom rfl rfl rfl (by decide +kernel) ⟨Nat.le_of_ble_eq_true rfl, Nat.le_of_ble_eq_true rfl⟩) hK hP hD hS hA (6 * 0) (wX_o G A S 2 0 (by decide)) rfl rfl hl.1 rfl (Nat.le_of_ble_eq_true rfl) dX1_takeLatest_17 ⟨Nat.zero_le _, Nat.zero_le _⟩ (fun H locs hP hD hS => ?_)
  refine lv_aload_n hx hb dX1_takeLatest_20 rfl (lv_at hl 1 rfl) ?_
  refine lv_dup hx hb dX1_takeLatest_21 rfl ?_
  refine va_get (D := G.1) (ci := 1) (v := .int (((f_X0_copyFrom_0_4 S) 7 0) 1)) (C := RX1) (T := TX1) (N := 2) hx hb hts hinX1 hown hK.1 hP 43 (wX_43 G A (f_X0_copyFrom_0_4 S) 2) rfl 1 (by decide) (hts (.fieldLink RX1 18 "WireLoops$History" "states" "I") (List.mem_of_getElem? (i := 1) rfl)) (fun _ h9 => h9) rfl dX1_takeLatest_22 ?_
  refine W.eq (g2 := F0 m 25 ls [.int 4, .ref (A 43)]) (by rw [show (((f_X0_copyFrom_0_4 S) 7 0) 1) = (4 : Int32) from hq] <;> rfl) ?_
  refine lv_iconst (v := 1) hx hb dX1_takeLatest_25 (by decide) ?_
  refine lv_isub hx hb dX1_takeLatest_26 ?_
  refine W.eq (g2 := F0 m 27 ls [.int 3, .ref (A 43)]) (by rw [show (4 - 1) = (3 : Int32) from by decide] <;> rfl) ?_
  refine va_put (D := G.1) (ci := 1) (v := .int 3) (ty := .int) (C := RX1) (T := TX1) (N := 2) hx hb hts hinX1 tyX1 tyX1_ok nmX1 hown hK.1 hP hD hS 43 (wX_43 G A (f_X0_copyFrom_0_4 S) 2) rfl 1 (by decide) (hts (.fieldLink RX1 18 "WireLoops$History" "states" "I") (List.mem_of_getElem? (i := 1) rfl)) (fun _ h9 => h9) rfl (by decide +kernel) rfl rfl (Nat.le_of_ble_eq_true rfl) dX1_takeLatest_27 (fun H locs hP hD hS => ?_)
  rw [wX_s43 G A (f_X0_copyFrom_0_4 S) 2 _] at hP hD
  have hP : va_P G.1 vwCl (wX G A (su (f_X0_copyFrom_0_4 S) 7 0 (upd ((f_X0_copyFrom_0_4 S) 7 0) 1 3)) 2) H := hP
  have hD : va_D A0 (wX G A (su (f_X0_copyFrom_0_4 S) 7 0 (upd ((f_X0_copyFrom_0_4 S) 7 0) 1 3)) 2) := hD
  exact endZ hx hb hr hlocks hP hD hS rfl dX1_takeLatest_30
def f_X1_takeLatest_1_3 (S : XS) : XS := su (sc S 0 6) 7 0 (upd (S 7 0) 1 0)
theorem e_X1_takeLatest_1_3 (S : XS) : f_X1_takeLatest_1_3 S = su (sc S 0 6) 7 0 (upd (S 7 0) 1 0) := rfl
set_option maxHeartbeats 4000000 in
set_option maxRecDepth 100000 in
theorem c_X1_takeLatest_1_3 (l : Launch) (G : GG) (A : Nat → Nat) (S : XS)  (hq : S 7 0 1 = 1) (hbe : S 6 0 4 = 0 ∨ S 6 0 4 = 1) : Mz l yX1_takeLatest wsX1_takeLatest ({ frames := 2, cells := 0, slots := 0, locals := 47 } : Room) G [.ref (A 43), .ref (A (6 * 0))] (wX G A S 3) (wX G A (f_X1_takeLatest_1_3 S) 3) := by
  refine Mz.of (cc := cX1_takeLatest) (maxL := 3) (ret := none) (by decide) rfl (Nat.le_of_ble_eq_true rfl) ?_
  intro p e s m args below meth c A0 hA0 E hr hlocks hP hK hD hA hS ls hl
  have E : CallFix p m c cX1_takeLatest 3 s args wsX1_takeLatest RX1 := E
  have hx := E.1
  have hb := E.2.1
  have hml := E.2.2.1
  have hown := E.2.2.2.1
  have hts := E.2.2.2.2
  have hl : lv_has ls 3 [(0, .ref (A 43)), (1, .ref (A (6 * 0)))] := hl
  have hinX1 : ∀ w ∈ u_ws RX1 TX1 2, w ∈ wsX1_takeLatest := fun _ h => List.mem_cons_of_mem _ (List.mem_append_left _ (List.mem_append_right _ h))
  refine lv_aload_n hx hb dX1_takeLatest_0 rfl (lv_at hl 0 rfl) ?_
  refine lv_aload_n hx hb dX1_takeLatest_1 rfl (lv_at hl 0 rfl) ?_
  refine va_get (D := G.1) (ci := 1) (v := .int (S 7 0 1)) (C := RX1) (T := TX1) (N := 2) hx hb hts hinX1 hown hK.1 hP 43 (wX_43 G A S 3) rfl 1 (by decide) (hts (.fieldLink RX1 18 "WireLoops$History" "states" "I") (List.mem_of_getElem? (i := 1) rfl)) (fun _ h9 => h9) rfl dX1_takeLatest_2 ?_
  refine W.eq (g2 := F0 m 5 ls [.int 1, .ref (A 43)]) (by rw [hq] <;> rfl) ?_
  refine lv_iconst (v := 1) hx hb dX1_takeLatest_5 (by decide) ?_
  refine lv_isub hx hb dX1_takeLatest_6 ?_
  refine W.eq (g2 := F0 m 7 ls [.int 0, .ref (A 43)]) (by rw [show (1 - 1) = (0 : Int32) from by decide] <;> rfl) ?_
  refine crV (rest := []) (As := [.int 0]) E (c_X1_placeAt_0_3 l G A S) (cwV 1 hts gX1_takeLatest_X1_placeAt rfl rfl rfl (by decide +kernel) ⟨Nat.le_of_ble_eq_true rfl, Nat.le_of_ble_eq_true rfl⟩) hK hP 43 (wX_43 G A S 3) rfl rfl hl.1 rfl (Nat.le_of_ble_eq_true rfl) dX1_takeLatest_7 ⟨Nat.zero_le _, Nat.zero_le _⟩ ?_
  refine lv_astore_n (lv' := [(2, .ref (A (6 * 6))), (0, .ref (A 43)), (1, .ref (A (6 * 0)))]) hx hb dX1_takeLatest_10 rfl hl (by decide) rfl (fun ls hl => ?_)
  refine lv_aload_n hx hb dX1_takeLatest_11 rfl (lv_at hl 0 rfl) ?_
  refine lv_ifnull hx hb dX1_takeLatest_12 ?_
  refine lv_aload_n hx hb dX1_takeLatest_15 rfl (lv_at hl 2 rfl) ?_
  refine lv_aload_n hx hb dX1_takeLatest_16 rfl (lv_at hl 0 rfl) ?_
  refine czV (rest := []) (As := [.ref (A (6 * 6))]) E (c_X0_copyFrom_0_6 l G A S 3 hbe) (cwV 1 hts gX1_takeLatest_X0_copyFrom rfl rfl rfl (by decide +kernel) ⟨Nat.le_of_ble_eq_true rfl, Nat.le_of_ble_eq_true rfl⟩) hK hP hD hS hA (6 * 0) (wX_o G A S 3 0 (by decide)) rfl rfl hl.1 rfl (Nat.le_of_ble_eq_true rfl) dX1_takeLatest_17 ⟨Nat.zero_le _, Nat.zero_le _⟩ (fun H locs hP hD hS => ?_)
  refine lv_aload_n hx hb dX1_takeLatest_20 rfl (lv_at hl 1 rfl) ?_
  refine lv_dup hx hb dX1_takeLatest_21 rfl ?_
  refine va_get (D := G.1) (ci := 1) (v := .int (((f_X0_copyFrom_0_6 S) 7 0) 1)) (C := RX1) (T := TX1) (N := 2) hx hb hts hinX1 hown hK.1 hP 43 (wX_43 G A (f_X0_copyFrom_0_6 S) 3) rfl 1 (by decide) (hts (.fieldLink RX1 18 "WireLoops$History" "states" "I") (List.mem_of_getElem? (i := 1) rfl)) (fun _ h9 => h9) rfl dX1_takeLatest_22 ?_
  refine W.eq (g2 := F0 m 25 ls [.int 1, .ref (A 43)]) (by rw [show (((f_X0_copyFrom_0_6 S) 7 0) 1) = (1 : Int32) from hq] <;> rfl) ?_
  refine lv_iconst (v := 1) hx hb dX1_takeLatest_25 (by decide) ?_
  refine lv_isub hx hb dX1_takeLatest_26 ?_
  refine W.eq (g2 := F0 m 27 ls [.int 0, .ref (A 43)]) (by rw [show (1 - 1) = (0 : Int32) from by decide] <;> rfl) ?_
  refine va_put (D := G.1) (ci := 1) (v := .int 0) (ty := .int) (C := RX1) (T := TX1) (N := 2) hx hb hts hinX1 tyX1 tyX1_ok nmX1 hown hK.1 hP hD hS 43 (wX_43 G A (f_X0_copyFrom_0_6 S) 3) rfl 1 (by decide) (hts (.fieldLink RX1 18 "WireLoops$History" "states" "I") (List.mem_of_getElem? (i := 1) rfl)) (fun _ h9 => h9) rfl (by decide +kernel) rfl rfl (Nat.le_of_ble_eq_true rfl) dX1_takeLatest_27 (fun H locs hP hD hS => ?_)
  rw [wX_s43 G A (f_X0_copyFrom_0_6 S) 3 _] at hP hD
  have hP : va_P G.1 vwCl (wX G A (su (f_X0_copyFrom_0_6 S) 7 0 (upd ((f_X0_copyFrom_0_6 S) 7 0) 1 0)) 3) H := hP
  have hD : va_D A0 (wX G A (su (f_X0_copyFrom_0_6 S) 7 0 (upd ((f_X0_copyFrom_0_6 S) 7 0) 1 0)) 3) := hD
  exact endZ hx hb hr hlocks hP hD hS rfl dX1_takeLatest_30
def f_X1_takeLatest_2_3 (S : XS) : XS := su (sc S 0 3) 7 0 (upd (S 7 0) 1 1)
theorem e_X1_takeLatest_2_3 (S : XS) : f_X1_takeLatest_2_3 S = su (sc S 0 3) 7 0 (upd (S 7 0) 1 1) := rfl
set_option maxHeartbeats 4000000 in
set_option maxRecDepth 100000 in
theorem c_X1_takeLatest_2_3 (l : Launch) (G : GG) (A : Nat → Nat) (S : XS)  (hq : S 7 0 1 = 2) (hbe : S 3 0 4 = 0 ∨ S 3 0 4 = 1) : Mz l yX1_takeLatest wsX1_takeLatest ({ frames := 2, cells := 0, slots := 0, locals := 47 } : Room) G [.ref (A 43), .ref (A (6 * 0))] (wX G A S 3) (wX G A (f_X1_takeLatest_2_3 S) 3) := by
  refine Mz.of (cc := cX1_takeLatest) (maxL := 3) (ret := none) (by decide) rfl (Nat.le_of_ble_eq_true rfl) ?_
  intro p e s m args below meth c A0 hA0 E hr hlocks hP hK hD hA hS ls hl
  have E : CallFix p m c cX1_takeLatest 3 s args wsX1_takeLatest RX1 := E
  have hx := E.1
  have hb := E.2.1
  have hml := E.2.2.1
  have hown := E.2.2.2.1
  have hts := E.2.2.2.2
  have hl : lv_has ls 3 [(0, .ref (A 43)), (1, .ref (A (6 * 0)))] := hl
  have hinX1 : ∀ w ∈ u_ws RX1 TX1 2, w ∈ wsX1_takeLatest := fun _ h => List.mem_cons_of_mem _ (List.mem_append_left _ (List.mem_append_right _ h))
  refine lv_aload_n hx hb dX1_takeLatest_0 rfl (lv_at hl 0 rfl) ?_
  refine lv_aload_n hx hb dX1_takeLatest_1 rfl (lv_at hl 0 rfl) ?_
  refine va_get (D := G.1) (ci := 1) (v := .int (S 7 0 1)) (C := RX1) (T := TX1) (N := 2) hx hb hts hinX1 hown hK.1 hP 43 (wX_43 G A S 3) rfl 1 (by decide) (hts (.fieldLink RX1 18 "WireLoops$History" "states" "I") (List.mem_of_getElem? (i := 1) rfl)) (fun _ h9 => h9) rfl dX1_takeLatest_2 ?_
  refine W.eq (g2 := F0 m 5 ls [.int 2, .ref (A 43)]) (by rw [hq] <;> rfl) ?_
  refine lv_iconst (v := 1) hx hb dX1_takeLatest_5 (by decide) ?_
  refine lv_isub hx hb dX1_takeLatest_6 ?_
  refine W.eq (g2 := F0 m 7 ls [.int 1, .ref (A 43)]) (by rw [show (2 - 1) = (1 : Int32) from by decide] <;> rfl) ?_
  refine crV (rest := []) (As := [.int 1]) E (c_X1_placeAt_1_3 l G A S) (cwV 1 hts gX1_takeLatest_X1_placeAt rfl rfl rfl (by decide +kernel) ⟨Nat.le_of_ble_eq_true rfl, Nat.le_of_ble_eq_true rfl⟩) hK hP 43 (wX_43 G A S 3) rfl rfl hl.1 rfl (Nat.le_of_ble_eq_true rfl) dX1_takeLatest_7 ⟨Nat.zero_le _, Nat.zero_le _⟩ ?_
  refine lv_astore_n (lv' := [(2, .ref (A (6 * 3))), (0, .ref (A 43)), (1, .ref (A (6 * 0)))]) hx hb dX1_takeLatest_10 rfl hl (by decide) rfl (fun ls hl => ?_)
  refine lv_aload_n hx hb dX1_takeLatest_11 rfl (lv_at hl 0 rfl) ?_
  refine lv_ifnull hx hb dX1_takeLatest_12 ?_
  refine lv_aload_n hx hb dX1_takeLatest_15 rfl (lv_at hl 2 rfl) ?_
  refine lv_aload_n hx hb dX1_takeLatest_16 rfl (lv_at hl 0 rfl) ?_
  refine czV (rest := []) (As := [.ref (A (6 * 3))]) E (c_X0_copyFrom_0_3 l G A S 3 hbe) (cwV 1 hts gX1_takeLatest_X0_copyFrom rfl rfl rfl (by decide +kernel) ⟨Nat.le_of_ble_eq_true rfl, Nat.le_of_ble_eq_true rfl⟩) hK hP hD hS hA (6 * 0) (wX_o G A S 3 0 (by decide)) rfl rfl hl.1 rfl (Nat.le_of_ble_eq_true rfl) dX1_takeLatest_17 ⟨Nat.zero_le _, Nat.zero_le _⟩ (fun H locs hP hD hS => ?_)
  refine lv_aload_n hx hb dX1_takeLatest_20 rfl (lv_at hl 1 rfl) ?_
  refine lv_dup hx hb dX1_takeLatest_21 rfl ?_
  refine va_get (D := G.1) (ci := 1) (v := .int (((f_X0_copyFrom_0_3 S) 7 0) 1)) (C := RX1) (T := TX1) (N := 2) hx hb hts hinX1 hown hK.1 hP 43 (wX_43 G A (f_X0_copyFrom_0_3 S) 3) rfl 1 (by decide) (hts (.fieldLink RX1 18 "WireLoops$History" "states" "I") (List.mem_of_getElem? (i := 1) rfl)) (fun _ h9 => h9) rfl dX1_takeLatest_22 ?_
  refine W.eq (g2 := F0 m 25 ls [.int 2, .ref (A 43)]) (by rw [show (((f_X0_copyFrom_0_3 S) 7 0) 1) = (2 : Int32) from hq] <;> rfl) ?_
  refine lv_iconst (v := 1) hx hb dX1_takeLatest_25 (by decide) ?_
  refine lv_isub hx hb dX1_takeLatest_26 ?_
  refine W.eq (g2 := F0 m 27 ls [.int 1, .ref (A 43)]) (by rw [show (2 - 1) = (1 : Int32) from by decide] <;> rfl) ?_
  refine va_put (D := G.1) (ci := 1) (v := .int 1) (ty := .int) (C := RX1) (T := TX1) (N := 2) hx hb hts hinX1 tyX1 tyX1_ok nmX1 hown hK.1 hP hD hS 43 (wX_43 G A (f_X0_copyFrom_0_3 S) 3) rfl 1 (by decide) (hts (.fieldLink RX1 18 "WireLoops$History" "states" "I") (List.mem_of_getElem? (i := 1) rfl)) (fun _ h9 => h9) rfl (by decide +kernel) rfl rfl (Nat.le_of_ble_eq_true rfl) dX1_takeLatest_27 (fun H locs hP hD hS => ?_)
  rw [wX_s43 G A (f_X0_copyFrom_0_3 S) 3 _] at hP hD
  have hP : va_P G.1 vwCl (wX G A (su (f_X0_copyFrom_0_3 S) 7 0 (upd ((f_X0_copyFrom_0_3 S) 7 0) 1 1)) 3) H := hP
  have hD : va_D A0 (wX G A (su (f_X0_copyFrom_0_3 S) 7 0 (upd ((f_X0_copyFrom_0_3 S) 7 0) 1 1)) 3) := hD
  exact endZ hx hb hr hlocks hP hD hS rfl dX1_takeLatest_30
def f_X1_takeLatest_3_3 (S : XS) : XS := su (sc S 0 4) 7 0 (upd (S 7 0) 1 2)
theorem e_X1_takeLatest_3_3 (S : XS) : f_X1_takeLatest_3_3 S = su (sc S 0 4) 7 0 (upd (S 7 0) 1 2) := rfl
set_option maxHeartbeats 4000000 in
set_option maxRecDepth 100000 in
theorem c_X1_takeLatest_3_3 (l : Launch) (G : GG) (A : Nat → Nat) (S : XS)  (hq : S 7 0 1 = 3) (hbe : S 4 0 4 = 0 ∨ S 4 0 4 = 1) : Mz l yX1_takeLatest wsX1_takeLatest ({ frames := 2, cells := 0, slots := 0, locals := 47 } : Room) G [.ref (A 43), .ref (A (6 * 0))] (wX G A S 3) (wX G A (f_X1_takeLatest_3_3 S) 3) := by
  refine Mz.of (cc := cX1_takeLatest) (maxL := 3) (ret := none) (by decide) rfl (Nat.le_of_ble_eq_true rfl) ?_
  intro p e s m args below meth c A0 hA0 E hr hlocks hP hK hD hA hS ls hl
  have E : CallFix p m c cX1_takeLatest 3 s args wsX1_takeLatest RX1 := E
  have hx := E.1
  have hb := E.2.1
  have hml := E.2.2.1
  have hown := E.2.2.2.1
  have hts := E.2.2.2.2
  have hl : lv_has ls 3 [(0, .ref (A 43)), (1, .ref (A (6 * 0)))] := hl
  have hinX1 : ∀ w ∈ u_ws RX1 TX1 2, w ∈ wsX1_takeLatest := fun _ h => List.mem_cons_of_mem _ (List.mem_append_left _ (List.mem_append_right _ h))
  refine lv_aload_n hx hb dX1_takeLatest_0 rfl (lv_at hl 0 rfl) ?_
  refine lv_aload_n hx hb dX1_takeLatest_1 rfl (lv_at hl 0 rfl) ?_
  refine va_get (D := G.1) (ci := 1) (v := .int (S 7 0 1)) (C := RX1) (T := TX1) (N := 2) hx hb hts hinX1 hown hK.1 hP 43 (wX_43 G A S 3) rfl 1 (by decide) (hts (.fieldLink RX1 18 "WireLoops$History" "states" "I") (List.mem_of_getElem? (i := 1) rfl)) (fun _ h9 => h9) rfl dX1_takeLatest_2 ?_
  refine W.eq (g2 := F0 m 5 ls [.int 3, .ref (A 43)]) (by rw [hq] <;> rfl) ?_
  refine lv_iconst (v := 1) hx hb dX1_takeLatest_5 (by decide) ?_
  refine lv_isub hx hb dX1_takeLatest_6 ?_
  refine W.eq (g2 := F0 m 7 ls [.int 2, .ref (A 43)]) (by rw [show (3 - 1) = (2 : Int32) from by decide] <;> rfl) ?_
  refine crV (rest := []) (As := [.int 2]) E (c_X1_placeAt_2_3 l G A S) (cwV 1 hts gX1_takeLatest_X1_placeAt rfl rfl rfl (by decide +kernel) ⟨Nat.le_of_ble_eq_true rfl, Nat.le_of_ble_eq_true rfl⟩) hK hP 43 (wX_43 G A S 3) rfl rfl hl.1 rfl (Nat.le_of_ble_eq_true rfl) dX1_takeLatest_7 ⟨Nat.zero_le _, Nat.zero_le _⟩ ?_
  refine lv_astore_n (lv' := [(2, .ref (A (6 * 4))), (0, .ref (A 43)), (1, .ref (A (6 * 0)))]) hx hb dX1_takeLatest_10 rfl hl (by decide) rfl (fun ls hl => ?_)
  refine lv_aload_n hx hb dX1_takeLatest_11 rfl (lv_at hl 0 rfl) ?_
  refine lv_ifnull hx hb dX1_takeLatest_12 ?_
  refine lv_aload_n hx hb dX1_takeLatest_15 rfl (lv_at hl 2 rfl) ?_
  refine lv_aload_n hx hb dX1_takeLatest_16 rfl (lv_at hl 0 rfl) ?_
  refine czV (rest := []) (As := [.ref (A (6 * 4))]) E (c_X0_copyFrom_0_4 l G A S 3 hbe) (cwV 1 hts gX1_takeLatest_X0_copyFrom rfl rfl rfl (by decide +kernel) ⟨Nat.le_of_ble_eq_true rfl, Nat.le_of_ble_eq_true rfl⟩) hK hP hD hS hA (6 * 0) (wX_o G A S 3 0 (by decide)) rfl rfl hl.1 rfl (Nat.le_of_ble_eq_true rfl) dX1_takeLatest_17 ⟨Nat.zero_le _, Nat.zero_le _⟩ (fun H locs hP hD hS => ?_)
  refine lv_aload_n hx hb dX1_takeLatest_20 rfl (lv_at hl 1 rfl) ?_
  refine lv_dup hx hb dX1_takeLatest_21 rfl ?_
  refine va_get (D := G.1) (ci := 1) (v := .int (((f_X0_copyFrom_0_4 S) 7 0) 1)) (C := RX1) (T := TX1) (N := 2) hx hb hts hinX1 hown hK.1 hP 43 (wX_43 G A (f_X0_copyFrom_0_4 S) 3) rfl 1 (by decide) (hts (.fieldLink RX1 18 "WireLoops$History" "states" "I") (List.mem_of_getElem? (i := 1) rfl)) (fun _ h9 => h9) rfl dX1_takeLatest_22 ?_
  refine W.eq (g2 := F0 m 25 ls [.int 3, .ref (A 43)]) (by rw [show (((f_X0_copyFrom_0_4 S) 7 0) 1) = (3 : Int32) from hq] <;> rfl) ?_
  refine lv_iconst (v := 1) hx hb dX1_takeLatest_25 (by decide) ?_
  refine lv_isub hx hb dX1_takeLatest_26 ?_
  refine W.eq (g2 := F0 m 27 ls [.int 2, .ref (A 43)]) (by rw [show (3 - 1) = (2 : Int32) from by decide] <;> rfl) ?_
  refine va_put (D := G.1) (ci := 1) (v := .int 2) (ty := .int) (C := RX1) (T := TX1) (N := 2) hx hb hts hinX1 tyX1 tyX1_ok nmX1 hown hK.1 hP hD hS 43 (wX_43 G A (f_X0_copyFrom_0_4 S) 3) rfl 1 (by decide) (hts (.fieldLink RX1 18 "WireLoops$History" "states" "I") (List.mem_of_getElem? (i := 1) rfl)) (fun _ h9 => h9) rfl (by decide +kernel) rfl rfl (Nat.le_of_ble_eq_true rfl) dX1_takeLatest_27 (fun H locs hP hD hS => ?_)
  rw [wX_s43 G A (f_X0_copyFrom_0_4 S) 3 _] at hP hD
  have hP : va_P G.1 vwCl (wX G A (su (f_X0_copyFrom_0_4 S) 7 0 (upd ((f_X0_copyFrom_0_4 S) 7 0) 1 2)) 3) H := hP
  have hD : va_D A0 (wX G A (su (f_X0_copyFrom_0_4 S) 7 0 (upd ((f_X0_copyFrom_0_4 S) 7 0) 1 2)) 3) := hD
  exact endZ hx hb hr hlocks hP hD hS rfl dX1_takeLatest_30
def f_X1_takeLatest_4_3 (S : XS) : XS := su (sc S 0 5) 7 0 (upd (S 7 0) 1 3)
theorem e_X1_takeLatest_4_3 (S : XS) : f_X1_takeLatest_4_3 S = su (sc S 0 5) 7 0 (upd (S 7 0) 1 3) := rfl
set_option maxHeartbeats 4000000 in
set_option maxRecDepth 100000 in
theorem c_X1_takeLatest_4_3 (l : Launch) (G : GG) (A : Nat → Nat) (S : XS)  (hq : S 7 0 1 = 4) (hbe : S 5 0 4 = 0 ∨ S 5 0 4 = 1) : Mz l yX1_takeLatest wsX1_takeLatest ({ frames := 2, cells := 0, slots := 0, locals := 47 } : Room) G [.ref (A 43), .ref (A (6 * 0))] (wX G A S 3) (wX G A (f_X1_takeLatest_4_3 S) 3) := by
  refine Mz.of (cc := cX1_takeLatest) (maxL := 3) (ret := none) (by decide) rfl (Nat.le_of_ble_eq_true rfl) ?_
  intro p e s m args below meth c A0 hA0 E hr hlocks hP hK hD hA hS ls hl
  have E : CallFix p m c cX1_takeLatest 3 s args wsX1_takeLatest RX1 := E
  have hx := E.1
  have hb := E.2.1
  have hml := E.2.2.1
  have hown := E.2.2.2.1
  have hts := E.2.2.2.2
  have hl : lv_has ls 3 [(0, .ref (A 43)), (1, .ref (A (6 * 0)))] := hl
  have hinX1 : ∀ w ∈ u_ws RX1 TX1 2, w ∈ wsX1_takeLatest := fun _ h => List.mem_cons_of_mem _ (List.mem_append_left _ (List.mem_append_right _ h))
  refine lv_aload_n hx hb dX1_takeLatest_0 rfl (lv_at hl 0 rfl) ?_
  refine lv_aload_n hx hb dX1_takeLatest_1 rfl (lv_at hl 0 rfl) ?_
  refine va_get (D := G.1) (ci := 1) (v := .int (S 7 0 1)) (C := RX1) (T := TX1) (N := 2) hx hb hts hinX1 hown hK.1 hP 43 (wX_43 G A S 3) rfl 1 (by decide) (hts (.fieldLink RX1 18 "WireLoops$History" "states" "I") (List.mem_of_getElem? (i := 1) rfl)) (fun _ h9 => h9) rfl dX1_takeLatest_2 ?_
  refine W.eq (g2 := F0 m 5 ls [.int 4, .ref (A 43)]) (by rw [hq] <;> rfl) ?_
  refine lv_iconst (v := 1) hx hb dX1_takeLatest_5 (by decide) ?_
  refine lv_isub hx hb dX1_takeLatest_6 ?_
  refine W.eq (g2 := F0 m 7 ls [.int 3, .ref (A 43)]) (by rw [show (4 - 1) = (3 : Int32) from by decide] <;> rfl) ?_
  refine crV (rest := []) (As := [.int 3]) E (c_X1_placeAt_3_3 l G A S) (cwV 1 hts gX1_takeLatest_X1_placeAt rfl rfl rfl (by decide +kernel) ⟨Nat.le_of_ble_eq_true rfl, Nat.le_of_ble_eq_true rfl⟩) hK hP 43 (wX_43 G A S 3) rfl rfl hl.1 rfl (Nat.le_of_ble_eq_true rfl) dX1_takeLatest_7 ⟨Nat.zero_le _, Nat.zero_le _⟩ ?_
  refine lv_astore_n (lv' := [(2, .ref (A (6 * 5))), (0, .ref (A 43)), (1, .ref (A (6 * 0)))]) hx hb dX1_takeLatest_10 rfl hl (by decide) rfl (fun ls hl => ?_)
  refine lv_aload_n hx hb dX1_takeLatest_11 rfl (lv_at hl 0 rfl) ?_
  refine lv_ifnull hx hb dX1_takeLatest_12 ?_
  refine lv_aload_n hx hb dX1_takeLatest_15 rfl (lv_at hl 2 rfl) ?_
  refine lv_aload_n hx hb dX1_takeLatest_16 rfl (lv_at hl 0 rfl) ?_
  refine czV (rest := []) (As := [.ref (A (6 * 5))]) E (c_X0_copyFrom_0_5 l G A S 3 hbe) (cwV 1 hts gX1_takeLatest_X0_copyFrom rfl rfl rfl (by decide +kernel) ⟨Nat.le_of_ble_eq_true rfl, Nat.le_of_ble_eq_true rfl⟩) hK hP hD hS hA (6 * 0) (wX_o G A S 3 0 (by decide)) rfl rfl hl.1 rfl (Nat.le_of_ble_eq_true rfl) dX1_takeLatest_17 ⟨Nat.zero_le _, Nat.zero_le _⟩ (fun H locs hP hD hS => ?_)
  refine lv_aload_n hx hb dX1_takeLatest_20 rfl (lv_at hl 1 rfl) ?_
  refine lv_dup hx hb dX1_takeLatest_21 rfl ?_
  refine va_get (D := G.1) (ci := 1) (v := .int (((f_X0_copyFrom_0_5 S) 7 0) 1)) (C := RX1) (T := TX1) (N := 2) hx hb hts hinX1 hown hK.1 hP 43 (wX_43 G A (f_X0_copyFrom_0_5 S) 3) rfl 1 (by decide) (hts (.fieldLink RX1 18 "WireLoops$History" "states" "I") (List.mem_of_getElem? (i := 1) rfl)) (fun _ h9 => h9) rfl dX1_takeLatest_22 ?_
  refine W.eq (g2 := F0 m 25 ls [.int 4, .ref (A 43)]) (by rw [show (((f_X0_copyFrom_0_5 S) 7 0) 1) = (4 : Int32) from hq] <;> rfl) ?_
  refine lv_iconst (v := 1) hx hb dX1_takeLatest_25 (by decide) ?_
  refine lv_isub hx hb dX1_takeLatest_26 ?_
  refine W.eq (g2 := F0 m 27 ls [.int 3, .ref (A 43)]) (by rw [show (4 - 1) = (3 : Int32) from by decide] <;> rfl) ?_
  refine va_put (D := G.1) (ci := 1) (v := .int 3) (ty := .int) (C := RX1) (T := TX1) (N := 2) hx hb hts hinX1 tyX1 tyX1_ok nmX1 hown hK.1 hP hD hS 43 (wX_43 G A (f_X0_copyFrom_0_5 S) 3) rfl 1 (by decide) (hts (.fieldLink RX1 18 "WireLoops$History" "states" "I") (List.mem_of_getElem? (i := 1) rfl)) (fun _ h9 => h9) rfl (by decide +kernel) rfl rfl (Nat.le_of_ble_eq_true rfl) dX1_takeLatest_27 (fun H locs hP hD hS => ?_)
  rw [wX_s43 G A (f_X0_copyFrom_0_5 S) 3 _] at hP hD
  have hP : va_P G.1 vwCl (wX G A (su (f_X0_copyFrom_0_5 S) 7 0 (upd ((f_X0_copyFrom_0_5 S) 7 0) 1 3)) 3) H := hP
  have hD : va_D A0 (wX G A (su (f_X0_copyFrom_0_5 S) 7 0 (upd ((f_X0_copyFrom_0_5 S) 7 0) 1 3)) 3) := hD
  exact endZ hx hb hr hlocks hP hD hS rfl dX1_takeLatest_30
