def f_X0_copyFrom_0_1 (S : XS) : XS := sc S 0 1
theorem e_X0_copyFrom_0_1 (S : XS) : f_X0_copyFrom_0_1 S = sc S 0 1 := rfl
set_option maxHeartbeats 4000000 in
set_option maxRecDepth 100000 in
theorem c_X0_copyFrom_0_1 (l : Launch) (G : GG) (A : Nat → Nat) (S : XS) (r : Nat)  (hbj : S 1 0 4 = 0 ∨ S 1 0 4 = 1) : Mz l yX0_copyFrom wsX0_copyFrom ({ frames := 1, cells := 0, slots := 0, locals := 26 } : Room) G [.ref (A (6 * 0)), .ref (A (6 * 1))] (wX G A S r) (wX G A (f_X0_copyFrom_0_1 S) r) := by
  refine Mz.of (cc := cX0_copyFrom) (maxL := 2) (ret := none) (by decide) rfl (Nat.le_of_ble_eq_true rfl) ?_
  intro p e s m args below meth c A0 hA0 E hr hlocks hP hK hD hA hS ls hl
  have E : CallFix p m c cX0_copyFrom 2 s args wsX0_copyFrom RX0 := E
  have hx := E.1
  have hb := E.2.1
  have hml := E.2.2.1
  have hown := E.2.2.2.1
  have hts := E.2.2.2.2
  have hl : lv_has ls 2 [(0, .ref (A (6 * 0))), (1, .ref (A (6 * 1)))] := hl
  have hinX0 : ∀ w ∈ u_ws RX0 TX0 12, w ∈ wsX0_copyFrom := fun _ h => List.mem_cons_of_mem _ (List.mem_append_right _ h)
  refine lv_aload_n hx hb dX0_copyFrom_0 rfl (lv_at hl 1 rfl) ?_
  refine va_get (D := G.1) (ci := 0) (v := .ref (A (6 * 1 + 1))) (C := RX0) (T := TX0) (N := 12) hx hb hts hinX0 hown hK.1 hP (6 * 1) (wX_o G A S r 1 (by decide)) rfl 0 (by decide) (hts (.fieldLink RX0 9 "WireLoops$Chip" "leadX" "[I") (List.mem_of_getElem? (i := 1) rfl)) (fun _ h9 => h9) rfl dX0_copyFrom_1 ?_
  refine lv_iconst (v := 0) hx hb dX0_copyFrom_4 (by decide) ?_
  refine lv_aload_n hx hb dX0_copyFrom_5 rfl (lv_at hl 0 rfl) ?_
  refine va_get (D := G.1) (ci := 0) (v := .ref (A (6 * 0 + 1))) (C := RX0) (T := TX0) (N := 12) hx hb hts hinX0 hown hK.1 hP (6 * 0) (wX_o G A S r 0 (by decide)) rfl 0 (by decide) (hts (.fieldLink RX0 9 "WireLoops$Chip" "leadX" "[I") (List.mem_of_getElem? (i := 1) rfl)) (fun _ h9 => h9) rfl dX0_copyFrom_6 ?_
  refine lv_iconst (v := 0) hx hb dX0_copyFrom_9 (by decide) ?_
  refine lv_bipush (v := 16) hx hb dX0_copyFrom_10 (by decide) ?_
  refine va_copyi (D := G.1) hx hb (by rw [hml]; exact hl.1.symm) hown (hts (.methodLink RX0 37 arraycopyName) (List.mem_of_getElem? (i := 2) rfl)) (hts (.native arraycopyName) (List.mem_of_getElem? (i := 3) rfl)) (hts (.static arraycopyName) (List.mem_of_getElem? (i := 4) rfl)) (hts (.initialized "java/lang/System") (List.mem_of_getElem? (i := 5) rfl)) hK.1 hP hD hS (6 * 1 + 1) (6 * 0 + 1) 0 0 (wX_1 G A S r 1 (by decide)) (wX_1 G A S r 0 (by decide)) rfl rfl rfl (by decide) (by decide) (by decide) (by decide) (by decide) (fun _ _ => rfl) (Nat.le_of_ble_eq_true rfl) (Nat.le_of_ble_eq_true rfl) dX0_copyFrom_12 (fun H locs hP hD hS => ?_)
  rw [wX_s1 G A S r 0 (by decide) _] at hP hD
  have hP : va_P G.1 vwCl (wX G A (su S 0 1 (va_cpy (S 1 1) (S 0 1) (0 : Int32).toNatClampNeg (0 : Int32).toNatClampNeg (16 : Int32).toNatClampNeg)) r) H := hP
  have hD : va_D A0 (wX G A (su S 0 1 (va_cpy (S 1 1) (S 0 1) (0 : Int32).toNatClampNeg (0 : Int32).toNatClampNeg (16 : Int32).toNatClampNeg)) r) := hD
  generalize hn1 : (su S 0 1 (va_cpy (S 1 1) (S 0 1) (0 : Int32).toNatClampNeg (0 : Int32).toNatClampNeg (16 : Int32).toNatClampNeg)) = S1 at hP hD
  refine lv_aload_n hx hb dX0_copyFrom_15 rfl (lv_at hl 1 rfl) ?_
  refine va_get (D := G.1) (ci := 0) (v := .ref (A (6 * 1 + 2))) (C := RX0) (T := TX0) (N := 12) hx hb hts hinX0 hown hK.1 hP (6 * 1) (wX_o G A S1 r 1 (by decide)) rfl 1 (by decide) (hts (.fieldLink RX0 15 "WireLoops$Chip" "leadOf" "[I") (List.mem_of_getElem? (i := 6) rfl)) (fun _ h9 => h9) rfl dX0_copyFrom_16 ?_
  refine lv_iconst (v := 0) hx hb dX0_copyFrom_19 (by decide) ?_
  refine lv_aload_n hx hb dX0_copyFrom_20 rfl (lv_at hl 0 rfl) ?_
  refine va_get (D := G.1) (ci := 0) (v := .ref (A (6 * 0 + 2))) (C := RX0) (T := TX0) (N := 12) hx hb hts hinX0 hown hK.1 hP (6 * 0) (wX_o G A S1 r 0 (by decide)) rfl 1 (by decide) (hts (.fieldLink RX0 15 "WireLoops$Chip" "leadOf" "[I") (List.mem_of_getElem? (i := 6) rfl)) (fun _ h9 => h9) rfl dX0_copyFrom_21 ?_
  refine lv_iconst (v := 0) hx hb dX0_copyFrom_24 (by decide) ?_
  refine lv_bipush (v := 12) hx hb dX0_copyFrom_25 (by decide) ?_
  refine va_copyi (D := G.1) hx hb (by rw [hml]; exact hl.1.symm) hown (hts (.methodLink RX0 37 arraycopyName) (List.mem_of_getElem? (i := 2) rfl)) (hts (.native arraycopyName) (List.mem_of_getElem? (i := 3) rfl)) (hts (.static arraycopyName) (List.mem_of_getElem? (i := 4) rfl)) (hts (.initialized "java/lang/System") (List.mem_of_getElem? (i := 5) rfl)) hK.1 hP hD hS (6 * 1 + 2) (6 * 0 + 2) 0 0 (wX_c G A S1 r 1 2 (by decide) (by decide) (by decide)) (wX_c G A S1 r 0 2 (by decide) (by decide) (by decide)) rfl rfl rfl (by decide) (by decide) (by decide) (by decide) (by decide) (fun _ _ => rfl) (Nat.le_of_ble_eq_true rfl) (Nat.le_of_ble_eq_true rfl) dX0_copyFrom_27 (fun H locs hP hD hS => ?_)
  rw [wX_sc G A S1 r 0 2 (by decide) (by decide) (by decide) _] at hP hD
  have hP : va_P G.1 vwCl (wX G A (su S1 0 2 (va_cpy (S1 1 2) (S1 0 2) (0 : Int32).toNatClampNeg (0 : Int32).toNatClampNeg (12 : Int32).toNatClampNeg)) r) H := hP
  have hD : va_D A0 (wX G A (su S1 0 2 (va_cpy (S1 1 2) (S1 0 2) (0 : Int32).toNatClampNeg (0 : Int32).toNatClampNeg (12 : Int32).toNatClampNeg)) r) := hD
  generalize hn2 : (su S1 0 2 (va_cpy (S1 1 2) (S1 0 2) (0 : Int32).toNatClampNeg (0 : Int32).toNatClampNeg (12 : Int32).toNatClampNeg)) = S2 at hP hD
  refine lv_aload_n hx hb dX0_copyFrom_30 rfl (lv_at hl 1 rfl) ?_
  refine va_get (D := G.1) (ci := 0) (v := .ref (A (6 * 1 + 3))) (C := RX0) (T := TX0) (N := 12) hx hb hts hinX0 hown hK.1 hP (6 * 1) (wX_o G A S2 r 1 (by decide)) rfl 2 (by decide) (hts (.fieldLink RX0 18 "WireLoops$Chip" "height" "[I") (List.mem_of_getElem? (i := 7) rfl)) (fun _ h9 => h9) rfl dX0_copyFrom_31 ?_
  refine lv_iconst (v := 0) hx hb dX0_copyFrom_34 (by decide) ?_
  refine lv_aload_n hx hb dX0_copyFrom_35 rfl (lv_at hl 0 rfl) ?_
  refine va_get (D := G.1) (ci := 0) (v := .ref (A (6 * 0 + 3))) (C := RX0) (T := TX0) (N := 12) hx hb hts hinX0 hown hK.1 hP (6 * 0) (wX_o G A S2 r 0 (by decide)) rfl 2 (by decide) (hts (.fieldLink RX0 18 "WireLoops$Chip" "height" "[I") (List.mem_of_getElem? (i := 7) rfl)) (fun _ h9 => h9) rfl dX0_copyFrom_36 ?_
  refine lv_iconst (v := 0) hx hb dX0_copyFrom_39 (by decide) ?_
  refine lv_bipush (v := 12) hx hb dX0_copyFrom_40 (by decide) ?_
  refine va_copyi (D := G.1) hx hb (by rw [hml]; exact hl.1.symm) hown (hts (.methodLink RX0 37 arraycopyName) (List.mem_of_getElem? (i := 2) rfl)) (hts (.native arraycopyName) (List.mem_of_getElem? (i := 3) rfl)) (hts (.static arraycopyName) (List.mem_of_getElem? (i := 4) rfl)) (hts (.initialized "java/lang/System") (List.mem_of_getElem? (i := 5) rfl)) hK.1 hP hD hS (6 * 1 + 3) (6 * 0 + 3) 0 0 (wX_c G A S2 r 1 3 (by decide) (by decide) (by decide)) (wX_c G A S2 r 0 3 (by decide) (by decide) (by decide)) rfl rfl rfl (by decide) (by decide) (by decide) (by decide) (by decide) (fun _ _ => rfl) (Nat.le_of_ble_eq_true rfl) (Nat.le_of_ble_eq_true rfl) dX0_copyFrom_42 (fun H locs hP hD hS => ?_)
  rw [wX_sc G A S2 r 0 3 (by decide) (by decide) (by decide) _] at hP hD
  have hP : va_P G.1 vwCl (wX G A (su S2 0 3 (va_cpy (S2 1 3) (S2 0 3) (0 : Int32).toNatClampNeg (0 : Int32).toNatClampNeg (12 : Int32).toNatClampNeg)) r) H := hP
  have hD : va_D A0 (wX G A (su S2 0 3 (va_cpy (S2 1 3) (S2 0 3) (0 : Int32).toNatClampNeg (0 : Int32).toNatClampNeg (12 : Int32).toNatClampNeg)) r) := hD
  generalize hn3 : (su S2 0 3 (va_cpy (S2 1 3) (S2 0 3) (0 : Int32).toNatClampNeg (0 : Int32).toNatClampNeg (12 : Int32).toNatClampNeg)) = S3 at hP hD
  refine lv_aload_n hx hb dX0_copyFrom_45 rfl (lv_at hl 1 rfl) ?_
  refine va_get (D := G.1) (ci := 0) (v := .ref (A (6 * 1 + 4))) (C := RX0) (T := TX0) (N := 12) hx hb hts hinX0 hown hK.1 hP (6 * 1) (wX_o G A S3 r 1 (by decide)) rfl 3 (by decide) (hts (.fieldLink RX0 21 "WireLoops$Chip" "strength" "[I") (List.mem_of_getElem? (i := 8) rfl)) (fun _ h9 => h9) rfl dX0_copyFrom_46 ?_
  refine lv_iconst (v := 0) hx hb dX0_copyFrom_49 (by decide) ?_
  refine lv_aload_n hx hb dX0_copyFrom_50 rfl (lv_at hl 0 rfl) ?_
  refine va_get (D := G.1) (ci := 0) (v := .ref (A (6 * 0 + 4))) (C := RX0) (T := TX0) (N := 12) hx hb hts hinX0 hown hK.1 hP (6 * 0) (wX_o G A S3 r 0 (by decide)) rfl 3 (by decide) (hts (.fieldLink RX0 21 "WireLoops$Chip" "strength" "[I") (List.mem_of_getElem? (i := 8) rfl)) (fun _ h9 => h9) rfl dX0_copyFrom_51 ?_
  refine lv_iconst (v := 0) hx hb dX0_copyFrom_54 (by decide) ?_
  refine lv_bipush (v := 12) hx hb dX0_copyFrom_55 (by decide) ?_
  refine va_copyi (D := G.1) hx hb (by rw [hml]; exact hl.1.symm) hown (hts (.methodLink RX0 37 arraycopyName) (List.mem_of_getElem? (i := 2) rfl)) (hts (.native arraycopyName) (List.mem_of_getElem? (i := 3) rfl)) (hts (.static arraycopyName) (List.mem_of_getElem? (i := 4) rfl)) (hts (.initialized "java/lang/System") (List.mem_of_getElem? (i := 5) rfl)) hK.1 hP hD hS (6 * 1 + 4) (6 * 0 + 4) 0 0 (wX_c G A S3 r 1 4 (by decide) (by decide) (by decide)) (wX_c G A S3 r 0 4 (by decide) (by decide) (by decide)) rfl rfl rfl (by decide) (by decide) (by decide) (by decide) (by decide) (fun _ _ => rfl) (Nat.le_of_ble_eq_true rfl) (Nat.le_of_ble_eq_true rfl) dX0_copyFrom_57 (fun H locs hP hD hS => ?_)
  rw [wX_sc G A S3 r 0 4 (by decide) (by decide) (by decide) _] at hP hD
  have hP : va_P G.1 vwCl (wX G A (su S3 0 4 (va_cpy (S3 1 4) (S3 0 4) (0 : Int32).toNatClampNeg (0 : Int32).toNatClampNeg (12 : Int32).toNatClampNeg)) r) H := hP
  have hD : va_D A0 (wX G A (su S3 0 4 (va_cpy (S3 1 4) (S3 0 4) (0 : Int32).toNatClampNeg (0 : Int32).toNatClampNeg (12 : Int32).toNatClampNeg)) r) := hD
  generalize hn4 : (su S3 0 4 (va_cpy (S3 1 4) (S3 0 4) (0 : Int32).toNatClampNeg (0 : Int32).toNatClampNeg (12 : Int32).toNatClampNeg)) = S4 at hP hD
  refine lv_aload_n hx hb dX0_copyFrom_60 rfl (lv_at hl 1 rfl) ?_
  refine va_get (D := G.1) (ci := 0) (v := .ref (A (6 * 1 + 5))) (C := RX0) (T := TX0) (N := 12) hx hb hts hinX0 hown hK.1 hP (6 * 1) (wX_o G A S4 r 1 (by decide)) rfl 4 (by decide) (hts (.fieldLink RX0 24 "WireLoops$Chip" "number" "[I") (List.mem_of_getElem? (i := 9) rfl)) (fun _ h9 => h9) rfl dX0_copyFrom_61 ?_
  refine lv_iconst (v := 0) hx hb dX0_copyFrom_64 (by decide) ?_
  refine lv_aload_n hx hb dX0_copyFrom_65 rfl (lv_at hl 0 rfl) ?_
  refine va_get (D := G.1) (ci := 0) (v := .ref (A (6 * 0 + 5))) (C := RX0) (T := TX0) (N := 12) hx hb hts hinX0 hown hK.1 hP (6 * 0) (wX_o G A S4 r 0 (by decide)) rfl 4 (by decide) (hts (.fieldLink RX0 24 "WireLoops$Chip" "number" "[I") (List.mem_of_getElem? (i := 9) rfl)) (fun _ h9 => h9) rfl dX0_copyFrom_66 ?_
  refine lv_iconst (v := 0) hx hb dX0_copyFrom_69 (by decide) ?_
  refine lv_bipush (v := 12) hx hb dX0_copyFrom_70 (by decide) ?_
  refine va_copyi (D := G.1) hx hb (by rw [hml]; exact hl.1.symm) hown (hts (.methodLink RX0 37 arraycopyName) (List.mem_of_getElem? (i := 2) rfl)) (hts (.native arraycopyName) (List.mem_of_getElem? (i := 3) rfl)) (hts (.static arraycopyName) (List.mem_of_getElem? (i := 4) rfl)) (hts (.initialized "java/lang/System") (List.mem_of_getElem? (i := 5) rfl)) hK.1 hP hD hS (6 * 1 + 5) (6 * 0 + 5) 0 0 (wX_c G A S4 r 1 5 (by decide) (by decide) (by decide)) (wX_c G A S4 r 0 5 (by decide) (by decide) (by decide)) rfl rfl rfl (by decide) (by decide) (by decide) (by decide) (by decide) (fun _ _ => rfl) (Nat.le_of_ble_eq_true rfl) (Nat.le_of_ble_eq_true rfl) dX0_copyFrom_72 (fun H locs hP hD hS => ?_)
  rw [wX_sc G A S4 r 0 5 (by decide) (by decide) (by decide) _] at hP hD
  have hP : va_P G.1 vwCl (wX G A (su S4 0 5 (va_cpy (S4 1 5) (S4 0 5) (0 : Int32).toNatClampNeg (0 : Int32).toNatClampNeg (12 : Int32).toNatClampNeg)) r) H := hP
  have hD : va_D A0 (wX G A (su S4 0 5 (va_cpy (S4 1 5) (S4 0 5) (0 : Int32).toNatClampNeg (0 : Int32).toNatClampNeg (12 : Int32).toNatClampNeg)) r) := hD
  generalize hn5 : (su S4 0 5 (va_cpy (S4 1 5) (S4 0 5) (0 : Int32).toNatClampNeg (0 : Int32).toNatClampNeg (12 : Int32).toNatClampNeg)) = S5 at hP hD
  refine lv_aload_n hx hb dX0_copyFrom_75 rfl (lv_at hl 0 rfl) ?_
  refine lv_aload_n hx hb dX0_copyFrom_76 rfl (lv_at hl 1 rfl) ?_
  refine va_get (D := G.1) (ci := 0) (v := .int (S5 1 0 0)) (C := RX0) (T := TX0) (N := 12) hx hb hts hinX0 hown hK.1 hP (6 * 1) (wX_o G A S5 r 1 (by decide)) rfl 5 (by decide) (hts (.fieldLink RX0 43 "WireLoops$Chip" "laid" "I") (List.mem_of_getElem? (i := 10) rfl)) (fun _ h9 => h9) rfl dX0_copyFrom_77 ?_
  refine va_put (D := G.1) (ci := 0) (v := .int (S5 1 0 0)) (ty := .int) (C := RX0) (T := TX0) (N := 12) hx hb hts hinX0 tyX0 tyX0_ok nmX0 hown hK.1 hP hD hS (6 * 0) (wX_o G A S5 r 0 (by decide)) rfl (5 + 0) (by decide) (hts (.fieldLink RX0 43 "WireLoops$Chip" "laid" "I") (List.mem_of_getElem? (i := 10) rfl)) (fun _ h9 => h9) rfl (by decide +kernel) rfl rfl (Nat.le_of_ble_eq_true rfl) dX0_copyFrom_80 (fun H locs hP hD hS => ?_)
  rw [wX_so G A S5 r 0 0 (by decide) (by decide) _] at hP hD
  have hP : va_P G.1 vwCl (wX G A (su S5 0 0 (upd (S5 0 0) 0 (S5 1 0 0))) r) H := hP
  have hD : va_D A0 (wX G A (su S5 0 0 (upd (S5 0 0) 0 (S5 1 0 0))) r) := hD
  generalize hn6 : (su S5 0 0 (upd (S5 0 0) 0 (S5 1 0 0))) = S6 at hP hD
  refine lv_aload_n hx hb dX0_copyFrom_83 rfl (lv_at hl 0 rfl) ?_
  refine lv_aload_n hx hb dX0_copyFrom_84 rfl (lv_at hl 1 rfl) ?_
  refine va_get (D := G.1) (ci := 0) (v := .int (S6 1 0 1)) (C := RX0) (T := TX0) (N := 12) hx hb hts hinX0 hown hK.1 hP (6 * 1) (wX_o G A S6 r 1 (by decide)) rfl 6 (by decide) (hts (.fieldLink RX0 33 "WireLoops$Chip" "width" "I") (List.mem_of_getElem? (i := 11) rfl)) (fun _ h9 => h9) rfl dX0_copyFrom_85 ?_
  refine va_put (D := G.1) (ci := 0) (v := .int (S6 1 0 1)) (ty := .int) (C := RX0) (T := TX0) (N := 12) hx hb hts hinX0 tyX0 tyX0_ok nmX0 hown hK.1 hP hD hS (6 * 0) (wX_o G A S6 r 0 (by decide)) rfl (5 + 1) (by decide) (hts (.fieldLink RX0 33 "WireLoops$Chip" "width" "I") (List.mem_of_getElem? (i := 11) rfl)) (fun _ h9 => h9) rfl (by decide +kernel) rfl rfl (Nat.le_of_ble_eq_true rfl) dX0_copyFrom_88 (fun H locs hP hD hS => ?_)
  rw [wX_so G A S6 r 0 1 (by decide) (by decide) _] at hP hD
  have hP : va_P G.1 vwCl (wX G A (su S6 0 0 (upd (S6 0 0) 1 (S6 1 0 1))) r) H := hP
  have hD : va_D A0 (wX G A (su S6 0 0 (upd (S6 0 0) 1 (S6 1 0 1))) r) := hD
  generalize hn7 : (su S6 0 0 (upd (S6 0 0) 1 (S6 1 0 1))) = S7 at hP hD
  refine lv_aload_n hx hb dX0_copyFrom_91 rfl (lv_at hl 0 rfl) ?_
  refine lv_aload_n hx hb dX0_copyFrom_92 rfl (lv_at hl 1 rfl) ?_
  refine va_get (D := G.1) (ci := 0) (v := .int (S7 1 0 2)) (C := RX0) (T := TX0) (N := 12) hx hb hts hinX0 hown hK.1 hP (6 * 1) (wX_o G A S7 r 1 (by decide)) rfl 7 (by decide) (hts (.fieldLink RX0 46 "WireLoops$Chip" "wear" "I") (List.mem_of_getElem? (i := 12) rfl)) (fun _ h9 => h9) rfl dX0_copyFrom_93 ?_
  refine va_put (D := G.1) (ci := 0) (v := .int (S7 1 0 2)) (ty := .int) (C := RX0) (T := TX0) (N := 12) hx hb hts hinX0 tyX0 tyX0_ok nmX0 hown hK.1 hP hD hS (6 * 0) (wX_o G A S7 r 0 (by decide)) rfl (5 + 2) (by decide) (hts (.fieldLink RX0 46 "WireLoops$Chip" "wear" "I") (List.mem_of_getElem? (i := 12) rfl)) (fun _ h9 => h9) rfl (by decide +kernel) rfl rfl (Nat.le_of_ble_eq_true rfl) dX0_copyFrom_96 (fun H locs hP hD hS => ?_)
  rw [wX_so G A S7 r 0 2 (by decide) (by decide) _] at hP hD
  have hP : va_P G.1 vwCl (wX G A (su S7 0 0 (upd (S7 0 0) 2 (S7 1 0 2))) r) H := hP
  have hD : va_D A0 (wX G A (su S7 0 0 (upd (S7 0 0) 2 (S7 1 0 2))) r) := hD
  generalize hn8 : (su S7 0 0 (upd (S7 0 0) 2 (S7 1 0 2))) = S8 at hP hD
  refine lv_aload_n hx hb dX0_copyFrom_99 rfl (lv_at hl 0 rfl) ?_
  refine lv_aload_n hx hb dX0_copyFrom_100 rfl (lv_at hl 1 rfl) ?_
  refine va_get (D := G.1) (ci := 0) (v := .int (S8 1 0 3)) (C := RX0) (T := TX0) (N := 12) hx hb hts hinX0 hown hK.1 hP (6 * 1) (wX_o G A S8 r 1 (by decide)) rfl 8 (by decide) (hts (.fieldLink RX0 49 "WireLoops$Chip" "toolsChanged" "I") (List.mem_of_getElem? (i := 13) rfl)) (fun _ h9 => h9) rfl dX0_copyFrom_101 ?_
  refine va_put (D := G.1) (ci := 0) (v := .int (S8 1 0 3)) (ty := .int) (C := RX0) (T := TX0) (N := 12) hx hb hts hinX0 tyX0 tyX0_ok nmX0 hown hK.1 hP hD hS (6 * 0) (wX_o G A S8 r 0 (by decide)) rfl (5 + 3) (by decide) (hts (.fieldLink RX0 49 "WireLoops$Chip" "toolsChanged" "I") (List.mem_of_getElem? (i := 13) rfl)) (fun _ h9 => h9) rfl (by decide +kernel) rfl rfl (Nat.le_of_ble_eq_true rfl) dX0_copyFrom_104 (fun H locs hP hD hS => ?_)
  rw [wX_so G A S8 r 0 3 (by decide) (by decide) _] at hP hD
  have hP : va_P G.1 vwCl (wX G A (su S8 0 0 (upd (S8 0 0) 3 (S8 1 0 3))) r) H := hP
  have hD : va_D A0 (wX G A (su S8 0 0 (upd (S8 0 0) 3 (S8 1 0 3))) r) := hD
  generalize hn9 : (su S8 0 0 (upd (S8 0 0) 3 (S8 1 0 3))) = S9 at hP hD
  refine lv_aload_n hx hb dX0_copyFrom_107 rfl (lv_at hl 0 rfl) ?_
  refine lv_aload_n hx hb dX0_copyFrom_108 rfl (lv_at hl 1 rfl) ?_
  refine va_get (D := G.1) (ci := 0) (v := .int (S9 1 0 4)) (C := RX0) (T := TX0) (N := 12) hx hb hts hinX0 hown hK.1 hP (6 * 1) (wX_o G A S9 r 1 (by decide)) rfl 9 (by decide) (hts (.fieldLink RX0 52 "WireLoops$Chip" "tailLost" "Z") (List.mem_of_getElem? (i := 14) rfl)) (fun _ h9 => h9) rfl dX0_copyFrom_109 ?_
  refine va_put (D := G.1) (ci := 0) (v := .int (S9 1 0 4)) (ty := .boolean) (C := RX0) (T := TX0) (N := 12) hx hb hts hinX0 tyX0 tyX0_ok nmX0 hown hK.1 hP hD hS (6 * 0) (wX_o G A S9 r 0 (by decide)) rfl (5 + 4) (by decide) (hts (.fieldLink RX0 52 "WireLoops$Chip" "tailLost" "Z") (List.mem_of_getElem? (i := 14) rfl)) (fun _ h9 => h9) rfl (by decide +kernel) (nb_of (by subst_vars; exact hbj)) (fb_of (by subst_vars; exact hbj)) (Nat.le_of_ble_eq_true rfl) dX0_copyFrom_112 (fun H locs hP hD hS => ?_)
  rw [wX_so G A S9 r 0 4 (by decide) (by decide) _] at hP hD
  have hP : va_P G.1 vwCl (wX G A (su S9 0 0 (upd (S9 0 0) 4 (S9 1 0 4))) r) H := hP
  have hD : va_D A0 (wX G A (su S9 0 0 (upd (S9 0 0) 4 (S9 1 0 4))) r) := hD
  generalize hn10 : (su S9 0 0 (upd (S9 0 0) 4 (S9 1 0 4))) = S10 at hP hD
  refine lv_aload_n hx hb dX0_copyFrom_115 rfl (lv_at hl 0 rfl) ?_
  refine lv_aload_n hx hb dX0_copyFrom_116 rfl (lv_at hl 1 rfl) ?_
  refine va_get (D := G.1) (ci := 0) (v := .int (S10 1 0 5)) (C := RX0) (T := TX0) (N := 12) hx hb hts hinX0 hown hK.1 hP (6 * 1) (wX_o G A S10 r 1 (by decide)) rfl 10 (by decide) (hts (.fieldLink RX0 56 "WireLoops$Chip" "tailsLost" "I") (List.mem_of_getElem? (i := 15) rfl)) (fun _ h9 => h9) rfl dX0_copyFrom_117 ?_
  refine va_put (D := G.1) (ci := 0) (v := .int (S10 1 0 5)) (ty := .int) (C := RX0) (T := TX0) (N := 12) hx hb hts hinX0 tyX0 tyX0_ok nmX0 hown hK.1 hP hD hS (6 * 0) (wX_o G A S10 r 0 (by decide)) rfl (5 + 5) (by decide) (hts (.fieldLink RX0 56 "WireLoops$Chip" "tailsLost" "I") (List.mem_of_getElem? (i := 15) rfl)) (fun _ h9 => h9) rfl (by decide +kernel) rfl rfl (Nat.le_of_ble_eq_true rfl) dX0_copyFrom_120 (fun H locs hP hD hS => ?_)
  rw [wX_so G A S10 r 0 5 (by decide) (by decide) _] at hP hD
  have hP : va_P G.1 vwCl (wX G A (su S10 0 0 (upd (S10 0 0) 5 (S10 1 0 5))) r) H := hP
  have hD : va_D A0 (wX G A (su S10 0 0 (upd (S10 0 0) 5 (S10 1 0 5))) r) := hD
  generalize hn11 : (su S10 0 0 (upd (S10 0 0) 5 (S10 1 0 5))) = S11 at hP hD
  refine lv_aload_n hx hb dX0_copyFrom_123 rfl (lv_at hl 0 rfl) ?_
  refine lv_aload_n hx hb dX0_copyFrom_124 rfl (lv_at hl 1 rfl) ?_
  refine va_get (D := G.1) (ci := 0) (v := .int (S11 1 0 6)) (C := RX0) (T := TX0) (N := 12) hx hb hts hinX0 hown hK.1 hP (6 * 1) (wX_o G A S11 r 1 (by decide)) rfl 11 (by decide) (hts (.fieldLink RX0 59 "WireLoops$Chip" "broken" "I") (List.mem_of_getElem? (i := 16) rfl)) (fun _ h9 => h9) rfl dX0_copyFrom_125 ?_
  refine va_put (D := G.1) (ci := 0) (v := .int (S11 1 0 6)) (ty := .int) (C := RX0) (T := TX0) (N := 12) hx hb hts hinX0 tyX0 tyX0_ok nmX0 hown hK.1 hP hD hS (6 * 0) (wX_o G A S11 r 0 (by decide)) rfl (5 + 6) (by decide) (hts (.fieldLink RX0 59 "WireLoops$Chip" "broken" "I") (List.mem_of_getElem? (i := 16) rfl)) (fun _ h9 => h9) rfl (by decide +kernel) rfl rfl (Nat.le_of_ble_eq_true rfl) dX0_copyFrom_128 (fun H locs hP hD hS => ?_)
  rw [wX_so G A S11 r 0 6 (by decide) (by decide) _] at hP hD
  have hP : va_P G.1 vwCl (wX G A (su S11 0 0 (upd (S11 0 0) 6 (S11 1 0 6))) r) H := hP
  have hD : va_D A0 (wX G A (su S11 0 0 (upd (S11 0 0) 6 (S11 1 0 6))) r) := hD
  generalize hn12 : (su S11 0 0 (upd (S11 0 0) 6 (S11 1 0 6))) = S12 at hP hD
  have he : eqX S12 (sc S 0 1) := by
    subst_vars
    refine ⟨?_, eqR.rfl'⟩
    intro x hx7
    rcases (show x = 0 ∨ x = 1 ∨ x = 2 ∨ x = 3 ∨ x = 4 ∨ x = 5 ∨ x = 6 by omega) with rfl | rfl | rfl | rfl | rfl | rfl | rfl
    · exact ⟨by intro k hk; rcases (show k = 0 ∨ k = 1 ∨ k = 2 ∨ k = 3 ∨ k = 4 ∨ k = 5 ∨ k = 6 by omega) with rfl | rfl | rfl | rfl | rfl | rfl | rfl <;> rfl, cpy16, cpy12, cpy12, cpy12, cpy12⟩
    · exact eqC.rfl'
    · exact eqC.rfl'
    · exact eqC.rfl'
    · exact eqC.rfl'
    · exact eqC.rfl'
    · exact eqC.rfl'
  have hP : va_P G.1 vwCl (wX G A (sc S 0 1) r) H := wX_ext he (fun _ _ => rfl) hP
  have hD : va_D A0 (wX G A (sc S 0 1) r) := wX_D hD
  exact endZ hx hb hr hlocks hP hD hS rfl dX0_copyFrom_131
def f_X0_copyFrom_0_2 (S : XS) : XS := sc S 0 2
theorem e_X0_copyFrom_0_2 (S : XS) : f_X0_copyFrom_0_2 S = sc S 0 2 := rfl
set_option maxHeartbeats 4000000 in
set_option maxRecDepth 100000 in
theorem c_X0_copyFrom_0_2 (l : Launch) (G : GG) (A : Nat → Nat) (S : XS) (r : Nat)  (hbj : S 2 0 4 = 0 ∨ S 2 0 4 = 1) : Mz l yX0_copyFrom wsX0_copyFrom ({ frames := 1, cells := 0, slots := 0, locals := 26 } : Room) G [.ref (A (6 * 0)), .ref (A (6 * 2))] (wX G A S r) (wX G A (f_X0_copyFrom_0_2 S) r) := by
  refine Mz.of (cc := cX0_copyFrom) (maxL := 2) (ret := none) (by decide) rfl (Nat.le_of_ble_eq_true rfl) ?_
  intro p e s m args below meth c A0 hA0 E hr hlocks hP hK hD hA hS ls hl
  have E : CallFix p m c cX0_copyFrom 2 s args wsX0_copyFrom RX0 := E
  have hx := E.1
  have hb := E.2.1
  have hml := E.2.2.1
  have hown := E.2.2.2.1
  have hts := E.2.2.2.2
  have hl : lv_has ls 2 [(0, .ref (A (6 * 0))), (1, .ref (A (6 * 2)))] := hl
  have hinX0 : ∀ w ∈ u_ws RX0 TX0 12, w ∈ wsX0_copyFrom := fun _ h => List.mem_cons_of_mem _ (List.mem_append_right _ h)
  refine lv_aload_n hx hb dX0_copyFrom_0 rfl (lv_at hl 1 rfl) ?_
  refine va_get (D := G.1) (ci := 0) (v := .ref (A (6 * 2 + 1))) (C := RX0) (T := TX0) (N := 12) hx hb hts hinX0 hown hK.1 hP (6 * 2) (wX_o G A S r 2 (by decide)) rfl 0 (by decide) (hts (.fieldLink RX0 9 "WireLoops$Chip" "leadX" "[I") (List.mem_of_getElem? (i := 1) rfl)) (fun _ h9 => h9) rfl dX0_copyFrom_1 ?_
  refine lv_iconst (v := 0) hx hb dX0_copyFrom_4 (by decide) ?_
  refine lv_aload_n hx hb dX0_copyFrom_5 rfl (lv_at hl 0 rfl) ?_
  refine va_get (D := G.1) (ci := 0) (v := .ref (A (6 * 0 + 1))) (C := RX0) (T := TX0) (N := 12) hx hb hts hinX0 hown hK.1 hP (6 * 0) (wX_o G A S r 0 (by decide)) rfl 0 (by decide) (hts (.fieldLink RX0 9 "WireLoops$Chip" "leadX" "[I") (List.mem_of_getElem? (i := 1) rfl)) (fun _ h9 => h9) rfl dX0_copyFrom_6 ?_
  refine lv_iconst (v := 0) hx hb dX0_copyFrom_9 (by decide) ?_
  refine lv_bipush (v := 16) hx hb dX0_copyFrom_10 (by decide) ?_
  refine va_copyi (D := G.1) hx hb (by rw [hml]; exact hl.1.symm) hown (hts (.methodLink RX0 37 arraycopyName) (List.mem_of_getElem? (i := 2) rfl)) (hts (.native arraycopyName) (List.mem_of_getElem? (i := 3) rfl)) (hts (.static arraycopyName) (List.mem_of_getElem? (i := 4) rfl)) (hts (.initialized "java/lang/System") (List.mem_of_getElem? (i := 5) rfl)) hK.1 hP hD hS (6 * 2 + 1) (6 * 0 + 1) 0 0 (wX_1 G A S r 2 (by decide)) (wX_1 G A S r 0 (by decide)) rfl rfl rfl (by decide) (by decide) (by decide) (by decide) (by decide) (fun _ _ => rfl) (Nat.le_of_ble_eq_true rfl) (Nat.le_of_ble_eq_true rfl) dX0_copyFrom_12 (fun H locs hP hD hS => ?_)
  rw [wX_s1 G A S r 0 (by decide) _] at hP hD
  have hP : va_P G.1 vwCl (wX G A (su S 0 1 (va_cpy (S 2 1) (S 0 1) (0 : Int32).toNatClampNeg (0 : Int32).toNatClampNeg (16 : Int32).toNatClampNeg)) r) H := hP
  have hD : va_D A0 (wX G A (su S 0 1 (va_cpy (S 2 1) (S 0 1) (0 : Int32).toNatClampNeg (0 : Int32).toNatClampNeg (16 : Int32).toNatClampNeg)) r) := hD
  generalize hn1 : (su S 0 1 (va_cpy (S 2 1) (S 0 1) (0 : Int32).toNatClampNeg (0 : Int32).toNatClampNeg (16 : Int32).toNatClampNeg)) = S1 at hP hD
  refine lv_aload_n hx hb dX0_copyFrom_15 rfl (lv_at hl 1 rfl) ?_
  refine va_get (D := G.1) (ci := 0) (v := .ref (A (6 * 2 + 2))) (C := RX0) (T := TX0) (N := 12) hx hb hts hinX0 hown hK.1 hP (6 * 2) (wX_o G A S1 r 2 (by decide)) rfl 1 (by decide) (hts (.fieldLink RX0 15 "WireLoops$Chip" "leadOf" "[I") (List.mem_of_getElem? (i := 6) rfl)) (fun _ h9 => h9) rfl dX0_copyFrom_16 ?_
  refine lv_iconst (v := 0) hx hb dX0_copyFrom_19 (by decide) ?_
  refine lv_aload_n hx hb dX0_copyFrom_20 rfl (lv_at hl 0 rfl) ?_
  refine va_get (D := G.1) (ci := 0) (v := .ref (A (6 * 0 + 2))) (C := RX0) (T := TX0) (N := 12) hx hb hts hinX0 hown hK.1 hP (6 * 0) (wX_o G A S1 r 0 (by decide)) rfl 1 (by decide) (hts (.fieldLink RX0 15 "WireLoops$Chip" "leadOf" "[I") (List.mem_of_getElem? (i := 6) rfl)) (fun _ h9 => h9) rfl dX0_copyFrom_21 ?_
  refine lv_iconst (v := 0) hx hb dX0_copyFrom_24 (by decide) ?_
  refine lv_bipush (v := 12) hx hb dX0_copyFrom_25 (by decide) ?_
  refine va_copyi (D := G.1) hx hb (by rw [hml]; exact hl.1.symm) hown (hts (.methodLink RX0 37 arraycopyName) (List.mem_of_getElem? (i := 2) rfl)) (hts (.native arraycopyName) (List.mem_of_getElem? (i := 3) rfl)) (hts (.static arraycopyName) (List.mem_of_getElem? (i := 4) rfl)) (hts (.initialized "java/lang/System") (List.mem_of_getElem? (i := 5) rfl)) hK.1 hP hD hS (6 * 2 + 2) (6 * 0 + 2) 0 0 (wX_c G A S1 r 2 2 (by decide) (by decide) (by decide)) (wX_c G A S1 r 0 2 (by decide) (by decide) (by decide)) rfl rfl rfl (by decide) (by decide) (by decide) (by decide) (by decide) (fun _ _ => rfl) (Nat.le_of_ble_eq_true rfl) (Nat.le_of_ble_eq_true rfl) dX0_copyFrom_27 (fun H locs hP hD hS => ?_)
  rw [wX_sc G A S1 r 0 2 (by decide) (by decide) (by decide) _] at hP hD
  have hP : va_P G.1 vwCl (wX G A (su S1 0 2 (va_cpy (S1 2 2) (S1 0 2) (0 : Int32).toNatClampNeg (0 : Int32).toNatClampNeg (12 : Int32).toNatClampNeg)) r) H := hP
  have hD : va_D A0 (wX G A (su S1 0 2 (va_cpy (S1 2 2) (S1 0 2) (0 : Int32).toNatClampNeg (0 : Int32).toNatClampNeg (12 : Int32).toNatClampNeg)) r) := hD
  generalize hn2 : (su S1 0 2 (va_cpy (S1 2 2) (S1 0 2) (0 : Int32).toNatClampNeg (0 : Int32).toNatClampNeg (12 : Int32).toNatClampNeg)) = S2 at hP hD
  refine lv_aload_n hx hb dX0_copyFrom_30 rfl (lv_at hl 1 rfl) ?_
  refine va_get (D := G.1) (ci := 0) (v := .ref (A (6 * 2 + 3))) (C := RX0) (T := TX0) (N := 12) hx hb hts hinX0 hown hK.1 hP (6 * 2) (wX_o G A S2 r 2 (by decide)) rfl 2 (by decide) (hts (.fieldLink RX0 18 "WireLoops$Chip" "height" "[I") (List.mem_of_getElem? (i := 7) rfl)) (fun _ h9 => h9) rfl dX0_copyFrom_31 ?_
  refine lv_iconst (v := 0) hx hb dX0_copyFrom_34 (by decide) ?_
  refine lv_aload_n hx hb dX0_copyFrom_35 rfl (lv_at hl 0 rfl) ?_
  refine va_get (D := G.1) (ci := 0) (v := .ref (A (6 * 0 + 3))) (C := RX0) (T := TX0) (N := 12) hx hb hts hinX0 hown hK.1 hP (6 * 0) (wX_o G A S2 r 0 (by decide)) rfl 2 (by decide) (hts (.fieldLink RX0 18 "WireLoops$Chip" "height" "[I") (List.mem_of_getElem? (i := 7) rfl)) (fun _ h9 => h9) rfl dX0_copyFrom_36 ?_
  refine lv_iconst (v := 0) hx hb dX0_copyFrom_39 (by decide) ?_
  refine lv_bipush (v := 12) hx hb dX0_copyFrom_40 (by decide) ?_
  refine va_copyi (D := G.1) hx hb (by rw [hml]; exact hl.1.symm) hown (hts (.methodLink RX0 37 arraycopyName) (List.mem_of_getElem? (i := 2) rfl)) (hts (.native arraycopyName) (List.mem_of_getElem? (i := 3) rfl)) (hts (.static arraycopyName) (List.mem_of_getElem? (i := 4) rfl)) (hts (.initialized "java/lang/System") (List.mem_of_getElem? (i := 5) rfl)) hK.1 hP hD hS (6 * 2 + 3) (6 * 0 + 3) 0 0 (wX_c G A S2 r 2 3 (by decide) (by decide) (by decide)) (wX_c G A S2 r 0 3 (by decide) (by decide) (by decide)) rfl rfl rfl (by decide) (by decide) (by decide) (by decide) (by decide) (fun _ _ => rfl) (Nat.le_of_ble_eq_true rfl) (Nat.le_of_ble_eq_true rfl) dX0_copyFrom_42 (fun H locs hP hD hS => ?_)
  rw [wX_sc G A S2 r 0 3 (by decide) (by decide) (by decide) _] at hP hD
  have hP : va_P G.1 vwCl (wX G A (su S2 0 3 (va_cpy (S2 2 3) (S2 0 3) (0 : Int32).toNatClampNeg (0 : Int32).toNatClampNeg (12 : Int32).toNatClampNeg)) r) H := hP
  have hD : va_D A0 (wX G A (su S2 0 3 (va_cpy (S2 2 3) (S2 0 3) (0 : Int32).toNatClampNeg (0 : Int32).toNatClampNeg (12 : Int32).toNatClampNeg)) r) := hD
  generalize hn3 : (su S2 0 3 (va_cpy (S2 2 3) (S2 0 3) (0 : Int32).toNatClampNeg (0 : Int32).toNatClampNeg (12 : Int32).toNatClampNeg)) = S3 at hP hD
  refine lv_aload_n hx hb dX0_copyFrom_45 rfl (lv_at hl 1 rfl) ?_
  refine va_get (D := G.1) (ci := 0) (v := .ref (A (6 * 2 + 4))) (C := RX0) (T := TX0) (N := 12) hx hb hts hinX0 hown hK.1 hP (6 * 2) (wX_o G A S3 r 2 (by decide)) rfl 3 (by decide) (hts (.fieldLink RX0 21 "WireLoops$Chip" "strength" "[I") (List.mem_of_getElem? (i := 8) rfl)) (fun _ h9 => h9) rfl dX0_copyFrom_46 ?_
  refine lv_iconst (v := 0) hx hb dX0_copyFrom_49 (by decide) ?_
  refine lv_aload_n hx hb dX0_copyFrom_50 rfl (lv_at hl 0 rfl) ?_
  refine va_get (D := G.1) (ci := 0) (v := .ref (A (6 * 0 + 4))) (C := RX0) (T := TX0) (N := 12) hx hb hts hinX0 hown hK.1 hP (6 * 0) (wX_o G A S3 r 0 (by decide)) rfl 3 (by decide) (hts (.fieldLink RX0 21 "WireLoops$Chip" "strength" "[I") (List.mem_of_getElem? (i := 8) rfl)) (fun _ h9 => h9) rfl dX0_copyFrom_51 ?_
  refine lv_iconst (v := 0) hx hb dX0_copyFrom_54 (by decide) ?_
  refine lv_bipush (v := 12) hx hb dX0_copyFrom_55 (by decide) ?_
  refine va_copyi (D := G.1) hx hb (by rw [hml]; exact hl.1.symm) hown (hts (.methodLink RX0 37 arraycopyName) (List.mem_of_getElem? (i := 2) rfl)) (hts (.native arraycopyName) (List.mem_of_getElem? (i := 3) rfl)) (hts (.static arraycopyName) (List.mem_of_getElem? (i := 4) rfl)) (hts (.initialized "java/lang/System") (List.mem_of_getElem? (i := 5) rfl)) hK.1 hP hD hS (6 * 2 + 4) (6 * 0 + 4) 0 0 (wX_c G A S3 r 2 4 (by decide) (by decide) (by decide)) (wX_c G A S3 r 0 4 (by decide) (by decide) (by decide)) rfl rfl rfl (by decide) (by decide) (by decide) (by decide) (by decide) (fun _ _ => rfl) (Nat.le_of_ble_eq_true rfl) (Nat.le_of_ble_eq_true rfl) dX0_copyFrom_57 (fun H locs hP hD hS => ?_)
  rw [wX_sc G A S3 r 0 4 (by decide) (by decide) (by decide) _] at hP hD
  have hP : va_P G.1 vwCl (wX G A (su S3 0 4 (va_cpy (S3 2 4) (S3 0 4) (0 : Int32).toNatClampNeg (0 : Int32).toNatClampNeg (12 : Int32).toNatClampNeg)) r) H := hP
  have hD : va_D A0 (wX G A (su S3 0 4 (va_cpy (S3 2 4) (S3 0 4) (0 : Int32).toNatClampNeg (0 : Int32).toNatClampNeg (12 : Int32).toNatClampNeg)) r) := hD
  generalize hn4 : (su S3 0 4 (va_cpy (S3 2 4) (S3 0 4) (0 : Int32).toNatClampNeg (0 : Int32).toNatClampNeg (12 : Int32).toNatClampNeg)) = S4 at hP hD
  refine lv_aload_n hx hb dX0_copyFrom_60 rfl (lv_at hl 1 rfl) ?_
  refine va_get (D := G.1) (ci := 0) (v := .ref (A (6 * 2 + 5))) (C := RX0) (T := TX0) (N := 12) hx hb hts hinX0 hown hK.1 hP (6 * 2) (wX_o G A S4 r 2 (by decide)) rfl 4 (by decide) (hts (.fieldLink RX0 24 "WireLoops$Chip" "number" "[I") (List.mem_of_getElem? (i := 9) rfl)) (fun _ h9 => h9) rfl dX0_copyFrom_61 ?_
  refine lv_iconst (v := 0) hx hb dX0_copyFrom_64 (by decide) ?_
  refine lv_aload_n hx hb dX0_copyFrom_65 rfl (lv_at hl 0 rfl) ?_
  refine va_get (D := G.1) (ci := 0) (v := .ref (A (6 * 0 + 5))) (C := RX0) (T := TX0) (N := 12) hx hb hts hinX0 hown hK.1 hP (6 * 0) (wX_o G A S4 r 0 (by decide)) rfl 4 (by decide) (hts (.fieldLink RX0 24 "WireLoops$Chip" "number" "[I") (List.mem_of_getElem? (i := 9) rfl)) (fun _ h9 => h9) rfl dX0_copyFrom_66 ?_
  refine lv_iconst (v := 0) hx hb dX0_copyFrom_69 (by decide) ?_
  refine lv_bipush (v := 12) hx hb dX0_copyFrom_70 (by decide) ?_
  refine va_copyi (D := G.1) hx hb (by rw [hml]; exact hl.1.symm) hown (hts (.methodLink RX0 37 arraycopyName) (List.mem_of_getElem? (i := 2) rfl)) (hts (.native arraycopyName) (List.mem_of_getElem? (i := 3) rfl)) (hts (.static arraycopyName) (List.mem_of_getElem? (i := 4) rfl)) (hts (.initialized "java/lang/System") (List.mem_of_getElem? (i := 5) rfl)) hK.1 hP hD hS (6 * 2 + 5) (6 * 0 + 5) 0 0 (wX_c G A S4 r 2 5 (by decide) (by decide) (by decide)) (wX_c G A S4 r 0 5 (by decide) (by decide) (by decide)) rfl rfl rfl (by decide) (by decide) (by decide) (by decide) (by decide) (fun _ _ => rfl) (Nat.le_of_ble_eq_true rfl) (Nat.le_of_ble_eq_true rfl) dX0_copyFrom_72 (fun H locs hP hD hS => ?_)
  rw [wX_sc G A S4 r 0 5 (by decide) (by decide) (by decide) _] at hP hD
  have hP : va_P G.1 vwCl (wX G A (su S4 0 5 (va_cpy (S4 2 5) (S4 0 5) (0 : Int32).toNatClampNeg (0 : Int32).toNatClampNeg (12 : Int32).toNatClampNeg)) r) H := hP
  have hD : va_D A0 (wX G A (su S4 0 5 (va_cpy (S4 2 5) (S4 0 5) (0 : Int32).toNatClampNeg (0 : Int32).toNatClampNeg (12 : Int32).toNatClampNeg)) r) := hD
  generalize hn5 : (su S4 0 5 (va_cpy (S4 2 5) (S4 0 5) (0 : Int32).toNatClampNeg (0 : Int32).toNatClampNeg (12 : Int32).toNatClampNeg)) = S5 at hP hD
  refine lv_aload_n hx hb dX0_copyFrom_75 rfl (lv_at hl 0 rfl) ?_
  refine lv_aload_n hx hb dX0_copyFrom_76 rfl (lv_at hl 1 rfl) ?_
  refine va_get (D := G.1) (ci := 0) (v := .int (S5 2 0 0)) (C := RX0) (T := TX0) (N := 12) hx hb hts hinX0 hown hK.1 hP (6 * 2) (wX_o G A S5 r 2 (by decide)) rfl 5 (by decide) (hts (.fieldLink RX0 43 "WireLoops$Chip" "laid" "I") (List.mem_of_getElem? (i := 10) rfl)) (fun _ h9 => h9) rfl dX0_copyFrom_77 ?_
  refine va_put (D := G.1) (ci := 0) (v := .int (S5 2 0 0)) (ty := .int) (C := RX0) (T := TX0) (N := 12) hx hb hts hinX0 tyX0 tyX0_ok nmX0 hown hK.1 hP hD hS (6 * 0) (wX_o G A S5 r 0 (by decide)) rfl (5 + 0) (by decide) (hts (.fieldLink RX0 43 "WireLoops$Chip" "laid" "I") (List.mem_of_getElem? (i := 10) rfl)) (fun _ h9 => h9) rfl (by decide +kernel) rfl rfl (Nat.le_of_ble_eq_true rfl) dX0_copyFrom_80 (fun H locs hP hD hS => ?_)
  rw [wX_so G A S5 r 0 0 (by decide) (by decide) _] at hP hD
  have hP : va_P G.1 vwCl (wX G A (su S5 0 0 (upd (S5 0 0) 0 (S5 2 0 0))) r) H := hP
  have hD : va_D A0 (wX G A (su S5 0 0 (upd (S5 0 0) 0 (S5 2 0 0))) r) := hD
  generalize hn6 : (su S5 0 0 (upd (S5 0 0) 0 (S5 2 0 0))) = S6 at hP hD
  refine lv_aload_n hx hb dX0_copyFrom_83 rfl (lv_at hl 0 rfl) ?_
  refine lv_aload_n hx hb dX0_copyFrom_84 rfl (lv_at hl 1 rfl) ?_
  refine va_get (D := G.1) (ci := 0) (v := .int (S6 2 0 1)) (C := RX0) (T := TX0) (N := 12) hx hb hts hinX0 hown hK.1 hP (6 * 2) (wX_o G A S6 r 2 (by decide)) rfl 6 (by decide) (hts (.fieldLink RX0 33 "WireLoops$Chip" "width" "I") (List.mem_of_getElem? (i := 11) rfl)) (fun _ h9 => h9) rfl dX0_copyFrom_85 ?_
  refine va_put (D := G.1) (ci := 0) (v := .int (S6 2 0 1)) (ty := .int) (C := RX0) (T := TX0) (N := 12) hx hb hts hinX0 tyX0 tyX0_ok nmX0 hown hK.1 hP hD hS (6 * 0) (wX_o G A S6 r 0 (by decide)) rfl (5 + 1) (by decide) (hts (.fieldLink RX0 33 "WireLoops$Chip" "width" "I") (List.mem_of_getElem? (i := 11) rfl)) (fun _ h9 => h9) rfl (by decide +kernel) rfl rfl (Nat.le_of_ble_eq_true rfl) dX0_copyFrom_88 (fun H locs hP hD hS => ?_)
  rw [wX_so G A S6 r 0 1 (by decide) (by decide) _] at hP hD
  have hP : va_P G.1 vwCl (wX G A (su S6 0 0 (upd (S6 0 0) 1 (S6 2 0 1))) r) H := hP
  have hD : va_D A0 (wX G A (su S6 0 0 (upd (S6 0 0) 1 (S6 2 0 1))) r) := hD
  generalize hn7 : (su S6 0 0 (upd (S6 0 0) 1 (S6 2 0 1))) = S7 at hP hD
  refine lv_aload_n hx hb dX0_copyFrom_91 rfl (lv_at hl 0 rfl) ?_
  refine lv_aload_n hx hb dX0_copyFrom_92 rfl (lv_at hl 1 rfl) ?_
  refine va_get (D := G.1) (ci := 0) (v := .int (S7 2 0 2)) (C := RX0) (T := TX0) (N := 12) hx hb hts hinX0 hown hK.1 hP (6 * 2) (wX_o G A S7 r 2 (by decide)) rfl 7 (by decide) (hts (.fieldLink RX0 46 "WireLoops$Chip" "wear" "I") (List.mem_of_getElem? (i := 12) rfl)) (fun _ h9 => h9) rfl dX0_copyFrom_93 ?_
  refine va_put (D := G.1) (ci := 0) (v := .int (S7 2 0 2)) (ty := .int) (C := RX0) (T := TX0) (N := 12) hx hb hts hinX0 tyX0 tyX0_ok nmX0 hown hK.1 hP hD hS (6 * 0) (wX_o G A S7 r 0 (by decide)) rfl (5 + 2) (by decide) (hts (.fieldLink RX0 46 "WireLoops$Chip" "wear" "I") (List.mem_of_getElem? (i := 12) rfl)) (fun _ h9 => h9) rfl (by decide +kernel) rfl rfl (Nat.le_of_ble_eq_true rfl) dX0_copyFrom_96 (fun H locs hP hD hS => ?_)
  rw [wX_so G A S7 r 0 2 (by decide) (by decide) _] at hP hD
  have hP : va_P G.1 vwCl (wX G A (su S7 0 0 (upd (S7 0 0) 2 (S7 2 0 2))) r) H := hP
  have hD : va_D A0 (wX G A (su S7 0 0 (upd (S7 0 0) 2 (S7 2 0 2))) r) := hD
  generalize hn8 : (su S7 0 0 (upd (S7 0 0) 2 (S7 2 0 2))) = S8 at hP hD
  refine lv_aload_n hx hb dX0_copyFrom_99 rfl (lv_at hl 0 rfl) ?_
  refine lv_aload_n hx hb dX0_copyFrom_100 rfl (lv_at hl 1 rfl) ?_
  refine va_get (D := G.1) (ci := 0) (v := .int (S8 2 0 3)) (C := RX0) (T := TX0) (N := 12) hx hb hts hinX0 hown hK.1 hP (6 * 2) (wX_o G A S8 r 2 (by decide)) rfl 8 (by decide) (hts (.fieldLink RX0 49 "WireLoops$Chip" "toolsChanged" "I") (List.mem_of_getElem? (i := 13) rfl)) (fun _ h9 => h9) rfl dX0_copyFrom_101 ?_
  refine va_put (D := G.1) (ci := 0) (v := .int (S8 2 0 3)) (ty := .int) (C := RX0) (T := TX0) (N := 12) hx hb hts hinX0 tyX0 tyX0_ok nmX0 hown hK.1 hP hD hS (6 * 0) (wX_o G A S8 r 0 (by decide)) rfl (5 + 3) (by decide) (hts (.fieldLink RX0 49 "WireLoops$Chip" "toolsChanged" "I") (List.mem_of_getElem? (i := 13) rfl)) (fun _ h9 => h9) rfl (by decide +kernel) rfl rfl (Nat.le_of_ble_eq_true rfl) dX0_copyFrom_104 (fun H locs hP hD hS => ?_)
  rw [wX_so G A S8 r 0 3 (by decide) (by decide) _] at hP hD
  have hP : va_P G.1 vwCl (wX G A (su S8 0 0 (upd (S8 0 0) 3 (S8 2 0 3))) r) H := hP
  have hD : va_D A0 (wX G A (su S8 0 0 (upd (S8 0 0) 3 (S8 2 0 3))) r) := hD
  generalize hn9 : (su S8 0 0 (upd (S8 0 0) 3 (S8 2 0 3))) = S9 at hP hD
  refine lv_aload_n hx hb dX0_copyFrom_107 rfl (lv_at hl 0 rfl) ?_
  refine lv_aload_n hx hb dX0_copyFrom_108 rfl (lv_at hl 1 rfl) ?_
  refine va_get (D := G.1) (ci := 0) (v := .int (S9 2 0 4)) (C := RX0) (T := TX0) (N := 12) hx hb hts hinX0 hown hK.1 hP (6 * 2) (wX_o G A S9 r 2 (by decide)) rfl 9 (by decide) (hts (.fieldLink RX0 52 "WireLoops$Chip" "tailLost" "Z") (List.mem_of_getElem? (i := 14) rfl)) (fun _ h9 => h9) rfl dX0_copyFrom_109 ?_
  refine va_put (D := G.1) (ci := 0) (v := .int (S9 2 0 4)) (ty := .boolean) (C := RX0) (T := TX0) (N := 12) hx hb hts hinX0 tyX0 tyX0_ok nmX0 hown hK.1 hP hD hS (6 * 0) (wX_o G A S9 r 0 (by decide)) rfl (5 + 4) (by decide) (hts (.fieldLink RX0 52 "WireLoops$Chip" "tailLost" "Z") (List.mem_of_getElem? (i := 14) rfl)) (fun _ h9 => h9) rfl (by decide +kernel) (nb_of (by subst_vars; exact hbj)) (fb_of (by subst_vars; exact hbj)) (Nat.le_of_ble_eq_true rfl) dX0_copyFrom_112 (fun H locs hP hD hS => ?_)
  rw [wX_so G A S9 r 0 4 (by decide) (by decide) _] at hP hD
  have hP : va_P G.1 vwCl (wX G A (su S9 0 0 (upd (S9 0 0) 4 (S9 2 0 4))) r) H := hP
  have hD : va_D A0 (wX G A (su S9 0 0 (upd (S9 0 0) 4 (S9 2 0 4))) r) := hD
  generalize hn10 : (su S9 0 0 (upd (S9 0 0) 4 (S9 2 0 4))) = S10 at hP hD
  refine lv_aload_n hx hb dX0_copyFrom_115 rfl (lv_at hl 0 rfl) ?_
  refine lv_aload_n hx hb dX0_copyFrom_116 rfl (lv_at hl 1 rfl) ?_
  refine va_get (D := G.1) (ci := 0) (v := .int (S10 2 0 5)) (C := RX0) (T := TX0) (N := 12) hx hb hts hinX0 hown hK.1 hP (6 * 2) (wX_o G A S10 r 2 (by decide)) rfl 10 (by decide) (hts (.fieldLink RX0 56 "WireLoops$Chip" "tailsLost" "I") (List.mem_of_getElem? (i := 15) rfl)) (fun _ h9 => h9) rfl dX0_copyFrom_117 ?_
  refine va_put (D := G.1) (ci := 0) (v := .int (S10 2 0 5)) (ty := .int) (C := RX0) (T := TX0) (N := 12) hx hb hts hinX0 tyX0 tyX0_ok nmX0 hown hK.1 hP hD hS (6 * 0) (wX_o G A S10 r 0 (by decide)) rfl (5 + 5) (by decide) (hts (.fieldLink RX0 56 "WireLoops$Chip" "tailsLost" "I") (List.mem_of_getElem? (i := 15) rfl)) (fun _ h9 => h9) rfl (by decide +kernel) rfl rfl (Nat.le_of_ble_eq_true rfl) dX0_copyFrom_120 (fun H locs hP hD hS => ?_)
  rw [wX_so G A S10 r 0 5 (by decide) (by decide) _] at hP hD
  have hP : va_P G.1 vwCl (wX G A (su S10 0 0 (upd (S10 0 0) 5 (S10 2 0 5))) r) H := hP
  have hD : va_D A0 (wX G A (su S10 0 0 (upd (S10 0 0) 5 (S10 2 0 5))) r) := hD
  generalize hn11 : (su S10 0 0 (upd (S10 0 0) 5 (S10 2 0 5))) = S11 at hP hD
  refine lv_aload_n hx hb dX0_copyFrom_123 rfl (lv_at hl 0 rfl) ?_
  refine lv_aload_n hx hb dX0_copyFrom_124 rfl (lv_at hl 1 rfl) ?_
  refine va_get (D := G.1) (ci := 0) (v := .int (S11 2 0 6)) (C := RX0) (T := TX0) (N := 12) hx hb hts hinX0 hown hK.1 hP (6 * 2) (wX_o G A S11 r 2 (by decide)) rfl 11 (by decide) (hts (.fieldLink RX0 59 "WireLoops$Chip" "broken" "I") (List.mem_of_getElem? (i := 16) rfl)) (fun _ h9 => h9) rfl dX0_copyFrom_125 ?_
  refine va_put (D := G.1) (ci := 0) (v := .int (S11 2 0 6)) (ty := .int) (C := RX0) (T := TX0) (N := 12) hx hb hts hinX0 tyX0 tyX0_ok nmX0 hown hK.1 hP hD hS (6 * 0) (wX_o G A S11 r 0 (by decide)) rfl (5 + 6) (by decide) (hts (.fieldLink RX0 59 "WireLoops$Chip" "broken" "I") (List.mem_of_getElem? (i := 16) rfl)) (fun _ h9 => h9) rfl (by decide +kernel) rfl rfl (Nat.le_of_ble_eq_true rfl) dX0_copyFrom_128 (fun H locs hP hD hS => ?_)
  rw [wX_so G A S11 r 0 6 (by decide) (by decide) _] at hP hD
  have hP : va_P G.1 vwCl (wX G A (su S11 0 0 (upd (S11 0 0) 6 (S11 2 0 6))) r) H := hP
  have hD : va_D A0 (wX G A (su S11 0 0 (upd (S11 0 0) 6 (S11 2 0 6))) r) := hD
  generalize hn12 : (su S11 0 0 (upd (S11 0 0) 6 (S11 2 0 6))) = S12 at hP hD
  have he : eqX S12 (sc S 0 2) := by
    subst_vars
    refine ⟨?_, eqR.rfl'⟩
    intro x hx7
    rcases (show x = 0 ∨ x = 1 ∨ x = 2 ∨ x = 3 ∨ x = 4 ∨ x = 5 ∨ x = 6 by omega) with rfl | rfl | rfl | rfl | rfl | rfl | rfl
    · exact ⟨by intro k hk; rcases (show k = 0 ∨ k = 1 ∨ k = 2 ∨ k = 3 ∨ k = 4 ∨ k = 5 ∨ k = 6 by omega) with rfl | rfl | rfl | rfl | rfl | rfl | rfl <;> rfl, cpy16, cpy12, cpy12, cpy12, cpy12⟩
    · exact eqC.rfl'
    · exact eqC.rfl'
    · exact eqC.rfl'
    · exact eqC.rfl'
    · exact eqC.rfl'
    · exact eqC.rfl'
  have hP : va_P G.1 vwCl (wX G A (sc S 0 2) r) H := wX_ext he (fun _ _ => rfl) hP
  have hD : va_D A0 (wX G A (sc S 0 2) r) := wX_D hD
  exact endZ hx hb hr hlocks hP hD hS rfl dX0_copyFrom_131
def f_X0_copyFrom_1_0 (S : XS) : XS := sc S 1 0
theorem e_X0_copyFrom_1_0 (S : XS) : f_X0_copyFrom_1_0 S = sc S 1 0 := rfl
set_option maxHeartbeats 4000000 in
set_option maxRecDepth 100000 in
theorem c_X0_copyFrom_1_0 (l : Launch) (G : GG) (A : Nat → Nat) (S : XS) (r : Nat)  (hbj : S 0 0 4 = 0 ∨ S 0 0 4 = 1) : Mz l yX0_copyFrom wsX0_copyFrom ({ frames := 1, cells := 0, slots := 0, locals := 26 } : Room) G [.ref (A (6 * 1)), .ref (A (6 * 0))] (wX G A S r) (wX G A (f_X0_copyFrom_1_0 S) r) := by
  refine Mz.of (cc := cX0_copyFrom) (maxL := 2) (ret := none) (by decide) rfl (Nat.le_of_ble_eq_true rfl) ?_
  intro p e s m args below meth c A0 hA0 E hr hlocks hP hK hD hA hS ls hl
  have E : CallFix p m c cX0_copyFrom 2 s args wsX0_copyFrom RX0 := E
  have hx := E.1
  have hb := E.2.1
  have hml := E.2.2.1
  have hown := E.2.2.2.1
  have hts := E.2.2.2.2
  have hl : lv_has ls 2 [(0, .ref (A (6 * 1))), (1, .ref (A (6 * 0)))] := hl
  have hinX0 : ∀ w ∈ u_ws RX0 TX0 12, w ∈ wsX0_copyFrom := fun _ h => List.mem_cons_of_mem _ (List.mem_append_right _ h)
  refine lv_aload_n hx hb dX0_copyFrom_0 rfl (lv_at hl 1 rfl) ?_
  refine va_get (D := G.1) (ci := 0) (v := .ref (A (6 * 0 + 1))) (C := RX0) (T := TX0) (N := 12) hx hb hts hinX0 hown hK.1 hP (6 * 0) (wX_o G A S r 0 (by decide)) rfl 0 (by decide) (hts (.fieldLink RX0 9 "WireLoops$Chip" "leadX" "[I") (List.mem_of_getElem? (i := 1) rfl)) (fun _ h9 => h9) rfl dX0_copyFrom_1 ?_
  refine lv_iconst (v := 0) hx hb dX0_copyFrom_4 (by decide) ?_
  refine lv_aload_n hx hb dX0_copyFrom_5 rfl (lv_at hl 0 rfl) ?_
  refine va_get (D := G.1) (ci := 0) (v := .ref (A (6 * 1 + 1))) (C := RX0) (T := TX0) (N := 12) hx hb hts hinX0 hown hK.1 hP (6 * 1) (wX_o G A S r 1 (by decide)) rfl 0 (by decide) (hts (.fieldLink RX0 9 "WireLoops$Chip" "leadX" "[I") (List.mem_of_getElem? (i := 1) rfl)) (fun _ h9 => h9) rfl dX0_copyFrom_6 ?_
  refine lv_iconst (v := 0) hx hb dX0_copyFrom_9 (by decide) ?_
  refine lv_bipush (v := 16) hx hb dX0_copyFrom_10 (by decide) ?_
  refine va_copyi (D := G.1) hx hb (by rw [hml]; exact hl.1.symm) hown (hts (.methodLink RX0 37 arraycopyName) (List.mem_of_getElem? (i := 2) rfl)) (hts (.native arraycopyName) (List.mem_of_getElem? (i := 3) rfl)) (hts (.static arraycopyName) (List.mem_of_getElem? (i := 4) rfl)) (hts (.initialized "java/lang/System") (List.mem_of_getElem? (i := 5) rfl)) hK.1 hP hD hS (6 * 0 + 1) (6 * 1 + 1) 0 0 (wX_1 G A S r 0 (by decide)) (wX_1 G A S r 1 (by decide)) rfl rfl rfl (by decide) (by decide) (by decide) (by decide) (by decide) (fun _ _ => rfl) (Nat.le_of_ble_eq_true rfl) (Nat.le_of_ble_eq_true rfl) dX0_copyFrom_12 (fun H locs hP hD hS => ?_)
  rw [wX_s1 G A S r 1 (by decide) _] at hP hD
  have hP : va_P G.1 vwCl (wX G A (su S 1 1 (va_cpy (S 0 1) (S 1 1) (0 : Int32).toNatClampNeg (0 : Int32).toNatClampNeg (16 : Int32).toNatClampNeg)) r) H := hP
  have hD : va_D A0 (wX G A (su S 1 1 (va_cpy (S 0 1) (S 1 1) (0 : Int32).toNatClampNeg (0 : Int32).toNatClampNeg (16 : Int32).toNatClampNeg)) r) := hD
  generalize hn1 : (su S 1 1 (va_cpy (S 0 1) (S 1 1) (0 : Int32).toNatClampNeg (0 : Int32).toNatClampNeg (16 : Int32).toNatClampNeg)) = S1 at hP hD
  refine lv_aload_n hx hb dX0_copyFrom_15 rfl (lv_at hl 1 rfl) ?_
  refine va_get (D := G.1) (ci := 0) (v := .ref (A (6 * 0 + 2))) (C := RX0) (T := TX0) (N := 12) hx hb hts hinX0 hown hK.1 hP (6 * 0) (wX_o G A S1 r 0 (by decide)) rfl 1 (by decide) (hts (.fieldLink RX0 15 "WireLoops$Chip" "leadOf" "[I") (List.mem_of_getElem? (i := 6) rfl)) (fun _ h9 => h9) rfl dX0_copyFrom_16 ?_
  refine lv_iconst (v := 0) hx hb dX0_copyFrom_19 (by decide) ?_
  refine lv_aload_n hx hb dX0_copyFrom_20 rfl (lv_at hl 0 rfl) ?_
  refine va_get (D := G.1) (ci := 0) (v := .ref (A (6 * 1 + 2))) (C := RX0) (T := TX0) (N := 12) hx hb hts hinX0 hown hK.1 hP (6 * 1) (wX_o G A S1 r 1 (by decide)) rfl 1 (by decide) (hts (.fieldLink RX0 15 "WireLoops$Chip" "leadOf" "[I") (List.mem_of_getElem? (i := 6) rfl)) (fun _ h9 => h9) rfl dX0_copyFrom_21 ?_
  refine lv_iconst (v := 0) hx hb dX0_copyFrom_24 (by decide) ?_
  refine lv_bipush (v := 12) hx hb dX0_copyFrom_25 (by decide) ?_
  refine va_copyi (D := G.1) hx hb (by rw [hml]; exact hl.1.symm) hown (hts (.methodLink RX0 37 arraycopyName) (List.mem_of_getElem? (i := 2) rfl)) (hts (.native arraycopyName) (List.mem_of_getElem? (i := 3) rfl)) (hts (.static arraycopyName) (List.mem_of_getElem? (i := 4) rfl)) (hts (.initialized "java/lang/System") (List.mem_of_getElem? (i := 5) rfl)) hK.1 hP hD hS (6 * 0 + 2) (6 * 1 + 2) 0 0 (wX_c G A S1 r 0 2 (by decide) (by decide) (by decide)) (wX_c G A S1 r 1 2 (by decide) (by decide) (by decide)) rfl rfl rfl (by decide) (by decide) (by decide) (by decide) (by decide) (fun _ _ => rfl) (Nat.le_of_ble_eq_true rfl) (Nat.le_of_ble_eq_true rfl) dX0_copyFrom_27 (fun H locs hP hD hS => ?_)
  rw [wX_sc G A S1 r 1 2 (by decide) (by decide) (by decide) _] at hP hD
  have hP : va_P G.1 vwCl (wX G A (su S1 1 2 (va_cpy (S1 0 2) (S1 1 2) (0 : Int32).toNatClampNeg (0 : Int32).toNatClampNeg (12 : Int32).toNatClampNeg)) r) H := hP
  have hD : va_D A0 (wX G A (su S1 1 2 (va_cpy (S1 0 2) (S1 1 2) (0 : Int32).toNatClampNeg (0 : Int32).toNatClampNeg (12 : Int32).toNatClampNeg)) r) := hD
  generalize hn2 : (su S1 1 2 (va_cpy (S1 0 2) (S1 1 2) (0 : Int32).toNatClampNeg (0 : Int32).toNatClampNeg (12 : Int32).toNatClampNeg)) = S2 at hP hD
  refine lv_aload_n hx hb dX0_copyFrom_30 rfl (lv_at hl 1 rfl) ?_
  refine va_get (D := G.1) (ci := 0) (v := .ref (A (6 * 0 + 3))) (C := RX0) (T := TX0) (N := 12) hx hb hts hinX0 hown hK.1 hP (6 * 0) (wX_o G A S2 r 0 (by decide)) rfl 2 (by decide) (hts (.fieldLink RX0 18 "WireLoops$Chip" "height" "[I") (List.mem_of_getElem? (i := 7) rfl)) (fun _ h9 => h9) rfl dX0_copyFrom_31 ?_
  refine lv_iconst (v := 0) hx hb dX0_copyFrom_34 (by decide) ?_
  refine lv_aload_n hx hb dX0_copyFrom_35 rfl (lv_at hl 0 rfl) ?_
  refine va_get (D := G.1) (ci := 0) (v := .ref (A (6 * 1 + 3))) (C := RX0) (T := TX0) (N := 12) hx hb hts hinX0 hown hK.1 hP (6 * 1) (wX_o G A S2 r 1 (by decide)) rfl 2 (by decide) (hts (.fieldLink RX0 18 "WireLoops$Chip" "height" "[I") (List.mem_of_getElem? (i := 7) rfl)) (fun _ h9 => h9) rfl dX0_copyFrom_36 ?_
  refine lv_iconst (v := 0) hx hb dX0_copyFrom_39 (by decide) ?_
  refine lv_bipush (v := 12) hx hb dX0_copyFrom_40 (by decide) ?_
  refine va_copyi (D := G.1) hx hb (by rw [hml]; exact hl.1.symm) hown (hts (.methodLink RX0 37 arraycopyName) (List.mem_of_getElem? (i := 2) rfl)) (hts (.native arraycopyName) (List.mem_of_getElem? (i := 3) rfl)) (hts (.static arraycopyName) (List.mem_of_getElem? (i := 4) rfl)) (hts (.initialized "java/lang/System") (List.mem_of_getElem? (i := 5) rfl)) hK.1 hP hD hS (6 * 0 + 3) (6 * 1 + 3) 0 0 (wX_c G A S2 r 0 3 (by decide) (by decide) (by decide)) (wX_c G A S2 r 1 3 (by decide) (by decide) (by decide)) rfl rfl rfl (by decide) (by decide) (by decide) (by decide) (by decide) (fun _ _ => rfl) (Nat.le_of_ble_eq_true rfl) (Nat.le_of_ble_eq_true rfl) dX0_copyFrom_42 (fun H locs hP hD hS => ?_)
  rw [wX_sc G A S2 r 1 3 (by decide) (by decide) (by decide) _] at hP hD
  have hP : va_P G.1 vwCl (wX G A (su S2 1 3 (va_cpy (S2 0 3) (S2 1 3) (0 : Int32).toNatClampNeg (0 : Int32).toNatClampNeg (12 : Int32).toNatClampNeg)) r) H := hP
  have hD : va_D A0 (wX G A (su S2 1 3 (va_cpy (S2 0 3) (S2 1 3) (0 : Int32).toNatClampNeg (0 : Int32).toNatClampNeg (12 : Int32).toNatClampNeg)) r) := hD
  generalize hn3 : (su S2 1 3 (va_cpy (S2 0 3) (S2 1 3) (0 : Int32).toNatClampNeg (0 : Int32).toNatClampNeg (12 : Int32).toNatClampNeg)) = S3 at hP hD
  refine lv_aload_n hx hb dX0_copyFrom_45 rfl (lv_at hl 1 rfl) ?_
  refine va_get (D := G.1) (ci := 0) (v := .ref (A (6 * 0 + 4))) (C := RX0) (T := TX0) (N := 12) hx hb hts hinX0 hown hK.1 hP (6 * 0) (wX_o G A S3 r 0 (by decide)) rfl 3 (by decide) (hts (.fieldLink RX0 21 "WireLoops$Chip" "strength" "[I") (List.mem_of_getElem? (i := 8) rfl)) (fun _ h9 => h9) rfl dX0_copyFrom_46 ?_
  refine lv_iconst (v := 0) hx hb dX0_copyFrom_49 (by decide) ?_
  refine lv_aload_n hx hb dX0_copyFrom_50 rfl (lv_at hl 0 rfl) ?_
  refine va_get (D := G.1) (ci := 0) (v := .ref (A (6 * 1 + 4))) (C := RX0) (T := TX0) (N := 12) hx hb hts hinX0 hown hK.1 hP (6 * 1) (wX_o G A S3 r 1 (by decide)) rfl 3 (by decide) (hts (.fieldLink RX0 21 "WireLoops$Chip" "strength" "[I") (List.mem_of_getElem? (i := 8) rfl)) (fun _ h9 => h9) rfl dX0_copyFrom_51 ?_
  refine lv_iconst (v := 0) hx hb dX0_copyFrom_54 (by decide) ?_
  refine lv_bipush (v := 12) hx hb dX0_copyFrom_55 (by decide) ?_
  refine va_copyi (D := G.1) hx hb (by rw [hml]; exact hl.1.symm) hown (hts (.methodLink RX0 37 arraycopyName) (List.mem_of_getElem? (i := 2) rfl)) (hts (.native arraycopyName) (List.mem_of_getElem? (i := 3) rfl)) (hts (.static arraycopyName) (List.mem_of_getElem? (i := 4) rfl)) (hts (.initialized "java/lang/System") (List.mem_of_getElem? (i := 5) rfl)) hK.1 hP hD hS (6 * 0 + 4) (6 * 1 + 4) 0 0 (wX_c G A S3 r 0 4 (by decide) (by decide) (by decide)) (wX_c G A S3 r 1 4 (by decide) (by decide) (by decide)) rfl rfl rfl (by decide) (by decide) (by decide) (by decide) (by decide) (fun _ _ => rfl) (Nat.le_of_ble_eq_true rfl) (Nat.le_of_ble_eq_true rfl) dX0_copyFrom_57 (fun H locs hP hD hS => ?_)
  rw [wX_sc G A S3 r 1 4 (by decide) (by decide) (by decide) _] at hP hD
  have hP : va_P G.1 vwCl (wX G A (su S3 1 4 (va_cpy (S3 0 4) (S3 1 4) (0 : Int32).toNatClampNeg (0 : Int32).toNatClampNeg (12 : Int32).toNatClampNeg)) r) H := hP
  have hD : va_D A0 (wX G A (su S3 1 4 (va_cpy (S3 0 4) (S3 1 4) (0 : Int32).toNatClampNeg (0 : Int32).toNatClampNeg (12 : Int32).toNatClampNeg)) r) := hD
  generalize hn4 : (su S3 1 4 (va_cpy (S3 0 4) (S3 1 4) (0 : Int32).toNatClampNeg (0 : Int32).toNatClampNeg (12 : Int32).toNatClampNeg)) = S4 at hP hD
  refine lv_aload_n hx hb dX0_copyFrom_60 rfl (lv_at hl 1 rfl) ?_
  refine va_get (D := G.1) (ci := 0) (v := .ref (A (6 * 0 + 5))) (C := RX0) (T := TX0) (N := 12) hx hb hts hinX0 hown hK.1 hP (6 * 0) (wX_o G A S4 r 0 (by decide)) rfl 4 (by decide) (hts (.fieldLink RX0 24 "WireLoops$Chip" "number" "[I") (List.mem_of_getElem? (i := 9) rfl)) (fun _ h9 => h9) rfl dX0_copyFrom_61 ?_
  refine lv_iconst (v := 0) hx hb dX0_copyFrom_64 (by decide) ?_
  refine lv_aload_n hx hb dX0_copyFrom_65 rfl (lv_at hl 0 rfl) ?_
  refine va_get (D := G.1) (ci := 0) (v := .ref (A (6 * 1 + 5))) (C := RX0) (T := TX0) (N := 12) hx hb hts hinX0 hown hK.1 hP (6 * 1) (wX_o G A S4 r 1 (by decide)) rfl 4 (by decide) (hts (.fieldLink RX0 24 "WireLoops$Chip" "number" "[I") (List.mem_of_getElem? (i := 9) rfl)) (fun _ h9 => h9) rfl dX0_copyFrom_66 ?_
  refine lv_iconst (v := 0) hx hb dX0_copyFrom_69 (by decide) ?_
  refine lv_bipush (v := 12) hx hb dX0_copyFrom_70 (by decide) ?_
  refine va_copyi (D := G.1) hx hb (by rw [hml]; exact hl.1.symm) hown (hts (.methodLink RX0 37 arraycopyName) (List.mem_of_getElem? (i := 2) rfl)) (hts (.native arraycopyName) (List.mem_of_getElem? (i := 3) rfl)) (hts (.static arraycopyName) (List.mem_of_getElem? (i := 4) rfl)) (hts (.initialized "java/lang/System") (List.mem_of_getElem? (i := 5) rfl)) hK.1 hP hD hS (6 * 0 + 5) (6 * 1 + 5) 0 0 (wX_c G A S4 r 0 5 (by decide) (by decide) (by decide)) (wX_c G A S4 r 1 5 (by decide) (by decide) (by decide)) rfl rfl rfl (by decide) (by decide) (by decide) (by decide) (by decide) (fun _ _ => rfl) (Nat.le_of_ble_eq_true rfl) (Nat.le_of_ble_eq_true rfl) dX0_copyFrom_72 (fun H locs hP hD hS => ?_)
  rw [wX_sc G A S4 r 1 5 (by decide) (by decide) (by decide) _] at hP hD
  have hP : va_P G.1 vwCl (wX G A (su S4 1 5 (va_cpy (S4 0 5) (S4 1 5) (0 : Int32).toNatClampNeg (0 : Int32).toNatClampNeg (12 : Int32).toNatClampNeg)) r) H := hP
  have hD : va_D A0 (wX G A (su S4 1 5 (va_cpy (S4 0 5) (S4 1 5) (0 : Int32).toNatClampNeg (0 : Int32).toNatClampNeg (12 : Int32).toNatClampNeg)) r) := hD
  generalize hn5 : (su S4 1 5 (va_cpy (S4 0 5) (S4 1 5) (0 : Int32).toNatClampNeg (0 : Int32).toNatClampNeg (12 : Int32).toNatClampNeg)) = S5 at hP hD
  refine lv_aload_n hx hb dX0_copyFrom_75 rfl (lv_at hl 0 rfl) ?_
  refine lv_aload_n hx hb dX0_copyFrom_76 rfl (lv_at hl 1 rfl) ?_
  refine va_get (D := G.1) (ci := 0) (v := .int (S5 0 0 0)) (C := RX0) (T := TX0) (N := 12) hx hb hts hinX0 hown hK.1 hP (6 * 0) (wX_o G A S5 r 0 (by decide)) rfl 5 (by decide) (hts (.fieldLink RX0 43 "WireLoops$Chip" "laid" "I") (List.mem_of_getElem? (i := 10) rfl)) (fun _ h9 => h9) rfl dX0_copyFrom_77 ?_
  refine va_put (D := G.1) (ci := 0) (v := .int (S5 0 0 0)) (ty := .int) (C := RX0) (T := TX0) (N := 12) hx hb hts hinX0 tyX0 tyX0_ok nmX0 hown hK.1 hP hD hS (6 * 1) (wX_o G A S5 r 1 (by decide)) rfl (5 + 0) (by decide) (hts (.fieldLink RX0 43 "WireLoops$Chip" "laid" "I") (List.mem_of_getElem? (i := 10) rfl)) (fun _ h9 => h9) rfl (by decide +kernel) rfl rfl (Nat.le_of_ble_eq_true rfl) dX0_copyFrom_80 (fun H locs hP hD hS => ?_)
  rw [wX_so G A S5 r 1 0 (by decide) (by decide) _] at hP hD
  have hP : va_P G.1 vwCl (wX G A (su S5 1 0 (upd (S5 1 0) 0 (S5 0 0 0))) r) H := hP
  have hD : va_D A0 (wX G A (su S5 1 0 (upd (S5 1 0) 0 (S5 0 0 0))) r) := hD
  generalize hn6 : (su S5 1 0 (upd (S5 1 0) 0 (S5 0 0 0))) = S6 at hP hD
  refine lv_aload_n hx hb dX0_copyFrom_83 rfl (lv_at hl 0 rfl) ?_
  refine lv_aload_n hx hb dX0_copyFrom_84 rfl (lv_at hl 1 rfl) ?_
  refine va_get (D := G.1) (ci := 0) (v := .int (S6 0 0 1)) (C := RX0) (T := TX0) (N := 12) hx hb hts hinX0 hown hK.1 hP (6 * 0) (wX_o G A S6 r 0 (by decide)) rfl 6 (by decide) (hts (.fieldLink RX0 33 "WireLoops$Chip" "width" "I") (List.mem_of_getElem? (i := 11) rfl)) (fun _ h9 => h9) rfl dX0_copyFrom_85 ?_
  refine va_put (D := G.1) (ci := 0) (v := .int (S6 0 0 1)) (ty := .int) (C := RX0) (T := TX0) (N := 12) hx hb hts hinX0 tyX0 tyX0_ok nmX0 hown hK.1 hP hD hS (6 * 1) (wX_o G A S6 r 1 (by decide)) rfl (5 + 1) (by decide) (hts (.fieldLink RX0 33 "WireLoops$Chip" "width" "I") (List.mem_of_getElem? (i := 11) rfl)) (fun _ h9 => h9) rfl (by decide +kernel) rfl rfl (Nat.le_of_ble_eq_true rfl) dX0_copyFrom_88 (fun H locs hP hD hS => ?_)
  rw [wX_so G A S6 r 1 1 (by decide) (by decide) _] at hP hD
  have hP : va_P G.1 vwCl (wX G A (su S6 1 0 (upd (S6 1 0) 1 (S6 0 0 1))) r) H := hP
  have hD : va_D A0 (wX G A (su S6 1 0 (upd (S6 1 0) 1 (S6 0 0 1))) r) := hD
  generalize hn7 : (su S6 1 0 (upd (S6 1 0) 1 (S6 0 0 1))) = S7 at hP hD
  refine lv_aload_n hx hb dX0_copyFrom_91 rfl (lv_at hl 0 rfl) ?_
  refine lv_aload_n hx hb dX0_copyFrom_92 rfl (lv_at hl 1 rfl) ?_
  refine va_get (D := G.1) (ci := 0) (v := .int (S7 0 0 2)) (C := RX0) (T := TX0) (N := 12) hx hb hts hinX0 hown hK.1 hP (6 * 0) (wX_o G A S7 r 0 (by decide)) rfl 7 (by decide) (hts (.fieldLink RX0 46 "WireLoops$Chip" "wear" "I") (List.mem_of_getElem? (i := 12) rfl)) (fun _ h9 => h9) rfl dX0_copyFrom_93 ?_
  refine va_put (D := G.1) (ci := 0) (v := .int (S7 0 0 2)) (ty := .int) (C := RX0) (T := TX0) (N := 12) hx hb hts hinX0 tyX0 tyX0_ok nmX0 hown hK.1 hP hD hS (6 * 1) (wX_o G A S7 r 1 (by decide)) rfl (5 + 2) (by decide) (hts (.fieldLink RX0 46 "WireLoops$Chip" "wear" "I") (List.mem_of_getElem? (i := 12) rfl)) (fun _ h9 => h9) rfl (by decide +kernel) rfl rfl (Nat.le_of_ble_eq_true rfl) dX0_copyFrom_96 (fun H locs hP hD hS => ?_)
  rw [wX_so G A S7 r 1 2 (by decide) (by decide) _] at hP hD
  have hP : va_P G.1 vwCl (wX G A (su S7 1 0 (upd (S7 1 0) 2 (S7 0 0 2))) r) H := hP
  have hD : va_D A0 (wX G A (su S7 1 0 (upd (S7 1 0) 2 (S7 0 0 2))) r) := hD
  generalize hn8 : (su S7 1 0 (upd (S7 1 0) 2 (S7 0 0 2))) = S8 at hP hD
  refine lv_aload_n hx hb dX0_copyFrom_99 rfl (lv_at hl 0 rfl) ?_
  refine lv_aload_n hx hb dX0_copyFrom_100 rfl (lv_at hl 1 rfl) ?_
  refine va_get (D := G.1) (ci := 0) (v := .int (S8 0 0 3)) (C := RX0) (T := TX0) (N := 12) hx hb hts hinX0 hown hK.1 hP (6 * 0) (wX_o G A S8 r 0 (by decide)) rfl 8 (by decide) (hts (.fieldLink RX0 49 "WireLoops$Chip" "toolsChanged" "I") (List.mem_of_getElem? (i := 13) rfl)) (fun _ h9 => h9) rfl dX0_copyFrom_101 ?_
  refine va_put (D := G.1) (ci := 0) (v := .int (S8 0 0 3)) (ty := .int) (C := RX0) (T := TX0) (N := 12) hx hb hts hinX0 tyX0 tyX0_ok nmX0 hown hK.1 hP hD hS (6 * 1) (wX_o G A S8 r 1 (by decide)) rfl (5 + 3) (by decide) (hts (.fieldLink RX0 49 "WireLoops$Chip" "toolsChanged" "I") (List.mem_of_getElem? (i := 13) rfl)) (fun _ h9 => h9) rfl (by decide +kernel) rfl rfl (Nat.le_of_ble_eq_true rfl) dX0_copyFrom_104 (fun H locs hP hD hS => ?_)
  rw [wX_so G A S8 r 1 3 (by decide) (by decide) _] at hP hD
  have hP : va_P G.1 vwCl (wX G A (su S8 1 0 (upd (S8 1 0) 3 (S8 0 0 3))) r) H := hP
  have hD : va_D A0 (wX G A (su S8 1 0 (upd (S8 1 0) 3 (S8 0 0 3))) r) := hD
  generalize hn9 : (su S8 1 0 (upd (S8 1 0) 3 (S8 0 0 3))) = S9 at hP hD
  refine lv_aload_n hx hb dX0_copyFrom_107 rfl (lv_at hl 0 rfl) ?_
  refine lv_aload_n hx hb dX0_copyFrom_108 rfl (lv_at hl 1 rfl) ?_
  refine va_get (D := G.1) (ci := 0) (v := .int (S9 0 0 4)) (C := RX0) (T := TX0) (N := 12) hx hb hts hinX0 hown hK.1 hP (6 * 0) (wX_o G A S9 r 0 (by decide)) rfl 9 (by decide) (hts (.fieldLink RX0 52 "WireLoops$Chip" "tailLost" "Z") (List.mem_of_getElem? (i := 14) rfl)) (fun _ h9 => h9) rfl dX0_copyFrom_109 ?_
  refine va_put (D := G.1) (ci := 0) (v := .int (S9 0 0 4)) (ty := .boolean) (C := RX0) (T := TX0) (N := 12) hx hb hts hinX0 tyX0 tyX0_ok nmX0 hown hK.1 hP hD hS (6 * 1) (wX_o G A S9 r 1 (by decide)) rfl (5 + 4) (by decide) (hts (.fieldLink RX0 52 "WireLoops$Chip" "tailLost" "Z") (List.mem_of_getElem? (i := 14) rfl)) (fun _ h9 => h9) rfl (by decide +kernel) (nb_of (by subst_vars; exact hbj)) (fb_of (by subst_vars; exact hbj)) (Nat.le_of_ble_eq_true rfl) dX0_copyFrom_112 (fun H locs hP hD hS => ?_)
  rw [wX_so G A S9 r 1 4 (by decide) (by decide) _] at hP hD
  have hP : va_P G.1 vwCl (wX G A (su S9 1 0 (upd (S9 1 0) 4 (S9 0 0 4))) r) H := hP
  have hD : va_D A0 (wX G A (su S9 1 0 (upd (S9 1 0) 4 (S9 0 0 4))) r) := hD
  generalize hn10 : (su S9 1 0 (upd (S9 1 0) 4 (S9 0 0 4))) = S10 at hP hD
  refine lv_aload_n hx hb dX0_copyFrom_115 rfl (lv_at hl 0 rfl) ?_
  refine lv_aload_n hx hb dX0_copyFrom_116 rfl (lv_at hl 1 rfl) ?_
  refine va_get (D := G.1) (ci := 0) (v := .int (S10 0 0 5)) (C := RX0) (T := TX0) (N := 12) hx hb hts hinX0 hown hK.1 hP (6 * 0) (wX_o G A S10 r 0 (by decide)) rfl 10 (by decide) (hts (.fieldLink RX0 56 "WireLoops$Chip" "tailsLost" "I") (List.mem_of_getElem? (i := 15) rfl)) (fun _ h9 => h9) rfl dX0_copyFrom_117 ?_
  refine va_put (D := G.1) (ci := 0) (v := .int (S10 0 0 5)) (ty := .int) (C := RX0) (T := TX0) (N := 12) hx hb hts hinX0 tyX0 tyX0_ok nmX0 hown hK.1 hP hD hS (6 * 1) (wX_o G A S10 r 1 (by decide)) rfl (5 + 5) (by decide) (hts (.fieldLink RX0 56 "WireLoops$Chip" "tailsLost" "I") (List.mem_of_getElem? (i := 15) rfl)) (fun _ h9 => h9) rfl (by decide +kernel) rfl rfl (Nat.le_of_ble_eq_true rfl) dX0_copyFrom_120 (fun H locs hP hD hS => ?_)
  rw [wX_so G A S10 r 1 5 (by decide) (by decide) _] at hP hD
  have hP : va_P G.1 vwCl (wX G A (su S10 1 0 (upd (S10 1 0) 5 (S10 0 0 5))) r) H := hP
  have hD : va_D A0 (wX G A (su S10 1 0 (upd (S10 1 0) 5 (S10 0 0 5))) r) := hD
  generalize hn11 : (su S10 1 0 (upd (S10 1 0) 5 (S10 0 0 5))) = S11 at hP hD
  refine lv_aload_n hx hb dX0_copyFrom_123 rfl (lv_at hl 0 rfl) ?_
  refine lv_aload_n hx hb dX0_copyFrom_124 rfl (lv_at hl 1 rfl) ?_
  refine va_get (D := G.1) (ci := 0) (v := .int (S11 0 0 6)) (C := RX0) (T := TX0) (N := 12) hx hb hts hinX0 hown hK.1 hP (6 * 0) (wX_o G A S11 r 0 (by decide)) rfl 11 (by decide) (hts (.fieldLink RX0 59 "WireLoops$Chip" "broken" "I") (List.mem_of_getElem? (i := 16) rfl)) (fun _ h9 => h9) rfl dX0_copyFrom_125 ?_
  refine va_put (D := G.1) (ci := 0) (v := .int (S11 0 0 6)) (ty := .int) (C := RX0) (T := TX0) (N := 12) hx hb hts hinX0 tyX0 tyX0_ok nmX0 hown hK.1 hP hD hS (6 * 1) (wX_o G A S11 r 1 (by decide)) rfl (5 + 6) (by decide) (hts (.fieldLink RX0 59 "WireLoops$Chip" "broken" "I") (List.mem_of_getElem? (i := 16) rfl)) (fun _ h9 => h9) rfl (by decide +kernel) rfl rfl (Nat.le_of_ble_eq_true rfl) dX0_copyFrom_128 (fun H locs hP hD hS => ?_)
  rw [wX_so G A S11 r 1 6 (by decide) (by decide) _] at hP hD
  have hP : va_P G.1 vwCl (wX G A (su S11 1 0 (upd (S11 1 0) 6 (S11 0 0 6))) r) H := hP
  have hD : va_D A0 (wX G A (su S11 1 0 (upd (S11 1 0) 6 (S11 0 0 6))) r) := hD
  generalize hn12 : (su S11 1 0 (upd (S11 1 0) 6 (S11 0 0 6))) = S12 at hP hD
  have he : eqX S12 (sc S 1 0) := by
    subst_vars
    refine ⟨?_, eqR.rfl'⟩
    intro x hx7
    rcases (show x = 0 ∨ x = 1 ∨ x = 2 ∨ x = 3 ∨ x = 4 ∨ x = 5 ∨ x = 6 by omega) with rfl | rfl | rfl | rfl | rfl | rfl | rfl
    · exact eqC.rfl'
    · exact ⟨by intro k hk; rcases (show k = 0 ∨ k = 1 ∨ k = 2 ∨ k = 3 ∨ k = 4 ∨ k = 5 ∨ k = 6 by omega) with rfl | rfl | rfl | rfl | rfl | rfl | rfl <;> rfl, cpy16, cpy12, cpy12, cpy12, cpy12⟩
    · exact eqC.rfl'
    · exact eqC.rfl'
    · exact eqC.rfl'
    · exact eqC.rfl'
    · exact eqC.rfl'
  have hP : va_P G.1 vwCl (wX G A (sc S 1 0) r) H := wX_ext he (fun _ _ => rfl) hP
  have hD : va_D A0 (wX G A (sc S 1 0) r) := wX_D hD
  exact endZ hx hb hr hlocks hP hD hS rfl dX0_copyFrom_131
def f_X0_copyFrom_2_0 (S : XS) : XS := sc S 2 0
theorem e_X0_copyFrom_2_0 (S : XS) : f_X0_copyFrom_2_0 S = sc S 2 0 := rfl
set_option maxHeartbeats 4000000 in
set_option maxRecDepth 100000 in
theorem c_X0_copyFrom_2_0 (l : Launch) (G : GG) (A : Nat → Nat) (S : XS) (r : Nat)  (hbj : S 0 0 4 = 0 ∨ S 0 0 4 = 1) : Mz l yX0_copyFrom wsX0_copyFrom ({ frames := 1, cells := 0, slots := 0, locals := 26 } : Room) G [.ref (A (6 * 2)), .ref (A (6 * 0))] (wX G A S r) (wX G A (f_X0_copyFrom_2_0 S) r) := by
  refine Mz.of (cc := cX0_copyFrom) (maxL := 2) (ret := none) (by decide) rfl (Nat.le_of_ble_eq_true rfl) ?_
  intro p e s m args below meth c A0 hA0 E hr hlocks hP hK hD hA hS ls hl
  have E : CallFix p m c cX0_copyFrom 2 s args wsX0_copyFrom RX0 := E
  have hx := E.1
  have hb := E.2.1
  have hml := E.2.2.1
  have hown := E.2.2.2.1
  have hts := E.2.2.2.2
  have hl : lv_has ls 2 [(0, .ref (A (6 * 2))), (1, .ref (A (6 * 0)))] := hl
  have hinX0 : ∀ w ∈ u_ws RX0 TX0 12, w ∈ wsX0_copyFrom := fun _ h => List.mem_cons_of_mem _ (List.mem_append_right _ h)
  refine lv_aload_n hx hb dX0_copyFrom_0 rfl (lv_at hl 1 rfl) ?_
  refine va_get (D := G.1) (ci := 0) (v := .ref (A (6 * 0 + 1))) (C := RX0) (T := TX0) (N := 12) hx hb hts hinX0 hown hK.1 hP (6 * 0) (wX_o G A S r 0 (by decide)) rfl 0 (by decide) (hts (.fieldLink RX0 9 "WireLoops$Chip" "leadX" "[I") (List.mem_of_getElem? (i := 1) rfl)) (fun _ h9 => h9) rfl dX0_copyFrom_1 ?_
  refine lv_iconst (v := 0) hx hb dX0_copyFrom_4 (by decide) ?_
  refine lv_aload_n hx hb dX0_copyFrom_5 rfl (lv_at hl 0 rfl) ?_
  refine va_get (D := G.1) (ci := 0) (v := .ref (A (6 * 2 + 1))) (C := RX0) (T := TX0) (N := 12) hx hb hts hinX0 hown hK.1 hP (6 * 2) (wX_o G A S r 2 (by decide)) rfl 0 (by decide) (hts (.fieldLink RX0 9 "WireLoops$Chip" "leadX" "[I") (List.mem_of_getElem? (i := 1) rfl)) (fun _ h9 => h9) rfl dX0_copyFrom_6 ?_
  refine lv_iconst (v := 0) hx hb dX0_copyFrom_9 (by decide) ?_
  refine lv_bipush (v := 16) hx hb dX0_copyFrom_10 (by decide) ?_
  refine va_copyi (D := G.1) hx hb (by rw [hml]; exact hl.1.symm) hown (hts (.methodLink RX0 37 arraycopyName) (List.mem_of_getElem? (i := 2) rfl)) (hts (.native arraycopyName) (List.mem_of_getElem? (i := 3) rfl)) (hts (.static arraycopyName) (List.mem_of_getElem? (i := 4) rfl)) (hts (.initialized "java/lang/System") (List.mem_of_getElem? (i := 5) rfl)) hK.1 hP hD hS (6 * 0 + 1) (6 * 2 + 1) 0 0 (wX_1 G A S r 0 (by decide)) (wX_1 G A S r 2 (by decide)) rfl rfl rfl (by decide) (by decide) (by decide) (by decide) (by decide) (fun _ _ => rfl) (Nat.le_of_ble_eq_true rfl) (Nat.le_of_ble_eq_true rfl) dX0_copyFrom_12 (fun H locs hP hD hS => ?_)
  rw [wX_s1 G A S r 2 (by decide) _] at hP hD
  have hP : va_P G.1 vwCl (wX G A (su S 2 1 (va_cpy (S 0 1) (S 2 1) (0 : Int32).toNatClampNeg (0 : Int32).toNatClampNeg (16 : Int32).toNatClampNeg)) r) H := hP
  have hD : va_D A0 (wX G A (su S 2 1 (va_cpy (S 0 1) (S 2 1) (0 : Int32).toNatClampNeg (0 : Int32).toNatClampNeg (16 : Int32).toNatClampNeg)) r) := hD
  generalize hn1 : (su S 2 1 (va_cpy (S 0 1) (S 2 1) (0 : Int32).toNatClampNeg (0 : Int32).toNatClampNeg (16 : Int32).toNatClampNeg)) = S1 at hP hD
  refine lv_aload_n hx hb dX0_copyFrom_15 rfl (lv_at hl 1 rfl) ?_
  refine va_get (D := G.1) (ci := 0) (v := .ref (A (6 * 0 + 2))) (C := RX0) (T := TX0) (N := 12) hx hb hts hinX0 hown hK.1 hP (6 * 0) (wX_o G A S1 r 0 (by decide)) rfl 1 (by decide) (hts (.fieldLink RX0 15 "WireLoops$Chip" "leadOf" "[I") (List.mem_of_getElem? (i := 6) rfl)) (fun _ h9 => h9) rfl dX0_copyFrom_16 ?_
  refine lv_iconst (v := 0) hx hb dX0_copyFrom_19 (by decide) ?_
  refine lv_aload_n hx hb dX0_copyFrom_20 rfl (lv_at hl 0 rfl) ?_
  refine va_get (D := G.1) (ci := 0) (v := .ref (A (6 * 2 + 2))) (C := RX0) (T := TX0) (N := 12) hx hb hts hinX0 hown hK.1 hP (6 * 2) (wX_o G A S1 r 2 (by decide)) rfl 1 (by decide) (hts (.fieldLink RX0 15 "WireLoops$Chip" "leadOf" "[I") (List.mem_of_getElem? (i := 6) rfl)) (fun _ h9 => h9) rfl dX0_copyFrom_21 ?_
  refine lv_iconst (v := 0) hx hb dX0_copyFrom_24 (by decide) ?_
  refine lv_bipush (v := 12) hx hb dX0_copyFrom_25 (by decide) ?_
  refine va_copyi (D := G.1) hx hb (by rw [hml]; exact hl.1.symm) hown (hts (.methodLink RX0 37 arraycopyName) (List.mem_of_getElem? (i := 2) rfl)) (hts (.native arraycopyName) (List.mem_of_getElem? (i := 3) rfl)) (hts (.static arraycopyName) (List.mem_of_getElem? (i := 4) rfl)) (hts (.initialized "java/lang/System") (List.mem_of_getElem? (i := 5) rfl)) hK.1 hP hD hS (6 * 0 + 2) (6 * 2 + 2) 0 0 (wX_c G A S1 r 0 2 (by decide) (by decide) (by decide)) (wX_c G A S1 r 2 2 (by decide) (by decide) (by decide)) rfl rfl rfl (by decide) (by decide) (by decide) (by decide) (by decide) (fun _ _ => rfl) (Nat.le_of_ble_eq_true rfl) (Nat.le_of_ble_eq_true rfl) dX0_copyFrom_27 (fun H locs hP hD hS => ?_)
  rw [wX_sc G A S1 r 2 2 (by decide) (by decide) (by decide) _] at hP hD
  have hP : va_P G.1 vwCl (wX G A (su S1 2 2 (va_cpy (S1 0 2) (S1 2 2) (0 : Int32).toNatClampNeg (0 : Int32).toNatClampNeg (12 : Int32).toNatClampNeg)) r) H := hP
  have hD : va_D A0 (wX G A (su S1 2 2 (va_cpy (S1 0 2) (S1 2 2) (0 : Int32).toNatClampNeg (0 : Int32).toNatClampNeg (12 : Int32).toNatClampNeg)) r) := hD
  generalize hn2 : (su S1 2 2 (va_cpy (S1 0 2) (S1 2 2) (0 : Int32).toNatClampNeg (0 : Int32).toNatClampNeg (12 : Int32).toNatClampNeg)) = S2 at hP hD
  refine lv_aload_n hx hb dX0_copyFrom_30 rfl (lv_at hl 1 rfl) ?_
  refine va_get (D := G.1) (ci := 0) (v := .ref (A (6 * 0 + 3))) (C := RX0) (T := TX0) (N := 12) hx hb hts hinX0 hown hK.1 hP (6 * 0) (wX_o G A S2 r 0 (by decide)) rfl 2 (by decide) (hts (.fieldLink RX0 18 "WireLoops$Chip" "height" "[I") (List.mem_of_getElem? (i := 7) rfl)) (fun _ h9 => h9) rfl dX0_copyFrom_31 ?_
  refine lv_iconst (v := 0) hx hb dX0_copyFrom_34 (by decide) ?_
  refine lv_aload_n hx hb dX0_copyFrom_35 rfl (lv_at hl 0 rfl) ?_
  refine va_get (D := G.1) (ci := 0) (v := .ref (A (6 * 2 + 3))) (C := RX0) (T := TX0) (N := 12) hx hb hts hinX0 hown hK.1 hP (6 * 2) (wX_o G A S2 r 2 (by decide)) rfl 2 (by decide) (hts (.fieldLink RX0 18 "WireLoops$Chip" "height" "[I") (List.mem_of_getElem? (i := 7) rfl)) (fun _ h9 => h9) rfl dX0_copyFrom_36 ?_
  refine lv_iconst (v := 0) hx hb dX0_copyFrom_39 (by decide) ?_
  refine lv_bipush (v := 12) hx hb dX0_copyFrom_40 (by decide) ?_
  refine va_copyi (D := G.1) hx hb (by rw [hml]; exact hl.1.symm) hown (hts (.methodLink RX0 37 arraycopyName) (List.mem_of_getElem? (i := 2) rfl)) (hts (.native arraycopyName) (List.mem_of_getElem? (i := 3) rfl)) (hts (.static arraycopyName) (List.mem_of_getElem? (i := 4) rfl)) (hts (.initialized "java/lang/System") (List.mem_of_getElem? (i := 5) rfl)) hK.1 hP hD hS (6 * 0 + 3) (6 * 2 + 3) 0 0 (wX_c G A S2 r 0 3 (by decide) (by decide) (by decide)) (wX_c G A S2 r 2 3 (by decide) (by decide) (by decide)) rfl rfl rfl (by decide) (by decide) (by decide) (by decide) (by decide) (fun _ _ => rfl) (Nat.le_of_ble_eq_true rfl) (Nat.le_of_ble_eq_true rfl) dX0_copyFrom_42 (fun H locs hP hD hS => ?_)
  rw [wX_sc G A S2 r 2 3 (by decide) (by decide) (by decide) _] at hP hD
  have hP : va_P G.1 vwCl (wX G A (su S2 2 3 (va_cpy (S2 0 3) (S2 2 3) (0 : Int32).toNatClampNeg (0 : Int32).toNatClampNeg (12 : Int32).toNatClampNeg)) r) H := hP
  have hD : va_D A0 (wX G A (su S2 2 3 (va_cpy (S2 0 3) (S2 2 3) (0 : Int32).toNatClampNeg (0 : Int32).toNatClampNeg (12 : Int32).toNatClampNeg)) r) := hD
  generalize hn3 : (su S2 2 3 (va_cpy (S2 0 3) (S2 2 3) (0 : Int32).toNatClampNeg (0 : Int32).toNatClampNeg (12 : Int32).toNatClampNeg)) = S3 at hP hD
  refine lv_aload_n hx hb dX0_copyFrom_45 rfl (lv_at hl 1 rfl) ?_
  refine va_get (D := G.1) (ci := 0) (v := .ref (A (6 * 0 + 4))) (C := RX0) (T := TX0) (N := 12) hx hb hts hinX0 hown hK.1 hP (6 * 0) (wX_o G A S3 r 0 (by decide)) rfl 3 (by decide) (hts (.fieldLink RX0 21 "WireLoops$Chip" "strength" "[I") (List.mem_of_getElem? (i := 8) rfl)) (fun _ h9 => h9) rfl dX0_copyFrom_46 ?_
  refine lv_iconst (v := 0) hx hb dX0_copyFrom_49 (by decide) ?_
  refine lv_aload_n hx hb dX0_copyFrom_50 rfl (lv_at hl 0 rfl) ?_
  refine va_get (D := G.1) (ci := 0) (v := .ref (A (6 * 2 + 4))) (C := RX0) (T := TX0) (N := 12) hx hb hts hinX0 hown hK.1 hP (6 * 2) (wX_o G A S3 r 2 (by decide)) rfl 3 (by decide) (hts (.fieldLink RX0 21 "WireLoops$Chip" "strength" "[I") (List.mem_of_getElem? (i := 8) rfl)) (fun _ h9 => h9) rfl dX0_copyFrom_51 ?_
  refine lv_iconst (v := 0) hx hb dX0_copyFrom_54 (by decide) ?_
  refine lv_bipush (v := 12) hx hb dX0_copyFrom_55 (by decide) ?_
  refine va_copyi (D := G.1) hx hb (by rw [hml]; exact hl.1.symm) hown (hts (.methodLink RX0 37 arraycopyName) (List.mem_of_getElem? (i := 2) rfl)) (hts (.native arraycopyName) (List.mem_of_getElem? (i := 3) rfl)) (hts (.static arraycopyName) (List.mem_of_getElem? (i := 4) rfl)) (hts (.initialized "java/lang/System") (List.mem_of_getElem? (i := 5) rfl)) hK.1 hP hD hS (6 * 0 + 4) (6 * 2 + 4) 0 0 (wX_c G A S3 r 0 4 (by decide) (by decide) (by decide)) (wX_c G A S3 r 2 4 (by decide) (by decide) (by decide)) rfl rfl rfl (by decide) (by decide) (by decide) (by decide) (by decide) (fun _ _ => rfl) (Nat.le_of_ble_eq_true rfl) (Nat.le_of_ble_eq_true rfl) dX0_copyFrom_57 (fun H locs hP hD hS => ?_)
  rw [wX_sc G A S3 r 2 4 (by decide) (by decide) (by decide) _] at hP hD
  have hP : va_P G.1 vwCl (wX G A (su S3 2 4 (va_cpy (S3 0 4) (S3 2 4) (0 : Int32).toNatClampNeg (0 : Int32).toNatClampNeg (12 : Int32).toNatClampNeg)) r) H := hP
  have hD : va_D A0 (wX G A (su S3 2 4 (va_cpy (S3 0 4) (S3 2 4) (0 : Int32).toNatClampNeg (0 : Int32).toNatClampNeg (12 : Int32).toNatClampNeg)) r) := hD
  generalize hn4 : (su S3 2 4 (va_cpy (S3 0 4) (S3 2 4) (0 : Int32).toNatClampNeg (0 : Int32).toNatClampNeg (12 : Int32).toNatClampNeg)) = S4 at hP hD
  refine lv_aload_n hx hb dX0_copyFrom_60 rfl (lv_at hl 1 rfl) ?_
  refine va_get (D := G.1) (ci := 0) (v := .ref (A (6 * 0 + 5))) (C := RX0) (T := TX0) (N := 12) hx hb hts hinX0 hown hK.1 hP (6 * 0) (wX_o G A S4 r 0 (by decide)) rfl 4 (by decide) (hts (.fieldLink RX0 24 "WireLoops$Chip" "number" "[I") (List.mem_of_getElem? (i := 9) rfl)) (fun _ h9 => h9) rfl dX0_copyFrom_61 ?_
  refine lv_iconst (v := 0) hx hb dX0_copyFrom_64 (by decide) ?_
  refine lv_aload_n hx hb dX0_copyFrom_65 rfl (lv_at hl 0 rfl) ?_
  refine va_get (D := G.1) (ci := 0) (v := .ref (A (6 * 2 + 5))) (C := RX0) (T := TX0) (N := 12) hx hb hts hinX0 hown hK.1 hP (6 * 2) (wX_o G A S4 r 2 (by decide)) rfl 4 (by decide) (hts (.fieldLink RX0 24 "WireLoops$Chip" "number" "[I") (List.mem_of_getElem? (i := 9) rfl)) (fun _ h9 => h9) rfl dX0_copyFrom_66 ?_
  refine lv_iconst (v := 0) hx hb dX0_copyFrom_69 (by decide) ?_
  refine lv_bipush (v := 12) hx hb dX0_copyFrom_70 (by decide) ?_
  refine va_copyi (D := G.1) hx hb (by rw [hml]; exact hl.1.symm) hown (hts (.methodLink RX0 37 arraycopyName) (List.mem_of_getElem? (i := 2) rfl)) (hts (.native arraycopyName) (List.mem_of_getElem? (i := 3) rfl)) (hts (.static arraycopyName) (List.mem_of_getElem? (i := 4) rfl)) (hts (.initialized "java/lang/System") (List.mem_of_getElem? (i := 5) rfl)) hK.1 hP hD hS (6 * 0 + 5) (6 * 2 + 5) 0 0 (wX_c G A S4 r 0 5 (by decide) (by decide) (by decide)) (wX_c G A S4 r 2 5 (by decide) (by decide) (by decide)) rfl rfl rfl (by decide) (by decide) (by decide) (by decide) (by decide) (fun _ _ => rfl) (Nat.le_of_ble_eq_true rfl) (Nat.le_of_ble_eq_true rfl) dX0_copyFrom_72 (fun H locs hP hD hS => ?_)
  rw [wX_sc G A S4 r 2 5 (by decide) (by decide) (by decide) _] at hP hD
  have hP : va_P G.1 vwCl (wX G A (su S4 2 5 (va_cpy (S4 0 5) (S4 2 5) (0 : Int32).toNatClampNeg (0 : Int32).toNatClampNeg (12 : Int32).toNatClampNeg)) r) H := hP
  have hD : va_D A0 (wX G A (su S4 2 5 (va_cpy (S4 0 5) (S4 2 5) (0 : Int32).toNatClampNeg (0 : Int32).toNatClampNeg (12 : Int32).toNatClampNeg)) r) := hD
  generalize hn5 : (su S4 2 5 (va_cpy (S4 0 5) (S4 2 5) (0 : Int32).toNatClampNeg (0 : Int32).toNatClampNeg (12 : Int32).toNatClampNeg)) = S5 at hP hD
  refine lv_aload_n hx hb dX0_copyFrom_75 rfl (lv_at hl 0 rfl) ?_
  refine lv_aload_n hx hb dX0_copyFrom_76 rfl (lv_at hl 1 rfl) ?_
  refine va_get (D := G.1) (ci := 0) (v := .int (S5 0 0 0)) (C := RX0) (T := TX0) (N := 12) hx hb hts hinX0 hown hK.1 hP (6 * 0) (wX_o G A S5 r 0 (by decide)) rfl 5 (by decide) (hts (.fieldLink RX0 43 "WireLoops$Chip" "laid" "I") (List.mem_of_getElem? (i := 10) rfl)) (fun _ h9 => h9) rfl dX0_copyFrom_77 ?_
  refine va_put (D := G.1) (ci := 0) (v := .int (S5 0 0 0)) (ty := .int) (C := RX0) (T := TX0) (N := 12) hx hb hts hinX0 tyX0 tyX0_ok nmX0 hown hK.1 hP hD hS (6 * 2) (wX_o G A S5 r 2 (by decide)) rfl (5 + 0) (by decide) (hts (.fieldLink RX0 43 "WireLoops$Chip" "laid" "I") (List.mem_of_getElem? (i := 10) rfl)) (fun _ h9 => h9) rfl (by decide +kernel) rfl rfl (Nat.le_of_ble_eq_true rfl) dX0_copyFrom_80 (fun H locs hP hD hS => ?_)
  rw [wX_so G A S5 r 2 0 (by decide) (by decide) _] at hP hD
  have hP : va_P G.1 vwCl (wX G A (su S5 2 0 (upd (S5 2 0) 0 (S5 0 0 0))) r) H := hP
  have hD : va_D A0 (wX G A (su S5 2 0 (upd (S5 2 0) 0 (S5 0 0 0))) r) := hD
  generalize hn6 : (su S5 2 0 (upd (S5 2 0) 0 (S5 0 0 0))) = S6 at hP hD
  refine lv_aload_n hx hb dX0_copyFrom_83 rfl (lv_at hl 0 rfl) ?_
  refine lv_aload_n hx hb dX0_copyFrom_84 rfl (lv_at hl 1 rfl) ?_
  refine va_get (D := G.1) (ci := 0) (v := .int (S6 0 0 1)) (C := RX0) (T := TX0) (N := 12) hx hb hts hinX0 hown hK.1 hP (6 * 0) (wX_o G A S6 r 0 (by decide)) rfl 6 (by decide) (hts (.fieldLink RX0 33 "WireLoops$Chip" "width" "I") (List.mem_of_getElem? (i := 11) rfl)) (fun _ h9 => h9) rfl dX0_copyFrom_85 ?_
  refine va_put (D := G.1) (ci := 0) (v := .int (S6 0 0 1)) (ty := .int) (C := RX0) (T := TX0) (N := 12) hx hb hts hinX0 tyX0 tyX0_ok nmX0 hown hK.1 hP hD hS (6 * 2) (wX_o G A S6 r 2 (by decide)) rfl (5 + 1) (by decide) (hts (.fieldLink RX0 33 "WireLoops$Chip" "width" "I") (List.mem_of_getElem? (i := 11) rfl)) (fun _ h9 => h9) rfl (by decide +kernel) rfl rfl (Nat.le_of_ble_eq_true rfl) dX0_copyFrom_88 (fun H locs hP hD hS => ?_)
  rw [wX_so G A S6 r 2 1 (by decide) (by decide) _] at hP hD
  have hP : va_P G.1 vwCl (wX G A (su S6 2 0 (upd (S6 2 0) 1 (S6 0 0 1))) r) H := hP
  have hD : va_D A0 (wX G A (su S6 2 0 (upd (S6 2 0) 1 (S6 0 0 1))) r) := hD
  generalize hn7 : (su S6 2 0 (upd (S6 2 0) 1 (S6 0 0 1))) = S7 at hP hD
  refine lv_aload_n hx hb dX0_copyFrom_91 rfl (lv_at hl 0 rfl) ?_
  refine lv_aload_n hx hb dX0_copyFrom_92 rfl (lv_at hl 1 rfl) ?_
  refine va_get (D := G.1) (ci := 0) (v := .int (S7 0 0 2)) (C := RX0) (T := TX0) (N := 12) hx hb hts hinX0 hown hK.1 hP (6 * 0) (wX_o G A S7 r 0 (by decide)) rfl 7 (by decide) (hts (.fieldLink RX0 46 "WireLoops$Chip" "wear" "I") (List.mem_of_getElem? (i := 12) rfl)) (fun _ h9 => h9) rfl dX0_copyFrom_93 ?_
  refine va_put (D := G.1) (ci := 0) (v := .int (S7 0 0 2)) (ty := .int) (C := RX0) (T := TX0) (N := 12) hx hb hts hinX0 tyX0 tyX0_ok nmX0 hown hK.1 hP hD hS (6 * 2) (wX_o G A S7 r 2 (by decide)) rfl (5 + 2) (by decide) (hts (.fieldLink RX0 46 "WireLoops$Chip" "wear" "I") (List.mem_of_getElem? (i := 12) rfl)) (fun _ h9 => h9) rfl (by decide +kernel) rfl rfl (Nat.le_of_ble_eq_true rfl) dX0_copyFrom_96 (fun H locs hP hD hS => ?_)
  rw [wX_so G A S7 r 2 2 (by decide) (by decide) _] at hP hD
  have hP : va_P G.1 vwCl (wX G A (su S7 2 0 (upd (S7 2 0) 2 (S7 0 0 2))) r) H := hP
  have hD : va_D A0 (wX G A (su S7 2 0 (upd (S7 2 0) 2 (S7 0 0 2))) r) := hD
  generalize hn8 : (su S7 2 0 (upd (S7 2 0) 2 (S7 0 0 2))) = S8 at hP hD
  refine lv_aload_n hx hb dX0_copyFrom_99 rfl (lv_at hl 0 rfl) ?_
  refine lv_aload_n hx hb dX0_copyFrom_100 rfl (lv_at hl 1 rfl) ?_
  refine va_get (D := G.1) (ci := 0) (v := .int (S8 0 0 3)) (C := RX0) (T := TX0) (N := 12) hx hb hts hinX0 hown hK.1 hP (6 * 0) (wX_o G A S8 r 0 (by decide)) rfl 8 (by decide) (hts (.fieldLink RX0 49 "WireLoops$Chip" "toolsChanged" "I") (List.mem_of_getElem? (i := 13) rfl)) (fun _ h9 => h9) rfl dX0_copyFrom_101 ?_
  refine va_put (D := G.1) (ci := 0) (v := .int (S8 0 0 3)) (ty := .int) (C := RX0) (T := TX0) (N := 12) hx hb hts hinX0 tyX0 tyX0_ok nmX0 hown hK.1 hP hD hS (6 * 2) (wX_o G A S8 r 2 (by decide)) rfl (5 + 3) (by decide) (hts (.fieldLink RX0 49 "WireLoops$Chip" "toolsChanged" "I") (List.mem_of_getElem? (i := 13) rfl)) (fun _ h9 => h9) rfl (by decide +kernel) rfl rfl (Nat.le_of_ble_eq_true rfl) dX0_copyFrom_104 (fun H locs hP hD hS => ?_)
  rw [wX_so G A S8 r 2 3 (by decide) (by decide) _] at hP hD
  have hP : va_P G.1 vwCl (wX G A (su S8 2 0 (upd (S8 2 0) 3 (S8 0 0 3))) r) H := hP
  have hD : va_D A0 (wX G A (su S8 2 0 (upd (S8 2 0) 3 (S8 0 0 3))) r) := hD
  generalize hn9 : (su S8 2 0 (upd (S8 2 0) 3 (S8 0 0 3))) = S9 at hP hD
  refine lv_aload_n hx hb dX0_copyFrom_107 rfl (lv_at hl 0 rfl) ?_
  refine lv_aload_n hx hb dX0_copyFrom_108 rfl (lv_at hl 1 rfl) ?_
  refine va_get (D := G.1) (ci := 0) (v := .int (S9 0 0 4)) (C := RX0) (T := TX0) (N := 12) hx hb hts hinX0 hown hK.1 hP (6 * 0) (wX_o G A S9 r 0 (by decide)) rfl 9 (by decide) (hts (.fieldLink RX0 52 "WireLoops$Chip" "tailLost" "Z") (List.mem_of_getElem? (i := 14) rfl)) (fun _ h9 => h9) rfl dX0_copyFrom_109 ?_
  refine va_put (D := G.1) (ci := 0) (v := .int (S9 0 0 4)) (ty := .boolean) (C := RX0) (T := TX0) (N := 12) hx hb hts hinX0 tyX0 tyX0_ok nmX0 hown hK.1 hP hD hS (6 * 2) (wX_o G A S9 r 2 (by decide)) rfl (5 + 4) (by decide) (hts (.fieldLink RX0 52 "WireLoops$Chip" "tailLost" "Z") (List.mem_of_getElem? (i := 14) rfl)) (fun _ h9 => h9) rfl (by decide +kernel) (nb_of (by subst_vars; exact hbj)) (fb_of (by subst_vars; exact hbj)) (Nat.le_of_ble_eq_true rfl) dX0_copyFrom_112 (fun H locs hP hD hS => ?_)
  rw [wX_so G A S9 r 2 4 (by decide) (by decide) _] at hP hD
  have hP : va_P G.1 vwCl (wX G A (su S9 2 0 (upd (S9 2 0) 4 (S9 0 0 4))) r) H := hP
  have hD : va_D A0 (wX G A (su S9 2 0 (upd (S9 2 0) 4 (S9 0 0 4))) r) := hD
  generalize hn10 : (su S9 2 0 (upd (S9 2 0) 4 (S9 0 0 4))) = S10 at hP hD
  refine lv_aload_n hx hb dX0_copyFrom_115 rfl (lv_at hl 0 rfl) ?_
  refine lv_aload_n hx hb dX0_copyFrom_116 rfl (lv_at hl 1 rfl) ?_
  refine va_get (D := G.1) (ci := 0) (v := .int (S10 0 0 5)) (C := RX0) (T := TX0) (N := 12) hx hb hts hinX0 hown hK.1 hP (6 * 0) (wX_o G A S10 r 0 (by decide)) rfl 10 (by decide) (hts (.fieldLink RX0 56 "WireLoops$Chip" "tailsLost" "I") (List.mem_of_getElem? (i := 15) rfl)) (fun _ h9 => h9) rfl dX0_copyFrom_117 ?_
  refine va_put (D := G.1) (ci := 0) (v := .int (S10 0 0 5)) (ty := .int) (C := RX0) (T := TX0) (N := 12) hx hb hts hinX0 tyX0 tyX0_ok nmX0 hown hK.1 hP hD hS (6 * 2) (wX_o G A S10 r 2 (by decide)) rfl (5 + 5) (by decide) (hts (.fieldLink RX0 56 "WireLoops$Chip" "tailsLost" "I") (List.mem_of_getElem? (i := 15) rfl)) (fun _ h9 => h9) rfl (by decide +kernel) rfl rfl (Nat.le_of_ble_eq_true rfl) dX0_copyFrom_120 (fun H locs hP hD hS => ?_)
  rw [wX_so G A S10 r 2 5 (by decide) (by decide) _] at hP hD
  have hP : va_P G.1 vwCl (wX G A (su S10 2 0 (upd (S10 2 0) 5 (S10 0 0 5))) r) H := hP
  have hD : va_D A0 (wX G A (su S10 2 0 (upd (S10 2 0) 5 (S10 0 0 5))) r) := hD
  generalize hn11 : (su S10 2 0 (upd (S10 2 0) 5 (S10 0 0 5))) = S11 at hP hD
  refine lv_aload_n hx hb dX0_copyFrom_123 rfl (lv_at hl 0 rfl) ?_
  refine lv_aload_n hx hb dX0_copyFrom_124 rfl (lv_at hl 1 rfl) ?_
  refine va_get (D := G.1) (ci := 0) (v := .int (S11 0 0 6)) (C := RX0) (T := TX0) (N := 12) hx hb hts hinX0 hown hK.1 hP (6 * 0) (wX_o G A S11 r 0 (by decide)) rfl 11 (by decide) (hts (.fieldLink RX0 59 "WireLoops$Chip" "broken" "I") (List.mem_of_getElem? (i := 16) rfl)) (fun _ h9 => h9) rfl dX0_copyFrom_125 ?_
  refine va_put (D := G.1) (ci := 0) (v := .int (S11 0 0 6)) (ty := .int) (C := RX0) (T := TX0) (N := 12) hx hb hts hinX0 tyX0 tyX0_ok nmX0 hown hK.1 hP hD hS (6 * 2) (wX_o G A S11 r 2 (by decide)) rfl (5 + 6) (by decide) (hts (.fieldLink RX0 59 "WireLoops$Chip" "broken" "I") (List.mem_of_getElem? (i := 16) rfl)) (fun _ h9 => h9) rfl (by decide +kernel) rfl rfl (Nat.le_of_ble_eq_true rfl) dX0_copyFrom_128 (fun H locs hP hD hS => ?_)
  rw [wX_so G A S11 r 2 6 (by decide) (by decide) _] at hP hD
  have hP : va_P G.1 vwCl (wX G A (su S11 2 0 (upd (S11 2 0) 6 (S11 0 0 6))) r) H := hP
  have hD : va_D A0 (wX G A (su S11 2 0 (upd (S11 2 0) 6 (S11 0 0 6))) r) := hD
  generalize hn12 : (su S11 2 0 (upd (S11 2 0) 6 (S11 0 0 6))) = S12 at hP hD
  have he : eqX S12 (sc S 2 0) := by
    subst_vars
    refine ⟨?_, eqR.rfl'⟩
    intro x hx7
    rcases (show x = 0 ∨ x = 1 ∨ x = 2 ∨ x = 3 ∨ x = 4 ∨ x = 5 ∨ x = 6 by omega) with rfl | rfl | rfl | rfl | rfl | rfl | rfl
    · exact eqC.rfl'
    · exact eqC.rfl'
    · exact ⟨by intro k hk; rcases (show k = 0 ∨ k = 1 ∨ k = 2 ∨ k = 3 ∨ k = 4 ∨ k = 5 ∨ k = 6 by omega) with rfl | rfl | rfl | rfl | rfl | rfl | rfl <;> rfl, cpy16, cpy12, cpy12, cpy12, cpy12⟩
    · exact eqC.rfl'
    · exact eqC.rfl'
    · exact eqC.rfl'
    · exact eqC.rfl'
  have hP : va_P G.1 vwCl (wX G A (sc S 2 0) r) H := wX_ext he (fun _ _ => rfl) hP
  have hD : va_D A0 (wX G A (sc S 2 0) r) := wX_D hD
  exact endZ hx hb hr hlocks hP hD hS rfl dX0_copyFrom_131
def f_X0_copyFrom_3_0 (S : XS) : XS := sc S 3 0
theorem e_X0_copyFrom_3_0 (S : XS) : f_X0_copyFrom_3_0 S = sc S 3 0 := rfl
set_option maxHeartbeats 4000000 in
set_option maxRecDepth 100000 in
theorem c_X0_copyFrom_3_0 (l : Launch) (G : GG) (A : Nat → Nat) (S : XS) (r : Nat)  (hbj : S 0 0 4 = 0 ∨ S 0 0 4 = 1) : Mz l yX0_copyFrom wsX0_copyFrom ({ frames := 1, cells := 0, slots := 0, locals := 26 } : Room) G [.ref (A (6 * 3)), .ref (A (6 * 0))] (wX G A S r) (wX G A (f_X0_copyFrom_3_0 S) r) := by
  refine Mz.of (cc := cX0_copyFrom) (maxL := 2) (ret := none) (by decide) rfl (Nat.le_of_ble_eq_true rfl) ?_
  intro p e s m args below meth c A0 hA0 E hr hlocks hP hK hD hA hS ls hl
  have E : CallFix p m c cX0_copyFrom 2 s args wsX0_copyFrom RX0 := E
  have hx := E.1
  have hb := E.2.1
  have hml := E.2.2.1
  have hown := E.2.2.2.1
  have hts := E.2.2.2.2
  have hl : lv_has ls 2 [(0, .ref (A (6 * 3))), (1, .ref (A (6 * 0)))] := hl
  have hinX0 : ∀ w ∈ u_ws RX0 TX0 12, w ∈ wsX0_copyFrom := fun _ h => List.mem_cons_of_mem _ (List.mem_append_right _ h)
  refine lv_aload_n hx hb dX0_copyFrom_0 rfl (lv_at hl 1 rfl) ?_
  refine va_get (D := G.1) (ci := 0) (v := .ref (A (6 * 0 + 1))) (C := RX0) (T := TX0) (N := 12) hx hb hts hinX0 hown hK.1 hP (6 * 0) (wX_o G A S r 0 (by decide)) rfl 0 (by decide) (hts (.fieldLink RX0 9 "WireLoops$Chip" "leadX" "[I") (List.mem_of_getElem? (i := 1) rfl)) (fun _ h9 => h9) rfl dX0_copyFrom_1 ?_
  refine lv_iconst (v := 0) hx hb dX0_copyFrom_4 (by decide) ?_
  refine lv_aload_n hx hb dX0_copyFrom_5 rfl (lv_at hl 0 rfl) ?_
  refine va_get (D := G.1) (ci := 0) (v := .ref (A (6 * 3 + 1))) (C := RX0) (T := TX0) (N := 12) hx hb hts hinX0 hown hK.1 hP (6 * 3) (wX_o G A S r 3 (by decide)) rfl 0 (by decide) (hts (.fieldLink RX0 9 "WireLoops$Chip" "leadX" "[I") (List.mem_of_getElem? (i := 1) rfl)) (fun _ h9 => h9) rfl dX0_copyFrom_6 ?_
  refine lv_iconst (v := 0) hx hb dX0_copyFrom_9 (by decide) ?_
  refine lv_bipush (v := 16) hx hb dX0_copyFrom_10 (by decide) ?_
  refine va_copyi (D := G.1) hx hb (by rw [hml]; exact hl.1.symm) hown (hts (.methodLink RX0 37 arraycopyName) (List.mem_of_getElem? (i := 2) rfl)) (hts (.native arraycopyName) (List.mem_of_getElem? (i := 3) rfl)) (hts (.static arraycopyName) (List.mem_of_getElem? (i := 4) rfl)) (hts (.initialized "java/lang/System") (List.mem_of_getElem? (i := 5) rfl)) hK.1 hP hD hS (6 * 0 + 1) (6 * 3 + 1) 0 0 (wX_1 G A S r 0 (by decide)) (wX_1 G A S r 3 (by decide)) rfl rfl rfl (by decide) (by decide) (by decide) (by decide) (by decide) (fun _ _ => rfl) (Nat.le_of_ble_eq_true rfl) (Nat.le_of_ble_eq_true rfl) dX0_copyFrom_12 (fun H locs hP hD hS => ?_)
  rw [wX_s1 G A S r 3 (by decide) _] at hP hD
  have hP : va_P G.1 vwCl (wX G A (su S 3 1 (va_cpy (S 0 1) (S 3 1) (0 : Int32).toNatClampNeg (0 : Int32).toNatClampNeg (16 : Int32).toNatClampNeg)) r) H := hP
  have hD : va_D A0 (wX G A (su S 3 1 (va_cpy (S 0 1) (S 3 1) (0 : Int32).toNatClampNeg (0 : Int32).toNatClampNeg (16 : Int32).toNatClampNeg)) r) := hD
  generalize hn1 : (su S 3 1 (va_cpy (S 0 1) (S 3 1) (0 : Int32).toNatClampNeg (0 : Int32).toNatClampNeg (16 : Int32).toNatClampNeg)) = S1 at hP hD
  refine lv_aload_n hx hb dX0_copyFrom_15 rfl (lv_at hl 1 rfl) ?_
  refine va_get (D := G.1) (ci := 0) (v := .ref (A (6 * 0 + 2))) (C := RX0) (T := TX0) (N := 12) hx hb hts hinX0 hown hK.1 hP (6 * 0) (wX_o G A S1 r 0 (by decide)) rfl 1 (by decide) (hts (.fieldLink RX0 15 "WireLoops$Chip" "leadOf" "[I") (List.mem_of_getElem? (i := 6) rfl)) (fun _ h9 => h9) rfl dX0_copyFrom_16 ?_
  refine lv_iconst (v := 0) hx hb dX0_copyFrom_19 (by decide) ?_
  refine lv_aload_n hx hb dX0_copyFrom_20 rfl (lv_at hl 0 rfl) ?_
  refine va_get (D := G.1) (ci := 0) (v := .ref (A (6 * 3 + 2))) (C := RX0) (T := TX0) (N := 12) hx hb hts hinX0 hown hK.1 hP (6 * 3) (wX_o G A S1 r 3 (by decide)) rfl 1 (by decide) (hts (.fieldLink RX0 15 "WireLoops$Chip" "leadOf" "[I") (List.mem_of_getElem? (i := 6) rfl)) (fun _ h9 => h9) rfl dX0_copyFrom_21 ?_
  refine lv_iconst (v := 0) hx hb dX0_copyFrom_24 (by decide) ?_
  refine lv_bipush (v := 12) hx hb dX0_copyFrom_25 (by decide) ?_
  refine va_copyi (D := G.1) hx hb (by rw [hml]; exact hl.1.symm) hown (hts (.methodLink RX0 37 arraycopyName) (List.mem_of_getElem? (i := 2) rfl)) (hts (.native arraycopyName) (List.mem_of_getElem? (i := 3) rfl)) (hts (.static arraycopyName) (List.mem_of_getElem? (i := 4) rfl)) (hts (.initialized "java/lang/System") (List.mem_of_getElem? (i := 5) rfl)) hK.1 hP hD hS (6 * 0 + 2) (6 * 3 + 2) 0 0 (wX_c G A S1 r 0 2 (by decide) (by decide) (by decide)) (wX_c G A S1 r 3 2 (by decide) (by decide) (by decide)) rfl rfl rfl (by decide) (by decide) (by decide) (by decide) (by decide) (fun _ _ => rfl) (Nat.le_of_ble_eq_true rfl) (Nat.le_of_ble_eq_true rfl) dX0_copyFrom_27 (fun H locs hP hD hS => ?_)
  rw [wX_sc G A S1 r 3 2 (by decide) (by decide) (by decide) _] at hP hD
  have hP : va_P G.1 vwCl (wX G A (su S1 3 2 (va_cpy (S1 0 2) (S1 3 2) (0 : Int32).toNatClampNeg (0 : Int32).toNatClampNeg (12 : Int32).toNatClampNeg)) r) H := hP
  have hD : va_D A0 (wX G A (su S1 3 2 (va_cpy (S1 0 2) (S1 3 2) (0 : Int32).toNatClampNeg (0 : Int32).toNatClampNeg (12 : Int32).toNatClampNeg)) r) := hD
  generalize hn2 : (su S1 3 2 (va_cpy (S1 0 2) (S1 3 2) (0 : Int32).toNatClampNeg (0 : Int32).toNatClampNeg (12 : Int32).toNatClampNeg)) = S2 at hP hD
  refine lv_aload_n hx hb dX0_copyFrom_30 rfl (lv_at hl 1 rfl) ?_
  refine va_get (D := G.1) (ci := 0) (v := .ref (A (6 * 0 + 3))) (C := RX0) (T := TX0) (N := 12) hx hb hts hinX0 hown hK.1 hP (6 * 0) (wX_o G A S2 r 0 (by decide)) rfl 2 (by decide) (hts (.fieldLink RX0 18 "WireLoops$Chip" "height" "[I") (List.mem_of_getElem? (i := 7) rfl)) (fun _ h9 => h9) rfl dX0_copyFrom_31 ?_
  refine lv_iconst (v := 0) hx hb dX0_copyFrom_34 (by decide) ?_
  refine lv_aload_n hx hb dX0_copyFrom_35 rfl (lv_at hl 0 rfl) ?_
  refine va_get (D := G.1) (ci := 0) (v := .ref (A (6 * 3 + 3))) (C := RX0) (T := TX0) (N := 12) hx hb hts hinX0 hown hK.1 hP (6 * 3) (wX_o G A S2 r 3 (by decide)) rfl 2 (by decide) (hts (.fieldLink RX0 18 "WireLoops$Chip" "height" "[I") (List.mem_of_getElem? (i := 7) rfl)) (fun _ h9 => h9) rfl dX0_copyFrom_36 ?_
  refine lv_iconst (v := 0) hx hb dX0_copyFrom_39 (by decide) ?_
  refine lv_bipush (v := 12) hx hb dX0_copyFrom_40 (by decide) ?_
  refine va_copyi (D := G.1) hx hb (by rw [hml]; exact hl.1.symm) hown (hts (.methodLink RX0 37 arraycopyName) (List.mem_of_getElem? (i := 2) rfl)) (hts (.native arraycopyName) (List.mem_of_getElem? (i := 3) rfl)) (hts (.static arraycopyName) (List.mem_of_getElem? (i := 4) rfl)) (hts (.initialized "java/lang/System") (List.mem_of_getElem? (i := 5) rfl)) hK.1 hP hD hS (6 * 0 + 3) (6 * 3 + 3) 0 0 (wX_c G A S2 r 0 3 (by decide) (by decide) (by decide)) (wX_c G A S2 r 3 3 (by decide) (by decide) (by decide)) rfl rfl rfl (by decide) (by decide) (by decide) (by decide) (by decide) (fun _ _ => rfl) (Nat.le_of_ble_eq_true rfl) (Nat.le_of_ble_eq_true rfl) dX0_copyFrom_42 (fun H locs hP hD hS => ?_)
  rw [wX_sc G A S2 r 3 3 (by decide) (by decide) (by decide) _] at hP hD
  have hP : va_P G.1 vwCl (wX G A (su S2 3 3 (va_cpy (S2 0 3) (S2 3 3) (0 : Int32).toNatClampNeg (0 : Int32).toNatClampNeg (12 : Int32).toNatClampNeg)) r) H := hP
  have hD : va_D A0 (wX G A (su S2 3 3 (va_cpy (S2 0 3) (S2 3 3) (0 : Int32).toNatClampNeg (0 : Int32).toNatClampNeg (12 : Int32).toNatClampNeg)) r) := hD
  generalize hn3 : (su S2 3 3 (va_cpy (S2 0 3) (S2 3 3) (0 : Int32).toNatClampNeg (0 : Int32).toNatClampNeg (12 : Int32).toNatClampNeg)) = S3 at hP hD
  refine lv_aload_n hx hb dX0_copyFrom_45 rfl (lv_at hl 1 rfl) ?_
  refine va_get (D := G.1) (ci := 0) (v := .ref (A (6 * 0 + 4))) (C := RX0) (T := TX0) (N := 12) hx hb hts hinX0 hown hK.1 hP (6 * 0) (wX_o G A S3 r 0 (by decide)) rfl 3 (by decide) (hts (.fieldLink RX0 21 "WireLoops$Chip" "strength" "[I") (List.mem_of_getElem? (i := 8) rfl)) (fun _ h9 => h9) rfl dX0_copyFrom_46 ?_
  refine lv_iconst (v := 0) hx hb dX0_copyFrom_49 (by decide) ?_
  refine lv_aload_n hx hb dX0_copyFrom_50 rfl (lv_at hl 0 rfl) ?_
  refine va_get (D := G.1) (ci := 0) (v := .ref (A (6 * 3 + 4))) (C := RX0) (T := TX0) (N := 12) hx hb hts hinX0 hown hK.1 hP (6 * 3) (wX_o G A S3 r 3 (by decide)) rfl 3 (by decide) (hts (.fieldLink RX0 21 "WireLoops$Chip" "strength" "[I") (List.mem_of_getElem? (i := 8) rfl)) (fun _ h9 => h9) rfl dX0_copyFrom_51 ?_
  refine lv_iconst (v := 0) hx hb dX0_copyFrom_54 (by decide) ?_
  refine lv_bipush (v := 12) hx hb dX0_copyFrom_55 (by decide) ?_
  refine va_copyi (D := G.1) hx hb (by rw [hml]; exact hl.1.symm) hown (hts (.methodLink RX0 37 arraycopyName) (List.mem_of_getElem? (i := 2) rfl)) (hts (.native arraycopyName) (List.mem_of_getElem? (i := 3) rfl)) (hts (.static arraycopyName) (List.mem_of_getElem? (i := 4) rfl)) (hts (.initialized "java/lang/System") (List.mem_of_getElem? (i := 5) rfl)) hK.1 hP hD hS (6 * 0 + 4) (6 * 3 + 4) 0 0 (wX_c G A S3 r 0 4 (by decide) (by decide) (by decide)) (wX_c G A S3 r 3 4 (by decide) (by decide) (by decide)) rfl rfl rfl (by decide) (by decide) (by decide) (by decide) (by decide) (fun _ _ => rfl) (Nat.le_of_ble_eq_true rfl) (Nat.le_of_ble_eq_true rfl) dX0_copyFrom_57 (fun H locs hP hD hS => ?_)
  rw [wX_sc G A S3 r 3 4 (by decide) (by decide) (by decide) _] at hP hD
  have hP : va_P G.1 vwCl (wX G A (su S3 3 4 (va_cpy (S3 0 4) (S3 3 4) (0 : Int32).toNatClampNeg (0 : Int32).toNatClampNeg (12 : Int32).toNatClampNeg)) r) H := hP
  have hD : va_D A0 (wX G A (su S3 3 4 (va_cpy (S3 0 4) (S3 3 4) (0 : Int32).toNatClampNeg (0 : Int32).toNatClampNeg (12 : Int32).toNatClampNeg)) r) := hD
  generalize hn4 : (su S3 3 4 (va_cpy (S3 0 4) (S3 3 4) (0 : Int32).toNatClampNeg (0 : Int32).toNatClampNeg (12 : Int32).toNatClampNeg)) = S4 at hP hD
  refine lv_aload_n hx hb dX0_copyFrom_60 rfl (lv_at hl 1 rfl) ?_
  refine va_get (D := G.1) (ci := 0) (v := .ref (A (6 * 0 + 5))) (C := RX0) (T := TX0) (N := 12) hx hb hts hinX0 hown hK.1 hP (6 * 0) (wX_o G A S4 r 0 (by decide)) rfl 4 (by decide) (hts (.fieldLink RX0 24 "WireLoops$Chip" "number" "[I") (List.mem_of_getElem? (i := 9) rfl)) (fun _ h9 => h9) rfl dX0_copyFrom_61 ?_
  refine lv_iconst (v := 0) hx hb dX0_copyFrom_64 (by decide) ?_
  refine lv_aload_n hx hb dX0_copyFrom_65 rfl (lv_at hl 0 rfl) ?_
  refine va_get (D := G.1) (ci := 0) (v := .ref (A (6 * 3 + 5))) (C := RX0) (T := TX0) (N := 12) hx hb hts hinX0 hown hK.1 hP (6 * 3) (wX_o G A S4 r 3 (by decide)) rfl 4 (by decide) (hts (.fieldLink RX0 24 "WireLoops$Chip" "number" "[I") (List.mem_of_getElem? (i := 9) rfl)) (fun _ h9 => h9) rfl dX0_copyFrom_66 ?_
  refine lv_iconst (v := 0) hx hb dX0_copyFrom_69 (by decide) ?_
  refine lv_bipush (v := 12) hx hb dX0_copyFrom_70 (by decide) ?_
  refine va_copyi (D := G.1) hx hb (by rw [hml]; exact hl.1.symm) hown (hts (.methodLink RX0 37 arraycopyName) (List.mem_of_getElem? (i := 2) rfl)) (hts (.native arraycopyName) (List.mem_of_getElem? (i := 3) rfl)) (hts (.static arraycopyName) (List.mem_of_getElem? (i := 4) rfl)) (hts (.initialized "java/lang/System") (List.mem_of_getElem? (i := 5) rfl)) hK.1 hP hD hS (6 * 0 + 5) (6 * 3 + 5) 0 0 (wX_c G A S4 r 0 5 (by decide) (by decide) (by decide)) (wX_c G A S4 r 3 5 (by decide) (by decide) (by decide)) rfl rfl rfl (by decide) (by decide) (by decide) (by decide) (by decide) (fun _ _ => rfl) (Nat.le_of_ble_eq_true rfl) (Nat.le_of_ble_eq_true rfl) dX0_copyFrom_72 (fun H locs hP hD hS => ?_)
  rw [wX_sc G A S4 r 3 5 (by decide) (by decide) (by decide) _] at hP hD
  have hP : va_P G.1 vwCl (wX G A (su S4 3 5 (va_cpy (S4 0 5) (S4 3 5) (0 : Int32).toNatClampNeg (0 : Int32).toNatClampNeg (12 : Int32).toNatClampNeg)) r) H := hP
  have hD : va_D A0 (wX G A (su S4 3 5 (va_cpy (S4 0 5) (S4 3 5) (0 : Int32).toNatClampNeg (0 : Int32).toNatClampNeg (12 : Int32).toNatClampNeg)) r) := hD
  generalize hn5 : (su S4 3 5 (va_cpy (S4 0 5) (S4 3 5) (0 : Int32).toNatClampNeg (0 : Int32).toNatClampNeg (12 : Int32).toNatClampNeg)) = S5 at hP hD
  refine lv_aload_n hx hb dX0_copyFrom_75 rfl (lv_at hl 0 rfl) ?_
  refine lv_aload_n hx hb dX0_copyFrom_76 rfl (lv_at hl 1 rfl) ?_
  refine va_get (D := G.1) (ci := 0) (v := .int (S5 0 0 0)) (C := RX0) (T := TX0) (N := 12) hx hb hts hinX0 hown hK.1 hP (6 * 0) (wX_o G A S5 r 0 (by decide)) rfl 5 (by decide) (hts (.fieldLink RX0 43 "WireLoops$Chip" "laid" "I") (List.mem_of_getElem? (i := 10) rfl)) (fun _ h9 => h9) rfl dX0_copyFrom_77 ?_
  refine va_put (D := G.1) (ci := 0) (v := .int (S5 0 0 0)) (ty := .int) (C := RX0) (T := TX0) (N := 12) hx hb hts hinX0 tyX0 tyX0_ok nmX0 hown hK.1 hP hD hS (6 * 3) (wX_o G A S5 r 3 (by decide)) rfl (5 + 0) (by decide) (hts (.fieldLink RX0 43 "WireLoops$Chip" "laid" "I") (List.mem_of_getElem? (i := 10) rfl)) (fun _ h9 => h9) rfl (by decide +kernel) rfl rfl (Nat.le_of_ble_eq_true rfl) dX0_copyFrom_80 (fun H locs hP hD hS => ?_)
  rw [wX_so G A S5 r 3 0 (by decide) (by decide) _] at hP hD
  have hP : va_P G.1 vwCl (wX G A (su S5 3 0 (upd (S5 3 0) 0 (S5 0 0 0))) r) H := hP
  have hD : va_D A0 (wX G A (su S5 3 0 (upd (S5 3 0) 0 (S5 0 0 0))) r) := hD
  generalize hn6 : (su S5 3 0 (upd (S5 3 0) 0 (S5 0 0 0))) = S6 at hP hD
  refine lv_aload_n hx hb dX0_copyFrom_83 rfl (lv_at hl 0 rfl) ?_
  refine lv_aload_n hx hb dX0_copyFrom_84 rfl (lv_at hl 1 rfl) ?_
  refine va_get (D := G.1) (ci := 0) (v := .int (S6 0 0 1)) (C := RX0) (T := TX0) (N := 12) hx hb hts hinX0 hown hK.1 hP (6 * 0) (wX_o G A S6 r 0 (by decide)) rfl 6 (by decide) (hts (.fieldLink RX0 33 "WireLoops$Chip" "width" "I") (List.mem_of_getElem? (i := 11) rfl)) (fun _ h9 => h9) rfl dX0_copyFrom_85 ?_
  refine va_put (D := G.1) (ci := 0) (v := .int (S6 0 0 1)) (ty := .int) (C := RX0) (T := TX0) (N := 12) hx hb hts hinX0 tyX0 tyX0_ok nmX0 hown hK.1 hP hD hS (6 * 3) (wX_o G A S6 r 3 (by decide)) rfl (5 + 1) (by decide) (hts (.fieldLink RX0 33 "WireLoops$Chip" "width" "I") (List.mem_of_getElem? (i := 11) rfl)) (fun _ h9 => h9) rfl (by decide +kernel) rfl rfl (Nat.le_of_ble_eq_true rfl) dX0_copyFrom_88 (fun H locs hP hD hS => ?_)
  rw [wX_so G A S6 r 3 1 (by decide) (by decide) _] at hP hD
  have hP : va_P G.1 vwCl (wX G A (su S6 3 0 (upd (S6 3 0) 1 (S6 0 0 1))) r) H := hP
  have hD : va_D A0 (wX G A (su S6 3 0 (upd (S6 3 0) 1 (S6 0 0 1))) r) := hD
  generalize hn7 : (su S6 3 0 (upd (S6 3 0) 1 (S6 0 0 1))) = S7 at hP hD
  refine lv_aload_n hx hb dX0_copyFrom_91 rfl (lv_at hl 0 rfl) ?_
  refine lv_aload_n hx hb dX0_copyFrom_92 rfl (lv_at hl 1 rfl) ?_
  refine va_get (D := G.1) (ci := 0) (v := .int (S7 0 0 2)) (C := RX0) (T := TX0) (N := 12) hx hb hts hinX0 hown hK.1 hP (6 * 0) (wX_o G A S7 r 0 (by decide)) rfl 7 (by decide) (hts (.fieldLink RX0 46 "WireLoops$Chip" "wear" "I") (List.mem_of_getElem? (i := 12) rfl)) (fun _ h9 => h9) rfl dX0_copyFrom_93 ?_
  refine va_put (D := G.1) (ci := 0) (v := .int (S7 0 0 2)) (ty := .int) (C := RX0) (T := TX0) (N := 12) hx hb hts hinX0 tyX0 tyX0_ok nmX0 hown hK.1 hP hD hS (6 * 3) (wX_o G A S7 r 3 (by decide)) rfl (5 + 2) (by decide) (hts (.fieldLink RX0 46 "WireLoops$Chip" "wear" "I") (List.mem_of_getElem? (i := 12) rfl)) (fun _ h9 => h9) rfl (by decide +kernel) rfl rfl (Nat.le_of_ble_eq_true rfl) dX0_copyFrom_96 (fun H locs hP hD hS => ?_)
  rw [wX_so G A S7 r 3 2 (by decide) (by decide) _] at hP hD
  have hP : va_P G.1 vwCl (wX G A (su S7 3 0 (upd (S7 3 0) 2 (S7 0 0 2))) r) H := hP
  have hD : va_D A0 (wX G A (su S7 3 0 (upd (S7 3 0) 2 (S7 0 0 2))) r) := hD
  generalize hn8 : (su S7 3 0 (upd (S7 3 0) 2 (S7 0 0 2))) = S8 at hP hD
  refine lv_aload_n hx hb dX0_copyFrom_99 rfl (lv_at hl 0 rfl) ?_
  refine lv_aload_n hx hb dX0_copyFrom_100 rfl (lv_at hl 1 rfl) ?_
  refine va_get (D := G.1) (ci := 0) (v := .int (S8 0 0 3)) (C := RX0) (T := TX0) (N := 12) hx hb hts hinX0 hown hK.1 hP (6 * 0) (wX_o G A S8 r 0 (by decide)) rfl 8 (by decide) (hts (.fieldLink RX0 49 "WireLoops$Chip" "toolsChanged" "I") (List.mem_of_getElem? (i := 13) rfl)) (fun _ h9 => h9) rfl dX0_copyFrom_101 ?_
  refine va_put (D := G.1) (ci := 0) (v := .int (S8 0 0 3)) (ty := .int) (C := RX0) (T := TX0) (N := 12) hx hb hts hinX0 tyX0 tyX0_ok nmX0 hown hK.1 hP hD hS (6 * 3) (wX_o G A S8 r 3 (by decide)) rfl (5 + 3) (by decide) (hts (.fieldLink RX0 49 "WireLoops$Chip" "toolsChanged" "I") (List.mem_of_getElem? (i := 13) rfl)) (fun _ h9 => h9) rfl (by decide +kernel) rfl rfl (Nat.le_of_ble_eq_true rfl) dX0_copyFrom_104 (fun H locs hP hD hS => ?_)
  rw [wX_so G A S8 r 3 3 (by decide) (by decide) _] at hP hD
  have hP : va_P G.1 vwCl (wX G A (su S8 3 0 (upd (S8 3 0) 3 (S8 0 0 3))) r) H := hP
  have hD : va_D A0 (wX G A (su S8 3 0 (upd (S8 3 0) 3 (S8 0 0 3))) r) := hD
  generalize hn9 : (su S8 3 0 (upd (S8 3 0) 3 (S8 0 0 3))) = S9 at hP hD
  refine lv_aload_n hx hb dX0_copyFrom_107 rfl (lv_at hl 0 rfl) ?_
  refine lv_aload_n hx hb dX0_copyFrom_108 rfl (lv_at hl 1 rfl) ?_
  refine va_get (D := G.1) (ci := 0) (v := .int (S9 0 0 4)) (C := RX0) (T := TX0) (N := 12) hx hb hts hinX0 hown hK.1 hP (6 * 0) (wX_o G A S9 r 0 (by decide)) rfl 9 (by decide) (hts (.fieldLink RX0 52 "WireLoops$Chip" "tailLost" "Z") (List.mem_of_getElem? (i := 14) rfl)) (fun _ h9 => h9) rfl dX0_copyFrom_109 ?_
  refine va_put (D := G.1) (ci := 0) (v := .int (S9 0 0 4)) (ty := .boolean) (C := RX0) (T := TX0) (N := 12) hx hb hts hinX0 tyX0 tyX0_ok nmX0 hown hK.1 hP hD hS (6 * 3) (wX_o G A S9 r 3 (by decide)) rfl (5 + 4) (by decide) (hts (.fieldLink RX0 52 "WireLoops$Chip" "tailLost" "Z") (List.mem_of_getElem? (i := 14) rfl)) (fun _ h9 => h9) rfl (by decide +kernel) (nb_of (by subst_vars; exact hbj)) (fb_of (by subst_vars; exact hbj)) (Nat.le_of_ble_eq_true rfl) dX0_copyFrom_112 (fun H locs hP hD hS => ?_)
  rw [wX_so G A S9 r 3 4 (by decide) (by decide) _] at hP hD
  have hP : va_P G.1 vwCl (wX G A (su S9 3 0 (upd (S9 3 0) 4 (S9 0 0 4))) r) H := hP
  have hD : va_D A0 (wX G A (su S9 3 0 (upd (S9 3 0) 4 (S9 0 0 4))) r) := hD
  generalize hn10 : (su S9 3 0 (upd (S9 3 0) 4 (S9 0 0 4))) = S10 at hP hD
  refine lv_aload_n hx hb dX0_copyFrom_115 rfl (lv_at hl 0 rfl) ?_
  refine lv_aload_n hx hb dX0_copyFrom_116 rfl (lv_at hl 1 rfl) ?_
  refine va_get (D := G.1) (ci := 0) (v := .int (S10 0 0 5)) (C := RX0) (T := TX0) (N := 12) hx hb hts hinX0 hown hK.1 hP (6 * 0) (wX_o G A S10 r 0 (by decide)) rfl 10 (by decide) (hts (.fieldLink RX0 56 "WireLoops$Chip" "tailsLost" "I") (List.mem_of_getElem? (i := 15) rfl)) (fun _ h9 => h9) rfl dX0_copyFrom_117 ?_
  refine va_put (D := G.1) (ci := 0) (v := .int (S10 0 0 5)) (ty := .int) (C := RX0) (T := TX0) (N := 12) hx hb hts hinX0 tyX0 tyX0_ok nmX0 hown hK.1 hP hD hS (6 * 3) (wX_o G A S10 r 3 (by decide)) rfl (5 + 5) (by decide) (hts (.fieldLink RX0 56 "WireLoops$Chip" "tailsLost" "I") (List.mem_of_getElem? (i := 15) rfl)) (fun _ h9 => h9) rfl (by decide +kernel) rfl rfl (Nat.le_of_ble_eq_true rfl) dX0_copyFrom_120 (fun H locs hP hD hS => ?_)
  rw [wX_so G A S10 r 3 5 (by decide) (by decide) _] at hP hD
  have hP : va_P G.1 vwCl (wX G A (su S10 3 0 (upd (S10 3 0) 5 (S10 0 0 5))) r) H := hP
  have hD : va_D A0 (wX G A (su S10 3 0 (upd (S10 3 0) 5 (S10 0 0 5))) r) := hD
  generalize hn11 : (su S10 3 0 (upd (S10 3 0) 5 (S10 0 0 5))) = S11 at hP hD
  refine lv_aload_n hx hb dX0_copyFrom_123 rfl (lv_at hl 0 rfl) ?_
  refine lv_aload_n hx hb dX0_copyFrom_124 rfl (lv_at hl 1 rfl) ?_
  refine va_get (D := G.1) (ci := 0) (v := .int (S11 0 0 6)) (C := RX0) (T := TX0) (N := 12) hx hb hts hinX0 hown hK.1 hP (6 * 0) (wX_o G A S11 r 0 (by decide)) rfl 11 (by decide) (hts (.fieldLink RX0 59 "WireLoops$Chip" "broken" "I") (List.mem_of_getElem? (i := 16) rfl)) (fun _ h9 => h9) rfl dX0_copyFrom_125 ?_
  refine va_put (D := G.1) (ci := 0) (v := .int (S11 0 0 6)) (ty := .int) (C := RX0) (T := TX0) (N := 12) hx hb hts hinX0 tyX0 tyX0_ok nmX0 hown hK.1 hP hD hS (6 * 3) (wX_o G A S11 r 3 (by decide)) rfl (5 + 6) (by decide) (hts (.fieldLink RX0 59 "WireLoops$Chip" "broken" "I") (List.mem_of_getElem? (i := 16) rfl)) (fun _ h9 => h9) rfl (by decide +kernel) rfl rfl (Nat.le_of_ble_eq_true rfl) dX0_copyFrom_128 (fun H locs hP hD hS => ?_)
  rw [wX_so G A S11 r 3 6 (by decide) (by decide) _] at hP hD
  have hP : va_P G.1 vwCl (wX G A (su S11 3 0 (upd (S11 3 0) 6 (S11 0 0 6))) r) H := hP
  have hD : va_D A0 (wX G A (su S11 3 0 (upd (S11 3 0) 6 (S11 0 0 6))) r) := hD
  generalize hn12 : (su S11 3 0 (upd (S11 3 0) 6 (S11 0 0 6))) = S12 at hP hD
  have he : eqX S12 (sc S 3 0) := by
    subst_vars
    refine ⟨?_, eqR.rfl'⟩
    intro x hx7
    rcases (show x = 0 ∨ x = 1 ∨ x = 2 ∨ x = 3 ∨ x = 4 ∨ x = 5 ∨ x = 6 by omega) with rfl | rfl | rfl | rfl | rfl | rfl | rfl
    · exact eqC.rfl'
    · exact eqC.rfl'
    · exact eqC.rfl'
    · exact ⟨by intro k hk; rcases (show k = 0 ∨ k = 1 ∨ k = 2 ∨ k = 3 ∨ k = 4 ∨ k = 5 ∨ k = 6 by omega) with rfl | rfl | rfl | rfl | rfl | rfl | rfl <;> rfl, cpy16, cpy12, cpy12, cpy12, cpy12⟩
    · exact eqC.rfl'
    · exact eqC.rfl'
    · exact eqC.rfl'
  have hP : va_P G.1 vwCl (wX G A (sc S 3 0) r) H := wX_ext he (fun _ _ => rfl) hP
  have hD : va_D A0 (wX G A (sc S 3 0) r) := wX_D hD
  exact endZ hx hb hr hlocks hP hD hS rfl dX0_copyFrom_131
def f_X0_copyFrom_3_1 (S : XS) : XS := sc S 3 1
theorem e_X0_copyFrom_3_1 (S : XS) : f_X0_copyFrom_3_1 S = sc S 3 1 := rfl
set_option maxHeartbeats 4000000 in
set_option maxRecDepth 100000 in
theorem c_X0_copyFrom_3_1 (l : Launch) (G : GG) (A : Nat → Nat) (S : XS) (r : Nat)  (hbj : S 1 0 4 = 0 ∨ S 1 0 4 = 1) : Mz l yX0_copyFrom wsX0_copyFrom ({ frames := 1, cells := 0, slots := 0, locals := 26 } : Room) G [.ref (A (6 * 3)), .ref (A (6 * 1))] (wX G A S r) (wX G A (f_X0_copyFrom_3_1 S) r) := by
  refine Mz.of (cc := cX0_copyFrom) (maxL := 2) (ret := none) (by decide) rfl (Nat.le_of_ble_eq_true rfl) ?_
  intro p e s m args below meth c A0 hA0 E hr hlocks hP hK hD hA hS ls hl
  have E : CallFix p m c cX0_copyFrom 2 s args wsX0_copyFrom RX0 := E
  have hx := E.1
  have hb := E.2.1
  have hml := E.2.2.1
  have hown := E.2.2.2.1
  have hts := E.2.2.2.2
  have hl : lv_has ls 2 [(0, .ref (A (6 * 3))), (1, .ref (A (6 * 1)))] := hl
  have hinX0 : ∀ w ∈ u_ws RX0 TX0 12, w ∈ wsX0_copyFrom := fun _ h => List.mem_cons_of_mem _ (List.mem_append_right _ h)
  refine lv_aload_n hx hb dX0_copyFrom_0 rfl (lv_at hl 1 rfl) ?_
  refine va_get (D := G.1) (ci := 0) (v := .ref (A (6 * 1 + 1))) (C := RX0) (T := TX0) (N := 12) hx hb hts hinX0 hown hK.1 hP (6 * 1) (wX_o G A S r 1 (by decide)) rfl 0 (by decide) (hts (.fieldLink RX0 9 "WireLoops$Chip" "leadX" "[I") (List.mem_of_getElem? (i := 1) rfl)) (fun _ h9 => h9) rfl dX0_copyFrom_1 ?_
  refine lv_iconst (v := 0) hx hb dX0_copyFrom_4 (by decide) ?_
  refine lv_aload_n hx hb dX0_copyFrom_5 rfl (lv_at hl 0 rfl) ?_
  refine va_get (D := G.1) (ci := 0) (v := .ref (A (6 * 3 + 1))) (C := RX0) (T := TX0) (N := 12) hx hb hts hinX0 hown hK.1 hP (6 * 3) (wX_o G A S r 3 (by decide)) rfl 0 (by decide) (hts (.fieldLink RX0 9 "WireLoops$Chip" "leadX" "[I") (List.mem_of_getElem? (i := 1) rfl)) (fun _ h9 => h9) rfl dX0_copyFrom_6 ?_
  refine lv_iconst (v := 0) hx hb dX0_copyFrom_9 (by decide) ?_
  refine lv_bipush (v := 16) hx hb dX0_copyFrom_10 (by decide) ?_
  refine va_copyi (D := G.1) hx hb (by rw [hml]; exact hl.1.symm) hown (hts (.methodLink RX0 37 arraycopyName) (List.mem_of_getElem? (i := 2) rfl)) (hts (.native arraycopyName) (List.mem_of_getElem? (i := 3) rfl)) (hts (.static arraycopyName) (List.mem_of_getElem? (i := 4) rfl)) (hts (.initialized "java/lang/System") (List.mem_of_getElem? (i := 5) rfl)) hK.1 hP hD hS (6 * 1 + 1) (6 * 3 + 1) 0 0 (wX_1 G A S r 1 (by decide)) (wX_1 G A S r 3 (by decide)) rfl rfl rfl (by decide) (by decide) (by decide) (by decide) (by decide) (fun _ _ => rfl) (Nat.le_of_ble_eq_true rfl) (Nat.le_of_ble_eq_true rfl) dX0_copyFrom_12 (fun H locs hP hD hS => ?_)
  rw [wX_s1 G A S r 3 (by decide) _] at hP hD
  have hP : va_P G.1 vwCl (wX G A (su S 3 1 (va_cpy (S 1 1) (S 3 1) (0 : Int32).toNatClampNeg (0 : Int32).toNatClampNeg (16 : Int32).toNatClampNeg)) r) H := hP
  have hD : va_D A0 (wX G A (su S 3 1 (va_cpy (S 1 1) (S 3 1) (0 : Int32).toNatClampNeg (0 : Int32).toNatClampNeg (16 : Int32).toNatClampNeg)) r) := hD
  generalize hn1 : (su S 3 1 (va_cpy (S 1 1) (S 3 1) (0 : Int32).toNatClampNeg (0 : Int32).toNatClampNeg (16 : Int32).toNatClampNeg)) = S1 at hP hD
  refine lv_aload_n hx hb dX0_copyFrom_15 rfl (lv_at hl 1 rfl) ?_
  refine va_get (D := G.1) (ci := 0) (v := .ref (A (6 * 1 + 2))) (C := RX0) (T := TX0) (N := 12) hx hb hts hinX0 hown hK.1 hP (6 * 1) (wX_o G A S1 r 1 (by decide)) rfl 1 (by decide) (hts (.fieldLink RX0 15 "WireLoops$Chip" "leadOf" "[I") (List.mem_of_getElem? (i := 6) rfl)) (fun _ h9 => h9) rfl dX0_copyFrom_16 ?_
  refine lv_iconst (v := 0) hx hb dX0_copyFrom_19 (by decide) ?_
  refine lv_aload_n hx hb dX0_copyFrom_20 rfl (lv_at hl 0 rfl) ?_
  refine va_get (D := G.1) (ci := 0) (v := .ref (A (6 * 3 + 2))) (C := RX0) (T := TX0) (N := 12) hx hb hts hinX0 hown hK.1 hP (6 * 3) (wX_o G A S1 r 3 (by decide)) rfl 1 (by decide) (hts (.fieldLink RX0 15 "WireLoops$Chip" "leadOf" "[I") (List.mem_of_getElem? (i := 6) rfl)) (fun _ h9 => h9) rfl dX0_copyFrom_21 ?_
  refine lv_iconst (v := 0) hx hb dX0_copyFrom_24 (by decide) ?_
  refine lv_bipush (v := 12) hx hb dX0_copyFrom_25 (by decide) ?_
  refine va_copyi (D := G.1) hx hb (by rw [hml]; exact hl.1.symm) hown (hts (.methodLink RX0 37 arraycopyName) (List.mem_of_getElem? (i := 2) rfl)) (hts (.native arraycopyName) (List.mem_of_getElem? (i := 3) rfl)) (hts (.static arraycopyName) (List.mem_of_getElem? (i := 4) rfl)) (hts (.initialized "java/lang/System") (List.mem_of_getElem? (i := 5) rfl)) hK.1 hP hD hS (6 * 1 + 2) (6 * 3 + 2) 0 0 (wX_c G A S1 r 1 2 (by decide) (by decide) (by decide)) (wX_c G A S1 r 3 2 (by decide) (by decide) (by decide)) rfl rfl rfl (by decide) (by decide) (by decide) (by decide) (by decide) (fun _ _ => rfl) (Nat.le_of_ble_eq_true rfl) (Nat.le_of_ble_eq_true rfl) dX0_copyFrom_27 (fun H locs hP hD hS => ?_)
  rw [wX_sc G A S1 r 3 2 (by decide) (by decide) (by decide) _] at hP hD
  have hP : va_P G.1 vwCl (wX G A (su S1 3 2 (va_cpy (S1 1 2) (S1 3 2) (0 : Int32).toNatClampNeg (0 : Int32).toNatClampNeg (12 : Int32).toNatClampNeg)) r) H := hP
  have hD : va_D A0 (wX G A (su S1 3 2 (va_cpy (S1 1 2) (S1 3 2) (0 : Int32).toNatClampNeg (0 : Int32).toNatClampNeg (12 : Int32).toNatClampNeg)) r) := hD
  generalize hn2 : (su S1 3 2 (va_cpy (S1 1 2) (S1 3 2) (0 : Int32).toNatClampNeg (0 : Int32).toNatClampNeg (12 : Int32).toNatClampNeg)) = S2 at hP hD
  refine lv_aload_n hx hb dX0_copyFrom_30 rfl (lv_at hl 1 rfl) ?_
  refine va_get (D := G.1) (ci := 0) (v := .ref (A (6 * 1 + 3))) (C := RX0) (T := TX0) (N := 12) hx hb hts hinX0 hown hK.1 hP (6 * 1) (wX_o G A S2 r 1 (by decide)) rfl 2 (by decide) (hts (.fieldLink RX0 18 "WireLoops$Chip" "height" "[I") (List.mem_of_getElem? (i := 7) rfl)) (fun _ h9 => h9) rfl dX0_copyFrom_31 ?_
  refine lv_iconst (v := 0) hx hb dX0_copyFrom_34 (by decide) ?_
  refine lv_aload_n hx hb dX0_copyFrom_35 rfl (lv_at hl 0 rfl) ?_
  refine va_get (D := G.1) (ci := 0) (v := .ref (A (6 * 3 + 3))) (C := RX0) (T := TX0) (N := 12) hx hb hts hinX0 hown hK.1 hP (6 * 3) (wX_o G A S2 r 3 (by decide)) rfl 2 (by decide) (hts (.fieldLink RX0 18 "WireLoops$Chip" "height" "[I") (List.mem_of_getElem? (i := 7) rfl)) (fun _ h9 => h9) rfl dX0_copyFrom_36 ?_
  refine lv_iconst (v := 0) hx hb dX0_copyFrom_39 (by decide) ?_
  refine lv_bipush (v := 12) hx hb dX0_copyFrom_40 (by decide) ?_
  refine va_copyi (D := G.1) hx hb (by rw [hml]; exact hl.1.symm) hown (hts (.methodLink RX0 37 arraycopyName) (List.mem_of_getElem? (i := 2) rfl)) (hts (.native arraycopyName) (List.mem_of_getElem? (i := 3) rfl)) (hts (.static arraycopyName) (List.mem_of_getElem? (i := 4) rfl)) (hts (.initialized "java/lang/System") (List.mem_of_getElem? (i := 5) rfl)) hK.1 hP hD hS (6 * 1 + 3) (6 * 3 + 3) 0 0 (wX_c G A S2 r 1 3 (by decide) (by decide) (by decide)) (wX_c G A S2 r 3 3 (by decide) (by decide) (by decide)) rfl rfl rfl (by decide) (by decide) (by decide) (by decide) (by decide) (fun _ _ => rfl) (Nat.le_of_ble_eq_true rfl) (Nat.le_of_ble_eq_true rfl) dX0_copyFrom_42 (fun H locs hP hD hS => ?_)
  rw [wX_sc G A S2 r 3 3 (by decide) (by decide) (by decide) _] at hP hD
  have hP : va_P G.1 vwCl (wX G A (su S2 3 3 (va_cpy (S2 1 3) (S2 3 3) (0 : Int32).toNatClampNeg (0 : Int32).toNatClampNeg (12 : Int32).toNatClampNeg)) r) H := hP
  have hD : va_D A0 (wX G A (su S2 3 3 (va_cpy (S2 1 3) (S2 3 3) (0 : Int32).toNatClampNeg (0 : Int32).toNatClampNeg (12 : Int32).toNatClampNeg)) r) := hD
  generalize hn3 : (su S2 3 3 (va_cpy (S2 1 3) (S2 3 3) (0 : Int32).toNatClampNeg (0 : Int32).toNatClampNeg (12 : Int32).toNatClampNeg)) = S3 at hP hD
  refine lv_aload_n hx hb dX0_copyFrom_45 rfl (lv_at hl 1 rfl) ?_
  refine va_get (D := G.1) (ci := 0) (v := .ref (A (6 * 1 + 4))) (C := RX0) (T := TX0) (N := 12) hx hb hts hinX0 hown hK.1 hP (6 * 1) (wX_o G A S3 r 1 (by decide)) rfl 3 (by decide) (hts (.fieldLink RX0 21 "WireLoops$Chip" "strength" "[I") (List.mem_of_getElem? (i := 8) rfl)) (fun _ h9 => h9) rfl dX0_copyFrom_46 ?_
  refine lv_iconst (v := 0) hx hb dX0_copyFrom_49 (by decide) ?_
  refine lv_aload_n hx hb dX0_copyFrom_50 rfl (lv_at hl 0 rfl) ?_
  refine va_get (D := G.1) (ci := 0) (v := .ref (A (6 * 3 + 4))) (C := RX0) (T := TX0) (N := 12) hx hb hts hinX0 hown hK.1 hP (6 * 3) (wX_o G A S3 r 3 (by decide)) rfl 3 (by decide) (hts (.fieldLink RX0 21 "WireLoops$Chip" "strength" "[I") (List.mem_of_getElem? (i := 8) rfl)) (fun _ h9 => h9) rfl dX0_copyFrom_51 ?_
  refine lv_iconst (v := 0) hx hb dX0_copyFrom_54 (by decide) ?_
  refine lv_bipush (v := 12) hx hb dX0_copyFrom_55 (by decide) ?_
  refine va_copyi (D := G.1) hx hb (by rw [hml]; exact hl.1.symm) hown (hts (.methodLink RX0 37 arraycopyName) (List.mem_of_getElem? (i := 2) rfl)) (hts (.native arraycopyName) (List.mem_of_getElem? (i := 3) rfl)) (hts (.static arraycopyName) (List.mem_of_getElem? (i := 4) rfl)) (hts (.initialized "java/lang/System") (List.mem_of_getElem? (i := 5) rfl)) hK.1 hP hD hS (6 * 1 + 4) (6 * 3 + 4) 0 0 (wX_c G A S3 r 1 4 (by decide) (by decide) (by decide)) (wX_c G A S3 r 3 4 (by decide) (by decide) (by decide)) rfl rfl rfl (by decide) (by decide) (by decide) (by decide) (by decide) (fun _ _ => rfl) (Nat.le_of_ble_eq_true rfl) (Nat.le_of_ble_eq_true rfl) dX0_copyFrom_57 (fun H locs hP hD hS => ?_)
  rw [wX_sc G A S3 r 3 4 (by decide) (by decide) (by decide) _] at hP hD
  have hP : va_P G.1 vwCl (wX G A (su S3 3 4 (va_cpy (S3 1 4) (S3 3 4) (0 : Int32).toNatClampNeg (0 : Int32).toNatClampNeg (12 : Int32).toNatClampNeg)) r) H := hP
  have hD : va_D A0 (wX G A (su S3 3 4 (va_cpy (S3 1 4) (S3 3 4) (0 : Int32).toNatClampNeg (0 : Int32).toNatClampNeg (12 : Int32).toNatClampNeg)) r) := hD
  generalize hn4 : (su S3 3 4 (va_cpy (S3 1 4) (S3 3 4) (0 : Int32).toNatClampNeg (0 : Int32).toNatClampNeg (12 : Int32).toNatClampNeg)) = S4 at hP hD
  refine lv_aload_n hx hb dX0_copyFrom_60 rfl (lv_at hl 1 rfl) ?_
  refine va_get (D := G.1) (ci := 0) (v := .ref (A (6 * 1 + 5))) (C := RX0) (T := TX0) (N := 12) hx hb hts hinX0 hown hK.1 hP (6 * 1) (wX_o G A S4 r 1 (by decide)) rfl 4 (by decide) (hts (.fieldLink RX0 24 "WireLoops$Chip" "number" "[I") (List.mem_of_getElem? (i := 9) rfl)) (fun _ h9 => h9) rfl dX0_copyFrom_61 ?_
  refine lv_iconst (v := 0) hx hb dX0_copyFrom_64 (by decide) ?_
  refine lv_aload_n hx hb dX0_copyFrom_65 rfl (lv_at hl 0 rfl) ?_
  refine va_get (D := G.1) (ci := 0) (v := .ref (A (6 * 3 + 5))) (C := RX0) (T := TX0) (N := 12) hx hb hts hinX0 hown hK.1 hP (6 * 3) (wX_o G A S4 r 3 (by decide)) rfl 4 (by decide) (hts (.fieldLink RX0 24 "WireLoops$Chip" "number" "[I") (List.mem_of_getElem? (i := 9) rfl)) (fun _ h9 => h9) rfl dX0_copyFrom_66 ?_
  refine lv_iconst (v := 0) hx hb dX0_copyFrom_69 (by decide) ?_
  refine lv_bipush (v := 12) hx hb dX0_copyFrom_70 (by decide) ?_
  refine va_copyi (D := G.1) hx hb (by rw [hml]; exact hl.1.symm) hown (hts (.methodLink RX0 37 arraycopyName) (List.mem_of_getElem? (i := 2) rfl)) (hts (.native arraycopyName) (List.mem_of_getElem? (i := 3) rfl)) (hts (.static arraycopyName) (List.mem_of_getElem? (i := 4) rfl)) (hts (.initialized "java/lang/System") (List.mem_of_getElem? (i := 5) rfl)) hK.1 hP hD hS (6 * 1 + 5) (6 * 3 + 5) 0 0 (wX_c G A S4 r 1 5 (by decide) (by decide) (by decide)) (wX_c G A S4 r 3 5 (by decide) (by decide) (by decide)) rfl rfl rfl (by decide) (by decide) (by decide) (by decide) (by decide) (fun _ _ => rfl) (Nat.le_of_ble_eq_true rfl) (Nat.le_of_ble_eq_true rfl) dX0_copyFrom_72 (fun H locs hP hD hS => ?_)
  rw [wX_sc G A S4 r 3 5 (by decide) (by decide) (by decide) _] at hP hD
  have hP : va_P G.1 vwCl (wX G A (su S4 3 5 (va_cpy (S4 1 5) (S4 3 5) (0 : Int32).toNatClampNeg (0 : Int32).toNatClampNeg (12 : Int32).toNatClampNeg)) r) H := hP
  have hD : va_D A0 (wX G A (su S4 3 5 (va_cpy (S4 1 5) (S4 3 5) (0 : Int32).toNatClampNeg (0 : Int32).toNatClampNeg (12 : Int32).toNatClampNeg)) r) := hD
  generalize hn5 : (su S4 3 5 (va_cpy (S4 1 5) (S4 3 5) (0 : Int32).toNatClampNeg (0 : Int32).toNatClampNeg (12 : Int32).toNatClampNeg)) = S5 at hP hD
  refine lv_aload_n hx hb dX0_copyFrom_75 rfl (lv_at hl 0 rfl) ?_
  refine lv_aload_n hx hb dX0_copyFrom_76 rfl (lv_at hl 1 rfl) ?_
  refine va_get (D := G.1) (ci := 0) (v := .int (S5 1 0 0)) (C := RX0) (T := TX0) (N := 12) hx hb hts hinX0 hown hK.1 hP (6 * 1) (wX_o G A S5 r 1 (by decide)) rfl 5 (by decide) (hts (.fieldLink RX0 43 "WireLoops$Chip" "laid" "I") (List.mem_of_getElem? (i := 10) rfl)) (fun _ h9 => h9) rfl dX0_copyFrom_77 ?_
  refine va_put (D := G.1) (ci := 0) (v := .int (S5 1 0 0)) (ty := .int) (C := RX0) (T := TX0) (N := 12) hx hb hts hinX0 tyX0 tyX0_ok nmX0 hown hK.1 hP hD hS (6 * 3) (wX_o G A S5 r 3 (by decide)) rfl (5 + 0) (by decide) (hts (.fieldLink RX0 43 "WireLoops$Chip" "laid" "I") (List.mem_of_getElem? (i := 10) rfl)) (fun _ h9 => h9) rfl (by decide +kernel) rfl rfl (Nat.le_of_ble_eq_true rfl) dX0_copyFrom_80 (fun H locs hP hD hS => ?_)
  rw [wX_so G A S5 r 3 0 (by decide) (by decide) _] at hP hD
  have hP : va_P G.1 vwCl (wX G A (su S5 3 0 (upd (S5 3 0) 0 (S5 1 0 0))) r) H := hP
  have hD : va_D A0 (wX G A (su S5 3 0 (upd (S5 3 0) 0 (S5 1 0 0))) r) := hD
  generalize hn6 : (su S5 3 0 (upd (S5 3 0) 0 (S5 1 0 0))) = S6 at hP hD
  refine lv_aload_n hx hb dX0_copyFrom_83 rfl (lv_at hl 0 rfl) ?_
  refine lv_aload_n hx hb dX0_copyFrom_84 rfl (lv_at hl 1 rfl) ?_
  refine va_get (D := G.1) (ci := 0) (v := .int (S6 1 0 1)) (C := RX0) (T := TX0) (N := 12) hx hb hts hinX0 hown hK.1 hP (6 * 1) (wX_o G A S6 r 1 (by decide)) rfl 6 (by decide) (hts (.fieldLink RX0 33 "WireLoops$Chip" "width" "I") (List.mem_of_getElem? (i := 11) rfl)) (fun _ h9 => h9) rfl dX0_copyFrom_85 ?_
  refine va_put (D := G.1) (ci := 0) (v := .int (S6 1 0 1)) (ty := .int) (C := RX0) (T := TX0) (N := 12) hx hb hts hinX0 tyX0 tyX0_ok nmX0 hown hK.1 hP hD hS (6 * 3) (wX_o G A S6 r 3 (by decide)) rfl (5 + 1) (by decide) (hts (.fieldLink RX0 33 "WireLoops$Chip" "width" "I") (List.mem_of_getElem? (i := 11) rfl)) (fun _ h9 => h9) rfl (by decide +kernel) rfl rfl (Nat.le_of_ble_eq_true rfl) dX0_copyFrom_88 (fun H locs hP hD hS => ?_)
  rw [wX_so G A S6 r 3 1 (by decide) (by decide) _] at hP hD
  have hP : va_P G.1 vwCl (wX G A (su S6 3 0 (upd (S6 3 0) 1 (S6 1 0 1))) r) H := hP
  have hD : va_D A0 (wX G A (su S6 3 0 (upd (S6 3 0) 1 (S6 1 0 1))) r) := hD
  generalize hn7 : (su S6 3 0 (upd (S6 3 0) 1 (S6 1 0 1))) = S7 at hP hD
  refine lv_aload_n hx hb dX0_copyFrom_91 rfl (lv_at hl 0 rfl) ?_
  refine lv_aload_n hx hb dX0_copyFrom_92 rfl (lv_at hl 1 rfl) ?_
  refine va_get (D := G.1) (ci := 0) (v := .int (S7 1 0 2)) (C := RX0) (T := TX0) (N := 12) hx hb hts hinX0 hown hK.1 hP (6 * 1) (wX_o G A S7 r 1 (by decide)) rfl 7 (by decide) (hts (.fieldLink RX0 46 "WireLoops$Chip" "wear" "I") (List.mem_of_getElem? (i := 12) rfl)) (fun _ h9 => h9) rfl dX0_copyFrom_93 ?_
  refine va_put (D := G.1) (ci := 0) (v := .int (S7 1 0 2)) (ty := .int) (C := RX0) (T := TX0) (N := 12) hx hb hts hinX0 tyX0 tyX0_ok nmX0 hown hK.1 hP hD hS (6 * 3) (wX_o G A S7 r 3 (by decide)) rfl (5 + 2) (by decide) (hts (.fieldLink RX0 46 "WireLoops$Chip" "wear" "I") (List.mem_of_getElem? (i := 12) rfl)) (fun _ h9 => h9) rfl (by decide +kernel) rfl rfl (Nat.le_of_ble_eq_true rfl) dX0_copyFrom_96 (fun H locs hP hD hS => ?_)
  rw [wX_so G A S7 r 3 2 (by decide) (by decide) _] at hP hD
  have hP : va_P G.1 vwCl (wX G A (su S7 3 0 (upd (S7 3 0) 2 (S7 1 0 2))) r) H := hP
  have hD : va_D A0 (wX G A (su S7 3 0 (upd (S7 3 0) 2 (S7 1 0 2))) r) := hD
  generalize hn8 : (su S7 3 0 (upd (S7 3 0) 2 (S7 1 0 2))) = S8 at hP hD
  refine lv_aload_n hx hb dX0_copyFrom_99 rfl (lv_at hl 0 rfl) ?_
  refine lv_aload_n hx hb dX0_copyFrom_100 rfl (lv_at hl 1 rfl) ?_
  refine va_get (D := G.1) (ci := 0) (v := .int (S8 1 0 3)) (C := RX0) (T := TX0) (N := 12) hx hb hts hinX0 hown hK.1 hP (6 * 1) (wX_o G A S8 r 1 (by decide)) rfl 8 (by decide) (hts (.fieldLink RX0 49 "WireLoops$Chip" "toolsChanged" "I") (List.mem_of_getElem? (i := 13) rfl)) (fun _ h9 => h9) rfl dX0_copyFrom_101 ?_
  refine va_put (D := G.1) (ci := 0) (v := .int (S8 1 0 3)) (ty := .int) (C := RX0) (T := TX0) (N := 12) hx hb hts hinX0 tyX0 tyX0_ok nmX0 hown hK.1 hP hD hS (6 * 3) (wX_o G A S8 r 3 (by decide)) rfl (5 + 3) (by decide) (hts (.fieldLink RX0 49 "WireLoops$Chip" "toolsChanged" "I") (List.mem_of_getElem? (i := 13) rfl)) (fun _ h9 => h9) rfl (by decide +kernel) rfl rfl (Nat.le_of_ble_eq_true rfl) dX0_copyFrom_104 (fun H locs hP hD hS => ?_)
  rw [wX_so G A S8 r 3 3 (by decide) (by decide) _] at hP hD
  have hP : va_P G.1 vwCl (wX G A (su S8 3 0 (upd (S8 3 0) 3 (S8 1 0 3))) r) H := hP
  have hD : va_D A0 (wX G A (su S8 3 0 (upd (S8 3 0) 3 (S8 1 0 3))) r) := hD
  generalize hn9 : (su S8 3 0 (upd (S8 3 0) 3 (S8 1 0 3))) = S9 at hP hD
  refine lv_aload_n hx hb dX0_copyFrom_107 rfl (lv_at hl 0 rfl) ?_
  refine lv_aload_n hx hb dX0_copyFrom_108 rfl (lv_at hl 1 rfl) ?_
  refine va_get (D := G.1) (ci := 0) (v := .int (S9 1 0 4)) (C := RX0) (T := TX0) (N := 12) hx hb hts hinX0 hown hK.1 hP (6 * 1) (wX_o G A S9 r 1 (by decide)) rfl 9 (by decide) (hts (.fieldLink RX0 52 "WireLoops$Chip" "tailLost" "Z") (List.mem_of_getElem? (i := 14) rfl)) (fun _ h9 => h9) rfl dX0_copyFrom_109 ?_
  refine va_put (D := G.1) (ci := 0) (v := .int (S9 1 0 4)) (ty := .boolean) (C := RX0) (T := TX0) (N := 12) hx hb hts hinX0 tyX0 tyX0_ok nmX0 hown hK.1 hP hD hS (6 * 3) (wX_o G A S9 r 3 (by decide)) rfl (5 + 4) (by decide) (hts (.fieldLink RX0 52 "WireLoops$Chip" "tailLost" "Z") (List.mem_of_getElem? (i := 14) rfl)) (fun _ h9 => h9) rfl (by decide +kernel) (nb_of (by subst_vars; exact hbj)) (fb_of (by subst_vars; exact hbj)) (Nat.le_of_ble_eq_true rfl) dX0_copyFrom_112 (fun H locs hP hD hS => ?_)
  rw [wX_so G A S9 r 3 4 (by decide) (by decide) _] at hP hD
  have hP : va_P G.1 vwCl (wX G A (su S9 3 0 (upd (S9 3 0) 4 (S9 1 0 4))) r) H := hP
  have hD : va_D A0 (wX G A (su S9 3 0 (upd (S9 3 0) 4 (S9 1 0 4))) r) := hD
  generalize hn10 : (su S9 3 0 (upd (S9 3 0) 4 (S9 1 0 4))) = S10 at hP hD
  refine lv_aload_n hx hb dX0_copyFrom_115 rfl (lv_at hl 0 rfl) ?_
  refine lv_aload_n hx hb dX0_copyFrom_116 rfl (lv_at hl 1 rfl) ?_
  refine va_get (D := G.1) (ci := 0) (v := .int (S10 1 0 5)) (C := RX0) (T := TX0) (N := 12) hx hb hts hinX0 hown hK.1 hP (6 * 1) (wX_o G A S10 r 1 (by decide)) rfl 10 (by decide) (hts (.fieldLink RX0 56 "WireLoops$Chip" "tailsLost" "I") (List.mem_of_getElem? (i := 15) rfl)) (fun _ h9 => h9) rfl dX0_copyFrom_117 ?_
  refine va_put (D := G.1) (ci := 0) (v := .int (S10 1 0 5)) (ty := .int) (C := RX0) (T := TX0) (N := 12) hx hb hts hinX0 tyX0 tyX0_ok nmX0 hown hK.1 hP hD hS (6 * 3) (wX_o G A S10 r 3 (by decide)) rfl (5 + 5) (by decide) (hts (.fieldLink RX0 56 "WireLoops$Chip" "tailsLost" "I") (List.mem_of_getElem? (i := 15) rfl)) (fun _ h9 => h9) rfl (by decide +kernel) rfl rfl (Nat.le_of_ble_eq_true rfl) dX0_copyFrom_120 (fun H locs hP hD hS => ?_)
  rw [wX_so G A S10 r 3 5 (by decide) (by decide) _] at hP hD
  have hP : va_P G.1 vwCl (wX G A (su S10 3 0 (upd (S10 3 0) 5 (S10 1 0 5))) r) H := hP
  have hD : va_D A0 (wX G A (su S10 3 0 (upd (S10 3 0) 5 (S10 1 0 5))) r) := hD
  generalize hn11 : (su S10 3 0 (upd (S10 3 0) 5 (S10 1 0 5))) = S11 at hP hD
  refine lv_aload_n hx hb dX0_copyFrom_123 rfl (lv_at hl 0 rfl) ?_
  refine lv_aload_n hx hb dX0_copyFrom_124 rfl (lv_at hl 1 rfl) ?_
  refine va_get (D := G.1) (ci := 0) (v := .int (S11 1 0 6)) (C := RX0) (T := TX0) (N := 12) hx hb hts hinX0 hown hK.1 hP (6 * 1) (wX_o G A S11 r 1 (by decide)) rfl 11 (by decide) (hts (.fieldLink RX0 59 "WireLoops$Chip" "broken" "I") (List.mem_of_getElem? (i := 16) rfl)) (fun _ h9 => h9) rfl dX0_copyFrom_125 ?_
  refine va_put (D := G.1) (ci := 0) (v := .int (S11 1 0 6)) (ty := .int) (C := RX0) (T := TX0) (N := 12) hx hb hts hinX0 tyX0 tyX0_ok nmX0 hown hK.1 hP hD hS (6 * 3) (wX_o G A S11 r 3 (by decide)) rfl (5 + 6) (by decide) (hts (.fieldLink RX0 59 "WireLoops$Chip" "broken" "I") (List.mem_of_getElem? (i := 16) rfl)) (fun _ h9 => h9) rfl (by decide +kernel) rfl rfl (Nat.le_of_ble_eq_true rfl) dX0_copyFrom_128 (fun H locs hP hD hS => ?_)
  rw [wX_so G A S11 r 3 6 (by decide) (by decide) _] at hP hD
  have hP : va_P G.1 vwCl (wX G A (su S11 3 0 (upd (S11 3 0) 6 (S11 1 0 6))) r) H := hP
  have hD : va_D A0 (wX G A (su S11 3 0 (upd (S11 3 0) 6 (S11 1 0 6))) r) := hD
  generalize hn12 : (su S11 3 0 (upd (S11 3 0) 6 (S11 1 0 6))) = S12 at hP hD
  have he : eqX S12 (sc S 3 1) := by
    subst_vars
    refine ⟨?_, eqR.rfl'⟩
    intro x hx7
    rcases (show x = 0 ∨ x = 1 ∨ x = 2 ∨ x = 3 ∨ x = 4 ∨ x = 5 ∨ x = 6 by omega) with rfl | rfl | rfl | rfl | rfl | rfl | rfl
    · exact eqC.rfl'
    · exact eqC.rfl'
    · exact eqC.rfl'
    · exact ⟨by intro k hk; rcases (show k = 0 ∨ k = 1 ∨ k = 2 ∨ k = 3 ∨ k = 4 ∨ k = 5 ∨ k = 6 by omega) with rfl | rfl | rfl | rfl | rfl | rfl | rfl <;> rfl, cpy16, cpy12, cpy12, cpy12, cpy12⟩
    · exact eqC.rfl'
    · exact eqC.rfl'
    · exact eqC.rfl'
  have hP : va_P G.1 vwCl (wX G A (sc S 3 1) r) H := wX_ext he (fun _ _ => rfl) hP
  have hD : va_D A0 (wX G A (sc S 3 1) r) := wX_D hD
  exact endZ hx hb hr hlocks hP hD hS rfl dX0_copyFrom_131
def f_X0_copyFrom_4_0 (S : XS) : XS := sc S 4 0
theorem e_X0_copyFrom_4_0 (S : XS) : f_X0_copyFrom_4_0 S = sc S 4 0 := rfl
set_option maxHeartbeats 4000000 in
set_option maxRecDepth 100000 in
theorem c_X0_copyFrom_4_0 (l : Launch) (G : GG) (A : Nat → Nat) (S : XS) (r : Nat)  (hbj : S 0 0 4 = 0 ∨ S 0 0 4 = 1) : Mz l yX0_copyFrom wsX0_copyFrom ({ frames := 1, cells := 0, slots := 0, locals := 26 } : Room) G [.ref (A (6 * 4)), .ref (A (6 * 0))] (wX G A S r) (wX G A (f_X0_copyFrom_4_0 S) r) := by
  refine Mz.of (cc := cX0_copyFrom) (maxL := 2) (ret := none) (by decide) rfl (Nat.le_of_ble_eq_true rfl) ?_
  intro p e s m args below meth c A0 hA0 E hr hlocks hP hK hD hA hS ls hl
  have E : CallFix p m c cX0_copyFrom 2 s args wsX0_copyFrom RX0 := E
  have hx := E.1
  have hb := E.2.1
  have hml := E.2.2.1
  have hown := E.2.2.2.1
  have hts := E.2.2.2.2
  have hl : lv_has ls 2 [(0, .ref (A (6 * 4))), (1, .ref (A (6 * 0)))] := hl
  have hinX0 : ∀ w ∈ u_ws RX0 TX0 12, w ∈ wsX0_copyFrom := fun _ h => List.mem_cons_of_mem _ (List.mem_append_right _ h)
  refine lv_aload_n hx hb dX0_copyFrom_0 rfl (lv_at hl 1 rfl) ?_
  refine va_get (D := G.1) (ci := 0) (v := .ref (A (6 * 0 + 1))) (C := RX0) (T := TX0) (N := 12) hx hb hts hinX0 hown hK.1 hP (6 * 0) (wX_o G A S r 0 (by decide)) rfl 0 (by decide) (hts (.fieldLink RX0 9 "WireLoops$Chip" "leadX" "[I") (List.mem_of_getElem? (i := 1) rfl)) (fun _ h9 => h9) rfl dX0_copyFrom_1 ?_
  refine lv_iconst (v := 0) hx hb dX0_copyFrom_4 (by decide) ?_
  refine lv_aload_n hx hb dX0_copyFrom_5 rfl (lv_at hl 0 rfl) ?_
  refine va_get (D := G.1) (ci := 0) (v := .ref (A (6 * 4 + 1))) (C := RX0) (T := TX0) (N := 12) hx hb hts hinX0 hown hK.1 hP (6 * 4) (wX_o G A S r 4 (by decide)) rfl 0 (by decide) (hts (.fieldLink RX0 9 "WireLoops$Chip" "leadX" "[I") (List.mem_of_getElem? (i := 1) rfl)) (fun _ h9 => h9) rfl dX0_copyFrom_6 ?_
  refine lv_iconst (v := 0) hx hb dX0_copyFrom_9 (by decide) ?_
  refine lv_bipush (v := 16) hx hb dX0_copyFrom_10 (by decide) ?_
  refine va_copyi (D := G.1) hx hb (by rw [hml]; exact hl.1.symm) hown (hts (.methodLink RX0 37 arraycopyName) (List.mem_of_getElem? (i := 2) rfl)) (hts (.native arraycopyName) (List.mem_of_getElem? (i := 3) rfl)) (hts (.static arraycopyName) (List.mem_of_getElem? (i := 4) rfl)) (hts (.initialized "java/lang/System") (List.mem_of_getElem? (i := 5) rfl)) hK.1 hP hD hS (6 * 0 + 1) (6 * 4 + 1) 0 0 (wX_1 G A S r 0 (by decide)) (wX_1 G A S r 4 (by decide)) rfl rfl rfl (by decide) (by decide) (by decide) (by decide) (by decide) (fun _ _ => rfl) (Nat.le_of_ble_eq_true rfl) (Nat.le_of_ble_eq_true rfl) dX0_copyFrom_12 (fun H locs hP hD hS => ?_)
  rw [wX_s1 G A S r 4 (by decide) _] at hP hD
  have hP : va_P G.1 vwCl (wX G A (su S 4 1 (va_cpy (S 0 1) (S 4 1) (0 : Int32).toNatClampNeg (0 : Int32).toNatClampNeg (16 : Int32).toNatClampNeg)) r) H := hP
  have hD : va_D A0 (wX G A (su S 4 1 (va_cpy (S 0 1) (S 4 1) (0 : Int32).toNatClampNeg (0 : Int32).toNatClampNeg (16 : Int32).toNatClampNeg)) r) := hD
  generalize hn1 : (su S 4 1 (va_cpy (S 0 1) (S 4 1) (0 : Int32).toNatClampNeg (0 : Int32).toNatClampNeg (16 : Int32).toNatClampNeg)) = S1 at hP hD
  refine lv_aload_n hx hb dX0_copyFrom_15 rfl (lv_at hl 1 rfl) ?_
  refine va_get (D := G.1) (ci := 0) (v := .ref (A (6 * 0 + 2))) (C := RX0) (T := TX0) (N := 12) hx hb hts hinX0 hown hK.1 hP (6 * 0) (wX_o G A S1 r 0 (by decide)) rfl 1 (by decide) (hts (.fieldLink RX0 15 "WireLoops$Chip" "leadOf" "[I") (List.mem_of_getElem? (i := 6) rfl)) (fun _ h9 => h9) rfl dX0_copyFrom_16 ?_
  refine lv_iconst (v := 0) hx hb dX0_copyFrom_19 (by decide) ?_
  refine lv_aload_n hx hb dX0_copyFrom_20 rfl (lv_at hl 0 rfl) ?_
  refine va_get (D := G.1) (ci := 0) (v := .ref (A (6 * 4 + 2))) (C := RX0) (T := TX0) (N := 12) hx hb hts hinX0 hown hK.1 hP (6 * 4) (wX_o G A S1 r 4 (by decide)) rfl 1 (by decide) (hts (.fieldLink RX0 15 "WireLoops$Chip" "leadOf" "[I") (List.mem_of_getElem? (i := 6) rfl)) (fun _ h9 => h9) rfl dX0_copyFrom_21 ?_
  refine lv_iconst (v := 0) hx hb dX0_copyFrom_24 (by decide) ?_
  refine lv_bipush (v := 12) hx hb dX0_copyFrom_25 (by decide) ?_
  refine va_copyi (D := G.1) hx hb (by rw [hml]; exact hl.1.symm) hown (hts (.methodLink RX0 37 arraycopyName) (List.mem_of_getElem? (i := 2) rfl)) (hts (.native arraycopyName) (List.mem_of_getElem? (i := 3) rfl)) (hts (.static arraycopyName) (List.mem_of_getElem? (i := 4) rfl)) (hts (.initialized "java/lang/System") (List.mem_of_getElem? (i := 5) rfl)) hK.1 hP hD hS (6 * 0 + 2) (6 * 4 + 2) 0 0 (wX_c G A S1 r 0 2 (by decide) (by decide) (by decide)) (wX_c G A S1 r 4 2 (by decide) (by decide) (by decide)) rfl rfl rfl (by decide) (by decide) (by decide) (by decide) (by decide) (fun _ _ => rfl) (Nat.le_of_ble_eq_true rfl) (Nat.le_of_ble_eq_true rfl) dX0_copyFrom_27 (fun H locs hP hD hS => ?_)
  rw [wX_sc G A S1 r 4 2 (by decide) (by decide) (by decide) _] at hP hD
  have hP : va_P G.1 vwCl (wX G A (su S1 4 2 (va_cpy (S1 0 2) (S1 4 2) (0 : Int32).toNatClampNeg (0 : Int32).toNatClampNeg (12 : Int32).toNatClampNeg)) r) H := hP
  have hD : va_D A0 (wX G A (su S1 4 2 (va_cpy (S1 0 2) (S1 4 2) (0 : Int32).toNatClampNeg (0 : Int32).toNatClampNeg (12 : Int32).toNatClampNeg)) r) := hD
  generalize hn2 : (su S1 4 2 (va_cpy (S1 0 2) (S1 4 2) (0 : Int32).toNatClampNeg (0 : Int32).toNatClampNeg (12 : Int32).toNatClampNeg)) = S2 at hP hD
  refine lv_aload_n hx hb dX0_copyFrom_30 rfl (lv_at hl 1 rfl) ?_
  refine va_get (D := G.1) (ci := 0) (v := .ref (A (6 * 0 + 3))) (C := RX0) (T := TX0) (N := 12) hx hb hts hinX0 hown hK.1 hP (6 * 0) (wX_o G A S2 r 0 (by decide)) rfl 2 (by decide) (hts (.fieldLink RX0 18 "WireLoops$Chip" "height" "[I") (List.mem_of_getElem? (i := 7) rfl)) (fun _ h9 => h9) rfl dX0_copyFrom_31 ?_
  refine lv_iconst (v := 0) hx hb dX0_copyFrom_34 (by decide) ?_
  refine lv_aload_n hx hb dX0_copyFrom_35 rfl (lv_at hl 0 rfl) ?_
  refine va_get (D := G.1) (ci := 0) (v := .ref (A (6 * 4 + 3))) (C := RX0) (T := TX0) (N := 12) hx hb hts hinX0 hown hK.1 hP (6 * 4) (wX_o G A S2 r 4 (by decide)) rfl 2 (by decide) (hts (.fieldLink RX0 18 "WireLoops$Chip" "height" "[I") (List.mem_of_getElem? (i := 7) rfl)) (fun _ h9 => h9) rfl dX0_copyFrom_36 ?_
  refine lv_iconst (v := 0) hx hb dX0_copyFrom_39 (by decide) ?_
  refine lv_bipush (v := 12) hx hb dX0_copyFrom_40 (by decide) ?_
  refine va_copyi (D := G.1) hx hb (by rw [hml]; exact hl.1.symm) hown (hts (.methodLink RX0 37 arraycopyName) (List.mem_of_getElem? (i := 2) rfl)) (hts (.native arraycopyName) (List.mem_of_getElem? (i := 3) rfl)) (hts (.static arraycopyName) (List.mem_of_getElem? (i := 4) rfl)) (hts (.initialized "java/lang/System") (List.mem_of_getElem? (i := 5) rfl)) hK.1 hP hD hS (6 * 0 + 3) (6 * 4 + 3) 0 0 (wX_c G A S2 r 0 3 (by decide) (by decide) (by decide)) (wX_c G A S2 r 4 3 (by decide) (by decide) (by decide)) rfl rfl rfl (by decide) (by decide) (by decide) (by decide) (by decide) (fun _ _ => rfl) (Nat.le_of_ble_eq_true rfl) (Nat.le_of_ble_eq_true rfl) dX0_copyFrom_42 (fun H locs hP hD hS => ?_)
  rw [wX_sc G A S2 r 4 3 (by decide) (by decide) (by decide) _] at hP hD
  have hP : va_P G.1 vwCl (wX G A (su S2 4 3 (va_cpy (S2 0 3) (S2 4 3) (0 : Int32).toNatClampNeg (0 : Int32).toNatClampNeg (12 : Int32).toNatClampNeg)) r) H := hP
  have hD : va_D A0 (wX G A (su S2 4 3 (va_cpy (S2 0 3) (S2 4 3) (0 : Int32).toNatClampNeg (0 : Int32).toNatClampNeg (12 : Int32).toNatClampNeg)) r) := hD
  generalize hn3 : (su S2 4 3 (va_cpy (S2 0 3) (S2 4 3) (0 : Int32).toNatClampNeg (0 : Int32).toNatClampNeg (12 : Int32).toNatClampNeg)) = S3 at hP hD
  refine lv_aload_n hx hb dX0_copyFrom_45 rfl (lv_at hl 1 rfl) ?_
  refine va_get (D := G.1) (ci := 0) (v := .ref (A (6 * 0 + 4))) (C := RX0) (T := TX0) (N := 12) hx hb hts hinX0 hown hK.1 hP (6 * 0) (wX_o G A S3 r 0 (by decide)) rfl 3 (by decide) (hts (.fieldLink RX0 21 "WireLoops$Chip" "strength" "[I") (List.mem_of_getElem? (i := 8) rfl)) (fun _ h9 => h9) rfl dX0_copyFrom_46 ?_
  refine lv_iconst (v := 0) hx hb dX0_copyFrom_49 (by decide) ?_
  refine lv_aload_n hx hb dX0_copyFrom_50 rfl (lv_at hl 0 rfl) ?_
  refine va_get (D := G.1) (ci := 0) (v := .ref (A (6 * 4 + 4))) (C := RX0) (T := TX0) (N := 12) hx hb hts hinX0 hown hK.1 hP (6 * 4) (wX_o G A S3 r 4 (by decide)) rfl 3 (by decide) (hts (.fieldLink RX0 21 "WireLoops$Chip" "strength" "[I") (List.mem_of_getElem? (i := 8) rfl)) (fun _ h9 => h9) rfl dX0_copyFrom_51 ?_
  refine lv_iconst (v := 0) hx hb dX0_copyFrom_54 (by decide) ?_
  refine lv_bipush (v := 12) hx hb dX0_copyFrom_55 (by decide) ?_
  refine va_copyi (D := G.1) hx hb (by rw [hml]; exact hl.1.symm) hown (hts (.methodLink RX0 37 arraycopyName) (List.mem_of_getElem? (i := 2) rfl)) (hts (.native arraycopyName) (List.mem_of_getElem? (i := 3) rfl)) (hts (.static arraycopyName) (List.mem_of_getElem? (i := 4) rfl)) (hts (.initialized "java/lang/System") (List.mem_of_getElem? (i := 5) rfl)) hK.1 hP hD hS (6 * 0 + 4) (6 * 4 + 4) 0 0 (wX_c G A S3 r 0 4 (by decide) (by decide) (by decide)) (wX_c G A S3 r 4 4 (by decide) (by decide) (by decide)) rfl rfl rfl (by decide) (by decide) (by decide) (by decide) (by decide) (fun _ _ => rfl) (Nat.le_of_ble_eq_true rfl) (Nat.le_of_ble_eq_true rfl) dX0_copyFrom_57 (fun H locs hP hD hS => ?_)
  rw [wX_sc G A S3 r 4 4 (by decide) (by decide) (by decide) _] at hP hD
  have hP : va_P G.1 vwCl (wX G A (su S3 4 4 (va_cpy (S3 0 4) (S3 4 4) (0 : Int32).toNatClampNeg (0 : Int32).toNatClampNeg (12 : Int32).toNatClampNeg)) r) H := hP
  have hD : va_D A0 (wX G A (su S3 4 4 (va_cpy (S3 0 4) (S3 4 4) (0 : Int32).toNatClampNeg (0 : Int32).toNatClampNeg (12 : Int32).toNatClampNeg)) r) := hD
  generalize hn4 : (su S3 4 4 (va_cpy (S3 0 4) (S3 4 4) (0 : Int32).toNatClampNeg (0 : Int32).toNatClampNeg (12 : Int32).toNatClampNeg)) = S4 at hP hD
  refine lv_aload_n hx hb dX0_copyFrom_60 rfl (lv_at hl 1 rfl) ?_
  refine va_get (D := G.1) (ci := 0) (v := .ref (A (6 * 0 + 5))) (C := RX0) (T := TX0) (N := 12) hx hb hts hinX0 hown hK.1 hP (6 * 0) (wX_o G A S4 r 0 (by decide)) rfl 4 (by decide) (hts (.fieldLink RX0 24 "WireLoops$Chip" "number" "[I") (List.mem_of_getElem? (i := 9) rfl)) (fun _ h9 => h9) rfl dX0_copyFrom_61 ?_
  refine lv_iconst (v := 0) hx hb dX0_copyFrom_64 (by decide) ?_
  refine lv_aload_n hx hb dX0_copyFrom_65 rfl (lv_at hl 0 rfl) ?_
  refine va_get (D := G.1) (ci := 0) (v := .ref (A (6 * 4 + 5))) (C := RX0) (T := TX0) (N := 12) hx hb hts hinX0 hown hK.1 hP (6 * 4) (wX_o G A S4 r 4 (by decide)) rfl 4 (by decide) (hts (.fieldLink RX0 24 "WireLoops$Chip" "number" "[I") (List.mem_of_getElem? (i := 9) rfl)) (fun _ h9 => h9) rfl dX0_copyFrom_66 ?_
  refine lv_iconst (v := 0) hx hb dX0_copyFrom_69 (by decide) ?_
  refine lv_bipush (v := 12) hx hb dX0_copyFrom_70 (by decide) ?_
  refine va_copyi (D := G.1) hx hb (by rw [hml]; exact hl.1.symm) hown (hts (.methodLink RX0 37 arraycopyName) (List.mem_of_getElem? (i := 2) rfl)) (hts (.native arraycopyName) (List.mem_of_getElem? (i := 3) rfl)) (hts (.static arraycopyName) (List.mem_of_getElem? (i := 4) rfl)) (hts (.initialized "java/lang/System") (List.mem_of_getElem? (i := 5) rfl)) hK.1 hP hD hS (6 * 0 + 5) (6 * 4 + 5) 0 0 (wX_c G A S4 r 0 5 (by decide) (by decide) (by decide)) (wX_c G A S4 r 4 5 (by decide) (by decide) (by decide)) rfl rfl rfl (by decide) (by decide) (by decide) (by decide) (by decide) (fun _ _ => rfl) (Nat.le_of_ble_eq_true rfl) (Nat.le_of_ble_eq_true rfl) dX0_copyFrom_72 (fun H locs hP hD hS => ?_)
  rw [wX_sc G A S4 r 4 5 (by decide) (by decide) (by decide) _] at hP hD
  have hP : va_P G.1 vwCl (wX G A (su S4 4 5 (va_cpy (S4 0 5) (S4 4 5) (0 : Int32).toNatClampNeg (0 : Int32).toNatClampNeg (12 : Int32).toNatClampNeg)) r) H := hP
  have hD : va_D A0 (wX G A (su S4 4 5 (va_cpy (S4 0 5) (S4 4 5) (0 : Int32).toNatClampNeg (0 : Int32).toNatClampNeg (12 : Int32).toNatClampNeg)) r) := hD
  generalize hn5 : (su S4 4 5 (va_cpy (S4 0 5) (S4 4 5) (0 : Int32).toNatClampNeg (0 : Int32).toNatClampNeg (12 : Int32).toNatClampNeg)) = S5 at hP hD
  refine lv_aload_n hx hb dX0_copyFrom_75 rfl (lv_at hl 0 rfl) ?_
  refine lv_aload_n hx hb dX0_copyFrom_76 rfl (lv_at hl 1 rfl) ?_
  refine va_get (D := G.1) (ci := 0) (v := .int (S5 0 0 0)) (C := RX0) (T := TX0) (N := 12) hx hb hts hinX0 hown hK.1 hP (6 * 0) (wX_o G A S5 r 0 (by decide)) rfl 5 (by decide) (hts (.fieldLink RX0 43 "WireLoops$Chip" "laid" "I") (List.mem_of_getElem? (i := 10) rfl)) (fun _ h9 => h9) rfl dX0_copyFrom_77 ?_
  refine va_put (D := G.1) (ci := 0) (v := .int (S5 0 0 0)) (ty := .int) (C := RX0) (T := TX0) (N := 12) hx hb hts hinX0 tyX0 tyX0_ok nmX0 hown hK.1 hP hD hS (6 * 4) (wX_o G A S5 r 4 (by decide)) rfl (5 + 0) (by decide) (hts (.fieldLink RX0 43 "WireLoops$Chip" "laid" "I") (List.mem_of_getElem? (i := 10) rfl)) (fun _ h9 => h9) rfl (by decide +kernel) rfl rfl (Nat.le_of_ble_eq_true rfl) dX0_copyFrom_80 (fun H locs hP hD hS => ?_)
  rw [wX_so G A S5 r 4 0 (by decide) (by decide) _] at hP hD
  have hP : va_P G.1 vwCl (wX G A (su S5 4 0 (upd (S5 4 0) 0 (S5 0 0 0))) r) H := hP
  have hD : va_D A0 (wX G A (su S5 4 0 (upd (S5 4 0) 0 (S5 0 0 0))) r) := hD
  generalize hn6 : (su S5 4 0 (upd (S5 4 0) 0 (S5 0 0 0))) = S6 at hP hD
  refine lv_aload_n hx hb dX0_copyFrom_83 rfl (lv_at hl 0 rfl) ?_
  refine lv_aload_n hx hb dX0_copyFrom_84 rfl (lv_at hl 1 rfl) ?_
  refine va_get (D := G.1) (ci := 0) (v := .int (S6 0 0 1)) (C := RX0) (T := TX0) (N := 12) hx hb hts hinX0 hown hK.1 hP (6 * 0) (wX_o G A S6 r 0 (by decide)) rfl 6 (by decide) (hts (.fieldLink RX0 33 "WireLoops$Chip" "width" "I") (List.mem_of_getElem? (i := 11) rfl)) (fun _ h9 => h9) rfl dX0_copyFrom_85 ?_
  refine va_put (D := G.1) (ci := 0) (v := .int (S6 0 0 1)) (ty := .int) (C := RX0) (T := TX0) (N := 12) hx hb hts hinX0 tyX0 tyX0_ok nmX0 hown hK.1 hP hD hS (6 * 4) (wX_o G A S6 r 4 (by decide)) rfl (5 + 1) (by decide) (hts (.fieldLink RX0 33 "WireLoops$Chip" "width" "I") (List.mem_of_getElem? (i := 11) rfl)) (fun _ h9 => h9) rfl (by decide +kernel) rfl rfl (Nat.le_of_ble_eq_true rfl) dX0_copyFrom_88 (fun H locs hP hD hS => ?_)
  rw [wX_so G A S6 r 4 1 (by decide) (by decide) _] at hP hD
  have hP : va_P G.1 vwCl (wX G A (su S6 4 0 (upd (S6 4 0) 1 (S6 0 0 1))) r) H := hP
  have hD : va_D A0 (wX G A (su S6 4 0 (upd (S6 4 0) 1 (S6 0 0 1))) r) := hD
  generalize hn7 : (su S6 4 0 (upd (S6 4 0) 1 (S6 0 0 1))) = S7 at hP hD
  refine lv_aload_n hx hb dX0_copyFrom_91 rfl (lv_at hl 0 rfl) ?_
  refine lv_aload_n hx hb dX0_copyFrom_92 rfl (lv_at hl 1 rfl) ?_
  refine va_get (D := G.1) (ci := 0) (v := .int (S7 0 0 2)) (C := RX0) (T := TX0) (N := 12) hx hb hts hinX0 hown hK.1 hP (6 * 0) (wX_o G A S7 r 0 (by decide)) rfl 7 (by decide) (hts (.fieldLink RX0 46 "WireLoops$Chip" "wear" "I") (List.mem_of_getElem? (i := 12) rfl)) (fun _ h9 => h9) rfl dX0_copyFrom_93 ?_
  refine va_put (D := G.1) (ci := 0) (v := .int (S7 0 0 2)) (ty := .int) (C := RX0) (T := TX0) (N := 12) hx hb hts hinX0 tyX0 tyX0_ok nmX0 hown hK.1 hP hD hS (6 * 4) (wX_o G A S7 r 4 (by decide)) rfl (5 + 2) (by decide) (hts (.fieldLink RX0 46 "WireLoops$Chip" "wear" "I") (List.mem_of_getElem? (i := 12) rfl)) (fun _ h9 => h9) rfl (by decide +kernel) rfl rfl (Nat.le_of_ble_eq_true rfl) dX0_copyFrom_96 (fun H locs hP hD hS => ?_)
  rw [wX_so G A S7 r 4 2 (by decide) (by decide) _] at hP hD
  have hP : va_P G.1 vwCl (wX G A (su S7 4 0 (upd (S7 4 0) 2 (S7 0 0 2))) r) H := hP
  have hD : va_D A0 (wX G A (su S7 4 0 (upd (S7 4 0) 2 (S7 0 0 2))) r) := hD
  generalize hn8 : (su S7 4 0 (upd (S7 4 0) 2 (S7 0 0 2))) = S8 at hP hD
  refine lv_aload_n hx hb dX0_copyFrom_99 rfl (lv_at hl 0 rfl) ?_
  refine lv_aload_n hx hb dX0_copyFrom_100 rfl (lv_at hl 1 rfl) ?_
  refine va_get (D := G.1) (ci := 0) (v := .int (S8 0 0 3)) (C := RX0) (T := TX0) (N := 12) hx hb hts hinX0 hown hK.1 hP (6 * 0) (wX_o G A S8 r 0 (by decide)) rfl 8 (by decide) (hts (.fieldLink RX0 49 "WireLoops$Chip" "toolsChanged" "I") (List.mem_of_getElem? (i := 13) rfl)) (fun _ h9 => h9) rfl dX0_copyFrom_101 ?_
  refine va_put (D := G.1) (ci := 0) (v := .int (S8 0 0 3)) (ty := .int) (C := RX0) (T := TX0) (N := 12) hx hb hts hinX0 tyX0 tyX0_ok nmX0 hown hK.1 hP hD hS (6 * 4) (wX_o G A S8 r 4 (by decide)) rfl (5 + 3) (by decide) (hts (.fieldLink RX0 49 "WireLoops$Chip" "toolsChanged" "I") (List.mem_of_getElem? (i := 13) rfl)) (fun _ h9 => h9) rfl (by decide +kernel) rfl rfl (Nat.le_of_ble_eq_true rfl) dX0_copyFrom_104 (fun H locs hP hD hS => ?_)
  rw [wX_so G A S8 r 4 3 (by decide) (by decide) _] at hP hD
  have hP : va_P G.1 vwCl (wX G A (su S8 4 0 (upd (S8 4 0) 3 (S8 0 0 3))) r) H := hP
  have hD : va_D A0 (wX G A (su S8 4 0 (upd (S8 4 0) 3 (S8 0 0 3))) r) := hD
  generalize hn9 : (su S8 4 0 (upd (S8 4 0) 3 (S8 0 0 3))) = S9 at hP hD
  refine lv_aload_n hx hb dX0_copyFrom_107 rfl (lv_at hl 0 rfl) ?_
  refine lv_aload_n hx hb dX0_copyFrom_108 rfl (lv_at hl 1 rfl) ?_
  refine va_get (D := G.1) (ci := 0) (v := .int (S9 0 0 4)) (C := RX0) (T := TX0) (N := 12) hx hb hts hinX0 hown hK.1 hP (6 * 0) (wX_o G A S9 r 0 (by decide)) rfl 9 (by decide) (hts (.fieldLink RX0 52 "WireLoops$Chip" "tailLost" "Z") (List.mem_of_getElem? (i := 14) rfl)) (fun _ h9 => h9) rfl dX0_copyFrom_109 ?_
  refine va_put (D := G.1) (ci := 0) (v := .int (S9 0 0 4)) (ty := .boolean) (C := RX0) (T := TX0) (N := 12) hx hb hts hinX0 tyX0 tyX0_ok nmX0 hown hK.1 hP hD hS (6 * 4) (wX_o G A S9 r 4 (by decide)) rfl (5 + 4) (by decide) (hts (.fieldLink RX0 52 "WireLoops$Chip" "tailLost" "Z") (List.mem_of_getElem? (i := 14) rfl)) (fun _ h9 => h9) rfl (by decide +kernel) (nb_of (by subst_vars; exact hbj)) (fb_of (by subst_vars; exact hbj)) (Nat.le_of_ble_eq_true rfl) dX0_copyFrom_112 (fun H locs hP hD hS => ?_)
  rw [wX_so G A S9 r 4 4 (by decide) (by decide) _] at hP hD
  have hP : va_P G.1 vwCl (wX G A (su S9 4 0 (upd (S9 4 0) 4 (S9 0 0 4))) r) H := hP
  have hD : va_D A0 (wX G A (su S9 4 0 (upd (S9 4 0) 4 (S9 0 0 4))) r) := hD
  generalize hn10 : (su S9 4 0 (upd (S9 4 0) 4 (S9 0 0 4))) = S10 at hP hD
  refine lv_aload_n hx hb dX0_copyFrom_115 rfl (lv_at hl 0 rfl) ?_
  refine lv_aload_n hx hb dX0_copyFrom_116 rfl (lv_at hl 1 rfl) ?_
  refine va_get (D := G.1) (ci := 0) (v := .int (S10 0 0 5)) (C := RX0) (T := TX0) (N := 12) hx hb hts hinX0 hown hK.1 hP (6 * 0) (wX_o G A S10 r 0 (by decide)) rfl 10 (by decide) (hts (.fieldLink RX0 56 "WireLoops$Chip" "tailsLost" "I") (List.mem_of_getElem? (i := 15) rfl)) (fun _ h9 => h9) rfl dX0_copyFrom_117 ?_
  refine va_put (D := G.1) (ci := 0) (v := .int (S10 0 0 5)) (ty := .int) (C := RX0) (T := TX0) (N := 12) hx hb hts hinX0 tyX0 tyX0_ok nmX0 hown hK.1 hP hD hS (6 * 4) (wX_o G A S10 r 4 (by decide)) rfl (5 + 5) (by decide) (hts (.fieldLink RX0 56 "WireLoops$Chip" "tailsLost" "I") (List.mem_of_getElem? (i := 15) rfl)) (fun _ h9 => h9) rfl (by decide +kernel) rfl rfl (Nat.le_of_ble_eq_true rfl) dX0_copyFrom_120 (fun H locs hP hD hS => ?_)
  rw [wX_so G A S10 r 4 5 (by decide) (by decide) _] at hP hD
  have hP : va_P G.1 vwCl (wX G A (su S10 4 0 (upd (S10 4 0) 5 (S10 0 0 5))) r) H := hP
  have hD : va_D A0 (wX G A (su S10 4 0 (upd (S10 4 0) 5 (S10 0 0 5))) r) := hD
  generalize hn11 : (su S10 4 0 (upd (S10 4 0) 5 (S10 0 0 5))) = S11 at hP hD
  refine lv_aload_n hx hb dX0_copyFrom_123 rfl (lv_at hl 0 rfl) ?_
  refine lv_aload_n hx hb dX0_copyFrom_124 rfl (lv_at hl 1 rfl) ?_
  refine va_get (D := G.1) (ci := 0) (v := .int (S11 0 0 6)) (C := RX0) (T := TX0) (N := 12) hx hb hts hinX0 hown hK.1 hP (6 * 0) (wX_o G A S11 r 0 (by decide)) rfl 11 (by decide) (hts (.fieldLink RX0 59 "WireLoops$Chip" "broken" "I") (List.mem_of_getElem? (i := 16) rfl)) (fun _ h9 => h9) rfl dX0_copyFrom_125 ?_
  refine va_put (D := G.1) (ci := 0) (v := .int (S11 0 0 6)) (ty := .int) (C := RX0) (T := TX0) (N := 12) hx hb hts hinX0 tyX0 tyX0_ok nmX0 hown hK.1 hP hD hS (6 * 4) (wX_o G A S11 r 4 (by decide)) rfl (5 + 6) (by decide) (hts (.fieldLink RX0 59 "WireLoops$Chip" "broken" "I") (List.mem_of_getElem? (i := 16) rfl)) (fun _ h9 => h9) rfl (by decide +kernel) rfl rfl (Nat.le_of_ble_eq_true rfl) dX0_copyFrom_128 (fun H locs hP hD hS => ?_)
  rw [wX_so G A S11 r 4 6 (by decide) (by decide) _] at hP hD
  have hP : va_P G.1 vwCl (wX G A (su S11 4 0 (upd (S11 4 0) 6 (S11 0 0 6))) r) H := hP
  have hD : va_D A0 (wX G A (su S11 4 0 (upd (S11 4 0) 6 (S11 0 0 6))) r) := hD
  generalize hn12 : (su S11 4 0 (upd (S11 4 0) 6 (S11 0 0 6))) = S12 at hP hD
  have he : eqX S12 (sc S 4 0) := by
    subst_vars
    refine ⟨?_, eqR.rfl'⟩
    intro x hx7
    rcases (show x = 0 ∨ x = 1 ∨ x = 2 ∨ x = 3 ∨ x = 4 ∨ x = 5 ∨ x = 6 by omega) with rfl | rfl | rfl | rfl | rfl | rfl | rfl
    · exact eqC.rfl'
    · exact eqC.rfl'
    · exact eqC.rfl'
    · exact eqC.rfl'
    · exact ⟨by intro k hk; rcases (show k = 0 ∨ k = 1 ∨ k = 2 ∨ k = 3 ∨ k = 4 ∨ k = 5 ∨ k = 6 by omega) with rfl | rfl | rfl | rfl | rfl | rfl | rfl <;> rfl, cpy16, cpy12, cpy12, cpy12, cpy12⟩
    · exact eqC.rfl'
    · exact eqC.rfl'
  have hP : va_P G.1 vwCl (wX G A (sc S 4 0) r) H := wX_ext he (fun _ _ => rfl) hP
  have hD : va_D A0 (wX G A (sc S 4 0) r) := wX_D hD
  exact endZ hx hb hr hlocks hP hD hS rfl dX0_copyFrom_131
def f_X0_copyFrom_4_1 (S : XS) : XS := sc S 4 1
theorem e_X0_copyFrom_4_1 (S : XS) : f_X0_copyFrom_4_1 S = sc S 4 1 := rfl
set_option maxHeartbeats 4000000 in
set_option maxRecDepth 100000 in
theorem c_X0_copyFrom_4_1 (l : Launch) (G : GG) (A : Nat → Nat) (S : XS) (r : Nat)  (hbj : S 1 0 4 = 0 ∨ S 1 0 4 = 1) : Mz l yX0_copyFrom wsX0_copyFrom ({ frames := 1, cells := 0, slots := 0, locals := 26 } : Room) G [.ref (A (6 * 4)), .ref (A (6 * 1))] (wX G A S r) (wX G A (f_X0_copyFrom_4_1 S) r) := by
  refine Mz.of (cc := cX0_copyFrom) (maxL := 2) (ret := none) (by decide) rfl (Nat.le_of_ble_eq_true rfl) ?_
  intro p e s m args below meth c A0 hA0 E hr hlocks hP hK hD hA hS ls hl
  have E : CallFix p m c cX0_copyFrom 2 s args wsX0_copyFrom RX0 := E
  have hx := E.1
  have hb := E.2.1
  have hml := E.2.2.1
  have hown := E.2.2.2.1
  have hts := E.2.2.2.2
  have hl : lv_has ls 2 [(0, .ref (A (6 * 4))), (1, .ref (A (6 * 1)))] := hl
  have hinX0 : ∀ w ∈ u_ws RX0 TX0 12, w ∈ wsX0_copyFrom := fun _ h => List.mem_cons_of_mem _ (List.mem_append_right _ h)
  refine lv_aload_n hx hb dX0_copyFrom_0 rfl (lv_at hl 1 rfl) ?_
  refine va_get (D := G.1) (ci := 0) (v := .ref (A (6 * 1 + 1))) (C := RX0) (T := TX0) (N := 12) hx hb hts hinX0 hown hK.1 hP (6 * 1) (wX_o G A S r 1 (by decide)) rfl 0 (by decide) (hts (.fieldLink RX0 9 "WireLoops$Chip" "leadX" "[I") (List.mem_of_getElem? (i := 1) rfl)) (fun _ h9 => h9) rfl dX0_copyFrom_1 ?_
  refine lv_iconst (v := 0) hx hb dX0_copyFrom_4 (by decide) ?_
  refine lv_aload_n hx hb dX0_copyFrom_5 rfl (lv_at hl 0 rfl) ?_
  refine va_get (D := G.1) (ci := 0) (v := .ref (A (6 * 4 + 1))) (C := RX0) (T := TX0) (N := 12) hx hb hts hinX0 hown hK.1 hP (6 * 4) (wX_o G A S r 4 (by decide)) rfl 0 (by decide) (hts (.fieldLink RX0 9 "WireLoops$Chip" "leadX" "[I") (List.mem_of_getElem? (i := 1) rfl)) (fun _ h9 => h9) rfl dX0_copyFrom_6 ?_
  refine lv_iconst (v := 0) hx hb dX0_copyFrom_9 (by decide) ?_
  refine lv_bipush (v := 16) hx hb dX0_copyFrom_10 (by decide) ?_
  refine va_copyi (D := G.1) hx hb (by rw [hml]; exact hl.1.symm) hown (hts (.methodLink RX0 37 arraycopyName) (List.mem_of_getElem? (i := 2) rfl)) (hts (.native arraycopyName) (List.mem_of_getElem? (i := 3) rfl)) (hts (.static arraycopyName) (List.mem_of_getElem? (i := 4) rfl)) (hts (.initialized "java/lang/System") (List.mem_of_getElem? (i := 5) rfl)) hK.1 hP hD hS (6 * 1 + 1) (6 * 4 + 1) 0 0 (wX_1 G A S r 1 (by decide)) (wX_1 G A S r 4 (by decide)) rfl rfl rfl (by decide) (by decide) (by decide) (by decide) (by decide) (fun _ _ => rfl) (Nat.le_of_ble_eq_true rfl) (Nat.le_of_ble_eq_true rfl) dX0_copyFrom_12 (fun H locs hP hD hS => ?_)
  rw [wX_s1 G A S r 4 (by decide) _] at hP hD
  have hP : va_P G.1 vwCl (wX G A (su S 4 1 (va_cpy (S 1 1) (S 4 1) (0 : Int32).toNatClampNeg (0 : Int32).toNatClampNeg (16 : Int32).toNatClampNeg)) r) H := hP
  have hD : va_D A0 (wX G A (su S 4 1 (va_cpy (S 1 1) (S 4 1) (0 : Int32).toNatClampNeg (0 : Int32).toNatClampNeg (16 : Int32).toNatClampNeg)) r) := hD
  generalize hn1 : (su S 4 1 (va_cpy (S 1 1) (S 4 1) (0 : Int32).toNatClampNeg (0 : Int32).toNatClampNeg (16 : Int32).toNatClampNeg)) = S1 at hP hD
  refine lv_aload_n hx hb dX0_copyFrom_15 rfl (lv_at hl 1 rfl) ?_
  refine va_get (D := G.1) (ci := 0) (v := .ref (A (6 * 1 + 2))) (C := RX0) (T := TX0) (N := 12) hx hb hts hinX0 hown hK.1 hP (6 * 1) (wX_o G A S1 r 1 (by decide)) rfl 1 (by decide) (hts (.fieldLink RX0 15 "WireLoops$Chip" "leadOf" "[I") (List.mem_of_getElem? (i := 6) rfl)) (fun _ h9 => h9) rfl dX0_copyFrom_16 ?_
  refine lv_iconst (v := 0) hx hb dX0_copyFrom_19 (by decide) ?_
  refine lv_aload_n hx hb dX0_copyFrom_20 rfl (lv_at hl 0 rfl) ?_
  refine va_get (D := G.1) (ci := 0) (v := .ref (A (6 * 4 + 2))) (C := RX0) (T := TX0) (N := 12) hx hb hts hinX0 hown hK.1 hP (6 * 4) (wX_o G A S1 r 4 (by decide)) rfl 1 (by decide) (hts (.fieldLink RX0 15 "WireLoops$Chip" "leadOf" "[I") (List.mem_of_getElem? (i := 6) rfl)) (fun _ h9 => h9) rfl dX0_copyFrom_21 ?_
  refine lv_iconst (v := 0) hx hb dX0_copyFrom_24 (by decide) ?_
  refine lv_bipush (v := 12) hx hb dX0_copyFrom_25 (by decide) ?_
  refine va_copyi (D := G.1) hx hb (by rw [hml]; exact hl.1.symm) hown (hts (.methodLink RX0 37 arraycopyName) (List.mem_of_getElem? (i := 2) rfl)) (hts (.native arraycopyName) (List.mem_of_getElem? (i := 3) rfl)) (hts (.static arraycopyName) (List.mem_of_getElem? (i := 4) rfl)) (hts (.initialized "java/lang/System") (List.mem_of_getElem? (i := 5) rfl)) hK.1 hP hD hS (6 * 1 + 2) (6 * 4 + 2) 0 0 (wX_c G A S1 r 1 2 (by decide) (by decide) (by decide)) (wX_c G A S1 r 4 2 (by decide) (by decide) (by decide)) rfl rfl rfl (by decide) (by decide) (by decide) (by decide) (by decide) (fun _ _ => rfl) (Nat.le_of_ble_eq_true rfl) (Nat.le_of_ble_eq_true rfl) dX0_copyFrom_27 (fun H locs hP hD hS => ?_)
  rw [wX_sc G A S1 r 4 2 (by decide) (by decide) (by decide) _] at hP hD
  have hP : va_P G.1 vwCl (wX G A (su S1 4 2 (va_cpy (S1 1 2) (S1 4 2) (0 : Int32).toNatClampNeg (0 : Int32).toNatClampNeg (12 : Int32).toNatClampNeg)) r) H := hP
  have hD : va_D A0 (wX G A (su S1 4 2 (va_cpy (S1 1 2) (S1 4 2) (0 : Int32).toNatClampNeg (0 : Int32).toNatClampNeg (12 : Int32).toNatClampNeg)) r) := hD
  generalize hn2 : (su S1 4 2 (va_cpy (S1 1 2) (S1 4 2) (0 : Int32).toNatClampNeg (0 : Int32).toNatClampNeg (12 : Int32).toNatClampNeg)) = S2 at hP hD
  refine lv_aload_n hx hb dX0_copyFrom_30 rfl (lv_at hl 1 rfl) ?_
  refine va_get (D := G.1) (ci := 0) (v := .ref (A (6 * 1 + 3))) (C := RX0) (T := TX0) (N := 12) hx hb hts hinX0 hown hK.1 hP (6 * 1) (wX_o G A S2 r 1 (by decide)) rfl 2 (by decide) (hts (.fieldLink RX0 18 "WireLoops$Chip" "height" "[I") (List.mem_of_getElem? (i := 7) rfl)) (fun _ h9 => h9) rfl dX0_copyFrom_31 ?_
  refine lv_iconst (v := 0) hx hb dX0_copyFrom_34 (by decide) ?_
  refine lv_aload_n hx hb dX0_copyFrom_35 rfl (lv_at hl 0 rfl) ?_
  refine va_get (D := G.1) (ci := 0) (v := .ref (A (6 * 4 + 3))) (C := RX0) (T := TX0) (N := 12) hx hb hts hinX0 hown hK.1 hP (6 * 4) (wX_o G A S2 r 4 (by decide)) rfl 2 (by decide) (hts (.fieldLink RX0 18 "WireLoops$Chip" "height" "[I") (List.mem_of_getElem? (i := 7) rfl)) (fun _ h9 => h9) rfl dX0_copyFrom_36 ?_
  refine lv_iconst (v := 0) hx hb dX0_copyFrom_39 (by decide) ?_
  refine lv_bipush (v := 12) hx hb dX0_copyFrom_40 (by decide) ?_
  refine va_copyi (D := G.1) hx hb (by rw [hml]; exact hl.1.symm) hown (hts (.methodLink RX0 37 arraycopyName) (List.mem_of_getElem? (i := 2) rfl)) (hts (.native arraycopyName) (List.mem_of_getElem? (i := 3) rfl)) (hts (.static arraycopyName) (List.mem_of_getElem? (i := 4) rfl)) (hts (.initialized "java/lang/System") (List.mem_of_getElem? (i := 5) rfl)) hK.1 hP hD hS (6 * 1 + 3) (6 * 4 + 3) 0 0 (wX_c G A S2 r 1 3 (by decide) (by decide) (by decide)) (wX_c G A S2 r 4 3 (by decide) (by decide) (by decide)) rfl rfl rfl (by decide) (by decide) (by decide) (by decide) (by decide) (fun _ _ => rfl) (Nat.le_of_ble_eq_true rfl) (Nat.le_of_ble_eq_true rfl) dX0_copyFrom_42 (fun H locs hP hD hS => ?_)
  rw [wX_sc G A S2 r 4 3 (by decide) (by decide) (by decide) _] at hP hD
  have hP : va_P G.1 vwCl (wX G A (su S2 4 3 (va_cpy (S2 1 3) (S2 4 3) (0 : Int32).toNatClampNeg (0 : Int32).toNatClampNeg (12 : Int32).toNatClampNeg)) r) H := hP
  have hD : va_D A0 (wX G A (su S2 4 3 (va_cpy (S2 1 3) (S2 4 3) (0 : Int32).toNatClampNeg (0 : Int32).toNatClampNeg (12 : Int32).toNatClampNeg)) r) := hD
  generalize hn3 : (su S2 4 3 (va_cpy (S2 1 3) (S2 4 3) (0 : Int32).toNatClampNeg (0 : Int32).toNatClampNeg (12 : Int32).toNatClampNeg)) = S3 at hP hD
  refine lv_aload_n hx hb dX0_copyFrom_45 rfl (lv_at hl 1 rfl) ?_
  refine va_get (D := G.1) (ci := 0) (v := .ref (A (6 * 1 + 4))) (C := RX0) (T := TX0) (N := 12) hx hb hts hinX0 hown hK.1 hP (6 * 1) (wX_o G A S3 r 1 (by decide)) rfl 3 (by decide) (hts (.fieldLink RX0 21 "WireLoops$Chip" "strength" "[I") (List.mem_of_getElem? (i := 8) rfl)) (fun _ h9 => h9) rfl dX0_copyFrom_46 ?_
  refine lv_iconst (v := 0) hx hb dX0_copyFrom_49 (by decide) ?_
  refine lv_aload_n hx hb dX0_copyFrom_50 rfl (lv_at hl 0 rfl) ?_
  refine va_get (D := G.1) (ci := 0) (v := .ref (A (6 * 4 + 4))) (C := RX0) (T := TX0) (N := 12) hx hb hts hinX0 hown hK.1 hP (6 * 4) (wX_o G A S3 r 4 (by decide)) rfl 3 (by decide) (hts (.fieldLink RX0 21 "WireLoops$Chip" "strength" "[I") (List.mem_of_getElem? (i := 8) rfl)) (fun _ h9 => h9) rfl dX0_copyFrom_51 ?_
  refine lv_iconst (v := 0) hx hb dX0_copyFrom_54 (by decide) ?_
  refine lv_bipush (v := 12) hx hb dX0_copyFrom_55 (by decide) ?_
  refine va_copyi (D := G.1) hx hb (by rw [hml]; exact hl.1.symm) hown (hts (.methodLink RX0 37 arraycopyName) (List.mem_of_getElem? (i := 2) rfl)) (hts (.native arraycopyName) (List.mem_of_getElem? (i := 3) rfl)) (hts (.static arraycopyName) (List.mem_of_getElem? (i := 4) rfl)) (hts (.initialized "java/lang/System") (List.mem_of_getElem? (i := 5) rfl)) hK.1 hP hD hS (6 * 1 + 4) (6 * 4 + 4) 0 0 (wX_c G A S3 r 1 4 (by decide) (by decide) (by decide)) (wX_c G A S3 r 4 4 (by decide) (by decide) (by decide)) rfl rfl rfl (by decide) (by decide) (by decide) (by decide) (by decide) (fun _ _ => rfl) (Nat.le_of_ble_eq_true rfl) (Nat.le_of_ble_eq_true rfl) dX0_copyFrom_57 (fun H locs hP hD hS => ?_)
  rw [wX_sc G A S3 r 4 4 (by decide) (by decide) (by decide) _] at hP hD
  have hP : va_P G.1 vwCl (wX G A (su S3 4 4 (va_cpy (S3 1 4) (S3 4 4) (0 : Int32).toNatClampNeg (0 : Int32).toNatClampNeg (12 : Int32).toNatClampNeg)) r) H := hP
  have hD : va_D A0 (wX G A (su S3 4 4 (va_cpy (S3 1 4) (S3 4 4) (0 : Int32).toNatClampNeg (0 : Int32).toNatClampNeg (12 : Int32).toNatClampNeg)) r) := hD
  generalize hn4 : (su S3 4 4 (va_cpy (S3 1 4) (S3 4 4) (0 : Int32).toNatClampNeg (0 : Int32).toNatClampNeg (12 : Int32).toNatClampNeg)) = S4 at hP hD
  refine lv_aload_n hx hb dX0_copyFrom_60 rfl (lv_at hl 1 rfl) ?_
  refine va_get (D := G.1) (ci := 0) (v := .ref (A (6 * 1 + 5))) (C := RX0) (T := TX0) (N := 12) hx hb hts hinX0 hown hK.1 hP (6 * 1) (wX_o G A S4 r 1 (by decide)) rfl 4 (by decide) (hts (.fieldLink RX0 24 "WireLoops$Chip" "number" "[I") (List.mem_of_getElem? (i := 9) rfl)) (fun _ h9 => h9) rfl dX0_copyFrom_61 ?_
  refine lv_iconst (v := 0) hx hb dX0_copyFrom_64 (by decide) ?_
  refine lv_aload_n hx hb dX0_copyFrom_65 rfl (lv_at hl 0 rfl) ?_
  refine va_get (D := G.1) (ci := 0) (v := .ref (A (6 * 4 + 5))) (C := RX0) (T := TX0) (N := 12) hx hb hts hinX0 hown hK.1 hP (6 * 4) (wX_o G A S4 r 4 (by decide)) rfl 4 (by decide) (hts (.fieldLink RX0 24 "WireLoops$Chip" "number" "[I") (List.mem_of_getElem? (i := 9) rfl)) (fun _ h9 => h9) rfl dX0_copyFrom_66 ?_
  refine lv_iconst (v := 0) hx hb dX0_copyFrom_69 (by decide) ?_
  refine lv_bipush (v := 12) hx hb dX0_copyFrom_70 (by decide) ?_
  refine va_copyi (D := G.1) hx hb (by rw [hml]; exact hl.1.symm) hown (hts (.methodLink RX0 37 arraycopyName) (List.mem_of_getElem? (i := 2) rfl)) (hts (.native arraycopyName) (List.mem_of_getElem? (i := 3) rfl)) (hts (.static arraycopyName) (List.mem_of_getElem? (i := 4) rfl)) (hts (.initialized "java/lang/System") (List.mem_of_getElem? (i := 5) rfl)) hK.1 hP hD hS (6 * 1 + 5) (6 * 4 + 5) 0 0 (wX_c G A S4 r 1 5 (by decide) (by decide) (by decide)) (wX_c G A S4 r 4 5 (by decide) (by decide) (by decide)) rfl rfl rfl (by decide) (by decide) (by decide) (by decide) (by decide) (fun _ _ => rfl) (Nat.le_of_ble_eq_true rfl) (Nat.le_of_ble_eq_true rfl) dX0_copyFrom_72 (fun H locs hP hD hS => ?_)
  rw [wX_sc G A S4 r 4 5 (by decide) (by decide) (by decide) _] at hP hD
  have hP : va_P G.1 vwCl (wX G A (su S4 4 5 (va_cpy (S4 1 5) (S4 4 5) (0 : Int32).toNatClampNeg (0 : Int32).toNatClampNeg (12 : Int32).toNatClampNeg)) r) H := hP
  have hD : va_D A0 (wX G A (su S4 4 5 (va_cpy (S4 1 5) (S4 4 5) (0 : Int32).toNatClampNeg (0 : Int32).toNatClampNeg (12 : Int32).toNatClampNeg)) r) := hD
  generalize hn5 : (su S4 4 5 (va_cpy (S4 1 5) (S4 4 5) (0 : Int32).toNatClampNeg (0 : Int32).toNatClampNeg (12 : Int32).toNatClampNeg)) = S5 at hP hD
  refine lv_aload_n hx hb dX0_copyFrom_75 rfl (lv_at hl 0 rfl) ?_
  refine lv_aload_n hx hb dX0_copyFrom_76 rfl (lv_at hl 1 rfl) ?_
  refine va_get (D := G.1) (ci := 0) (v := .int (S5 1 0 0)) (C := RX0) (T := TX0) (N := 12) hx hb hts hinX0 hown hK.1 hP (6 * 1) (wX_o G A S5 r 1 (by decide)) rfl 5 (by decide) (hts (.fieldLink RX0 43 "WireLoops$Chip" "laid" "I") (List.mem_of_getElem? (i := 10) rfl)) (fun _ h9 => h9) rfl dX0_copyFrom_77 ?_
  refine va_put (D := G.1) (ci := 0) (v := .int (S5 1 0 0)) (ty := .int) (C := RX0) (T := TX0) (N := 12) hx hb hts hinX0 tyX0 tyX0_ok nmX0 hown hK.1 hP hD hS (6 * 4) (wX_o G A S5 r 4 (by decide)) rfl (5 + 0) (by decide) (hts (.fieldLink RX0 43 "WireLoops$Chip" "laid" "I") (List.mem_of_getElem? (i := 10) rfl)) (fun _ h9 => h9) rfl (by decide +kernel) rfl rfl (Nat.le_of_ble_eq_true rfl) dX0_copyFrom_80 (fun H locs hP hD hS => ?_)
  rw [wX_so G A S5 r 4 0 (by decide) (by decide) _] at hP hD
  have hP : va_P G.1 vwCl (wX G A (su S5 4 0 (upd (S5 4 0) 0 (S5 1 0 0))) r) H := hP
  have hD : va_D A0 (wX G A (su S5 4 0 (upd (S5 4 0) 0 (S5 1 0 0))) r) := hD
  generalize hn6 : (su S5 4 0 (upd (S5 4 0) 0 (S5 1 0 0))) = S6 at hP hD
  refine lv_aload_n hx hb dX0_copyFrom_83 rfl (lv_at hl 0 rfl) ?_
  refine lv_aload_n hx hb dX0_copyFrom_84 rfl (lv_at hl 1 rfl) ?_
  refine va_get (D := G.1) (ci := 0) (v := .int (S6 1 0 1)) (C := RX0) (T := TX0) (N := 12) hx hb hts hinX0 hown hK.1 hP (6 * 1) (wX_o G A S6 r 1 (by decide)) rfl 6 (by decide) (hts (.fieldLink RX0 33 "WireLoops$Chip" "width" "I") (List.mem_of_getElem? (i := 11) rfl)) (fun _ h9 => h9) rfl dX0_copyFrom_85 ?_
  refine va_put (D := G.1) (ci := 0) (v := .int (S6 1 0 1)) (ty := .int) (C := RX0) (T := TX0) (N := 12) hx hb hts hinX0 tyX0 tyX0_ok nmX0 hown hK.1 hP hD hS (6 * 4) (wX_o G A S6 r 4 (by decide)) rfl (5 + 1) (by decide) (hts (.fieldLink RX0 33 "WireLoops$Chip" "width" "I") (List.mem_of_getElem? (i := 11) rfl)) (fun _ h9 => h9) rfl (by decide +kernel) rfl rfl (Nat.le_of_ble_eq_true rfl) dX0_copyFrom_88 (fun H locs hP hD hS => ?_)
  rw [wX_so G A S6 r 4 1 (by decide) (by decide) _] at hP hD
  have hP : va_P G.1 vwCl (wX G A (su S6 4 0 (upd (S6 4 0) 1 (S6 1 0 1))) r) H := hP
  have hD : va_D A0 (wX G A (su S6 4 0 (upd (S6 4 0) 1 (S6 1 0 1))) r) := hD
  generalize hn7 : (su S6 4 0 (upd (S6 4 0) 1 (S6 1 0 1))) = S7 at hP hD
  refine lv_aload_n hx hb dX0_copyFrom_91 rfl (lv_at hl 0 rfl) ?_
  refine lv_aload_n hx hb dX0_copyFrom_92 rfl (lv_at hl 1 rfl) ?_
  refine va_get (D := G.1) (ci := 0) (v := .int (S7 1 0 2)) (C := RX0) (T := TX0) (N := 12) hx hb hts hinX0 hown hK.1 hP (6 * 1) (wX_o G A S7 r 1 (by decide)) rfl 7 (by decide) (hts (.fieldLink RX0 46 "WireLoops$Chip" "wear" "I") (List.mem_of_getElem? (i := 12) rfl)) (fun _ h9 => h9) rfl dX0_copyFrom_93 ?_
  refine va_put (D := G.1) (ci := 0) (v := .int (S7 1 0 2)) (ty := .int) (C := RX0) (T := TX0) (N := 12) hx hb hts hinX0 tyX0 tyX0_ok nmX0 hown hK.1 hP hD hS (6 * 4) (wX_o G A S7 r 4 (by decide)) rfl (5 + 2) (by decide) (hts (.fieldLink RX0 46 "WireLoops$Chip" "wear" "I") (List.mem_of_getElem? (i := 12) rfl)) (fun _ h9 => h9) rfl (by decide +kernel) rfl rfl (Nat.le_of_ble_eq_true rfl) dX0_copyFrom_96 (fun H locs hP hD hS => ?_)
  rw [wX_so G A S7 r 4 2 (by decide) (by decide) _] at hP hD
  have hP : va_P G.1 vwCl (wX G A (su S7 4 0 (upd (S7 4 0) 2 (S7 1 0 2))) r) H := hP
  have hD : va_D A0 (wX G A (su S7 4 0 (upd (S7 4 0) 2 (S7 1 0 2))) r) := hD
  generalize hn8 : (su S7 4 0 (upd (S7 4 0) 2 (S7 1 0 2))) = S8 at hP hD
  refine lv_aload_n hx hb dX0_copyFrom_99 rfl (lv_at hl 0 rfl) ?_
  refine lv_aload_n hx hb dX0_copyFrom_100 rfl (lv_at hl 1 rfl) ?_
  refine va_get (D := G.1) (ci := 0) (v := .int (S8 1 0 3)) (C := RX0) (T := TX0) (N := 12) hx hb hts hinX0 hown hK.1 hP (6 * 1) (wX_o G A S8 r 1 (by decide)) rfl 8 (by decide) (hts (.fieldLink RX0 49 "WireLoops$Chip" "toolsChanged" "I") (List.mem_of_getElem? (i := 13) rfl)) (fun _ h9 => h9) rfl dX0_copyFrom_101 ?_
  refine va_put (D := G.1) (ci := 0) (v := .int (S8 1 0 3)) (ty := .int) (C := RX0) (T := TX0) (N := 12) hx hb hts hinX0 tyX0 tyX0_ok nmX0 hown hK.1 hP hD hS (6 * 4) (wX_o G A S8 r 4 (by decide)) rfl (5 + 3) (by decide) (hts (.fieldLink RX0 49 "WireLoops$Chip" "toolsChanged" "I") (List.mem_of_getElem? (i := 13) rfl)) (fun _ h9 => h9) rfl (by decide +kernel) rfl rfl (Nat.le_of_ble_eq_true rfl) dX0_copyFrom_104 (fun H locs hP hD hS => ?_)
  rw [wX_so G A S8 r 4 3 (by decide) (by decide) _] at hP hD
  have hP : va_P G.1 vwCl (wX G A (su S8 4 0 (upd (S8 4 0) 3 (S8 1 0 3))) r) H := hP
  have hD : va_D A0 (wX G A (su S8 4 0 (upd (S8 4 0) 3 (S8 1 0 3))) r) := hD
  generalize hn9 : (su S8 4 0 (upd (S8 4 0) 3 (S8 1 0 3))) = S9 at hP hD
  refine lv_aload_n hx hb dX0_copyFrom_107 rfl (lv_at hl 0 rfl) ?_
  refine lv_aload_n hx hb dX0_copyFrom_108 rfl (lv_at hl 1 rfl) ?_
  refine va_get (D := G.1) (ci := 0) (v := .int (S9 1 0 4)) (C := RX0) (T := TX0) (N := 12) hx hb hts hinX0 hown hK.1 hP (6 * 1) (wX_o G A S9 r 1 (by decide)) rfl 9 (by decide) (hts (.fieldLink RX0 52 "WireLoops$Chip" "tailLost" "Z") (List.mem_of_getElem? (i := 14) rfl)) (fun _ h9 => h9) rfl dX0_copyFrom_109 ?_
  refine va_put (D := G.1) (ci := 0) (v := .int (S9 1 0 4)) (ty := .boolean) (C := RX0) (T := TX0) (N := 12) hx hb hts hinX0 tyX0 tyX0_ok nmX0 hown hK.1 hP hD hS (6 * 4) (wX_o G A S9 r 4 (by decide)) rfl (5 + 4) (by decide) (hts (.fieldLink RX0 52 "WireLoops$Chip" "tailLost" "Z") (List.mem_of_getElem? (i := 14) rfl)) (fun _ h9 => h9) rfl (by decide +kernel) (nb_of (by subst_vars; exact hbj)) (fb_of (by subst_vars; exact hbj)) (Nat.le_of_ble_eq_true rfl) dX0_copyFrom_112 (fun H locs hP hD hS => ?_)
  rw [wX_so G A S9 r 4 4 (by decide) (by decide) _] at hP hD
  have hP : va_P G.1 vwCl (wX G A (su S9 4 0 (upd (S9 4 0) 4 (S9 1 0 4))) r) H := hP
  have hD : va_D A0 (wX G A (su S9 4 0 (upd (S9 4 0) 4 (S9 1 0 4))) r) := hD
  generalize hn10 : (su S9 4 0 (upd (S9 4 0) 4 (S9 1 0 4))) = S10 at hP hD
  refine lv_aload_n hx hb dX0_copyFrom_115 rfl (lv_at hl 0 rfl) ?_
  refine lv_aload_n hx hb dX0_copyFrom_116 rfl (lv_at hl 1 rfl) ?_
  refine va_get (D := G.1) (ci := 0) (v := .int (S10 1 0 5)) (C := RX0) (T := TX0) (N := 12) hx hb hts hinX0 hown hK.1 hP (6 * 1) (wX_o G A S10 r 1 (by decide)) rfl 10 (by decide) (hts (.fieldLink RX0 56 "WireLoops$Chip" "tailsLost" "I") (List.mem_of_getElem? (i := 15) rfl)) (fun _ h9 => h9) rfl dX0_copyFrom_117 ?_
  refine va_put (D := G.1) (ci := 0) (v := .int (S10 1 0 5)) (ty := .int) (C := RX0) (T := TX0) (N := 12) hx hb hts hinX0 tyX0 tyX0_ok nmX0 hown hK.1 hP hD hS (6 * 4) (wX_o G A S10 r 4 (by decide)) rfl (5 + 5) (by decide) (hts (.fieldLink RX0 56 "WireLoops$Chip" "tailsLost" "I") (List.mem_of_getElem? (i := 15) rfl)) (fun _ h9 => h9) rfl (by decide +kernel) rfl rfl (Nat.le_of_ble_eq_true rfl) dX0_copyFrom_120 (fun H locs hP hD hS => ?_)
  rw [wX_so G A S10 r 4 5 (by decide) (by decide) _] at hP hD
  have hP : va_P G.1 vwCl (wX G A (su S10 4 0 (upd (S10 4 0) 5 (S10 1 0 5))) r) H := hP
  have hD : va_D A0 (wX G A (su S10 4 0 (upd (S10 4 0) 5 (S10 1 0 5))) r) := hD
  generalize hn11 : (su S10 4 0 (upd (S10 4 0) 5 (S10 1 0 5))) = S11 at hP hD
  refine lv_aload_n hx hb dX0_copyFrom_123 rfl (lv_at hl 0 rfl) ?_
  refine lv_aload_n hx hb dX0_copyFrom_124 rfl (lv_at hl 1 rfl) ?_
  refine va_get (D := G.1) (ci := 0) (v := .int (S11 1 0 6)) (C := RX0) (T := TX0) (N := 12) hx hb hts hinX0 hown hK.1 hP (6 * 1) (wX_o G A S11 r 1 (by decide)) rfl 11 (by decide) (hts (.fieldLink RX0 59 "WireLoops$Chip" "broken" "I") (List.mem_of_getElem? (i := 16) rfl)) (fun _ h9 => h9) rfl dX0_copyFrom_125 ?_
  refine va_put (D := G.1) (ci := 0) (v := .int (S11 1 0 6)) (ty := .int) (C := RX0) (T := TX0) (N := 12) hx hb hts hinX0 tyX0 tyX0_ok nmX0 hown hK.1 hP hD hS (6 * 4) (wX_o G A S11 r 4 (by decide)) rfl (5 + 6) (by decide) (hts (.fieldLink RX0 59 "WireLoops$Chip" "broken" "I") (List.mem_of_getElem? (i := 16) rfl)) (fun _ h9 => h9) rfl (by decide +kernel) rfl rfl (Nat.le_of_ble_eq_true rfl) dX0_copyFrom_128 (fun H locs hP hD hS => ?_)
  rw [wX_so G A S11 r 4 6 (by decide) (by decide) _] at hP hD
  have hP : va_P G.1 vwCl (wX G A (su S11 4 0 (upd (S11 4 0) 6 (S11 1 0 6))) r) H := hP
  have hD : va_D A0 (wX G A (su S11 4 0 (upd (S11 4 0) 6 (S11 1 0 6))) r) := hD
  generalize hn12 : (su S11 4 0 (upd (S11 4 0) 6 (S11 1 0 6))) = S12 at hP hD
  have he : eqX S12 (sc S 4 1) := by
    subst_vars
    refine ⟨?_, eqR.rfl'⟩
    intro x hx7
    rcases (show x = 0 ∨ x = 1 ∨ x = 2 ∨ x = 3 ∨ x = 4 ∨ x = 5 ∨ x = 6 by omega) with rfl | rfl | rfl | rfl | rfl | rfl | rfl
    · exact eqC.rfl'
    · exact eqC.rfl'
    · exact eqC.rfl'
    · exact eqC.rfl'
    · exact ⟨by intro k hk; rcases (show k = 0 ∨ k = 1 ∨ k = 2 ∨ k = 3 ∨ k = 4 ∨ k = 5 ∨ k = 6 by omega) with rfl | rfl | rfl | rfl | rfl | rfl | rfl <;> rfl, cpy16, cpy12, cpy12, cpy12, cpy12⟩
    · exact eqC.rfl'
    · exact eqC.rfl'
  have hP : va_P G.1 vwCl (wX G A (sc S 4 1) r) H := wX_ext he (fun _ _ => rfl) hP
  have hD : va_D A0 (wX G A (sc S 4 1) r) := wX_D hD
  exact endZ hx hb hr hlocks hP hD hS rfl dX0_copyFrom_131
def f_X0_copyFrom_5_0 (S : XS) : XS := sc S 5 0
theorem e_X0_copyFrom_5_0 (S : XS) : f_X0_copyFrom_5_0 S = sc S 5 0 := rfl
set_option maxHeartbeats 4000000 in
set_option maxRecDepth 100000 in
theorem c_X0_copyFrom_5_0 (l : Launch) (G : GG) (A : Nat → Nat) (S : XS) (r : Nat)  (hbj : S 0 0 4 = 0 ∨ S 0 0 4 = 1) : Mz l yX0_copyFrom wsX0_copyFrom ({ frames := 1, cells := 0, slots := 0, locals := 26 } : Room) G [.ref (A (6 * 5)), .ref (A (6 * 0))] (wX G A S r) (wX G A (f_X0_copyFrom_5_0 S) r) := by
  refine Mz.of (cc := cX0_copyFrom) (maxL := 2) (ret := none) (by decide) rfl (Nat.le_of_ble_eq_true rfl) ?_
  intro p e s m args below meth c A0 hA0 E hr hlocks hP hK hD hA hS ls hl
  have E : CallFix p m c cX0_copyFrom 2 s args wsX0_copyFrom RX0 := E
  have hx := E.1
  have hb := E.2.1
  have hml := E.2.2.1
  have hown := E.2.2.2.1
  have hts := E.2.2.2.2
  have hl : lv_has ls 2 [(0, .ref (A (6 * 5))), (1, .ref (A (6 * 0)))] := hl
  have hinX0 : ∀ w ∈ u_ws RX0 TX0 12, w ∈ wsX0_copyFrom := fun _ h => List.mem_cons_of_mem _ (List.mem_append_right _ h)
  refine lv_aload_n hx hb dX0_copyFrom_0 rfl (lv_at hl 1 rfl) ?_
  refine va_get (D := G.1) (ci := 0) (v := .ref (A (6 * 0 + 1))) (C := RX0) (T := TX0) (N := 12) hx hb hts hinX0 hown hK.1 hP (6 * 0) (wX_o G A S r 0 (by decide)) rfl 0 (by decide) (hts (.fieldLink RX0 9 "WireLoops$Chip" "leadX" "[I") (List.mem_of_getElem? (i := 1) rfl)) (fun _ h9 => h9) rfl dX0_copyFrom_1 ?_
  refine lv_iconst (v := 0) hx hb dX0_copyFrom_4 (by decide) ?_
  refine lv_aload_n hx hb dX0_copyFrom_5 rfl (lv_at hl 0 rfl) ?_
  refine va_get (D := G.1) (ci := 0) (v := .ref (A (6 * 5 + 1))) (C := RX0) (T := TX0) (N := 12) hx hb hts hinX0 hown hK.1 hP (6 * 5) (wX_o G A S r 5 (by decide)) rfl 0 (by decide) (hts (.fieldLink RX0 9 "WireLoops$Chip" "leadX" "[I") (List.mem_of_getElem? (i := 1) rfl)) (fun _ h9 => h9) rfl dX0_copyFrom_6 ?_
  refine lv_iconst (v := 0) hx hb dX0_copyFrom_9 (by decide) ?_
  refine lv_bipush (v := 16) hx hb dX0_copyFrom_10 (by decide) ?_
  refine va_copyi (D := G.1) hx hb (by rw [hml]; exact hl.1.symm) hown (hts (.methodLink RX0 37 arraycopyName) (List.mem_of_getElem? (i := 2) rfl)) (hts (.native arraycopyName) (List.mem_of_getElem? (i := 3) rfl)) (hts (.static arraycopyName) (List.mem_of_getElem? (i := 4) rfl)) (hts (.initialized "java/lang/System") (List.mem_of_getElem? (i := 5) rfl)) hK.1 hP hD hS (6 * 0 + 1) (6 * 5 + 1) 0 0 (wX_1 G A S r 0 (by decide)) (wX_1 G A S r 5 (by decide)) rfl rfl rfl (by decide) (by decide) (by decide) (by decide) (by decide) (fun _ _ => rfl) (Nat.le_of_ble_eq_true rfl) (Nat.le_of_ble_eq_true rfl) dX0_copyFrom_12 (fun H locs hP hD hS => ?_)
  rw [wX_s1 G A S r 5 (by decide) _] at hP hD
  have hP : va_P G.1 vwCl (wX G A (su S 5 1 (va_cpy (S 0 1) (S 5 1) (0 : Int32).toNatClampNeg (0 : Int32).toNatClampNeg (16 : Int32).toNatClampNeg)) r) H := hP
  have hD : va_D A0 (wX G A (su S 5 1 (va_cpy (S 0 1) (S 5 1) (0 : Int32).toNatClampNeg (0 : Int32).toNatClampNeg (16 : Int32).toNatClampNeg)) r) := hD
  generalize hn1 : (su S 5 1 (va_cpy (S 0 1) (S 5 1) (0 : Int32).toNatClampNeg (0 : Int32).toNatClampNeg (16 : Int32).toNatClampNeg)) = S1 at hP hD
  refine lv_aload_n hx hb dX0_copyFrom_15 rfl (lv_at hl 1 rfl) ?_
  refine va_get (D := G.1) (ci := 0) (v := .ref (A (6 * 0 + 2))) (C := RX0) (T := TX0) (N := 12) hx hb hts hinX0 hown hK.1 hP (6 * 0) (wX_o G A S1 r 0 (by decide)) rfl 1 (by decide) (hts (.fieldLink RX0 15 "WireLoops$Chip" "leadOf" "[I") (List.mem_of_getElem? (i := 6) rfl)) (fun _ h9 => h9) rfl dX0_copyFrom_16 ?_
  refine lv_iconst (v := 0) hx hb dX0_copyFrom_19 (by decide) ?_
  refine lv_aload_n hx hb dX0_copyFrom_20 rfl (lv_at hl 0 rfl) ?_
  refine va_get (D := G.1) (ci := 0) (v := .ref (A (6 * 5 + 2))) (C := RX0) (T := TX0) (N := 12) hx hb hts hinX0 hown hK.1 hP (6 * 5) (wX_o G A S1 r 5 (by decide)) rfl 1 (by decide) (hts (.fieldLink RX0 15 "WireLoops$Chip" "leadOf" "[I") (List.mem_of_getElem? (i := 6) rfl)) (fun _ h9 => h9) rfl dX0_copyFrom_21 ?_
  refine lv_iconst (v := 0) hx hb dX0_copyFrom_24 (by decide) ?_
  refine lv_bipush (v := 12) hx hb dX0_copyFrom_25 (by decide) ?_
  refine va_copyi (D := G.1) hx hb (by rw [hml]; exact hl.1.symm) hown (hts (.methodLink RX0 37 arraycopyName) (List.mem_of_getElem? (i := 2) rfl)) (hts (.native arraycopyName) (List.mem_of_getElem? (i := 3) rfl)) (hts (.static arraycopyName) (List.mem_of_getElem? (i := 4) rfl)) (hts (.initialized "java/lang/System") (List.mem_of_getElem? (i := 5) rfl)) hK.1 hP hD hS (6 * 0 + 2) (6 * 5 + 2) 0 0 (wX_c G A S1 r 0 2 (by decide) (by decide) (by decide)) (wX_c G A S1 r 5 2 (by decide) (by decide) (by decide)) rfl rfl rfl (by decide) (by decide) (by decide) (by decide) (by decide) (fun _ _ => rfl) (Nat.le_of_ble_eq_true rfl) (Nat.le_of_ble_eq_true rfl) dX0_copyFrom_27 (fun H locs hP hD hS => ?_)
  rw [wX_sc G A S1 r 5 2 (by decide) (by decide) (by decide) _] at hP hD
  have hP : va_P G.1 vwCl (wX G A (su S1 5 2 (va_cpy (S1 0 2) (S1 5 2) (0 : Int32).toNatClampNeg (0 : Int32).toNatClampNeg (12 : Int32).toNatClampNeg)) r) H := hP
  have hD : va_D A0 (wX G A (su S1 5 2 (va_cpy (S1 0 2) (S1 5 2) (0 : Int32).toNatClampNeg (0 : Int32).toNatClampNeg (12 : Int32).toNatClampNeg)) r) := hD
  generalize hn2 : (su S1 5 2 (va_cpy (S1 0 2) (S1 5 2) (0 : Int32).toNatClampNeg (0 : Int32).toNatClampNeg (12 : Int32).toNatClampNeg)) = S2 at hP hD
  refine lv_aload_n hx hb dX0_copyFrom_30 rfl (lv_at hl 1 rfl) ?_
  refine va_get (D := G.1) (ci := 0) (v := .ref (A (6 * 0 + 3))) (C := RX0) (T := TX0) (N := 12) hx hb hts hinX0 hown hK.1 hP (6 * 0) (wX_o G A S2 r 0 (by decide)) rfl 2 (by decide) (hts (.fieldLink RX0 18 "WireLoops$Chip" "height" "[I") (List.mem_of_getElem? (i := 7) rfl)) (fun _ h9 => h9) rfl dX0_copyFrom_31 ?_
  refine lv_iconst (v := 0) hx hb dX0_copyFrom_34 (by decide) ?_
  refine lv_aload_n hx hb dX0_copyFrom_35 rfl (lv_at hl 0 rfl) ?_
  refine va_get (D := G.1) (ci := 0) (v := .ref (A (6 * 5 + 3))) (C := RX0) (T := TX0) (N := 12) hx hb hts hinX0 hown hK.1 hP (6 * 5) (wX_o G A S2 r 5 (by decide)) rfl 2 (by decide) (hts (.fieldLink RX0 18 "WireLoops$Chip" "height" "[I") (List.mem_of_getElem? (i := 7) rfl)) (fun _ h9 => h9) rfl dX0_copyFrom_36 ?_
  refine lv_iconst (v := 0) hx hb dX0_copyFrom_39 (by decide) ?_
  refine lv_bipush (v := 12) hx hb dX0_copyFrom_40 (by decide) ?_
  refine va_copyi (D := G.1) hx hb (by rw [hml]; exact hl.1.symm) hown (hts (.methodLink RX0 37 arraycopyName) (List.mem_of_getElem? (i := 2) rfl)) (hts (.native arraycopyName) (List.mem_of_getElem? (i := 3) rfl)) (hts (.static arraycopyName) (List.mem_of_getElem? (i := 4) rfl)) (hts (.initialized "java/lang/System") (List.mem_of_getElem? (i := 5) rfl)) hK.1 hP hD hS (6 * 0 + 3) (6 * 5 + 3) 0 0 (wX_c G A S2 r 0 3 (by decide) (by decide) (by decide)) (wX_c G A S2 r 5 3 (by decide) (by decide) (by decide)) rfl rfl rfl (by decide) (by decide) (by decide) (by decide) (by decide) (fun _ _ => rfl) (Nat.le_of_ble_eq_true rfl) (Nat.le_of_ble_eq_true rfl) dX0_copyFrom_42 (fun H locs hP hD hS => ?_)
  rw [wX_sc G A S2 r 5 3 (by decide) (by decide) (by decide) _] at hP hD
  have hP : va_P G.1 vwCl (wX G A (su S2 5 3 (va_cpy (S2 0 3) (S2 5 3) (0 : Int32).toNatClampNeg (0 : Int32).toNatClampNeg (12 : Int32).toNatClampNeg)) r) H := hP
  have hD : va_D A0 (wX G A (su S2 5 3 (va_cpy (S2 0 3) (S2 5 3) (0 : Int32).toNatClampNeg (0 : Int32).toNatClampNeg (12 : Int32).toNatClampNeg)) r) := hD
  generalize hn3 : (su S2 5 3 (va_cpy (S2 0 3) (S2 5 3) (0 : Int32).toNatClampNeg (0 : Int32).toNatClampNeg (12 : Int32).toNatClampNeg)) = S3 at hP hD
  refine lv_aload_n hx hb dX0_copyFrom_45 rfl (lv_at hl 1 rfl) ?_
  refine va_get (D := G.1) (ci := 0) (v := .ref (A (6 * 0 + 4))) (C := RX0) (T := TX0) (N := 12) hx hb hts hinX0 hown hK.1 hP (6 * 0) (wX_o G A S3 r 0 (by decide)) rfl 3 (by decide) (hts (.fieldLink RX0 21 "WireLoops$Chip" "strength" "[I") (List.mem_of_getElem? (i := 8) rfl)) (fun _ h9 => h9) rfl dX0_copyFrom_46 ?_
  refine lv_iconst (v := 0) hx hb dX0_copyFrom_49 (by decide) ?_
  refine lv_aload_n hx hb dX0_copyFrom_50 rfl (lv_at hl 0 rfl) ?_
  refine va_get (D := G.1) (ci := 0) (v := .ref (A (6 * 5 + 4))) (C := RX0) (T := TX0) (N := 12) hx hb hts hinX0 hown hK.1 hP (6 * 5) (wX_o G A S3 r 5 (by decide)) rfl 3 (by decide) (hts (.fieldLink RX0 21 "WireLoops$Chip" "strength" "[I") (List.mem_of_getElem? (i := 8) rfl)) (fun _ h9 => h9) rfl dX0_copyFrom_51 ?_
  refine lv_iconst (v := 0) hx hb dX0_copyFrom_54 (by decide) ?_
  refine lv_bipush (v := 12) hx hb dX0_copyFrom_55 (by decide) ?_
  refine va_copyi (D := G.1) hx hb (by rw [hml]; exact hl.1.symm) hown (hts (.methodLink RX0 37 arraycopyName) (List.mem_of_getElem? (i := 2) rfl)) (hts (.native arraycopyName) (List.mem_of_getElem? (i := 3) rfl)) (hts (.static arraycopyName) (List.mem_of_getElem? (i := 4) rfl)) (hts (.initialized "java/lang/System") (List.mem_of_getElem? (i := 5) rfl)) hK.1 hP hD hS (6 * 0 + 4) (6 * 5 + 4) 0 0 (wX_c G A S3 r 0 4 (by decide) (by decide) (by decide)) (wX_c G A S3 r 5 4 (by decide) (by decide) (by decide)) rfl rfl rfl (by decide) (by decide) (by decide) (by decide) (by decide) (fun _ _ => rfl) (Nat.le_of_ble_eq_true rfl) (Nat.le_of_ble_eq_true rfl) dX0_copyFrom_57 (fun H locs hP hD hS => ?_)
  rw [wX_sc G A S3 r 5 4 (by decide) (by decide) (by decide) _] at hP hD
  have hP : va_P G.1 vwCl (wX G A (su S3 5 4 (va_cpy (S3 0 4) (S3 5 4) (0 : Int32).toNatClampNeg (0 : Int32).toNatClampNeg (12 : Int32).toNatClampNeg)) r) H := hP
  have hD : va_D A0 (wX G A (su S3 5 4 (va_cpy (S3 0 4) (S3 5 4) (0 : Int32).toNatClampNeg (0 : Int32).toNatClampNeg (12 : Int32).toNatClampNeg)) r) := hD
  generalize hn4 : (su S3 5 4 (va_cpy (S3 0 4) (S3 5 4) (0 : Int32).toNatClampNeg (0 : Int32).toNatClampNeg (12 : Int32).toNatClampNeg)) = S4 at hP hD
  refine lv_aload_n hx hb dX0_copyFrom_60 rfl (lv_at hl 1 rfl) ?_
  refine va_get (D := G.1) (ci := 0) (v := .ref (A (6 * 0 + 5))) (C := RX0) (T := TX0) (N := 12) hx hb hts hinX0 hown hK.1 hP (6 * 0) (wX_o G A S4 r 0 (by decide)) rfl 4 (by decide) (hts (.fieldLink RX0 24 "WireLoops$Chip" "number" "[I") (List.mem_of_getElem? (i := 9) rfl)) (fun _ h9 => h9) rfl dX0_copyFrom_61 ?_
  refine lv_iconst (v := 0) hx hb dX0_copyFrom_64 (by decide) ?_
  refine lv_aload_n hx hb dX0_copyFrom_65 rfl (lv_at hl 0 rfl) ?_
  refine va_get (D := G.1) (ci := 0) (v := .ref (A (6 * 5 + 5))) (C := RX0) (T := TX0) (N := 12) hx hb hts hinX0 hown hK.1 hP (6 * 5) (wX_o G A S4 r 5 (by decide)) rfl 4 (by decide) (hts (.fieldLink RX0 24 "WireLoops$Chip" "number" "[I") (List.mem_of_getElem? (i := 9) rfl)) (fun _ h9 => h9) rfl dX0_copyFrom_66 ?_
  refine lv_iconst (v := 0) hx hb dX0_copyFrom_69 (by decide) ?_
  refine lv_bipush (v := 12) hx hb dX0_copyFrom_70 (by decide) ?_
  refine va_copyi (D := G.1) hx hb (by rw [hml]; exact hl.1.symm) hown (hts (.methodLink RX0 37 arraycopyName) (List.mem_of_getElem? (i := 2) rfl)) (hts (.native arraycopyName) (List.mem_of_getElem? (i := 3) rfl)) (hts (.static arraycopyName) (List.mem_of_getElem? (i := 4) rfl)) (hts (.initialized "java/lang/System") (List.mem_of_getElem? (i := 5) rfl)) hK.1 hP hD hS (6 * 0 + 5) (6 * 5 + 5) 0 0 (wX_c G A S4 r 0 5 (by decide) (by decide) (by decide)) (wX_c G A S4 r 5 5 (by decide) (by decide) (by decide)) rfl rfl rfl (by decide) (by decide) (by decide) (by decide) (by decide) (fun _ _ => rfl) (Nat.le_of_ble_eq_true rfl) (Nat.le_of_ble_eq_true rfl) dX0_copyFrom_72 (fun H locs hP hD hS => ?_)
  rw [wX_sc G A S4 r 5 5 (by decide) (by decide) (by decide) _] at hP hD
  have hP : va_P G.1 vwCl (wX G A (su S4 5 5 (va_cpy (S4 0 5) (S4 5 5) (0 : Int32).toNatClampNeg (0 : Int32).toNatClampNeg (12 : Int32).toNatClampNeg)) r) H := hP
  have hD : va_D A0 (wX G A (su S4 5 5 (va_cpy (S4 0 5) (S4 5 5) (0 : Int32).toNatClampNeg (0 : Int32).toNatClampNeg (12 : Int32).toNatClampNeg)) r) := hD
  generalize hn5 : (su S4 5 5 (va_cpy (S4 0 5) (S4 5 5) (0 : Int32).toNatClampNeg (0 : Int32).toNatClampNeg (12 : Int32).toNatClampNeg)) = S5 at hP hD
  refine lv_aload_n hx hb dX0_copyFrom_75 rfl (lv_at hl 0 rfl) ?_
  refine lv_aload_n hx hb dX0_copyFrom_76 rfl (lv_at hl 1 rfl) ?_
  refine va_get (D := G.1) (ci := 0) (v := .int (S5 0 0 0)) (C := RX0) (T := TX0) (N := 12) hx hb hts hinX0 hown hK.1 hP (6 * 0) (wX_o G A S5 r 0 (by decide)) rfl 5 (by decide) (hts (.fieldLink RX0 43 "WireLoops$Chip" "laid" "I") (List.mem_of_getElem? (i := 10) rfl)) (fun _ h9 => h9) rfl dX0_copyFrom_77 ?_
  refine va_put (D := G.1) (ci := 0) (v := .int (S5 0 0 0)) (ty := .int) (C := RX0) (T := TX0) (N := 12) hx hb hts hinX0 tyX0 tyX0_ok nmX0 hown hK.1 hP hD hS (6 * 5) (wX_o G A S5 r 5 (by decide)) rfl (5 + 0) (by decide) (hts (.fieldLink RX0 43 "WireLoops$Chip" "laid" "I") (List.mem_of_getElem? (i := 10) rfl)) (fun _ h9 => h9) rfl (by decide +kernel) rfl rfl (Nat.le_of_ble_eq_true rfl) dX0_copyFrom_80 (fun H locs hP hD hS => ?_)
  rw [wX_so G A S5 r 5 0 (by decide) (by decide) _] at hP hD
  have hP : va_P G.1 vwCl (wX G A (su S5 5 0 (upd (S5 5 0) 0 (S5 0 0 0))) r) H := hP
  have hD : va_D A0 (wX G A (su S5 5 0 (upd (S5 5 0) 0 (S5 0 0 0))) r) := hD
  generalize hn6 : (su S5 5 0 (upd (S5 5 0) 0 (S5 0 0 0))) = S6 at hP hD
  refine lv_aload_n hx hb dX0_copyFrom_83 rfl (lv_at hl 0 rfl) ?_
  refine lv_aload_n hx hb dX0_copyFrom_84 rfl (lv_at hl 1 rfl) ?_
  refine va_get (D := G.1) (ci := 0) (v := .int (S6 0 0 1)) (C := RX0) (T := TX0) (N := 12) hx hb hts hinX0 hown hK.1 hP (6 * 0) (wX_o G A S6 r 0 (by decide)) rfl 6 (by decide) (hts (.fieldLink RX0 33 "WireLoops$Chip" "width" "I") (List.mem_of_getElem? (i := 11) rfl)) (fun _ h9 => h9) rfl dX0_copyFrom_85 ?_
  refine va_put (D := G.1) (ci := 0) (v := .int (S6 0 0 1)) (ty := .int) (C := RX0) (T := TX0) (N := 12) hx hb hts hinX0 tyX0 tyX0_ok nmX0 hown hK.1 hP hD hS (6 * 5) (wX_o G A S6 r 5 (by decide)) rfl (5 + 1) (by decide) (hts (.fieldLink RX0 33 "WireLoops$Chip" "width" "I") (List.mem_of_getElem? (i := 11) rfl)) (fun _ h9 => h9) rfl (by decide +kernel) rfl rfl (Nat.le_of_ble_eq_true rfl) dX0_copyFrom_88 (fun H locs hP hD hS => ?_)
  rw [wX_so G A S6 r 5 1 (by decide) (by decide) _] at hP hD
  have hP : va_P G.1 vwCl (wX G A (su S6 5 0 (upd (S6 5 0) 1 (S6 0 0 1))) r) H := hP
  have hD : va_D A0 (wX G A (su S6 5 0 (upd (S6 5 0) 1 (S6 0 0 1))) r) := hD
  generalize hn7 : (su S6 5 0 (upd (S6 5 0) 1 (S6 0 0 1))) = S7 at hP hD
  refine lv_aload_n hx hb dX0_copyFrom_91 rfl (lv_at hl 0 rfl) ?_
  refine lv_aload_n hx hb dX0_copyFrom_92 rfl (lv_at hl 1 rfl) ?_
  refine va_get (D := G.1) (ci := 0) (v := .int (S7 0 0 2)) (C := RX0) (T := TX0) (N := 12) hx hb hts hinX0 hown hK.1 hP (6 * 0) (wX_o G A S7 r 0 (by decide)) rfl 7 (by decide) (hts (.fieldLink RX0 46 "WireLoops$Chip" "wear" "I") (List.mem_of_getElem? (i := 12) rfl)) (fun _ h9 => h9) rfl dX0_copyFrom_93 ?_
  refine va_put (D := G.1) (ci := 0) (v := .int (S7 0 0 2)) (ty := .int) (C := RX0) (T := TX0) (N := 12) hx hb hts hinX0 tyX0 tyX0_ok nmX0 hown hK.1 hP hD hS (6 * 5) (wX_o G A S7 r 5 (by decide)) rfl (5 + 2) (by decide) (hts (.fieldLink RX0 46 "WireLoops$Chip" "wear" "I") (List.mem_of_getElem? (i := 12) rfl)) (fun _ h9 => h9) rfl (by decide +kernel) rfl rfl (Nat.le_of_ble_eq_true rfl) dX0_copyFrom_96 (fun H locs hP hD hS => ?_)
  rw [wX_so G A S7 r 5 2 (by decide) (by decide) _] at hP hD
  have hP : va_P G.1 vwCl (wX G A (su S7 5 0 (upd (S7 5 0) 2 (S7 0 0 2))) r) H := hP
  have hD : va_D A0 (wX G A (su S7 5 0 (upd (S7 5 0) 2 (S7 0 0 2))) r) := hD
  generalize hn8 : (su S7 5 0 (upd (S7 5 0) 2 (S7 0 0 2))) = S8 at hP hD
  refine lv_aload_n hx hb dX0_copyFrom_99 rfl (lv_at hl 0 rfl) ?_
  refine lv_aload_n hx hb dX0_copyFrom_100 rfl (lv_at hl 1 rfl) ?_
  refine va_get (D := G.1) (ci := 0) (v := .int (S8 0 0 3)) (C := RX0) (T := TX0) (N := 12) hx hb hts hinX0 hown hK.1 hP (6 * 0) (wX_o G A S8 r 0 (by decide)) rfl 8 (by decide) (hts (.fieldLink RX0 49 "WireLoops$Chip" "toolsChanged" "I") (List.mem_of_getElem? (i := 13) rfl)) (fun _ h9 => h9) rfl dX0_copyFrom_101 ?_
  refine va_put (D := G.1) (ci := 0) (v := .int (S8 0 0 3)) (ty := .int) (C := RX0) (T := TX0) (N := 12) hx hb hts hinX0 tyX0 tyX0_ok nmX0 hown hK.1 hP hD hS (6 * 5) (wX_o G A S8 r 5 (by decide)) rfl (5 + 3) (by decide) (hts (.fieldLink RX0 49 "WireLoops$Chip" "toolsChanged" "I") (List.mem_of_getElem? (i := 13) rfl)) (fun _ h9 => h9) rfl (by decide +kernel) rfl rfl (Nat.le_of_ble_eq_true rfl) dX0_copyFrom_104 (fun H locs hP hD hS => ?_)
  rw [wX_so G A S8 r 5 3 (by decide) (by decide) _] at hP hD
  have hP : va_P G.1 vwCl (wX G A (su S8 5 0 (upd (S8 5 0) 3 (S8 0 0 3))) r) H := hP
  have hD : va_D A0 (wX G A (su S8 5 0 (upd (S8 5 0) 3 (S8 0 0 3))) r) := hD
  generalize hn9 : (su S8 5 0 (upd (S8 5 0) 3 (S8 0 0 3))) = S9 at hP hD
  refine lv_aload_n hx hb dX0_copyFrom_107 rfl (lv_at hl 0 rfl) ?_
  refine lv_aload_n hx hb dX0_copyFrom_108 rfl (lv_at hl 1 rfl) ?_
  refine va_get (D := G.1) (ci := 0) (v := .int (S9 0 0 4)) (C := RX0) (T := TX0) (N := 12) hx hb hts hinX0 hown hK.1 hP (6 * 0) (wX_o G A S9 r 0 (by decide)) rfl 9 (by decide) (hts (.fieldLink RX0 52 "WireLoops$Chip" "tailLost" "Z") (List.mem_of_getElem? (i := 14) rfl)) (fun _ h9 => h9) rfl dX0_copyFrom_109 ?_
  refine va_put (D := G.1) (ci := 0) (v := .int (S9 0 0 4)) (ty := .boolean) (C := RX0) (T := TX0) (N := 12) hx hb hts hinX0 tyX0 tyX0_ok nmX0 hown hK.1 hP hD hS (6 * 5) (wX_o G A S9 r 5 (by decide)) rfl (5 + 4) (by decide) (hts (.fieldLink RX0 52 "WireLoops$Chip" "tailLost" "Z") (List.mem_of_getElem? (i := 14) rfl)) (fun _ h9 => h9) rfl (by decide +kernel) (nb_of (by subst_vars; exact hbj)) (fb_of (by subst_vars; exact hbj)) (Nat.le_of_ble_eq_true rfl) dX0_copyFrom_112 (fun H locs hP hD hS => ?_)
  rw [wX_so G A S9 r 5 4 (by decide) (by decide) _] at hP hD
  have hP : va_P G.1 vwCl (wX G A (su S9 5 0 (upd (S9 5 0) 4 (S9 0 0 4))) r) H := hP
  have hD : va_D A0 (wX G A (su S9 5 0 (upd (S9 5 0) 4 (S9 0 0 4))) r) := hD
  generalize hn10 : (su S9 5 0 (upd (S9 5 0) 4 (S9 0 0 4))) = S10 at hP hD
  refine lv_aload_n hx hb dX0_copyFrom_115 rfl (lv_at hl 0 rfl) ?_
  refine lv_aload_n hx hb dX0_copyFrom_116 rfl (lv_at hl 1 rfl) ?_
  refine va_get (D := G.1) (ci := 0) (v := .int (S10 0 0 5)) (C := RX0) (T := TX0) (N := 12) hx hb hts hinX0 hown hK.1 hP (6 * 0) (wX_o G A S10 r 0 (by decide)) rfl 10 (by decide) (hts (.fieldLink RX0 56 "WireLoops$Chip" "tailsLost" "I") (List.mem_of_getElem? (i := 15) rfl)) (fun _ h9 => h9) rfl dX0_copyFrom_117 ?_
  refine va_put (D := G.1) (ci := 0) (v := .int (S10 0 0 5)) (ty := .int) (C := RX0) (T := TX0) (N := 12) hx hb hts hinX0 tyX0 tyX0_ok nmX0 hown hK.1 hP hD hS (6 * 5) (wX_o G A S10 r 5 (by decide)) rfl (5 + 5) (by decide) (hts (.fieldLink RX0 56 "WireLoops$Chip" "tailsLost" "I") (List.mem_of_getElem? (i := 15) rfl)) (fun _ h9 => h9) rfl (by decide +kernel) rfl rfl (Nat.le_of_ble_eq_true rfl) dX0_copyFrom_120 (fun H locs hP hD hS => ?_)
  rw [wX_so G A S10 r 5 5 (by decide) (by decide) _] at hP hD
  have hP : va_P G.1 vwCl (wX G A (su S10 5 0 (upd (S10 5 0) 5 (S10 0 0 5))) r) H := hP
  have hD : va_D A0 (wX G A (su S10 5 0 (upd (S10 5 0) 5 (S10 0 0 5))) r) := hD
  generalize hn11 : (su S10 5 0 (upd (S10 5 0) 5 (S10 0 0 5))) = S11 at hP hD
  refine lv_aload_n hx hb dX0_copyFrom_123 rfl (lv_at hl 0 rfl) ?_
  refine lv_aload_n hx hb dX0_copyFrom_124 rfl (lv_at hl 1 rfl) ?_
  refine va_get (D := G.1) (ci := 0) (v := .int (S11 0 0 6)) (C := RX0) (T := TX0) (N := 12) hx hb hts hinX0 hown hK.1 hP (6 * 0) (wX_o G A S11 r 0 (by decide)) rfl 11 (by decide) (hts (.fieldLink RX0 59 "WireLoops$Chip" "broken" "I") (List.mem_of_getElem? (i := 16) rfl)) (fun _ h9 => h9) rfl dX0_copyFrom_125 ?_
  refine va_put (D := G.1) (ci := 0) (v := .int (S11 0 0 6)) (ty := .int) (C := RX0) (T := TX0) (N := 12) hx hb hts hinX0 tyX0 tyX0_ok nmX0 hown hK.1 hP hD hS (6 * 5) (wX_o G A S11 r 5 (by decide)) rfl (5 + 6) (by decide) (hts (.fieldLink RX0 59 "WireLoops$Chip" "broken" "I") (List.mem_of_getElem? (i := 16) rfl)) (fun _ h9 => h9) rfl (by decide +kernel) rfl rfl (Nat.le_of_ble_eq_true rfl) dX0_copyFrom_128 (fun H locs hP hD hS => ?_)
  rw [wX_so G A S11 r 5 6 (by decide) (by decide) _] at hP hD
  have hP : va_P G.1 vwCl (wX G A (su S11 5 0 (upd (S11 5 0) 6 (S11 0 0 6))) r) H := hP
  have hD : va_D A0 (wX G A (su S11 5 0 (upd (S11 5 0) 6 (S11 0 0 6))) r) := hD
  generalize hn12 : (su S11 5 0 (upd (S11 5 0) 6 (S11 0 0 6))) = S12 at hP hD
  have he : eqX S12 (sc S 5 0) := by
    subst_vars
    refine ⟨?_, eqR.rfl'⟩
    intro x hx7
    rcases (show x = 0 ∨ x = 1 ∨ x = 2 ∨ x = 3 ∨ x = 4 ∨ x = 5 ∨ x = 6 by omega) with rfl | rfl | rfl | rfl | rfl | rfl | rfl
    · exact eqC.rfl'
    · exact eqC.rfl'
    · exact eqC.rfl'
    · exact eqC.rfl'
    · exact eqC.rfl'
    · exact ⟨by intro k hk; rcases (show k = 0 ∨ k = 1 ∨ k = 2 ∨ k = 3 ∨ k = 4 ∨ k = 5 ∨ k = 6 by omega) with rfl | rfl | rfl | rfl | rfl | rfl | rfl <;> rfl, cpy16, cpy12, cpy12, cpy12, cpy12⟩
    · exact eqC.rfl'
  have hP : va_P G.1 vwCl (wX G A (sc S 5 0) r) H := wX_ext he (fun _ _ => rfl) hP
  have hD : va_D A0 (wX G A (sc S 5 0) r) := wX_D hD
  exact endZ hx hb hr hlocks hP hD hS rfl dX0_copyFrom_131
def f_X0_copyFrom_5_1 (S : XS) : XS := sc S 5 1
theorem e_X0_copyFrom_5_1 (S : XS) : f_X0_copyFrom_5_1 S = sc S 5 1 := rfl
set_option maxHeartbeats 4000000 in
set_option maxRecDepth 100000 in
theorem c_X0_copyFrom_5_1 (l : Launch) (G : GG) (A : Nat → Nat) (S : XS) (r : Nat)  (hbj : S 1 0 4 = 0 ∨ S 1 0 4 = 1) : Mz l yX0_copyFrom wsX0_copyFrom ({ frames := 1, cells := 0, slots := 0, locals := 26 } : Room) G [.ref (A (6 * 5)), .ref (A (6 * 1))] (wX G A S r) (wX G A (f_X0_copyFrom_5_1 S) r) := by
  refine Mz.of (cc := cX0_copyFrom) (maxL := 2) (ret := none) (by decide) rfl (Nat.le_of_ble_eq_true rfl) ?_
  intro p e s m args below meth c A0 hA0 E hr hlocks hP hK hD hA hS ls hl
  have E : CallFix p m c cX0_copyFrom 2 s args wsX0_copyFrom RX0 := E
  have hx := E.1
  have hb := E.2.1
  have hml := E.2.2.1
  have hown := E.2.2.2.1
  have hts := E.2.2.2.2
  have hl : lv_has ls 2 [(0, .ref (A (6 * 5))), (1, .ref (A (6 * 1)))] := hl
  have hinX0 : ∀ w ∈ u_ws RX0 TX0 12, w ∈ wsX0_copyFrom := fun _ h => List.mem_cons_of_mem _ (List.mem_append_right _ h)
  refine lv_aload_n hx hb dX0_copyFrom_0 rfl (lv_at hl 1 rfl) ?_
  refine va_get (D := G.1) (ci := 0) (v := .ref (A (6 * 1 + 1))) (C := RX0) (T := TX0) (N := 12) hx hb hts hinX0 hown hK.1 hP (6 * 1) (wX_o G A S r 1 (by decide)) rfl 0 (by decide) (hts (.fieldLink RX0 9 "WireLoops$Chip" "leadX" "[I") (List.mem_of_getElem? (i := 1) rfl)) (fun _ h9 => h9) rfl dX0_copyFrom_1 ?_
  refine lv_iconst (v := 0) hx hb dX0_copyFrom_4 (by decide) ?_
  refine lv_aload_n hx hb dX0_copyFrom_5 rfl (lv_at hl 0 rfl) ?_
  refine va_get (D := G.1) (ci := 0) (v := .ref (A (6 * 5 + 1))) (C := RX0) (T := TX0) (N := 12) hx hb hts hinX0 hown hK.1 hP (6 * 5) (wX_o G A S r 5 (by decide)) rfl 0 (by decide) (hts (.fieldLink RX0 9 "WireLoops$Chip" "leadX" "[I") (List.mem_of_getElem? (i := 1) rfl)) (fun _ h9 => h9) rfl dX0_copyFrom_6 ?_
  refine lv_iconst (v := 0) hx hb dX0_copyFrom_9 (by decide) ?_
  refine lv_bipush (v := 16) hx hb dX0_copyFrom_10 (by decide) ?_
  refine va_copyi (D := G.1) hx hb (by rw [hml]; exact hl.1.symm) hown (hts (.methodLink RX0 37 arraycopyName) (List.mem_of_getElem? (i := 2) rfl)) (hts (.native arraycopyName) (List.mem_of_getElem? (i := 3) rfl)) (hts (.static arraycopyName) (List.mem_of_getElem? (i := 4) rfl)) (hts (.initialized "java/lang/System") (List.mem_of_getElem? (i := 5) rfl)) hK.1 hP hD hS (6 * 1 + 1) (6 * 5 + 1) 0 0 (wX_1 G A S r 1 (by decide)) (wX_1 G A S r 5 (by decide)) rfl rfl rfl (by decide) (by decide) (by decide) (by decide) (by decide) (fun _ _ => rfl) (Nat.le_of_ble_eq_true rfl) (Nat.le_of_ble_eq_true rfl) dX0_copyFrom_12 (fun H locs hP hD hS => ?_)
  rw [wX_s1 G A S r 5 (by decide) _] at hP hD
  have hP : va_P G.1 vwCl (wX G A (su S 5 1 (va_cpy (S 1 1) (S 5 1) (0 : Int32).toNatClampNeg (0 : Int32).toNatClampNeg (16 : Int32).toNatClampNeg)) r) H := hP
  have hD : va_D A0 (wX G A (su S 5 1 (va_cpy (S 1 1) (S 5 1) (0 : Int32).toNatClampNeg (0 : Int32).toNatClampNeg (16 : Int32).toNatClampNeg)) r) := hD
  generalize hn1 : (su S 5 1 (va_cpy (S 1 1) (S 5 1) (0 : Int32).toNatClampNeg (0 : Int32).toNatClampNeg (16 : Int32).toNatClampNeg)) = S1 at hP hD
  refine lv_aload_n hx hb dX0_copyFrom_15 rfl (lv_at hl 1 rfl) ?_
  refine va_get (D := G.1) (ci := 0) (v := .ref (A (6 * 1 + 2))) (C := RX0) (T := TX0) (N := 12) hx hb hts hinX0 hown hK.1 hP (6 * 1) (wX_o G A S1 r 1 (by decide)) rfl 1 (by decide) (hts (.fieldLink RX0 15 "WireLoops$Chip" "leadOf" "[I") (List.mem_of_getElem? (i := 6) rfl)) (fun _ h9 => h9) rfl dX0_copyFrom_16 ?_
  refine lv_iconst (v := 0) hx hb dX0_copyFrom_19 (by decide) ?_
  refine lv_aload_n hx hb dX0_copyFrom_20 rfl (lv_at hl 0 rfl) ?_
  refine va_get (D := G.1) (ci := 0) (v := .ref (A (6 * 5 + 2))) (C := RX0) (T := TX0) (N := 12) hx hb hts hinX0 hown hK.1 hP (6 * 5) (wX_o G A S1 r 5 (by decide)) rfl 1 (by decide) (hts (.fieldLink RX0 15 "WireLoops$Chip" "leadOf" "[I") (List.mem_of_getElem? (i := 6) rfl)) (fun _ h9 => h9) rfl dX0_copyFrom_21 ?_
  refine lv_iconst (v := 0) hx hb dX0_copyFrom_24 (by decide) ?_
  refine lv_bipush (v := 12) hx hb dX0_copyFrom_25 (by decide) ?_
  refine va_copyi (D := G.1) hx hb (by rw [hml]; exact hl.1.symm) hown (hts (.methodLink RX0 37 arraycopyName) (List.mem_of_getElem? (i := 2) rfl)) (hts (.native arraycopyName) (List.mem_of_getElem? (i := 3) rfl)) (hts (.static arraycopyName) (List.mem_of_getElem? (i := 4) rfl)) (hts (.initialized "java/lang/System") (List.mem_of_getElem? (i := 5) rfl)) hK.1 hP hD hS (6 * 1 + 2) (6 * 5 + 2) 0 0 (wX_c G A S1 r 1 2 (by decide) (by decide) (by decide)) (wX_c G A S1 r 5 2 (by decide) (by decide) (by decide)) rfl rfl rfl (by decide) (by decide) (by decide) (by decide) (by decide) (fun _ _ => rfl) (Nat.le_of_ble_eq_true rfl) (Nat.le_of_ble_eq_true rfl) dX0_copyFrom_27 (fun H locs hP hD hS => ?_)
  rw [wX_sc G A S1 r 5 2 (by decide) (by decide) (by decide) _] at hP hD
  have hP : va_P G.1 vwCl (wX G A (su S1 5 2 (va_cpy (S1 1 2) (S1 5 2) (0 : Int32).toNatClampNeg (0 : Int32).toNatClampNeg (12 : Int32).toNatClampNeg)) r) H := hP
  have hD : va_D A0 (wX G A (su S1 5 2 (va_cpy (S1 1 2) (S1 5 2) (0 : Int32).toNatClampNeg (0 : Int32).toNatClampNeg (12 : Int32).toNatClampNeg)) r) := hD
  generalize hn2 : (su S1 5 2 (va_cpy (S1 1 2) (S1 5 2) (0 : Int32).toNatClampNeg (0 : Int32).toNatClampNeg (12 : Int32).toNatClampNeg)) = S2 at hP hD
  refine lv_aload_n hx hb dX0_copyFrom_30 rfl (lv_at hl 1 rfl) ?_
  refine va_get (D := G.1) (ci := 0) (v := .ref (A (6 * 1 + 3))) (C := RX0) (T := TX0) (N := 12) hx hb hts hinX0 hown hK.1 hP (6 * 1) (wX_o G A S2 r 1 (by decide)) rfl 2 (by decide) (hts (.fieldLink RX0 18 "WireLoops$Chip" "height" "[I") (List.mem_of_getElem? (i := 7) rfl)) (fun _ h9 => h9) rfl dX0_copyFrom_31 ?_
  refine lv_iconst (v := 0) hx hb dX0_copyFrom_34 (by decide) ?_
  refine lv_aload_n hx hb dX0_copyFrom_35 rfl (lv_at hl 0 rfl) ?_
  refine va_get (D := G.1) (ci := 0) (v := .ref (A (6 * 5 + 3))) (C := RX0) (T := TX0) (N := 12) hx hb hts hinX0 hown hK.1 hP (6 * 5) (wX_o G A S2 r 5 (by decide)) rfl 2 (by decide) (hts (.fieldLink RX0 18 "WireLoops$Chip" "height" "[I") (List.mem_of_getElem? (i := 7) rfl)) (fun _ h9 => h9) rfl dX0_copyFrom_36 ?_
  refine lv_iconst (v := 0) hx hb dX0_copyFrom_39 (by decide) ?_
  refine lv_bipush (v := 12) hx hb dX0_copyFrom_40 (by decide) ?_
  refine va_copyi (D := G.1) hx hb (by rw [hml]; exact hl.1.symm) hown (hts (.methodLink RX0 37 arraycopyName) (List.mem_of_getElem? (i := 2) rfl)) (hts (.native arraycopyName) (List.mem_of_getElem? (i := 3) rfl)) (hts (.static arraycopyName) (List.mem_of_getElem? (i := 4) rfl)) (hts (.initialized "java/lang/System") (List.mem_of_getElem? (i := 5) rfl)) hK.1 hP hD hS (6 * 1 + 3) (6 * 5 + 3) 0 0 (wX_c G A S2 r 1 3 (by decide) (by decide) (by decide)) (wX_c G A S2 r 5 3 (by decide) (by decide) (by decide)) rfl rfl rfl (by decide) (by decide) (by decide) (by decide) (by decide) (fun _ _ => rfl) (Nat.le_of_ble_eq_true rfl) (Nat.le_of_ble_eq_true rfl) dX0_copyFrom_42 (fun H locs hP hD hS => ?_)
  rw [wX_sc G A S2 r 5 3 (by decide) (by decide) (by decide) _] at hP hD
  have hP : va_P G.1 vwCl (wX G A (su S2 5 3 (va_cpy (S2 1 3) (S2 5 3) (0 : Int32).toNatClampNeg (0 : Int32).toNatClampNeg (12 : Int32).toNatClampNeg)) r) H := hP
  have hD : va_D A0 (wX G A (su S2 5 3 (va_cpy (S2 1 3) (S2 5 3) (0 : Int32).toNatClampNeg (0 : Int32).toNatClampNeg (12 : Int32).toNatClampNeg)) r) := hD
  generalize hn3 : (su S2 5 3 (va_cpy (S2 1 3) (S2 5 3) (0 : Int32).toNatClampNeg (0 : Int32).toNatClampNeg (12 : Int32).toNatClampNeg)) = S3 at hP hD
  refine lv_aload_n hx hb dX0_copyFrom_45 rfl (lv_at hl 1 rfl) ?_
  refine va_get (D := G.1) (ci := 0) (v := .ref (A (6 * 1 + 4))) (C := RX0) (T := TX0) (N := 12) hx hb hts hinX0 hown hK.1 hP (6 * 1) (wX_o G A S3 r 1 (by decide)) rfl 3 (by decide) (hts (.fieldLink RX0 21 "WireLoops$Chip" "strength" "[I") (List.mem_of_getElem? (i := 8) rfl)) (fun _ h9 => h9) rfl dX0_copyFrom_46 ?_
  refine lv_iconst (v := 0) hx hb dX0_copyFrom_49 (by decide) ?_
  refine lv_aload_n hx hb dX0_copyFrom_50 rfl (lv_at hl 0 rfl) ?_
  refine va_get (D := G.1) (ci := 0) (v := .ref (A (6 * 5 + 4))) (C := RX0) (T := TX0) (N := 12) hx hb hts hinX0 hown hK.1 hP (6 * 5) (wX_o G A S3 r 5 (by decide)) rfl 3 (by decide) (hts (.fieldLink RX0 21 "WireLoops$Chip" "strength" "[I") (List.mem_of_getElem? (i := 8) rfl)) (fun _ h9 => h9) rfl dX0_copyFrom_51 ?_
  refine lv_iconst (v := 0) hx hb dX0_copyFrom_54 (by decide) ?_
  refine lv_bipush (v := 12) hx hb dX0_copyFrom_55 (by decide) ?_
  refine va_copyi (D := G.1) hx hb (by rw [hml]; exact hl.1.symm) hown (hts (.methodLink RX0 37 arraycopyName) (List.mem_of_getElem? (i := 2) rfl)) (hts (.native arraycopyName) (List.mem_of_getElem? (i := 3) rfl)) (hts (.static arraycopyName) (List.mem_of_getElem? (i := 4) rfl)) (hts (.initialized "java/lang/System") (List.mem_of_getElem? (i := 5) rfl)) hK.1 hP hD hS (6 * 1 + 4) (6 * 5 + 4) 0 0 (wX_c G A S3 r 1 4 (by decide) (by decide) (by decide)) (wX_c G A S3 r 5 4 (by decide) (by decide) (by decide)) rfl rfl rfl (by decide) (by decide) (by decide) (by decide) (by decide) (fun _ _ => rfl) (Nat.le_of_ble_eq_true rfl) (Nat.le_of_ble_eq_true rfl) dX0_copyFrom_57 (fun H locs hP hD hS => ?_)
  rw [wX_sc G A S3 r 5 4 (by decide) (by decide) (by decide) _] at hP hD
  have hP : va_P G.1 vwCl (wX G A (su S3 5 4 (va_cpy (S3 1 4) (S3 5 4) (0 : Int32).toNatClampNeg (0 : Int32).toNatClampNeg (12 : Int32).toNatClampNeg)) r) H := hP
  have hD : va_D A0 (wX G A (su S3 5 4 (va_cpy (S3 1 4) (S3 5 4) (0 : Int32).toNatClampNeg (0 : Int32).toNatClampNeg (12 : Int32).toNatClampNeg)) r) := hD
  generalize hn4 : (su S3 5 4 (va_cpy (S3 1 4) (S3 5 4) (0 : Int32).toNatClampNeg (0 : Int32).toNatClampNeg (12 : Int32).toNatClampNeg)) = S4 at hP hD
  refine lv_aload_n hx hb dX0_copyFrom_60 rfl (lv_at hl 1 rfl) ?_
  refine va_get (D := G.1) (ci := 0) (v := .ref (A (6 * 1 + 5))) (C := RX0) (T := TX0) (N := 12) hx hb hts hinX0 hown hK.1 hP (6 * 1) (wX_o G A S4 r 1 (by decide)) rfl 4 (by decide) (hts (.fieldLink RX0 24 "WireLoops$Chip" "number" "[I") (List.mem_of_getElem? (i := 9) rfl)) (fun _ h9 => h9) rfl dX0_copyFrom_61 ?_
  refine lv_iconst (v := 0) hx hb dX0_copyFrom_64 (by decide) ?_
  refine lv_aload_n hx hb dX0_copyFrom_65 rfl (lv_at hl 0 rfl) ?_
  refine va_get (D := G.1) (ci := 0) (v := .ref (A (6 * 5 + 5))) (C := RX0) (T := TX0) (N := 12) hx hb hts hinX0 hown hK.1 hP (6 * 5) (wX_o G A S4 r 5 (by decide)) rfl 4 (by decide) (hts (.fieldLink RX0 24 "WireLoops$Chip" "number" "[I") (List.mem_of_getElem? (i := 9) rfl)) (fun _ h9 => h9) rfl dX0_copyFrom_66 ?_
  refine lv_iconst (v := 0) hx hb dX0_copyFrom_69 (by decide) ?_
  refine lv_bipush (v := 12) hx hb dX0_copyFrom_70 (by decide) ?_
  refine va_copyi (D := G.1) hx hb (by rw [hml]; exact hl.1.symm) hown (hts (.methodLink RX0 37 arraycopyName) (List.mem_of_getElem? (i := 2) rfl)) (hts (.native arraycopyName) (List.mem_of_getElem? (i := 3) rfl)) (hts (.static arraycopyName) (List.mem_of_getElem? (i := 4) rfl)) (hts (.initialized "java/lang/System") (List.mem_of_getElem? (i := 5) rfl)) hK.1 hP hD hS (6 * 1 + 5) (6 * 5 + 5) 0 0 (wX_c G A S4 r 1 5 (by decide) (by decide) (by decide)) (wX_c G A S4 r 5 5 (by decide) (by decide) (by decide)) rfl rfl rfl (by decide) (by decide) (by decide) (by decide) (by decide) (fun _ _ => rfl) (Nat.le_of_ble_eq_true rfl) (Nat.le_of_ble_eq_true rfl) dX0_copyFrom_72 (fun H locs hP hD hS => ?_)
  rw [wX_sc G A S4 r 5 5 (by decide) (by decide) (by decide) _] at hP hD
  have hP : va_P G.1 vwCl (wX G A (su S4 5 5 (va_cpy (S4 1 5) (S4 5 5) (0 : Int32).toNatClampNeg (0 : Int32).toNatClampNeg (12 : Int32).toNatClampNeg)) r) H := hP
  have hD : va_D A0 (wX G A (su S4 5 5 (va_cpy (S4 1 5) (S4 5 5) (0 : Int32).toNatClampNeg (0 : Int32).toNatClampNeg (12 : Int32).toNatClampNeg)) r) := hD
  generalize hn5 : (su S4 5 5 (va_cpy (S4 1 5) (S4 5 5) (0 : Int32).toNatClampNeg (0 : Int32).toNatClampNeg (12 : Int32).toNatClampNeg)) = S5 at hP hD
  refine lv_aload_n hx hb dX0_copyFrom_75 rfl (lv_at hl 0 rfl) ?_
  refine lv_aload_n hx hb dX0_copyFrom_76 rfl (lv_at hl 1 rfl) ?_
  refine va_get (D := G.1) (ci := 0) (v := .int (S5 1 0 0)) (C := RX0) (T := TX0) (N := 12) hx hb hts hinX0 hown hK.1 hP (6 * 1) (wX_o G A S5 r 1 (by decide)) rfl 5 (by decide) (hts (.fieldLink RX0 43 "WireLoops$Chip" "laid" "I") (List.mem_of_getElem? (i := 10) rfl)) (fun _ h9 => h9) rfl dX0_copyFrom_77 ?_
  refine va_put (D := G.1) (ci := 0) (v := .int (S5 1 0 0)) (ty := .int) (C := RX0) (T := TX0) (N := 12) hx hb hts hinX0 tyX0 tyX0_ok nmX0 hown hK.1 hP hD hS (6 * 5) (wX_o G A S5 r 5 (by decide)) rfl (5 + 0) (by decide) (hts (.fieldLink RX0 43 "WireLoops$Chip" "laid" "I") (List.mem_of_getElem? (i := 10) rfl)) (fun _ h9 => h9) rfl (by decide +kernel) rfl rfl (Nat.le_of_ble_eq_true rfl) dX0_copyFrom_80 (fun H locs hP hD hS => ?_)
  rw [wX_so G A S5 r 5 0 (by decide) (by decide) _] at hP hD
  have hP : va_P G.1 vwCl (wX G A (su S5 5 0 (upd (S5 5 0) 0 (S5 1 0 0))) r) H := hP
  have hD : va_D A0 (wX G A (su S5 5 0 (upd (S5 5 0) 0 (S5 1 0 0))) r) := hD
  generalize hn6 : (su S5 5 0 (upd (S5 5 0) 0 (S5 1 0 0))) = S6 at hP hD
  refine lv_aload_n hx hb dX0_copyFrom_83 rfl (lv_at hl 0 rfl) ?_
  refine lv_aload_n hx hb dX0_copyFrom_84 rfl (lv_at hl 1 rfl) ?_
  refine va_get (D := G.1) (ci := 0) (v := .int (S6 1 0 1)) (C := RX0) (T := TX0) (N := 12) hx hb hts hinX0 hown hK.1 hP (6 * 1) (wX_o G A S6 r 1 (by decide)) rfl 6 (by decide) (hts (.fieldLink RX0 33 "WireLoops$Chip" "width" "I") (List.mem_of_getElem? (i := 11) rfl)) (fun _ h9 => h9) rfl dX0_copyFrom_85 ?_
  refine va_put (D := G.1) (ci := 0) (v := .int (S6 1 0 1)) (ty := .int) (C := RX0) (T := TX0) (N := 12) hx hb hts hinX0 tyX0 tyX0_ok nmX0 hown hK.1 hP hD hS (6 * 5) (wX_o G A S6 r 5 (by decide)) rfl (5 + 1) (by decide) (hts (.fieldLink RX0 33 "WireLoops$Chip" "width" "I") (List.mem_of_getElem? (i := 11) rfl)) (fun _ h9 => h9) rfl (by decide +kernel) rfl rfl (Nat.le_of_ble_eq_true rfl) dX0_copyFrom_88 (fun H locs hP hD hS => ?_)
  rw [wX_so G A S6 r 5 1 (by decide) (by decide) _] at hP hD
  have hP : va_P G.1 vwCl (wX G A (su S6 5 0 (upd (S6 5 0) 1 (S6 1 0 1))) r) H := hP
  have hD : va_D A0 (wX G A (su S6 5 0 (upd (S6 5 0) 1 (S6 1 0 1))) r) := hD
  generalize hn7 : (su S6 5 0 (upd (S6 5 0) 1 (S6 1 0 1))) = S7 at hP hD
  refine lv_aload_n hx hb dX0_copyFrom_91 rfl (lv_at hl 0 rfl) ?_
  refine lv_aload_n hx hb dX0_copyFrom_92 rfl (lv_at hl 1 rfl) ?_
  refine va_get (D := G.1) (ci := 0) (v := .int (S7 1 0 2)) (C := RX0) (T := TX0) (N := 12) hx hb hts hinX0 hown hK.1 hP (6 * 1) (wX_o G A S7 r 1 (by decide)) rfl 7 (by decide) (hts (.fieldLink RX0 46 "WireLoops$Chip" "wear" "I") (List.mem_of_getElem? (i := 12) rfl)) (fun _ h9 => h9) rfl dX0_copyFrom_93 ?_
  refine va_put (D := G.1) (ci := 0) (v := .int (S7 1 0 2)) (ty := .int) (C := RX0) (T := TX0) (N := 12) hx hb hts hinX0 tyX0 tyX0_ok nmX0 hown hK.1 hP hD hS (6 * 5) (wX_o G A S7 r 5 (by decide)) rfl (5 + 2) (by decide) (hts (.fieldLink RX0 46 "WireLoops$Chip" "wear" "I") (List.mem_of_getElem? (i := 12) rfl)) (fun _ h9 => h9) rfl (by decide +kernel) rfl rfl (Nat.le_of_ble_eq_true rfl) dX0_copyFrom_96 (fun H locs hP hD hS => ?_)
  rw [wX_so G A S7 r 5 2 (by decide) (by decide) _] at hP hD
  have hP : va_P G.1 vwCl (wX G A (su S7 5 0 (upd (S7 5 0) 2 (S7 1 0 2))) r) H := hP
  have hD : va_D A0 (wX G A (su S7 5 0 (upd (S7 5 0) 2 (S7 1 0 2))) r) := hD
  generalize hn8 : (su S7 5 0 (upd (S7 5 0) 2 (S7 1 0 2))) = S8 at hP hD
  refine lv_aload_n hx hb dX0_copyFrom_99 rfl (lv_at hl 0 rfl) ?_
  refine lv_aload_n hx hb dX0_copyFrom_100 rfl (lv_at hl 1 rfl) ?_
  refine va_get (D := G.1) (ci := 0) (v := .int (S8 1 0 3)) (C := RX0) (T := TX0) (N := 12) hx hb hts hinX0 hown hK.1 hP (6 * 1) (wX_o G A S8 r 1 (by decide)) rfl 8 (by decide) (hts (.fieldLink RX0 49 "WireLoops$Chip" "toolsChanged" "I") (List.mem_of_getElem? (i := 13) rfl)) (fun _ h9 => h9) rfl dX0_copyFrom_101 ?_
  refine va_put (D := G.1) (ci := 0) (v := .int (S8 1 0 3)) (ty := .int) (C := RX0) (T := TX0) (N := 12) hx hb hts hinX0 tyX0 tyX0_ok nmX0 hown hK.1 hP hD hS (6 * 5) (wX_o G A S8 r 5 (by decide)) rfl (5 + 3) (by decide) (hts (.fieldLink RX0 49 "WireLoops$Chip" "toolsChanged" "I") (List.mem_of_getElem? (i := 13) rfl)) (fun _ h9 => h9) rfl (by decide +kernel) rfl rfl (Nat.le_of_ble_eq_true rfl) dX0_copyFrom_104 (fun H locs hP hD hS => ?_)
  rw [wX_so G A S8 r 5 3 (by decide) (by decide) _] at hP hD
  have hP : va_P G.1 vwCl (wX G A (su S8 5 0 (upd (S8 5 0) 3 (S8 1 0 3))) r) H := hP
  have hD : va_D A0 (wX G A (su S8 5 0 (upd (S8 5 0) 3 (S8 1 0 3))) r) := hD
  generalize hn9 : (su S8 5 0 (upd (S8 5 0) 3 (S8 1 0 3))) = S9 at hP hD
  refine lv_aload_n hx hb dX0_copyFrom_107 rfl (lv_at hl 0 rfl) ?_
  refine lv_aload_n hx hb dX0_copyFrom_108 rfl (lv_at hl 1 rfl) ?_
  refine va_get (D := G.1) (ci := 0) (v := .int (S9 1 0 4)) (C := RX0) (T := TX0) (N := 12) hx hb hts hinX0 hown hK.1 hP (6 * 1) (wX_o G A S9 r 1 (by decide)) rfl 9 (by decide) (hts (.fieldLink RX0 52 "WireLoops$Chip" "tailLost" "Z") (List.mem_of_getElem? (i := 14) rfl)) (fun _ h9 => h9) rfl dX0_copyFrom_109 ?_
  refine va_put (D := G.1) (ci := 0) (v := .int (S9 1 0 4)) (ty := .boolean) (C := RX0) (T := TX0) (N := 12) hx hb hts hinX0 tyX0 tyX0_ok nmX0 hown hK.1 hP hD hS (6 * 5) (wX_o G A S9 r 5 (by decide)) rfl (5 + 4) (by decide) (hts (.fieldLink RX0 52 "WireLoops$Chip" "tailLost" "Z") (List.mem_of_getElem? (i := 14) rfl)) (fun _ h9 => h9) rfl (by decide +kernel) (nb_of (by subst_vars; exact hbj)) (fb_of (by subst_vars; exact hbj)) (Nat.le_of_ble_eq_true rfl) dX0_copyFrom_112 (fun H locs hP hD hS => ?_)
  rw [wX_so G A S9 r 5 4 (by decide) (by decide) _] at hP hD
  have hP : va_P G.1 vwCl (wX G A (su S9 5 0 (upd (S9 5 0) 4 (S9 1 0 4))) r) H := hP
  have hD : va_D A0 (wX G A (su S9 5 0 (upd (S9 5 0) 4 (S9 1 0 4))) r) := hD
  generalize hn10 : (su S9 5 0 (upd (S9 5 0) 4 (S9 1 0 4))) = S10 at hP hD
  refine lv_aload_n hx hb dX0_copyFrom_115 rfl (lv_at hl 0 rfl) ?_
  refine lv_aload_n hx hb dX0_copyFrom_116 rfl (lv_at hl 1 rfl) ?_
  refine va_get (D := G.1) (ci := 0) (v := .int (S10 1 0 5)) (C := RX0) (T := TX0) (N := 12) hx hb hts hinX0 hown hK.1 hP (6 * 1) (wX_o G A S10 r 1 (by decide)) rfl 10 (by decide) (hts (.fieldLink RX0 56 "WireLoops$Chip" "tailsLost" "I") (List.mem_of_getElem? (i := 15) rfl)) (fun _ h9 => h9) rfl dX0_copyFrom_117 ?_
  refine va_put (D := G.1) (ci := 0) (v := .int (S10 1 0 5)) (ty := .int) (C := RX0) (T := TX0) (N := 12) hx hb hts hinX0 tyX0 tyX0_ok nmX0 hown hK.1 hP hD hS (6 * 5) (wX_o G A S10 r 5 (by decide)) rfl (5 + 5) (by decide) (hts (.fieldLink RX0 56 "WireLoops$Chip" "tailsLost" "I") (List.mem_of_getElem? (i := 15) rfl)) (fun _ h9 => h9) rfl (by decide +kernel) rfl rfl (Nat.le_of_ble_eq_true rfl) dX0_copyFrom_120 (fun H locs hP hD hS => ?_)
  rw [wX_so G A S10 r 5 5 (by decide) (by decide) _] at hP hD
  have hP : va_P G.1 vwCl (wX G A (su S10 5 0 (upd (S10 5 0) 5 (S10 1 0 5))) r) H := hP
  have hD : va_D A0 (wX G A (su S10 5 0 (upd (S10 5 0) 5 (S10 1 0 5))) r) := hD
  generalize hn11 : (su S10 5 0 (upd (S10 5 0) 5 (S10 1 0 5))) = S11 at hP hD
  refine lv_aload_n hx hb dX0_copyFrom_123 rfl (lv_at hl 0 rfl) ?_
  refine lv_aload_n hx hb dX0_copyFrom_124 rfl (lv_at hl 1 rfl) ?_
  refine va_get (D := G.1) (ci := 0) (v := .int (S11 1 0 6)) (C := RX0) (T := TX0) (N := 12) hx hb hts hinX0 hown hK.1 hP (6 * 1) (wX_o G A S11 r 1 (by decide)) rfl 11 (by decide) (hts (.fieldLink RX0 59 "WireLoops$Chip" "broken" "I") (List.mem_of_getElem? (i := 16) rfl)) (fun _ h9 => h9) rfl dX0_copyFrom_125 ?_
  refine va_put (D := G.1) (ci := 0) (v := .int (S11 1 0 6)) (ty := .int) (C := RX0) (T := TX0) (N := 12) hx hb hts hinX0 tyX0 tyX0_ok nmX0 hown hK.1 hP hD hS (6 * 5) (wX_o G A S11 r 5 (by decide)) rfl (5 + 6) (by decide) (hts (.fieldLink RX0 59 "WireLoops$Chip" "broken" "I") (List.mem_of_getElem? (i := 16) rfl)) (fun _ h9 => h9) rfl (by decide +kernel) rfl rfl (Nat.le_of_ble_eq_true rfl) dX0_copyFrom_128 (fun H locs hP hD hS => ?_)
  rw [wX_so G A S11 r 5 6 (by decide) (by decide) _] at hP hD
  have hP : va_P G.1 vwCl (wX G A (su S11 5 0 (upd (S11 5 0) 6 (S11 1 0 6))) r) H := hP
  have hD : va_D A0 (wX G A (su S11 5 0 (upd (S11 5 0) 6 (S11 1 0 6))) r) := hD
  generalize hn12 : (su S11 5 0 (upd (S11 5 0) 6 (S11 1 0 6))) = S12 at hP hD
  have he : eqX S12 (sc S 5 1) := by
    subst_vars
    refine ⟨?_, eqR.rfl'⟩
    intro x hx7
    rcases (show x = 0 ∨ x = 1 ∨ x = 2 ∨ x = 3 ∨ x = 4 ∨ x = 5 ∨ x = 6 by omega) with rfl | rfl | rfl | rfl | rfl | rfl | rfl
    · exact eqC.rfl'
    · exact eqC.rfl'
    · exact eqC.rfl'
    · exact eqC.rfl'
    · exact eqC.rfl'
    · exact ⟨by intro k hk; rcases (show k = 0 ∨ k = 1 ∨ k = 2 ∨ k = 3 ∨ k = 4 ∨ k = 5 ∨ k = 6 by omega) with rfl | rfl | rfl | rfl | rfl | rfl | rfl <;> rfl, cpy16, cpy12, cpy12, cpy12, cpy12⟩
    · exact eqC.rfl'
  have hP : va_P G.1 vwCl (wX G A (sc S 5 1) r) H := wX_ext he (fun _ _ => rfl) hP
  have hD : va_D A0 (wX G A (sc S 5 1) r) := wX_D hD
  exact endZ hx hb hr hlocks hP hD hS rfl dX0_copyFrom_131
def f_X0_copyFrom_6_0 (S : XS) : XS := sc S 6 0
theorem e_X0_copyFrom_6_0 (S : XS) : f_X0_copyFrom_6_0 S = sc S 6 0 := rfl
set_option maxHeartbeats 4000000 in
set_option maxRecDepth 100000 in
theorem c_X0_copyFrom_6_0 (l : Launch) (G : GG) (A : Nat → Nat) (S : XS) (r : Nat)  (hbj : S 0 0 4 = 0 ∨ S 0 0 4 = 1) : Mz l yX0_copyFrom wsX0_copyFrom ({ frames := 1, cells := 0, slots := 0, locals := 26 } : Room) G [.ref (A (6 * 6)), .ref (A (6 * 0))] (wX G A S r) (wX G A (f_X0_copyFrom_6_0 S) r) := by
  refine Mz.of (cc := cX0_copyFrom) (maxL := 2) (ret := none) (by decide) rfl (Nat.le_of_ble_eq_true rfl) ?_
  intro p e s m args below meth c A0 hA0 E hr hlocks hP hK hD hA hS ls hl
  have E : CallFix p m c cX0_copyFrom 2 s args wsX0_copyFrom RX0 := E
  have hx := E.1
  have hb := E.2.1
  have hml := E.2.2.1
  have hown := E.2.2.2.1
  have hts := E.2.2.2.2
  have hl : lv_has ls 2 [(0, .ref (A (6 * 6))), (1, .ref (A (6 * 0)))] := hl
  have hinX0 : ∀ w ∈ u_ws RX0 TX0 12, w ∈ wsX0_copyFrom := fun _ h => List.mem_cons_of_mem _ (List.mem_append_right _ h)
  refine lv_aload_n hx hb dX0_copyFrom_0 rfl (lv_at hl 1 rfl) ?_
  refine va_get (D := G.1) (ci := 0) (v := .ref (A (6 * 0 + 1))) (C := RX0) (T := TX0) (N := 12) hx hb hts hinX0 hown hK.1 hP (6 * 0) (wX_o G A S r 0 (by decide)) rfl 0 (by decide) (hts (.fieldLink RX0 9 "WireLoops$Chip" "leadX" "[I") (List.mem_of_getElem? (i := 1) rfl)) (fun _ h9 => h9) rfl dX0_copyFrom_1 ?_
  refine lv_iconst (v := 0) hx hb dX0_copyFrom_4 (by decide) ?_
  refine lv_aload_n hx hb dX0_copyFrom_5 rfl (lv_at hl 0 rfl) ?_
  refine va_get (D := G.1) (ci := 0) (v := .ref (A (6 * 6 + 1))) (C := RX0) (T := TX0) (N := 12) hx hb hts hinX0 hown hK.1 hP (6 * 6) (wX_o G A S r 6 (by decide)) rfl 0 (by decide) (hts (.fieldLink RX0 9 "WireLoops$Chip" "leadX" "[I") (List.mem_of_getElem? (i := 1) rfl)) (fun _ h9 => h9) rfl dX0_copyFrom_6 ?_
  refine lv_iconst (v := 0) hx hb dX0_copyFrom_9 (by decide) ?_
  refine lv_bipush (v := 16) hx hb dX0_copyFrom_10 (by decide) ?_
  refine va_copyi (D := G.1) hx hb (by rw [hml]; exact hl.1.symm) hown (hts (.methodLink RX0 37 arraycopyName) (List.mem_of_getElem? (i := 2) rfl)) (hts (.native arraycopyName) (List.mem_of_getElem? (i := 3) rfl)) (hts (.static arraycopyName) (List.mem_of_getElem? (i := 4) rfl)) (hts (.initialized "java/lang/System") (List.mem_of_getElem? (i := 5) rfl)) hK.1 hP hD hS (6 * 0 + 1) (6 * 6 + 1) 0 0 (wX_1 G A S r 0 (by decide)) (wX_1 G A S r 6 (by decide)) rfl rfl rfl (by decide) (by decide) (by decide) (by decide) (by decide) (fun _ _ => rfl) (Nat.le_of_ble_eq_true rfl) (Nat.le_of_ble_eq_true rfl) dX0_copyFrom_12 (fun H locs hP hD hS => ?_)
  rw [wX_s1 G A S r 6 (by decide) _] at hP hD
  have hP : va_P G.1 vwCl (wX G A (su S 6 1 (va_cpy (S 0 1) (S 6 1) (0 : Int32).toNatClampNeg (0 : Int32).toNatClampNeg (16 : Int32).toNatClampNeg)) r) H := hP
  have hD : va_D A0 (wX G A (su S 6 1 (va_cpy (S 0 1) (S 6 1) (0 : Int32).toNatClampNeg (0 : Int32).toNatClampNeg (16 : Int32).toNatClampNeg)) r) := hD
  generalize hn1 : (su S 6 1 (va_cpy (S 0 1) (S 6 1) (0 : Int32).toNatClampNeg (0 : Int32).toNatClampNeg (16 : Int32).toNatClampNeg)) = S1 at hP hD
  refine lv_aload_n hx hb dX0_copyFrom_15 rfl (lv_at hl 1 rfl) ?_
  refine va_get (D := G.1) (ci := 0) (v := .ref (A (6 * 0 + 2))) (C := RX0) (T := TX0) (N := 12) hx hb hts hinX0 hown hK.1 hP (6 * 0) (wX_o G A S1 r 0 (by decide)) rfl 1 (by decide) (hts (.fieldLink RX0 15 "WireLoops$Chip" "leadOf" "[I") (List.mem_of_getElem? (i := 6) rfl)) (fun _ h9 => h9) rfl dX0_copyFrom_16 ?_
  refine lv_iconst (v := 0) hx hb dX0_copyFrom_19 (by decide) ?_
  refine lv_aload_n hx hb dX0_copyFrom_20 rfl (lv_at hl 0 rfl) ?_
  refine va_get (D := G.1) (ci := 0) (v := .ref (A (6 * 6 + 2))) (C := RX0) (T := TX0) (N := 12) hx hb hts hinX0 hown hK.1 hP (6 * 6) (wX_o G A S1 r 6 (by decide)) rfl 1 (by decide) (hts (.fieldLink RX0 15 "WireLoops$Chip" "leadOf" "[I") (List.mem_of_getElem? (i := 6) rfl)) (fun _ h9 => h9) rfl dX0_copyFrom_21 ?_
  refine lv_iconst (v := 0) hx hb dX0_copyFrom_24 (by decide) ?_
  refine lv_bipush (v := 12) hx hb dX0_copyFrom_25 (by decide) ?_
  refine va_copyi (D := G.1) hx hb (by rw [hml]; exact hl.1.symm) hown (hts (.methodLink RX0 37 arraycopyName) (List.mem_of_getElem? (i := 2) rfl)) (hts (.native arraycopyName) (List.mem_of_getElem? (i := 3) rfl)) (hts (.static arraycopyName) (List.mem_of_getElem? (i := 4) rfl)) (hts (.initialized "java/lang/System") (List.mem_of_getElem? (i := 5) rfl)) hK.1 hP hD hS (6 * 0 + 2) (6 * 6 + 2) 0 0 (wX_c G A S1 r 0 2 (by decide) (by decide) (by decide)) (wX_c G A S1 r 6 2 (by decide) (by decide) (by decide)) rfl rfl rfl (by decide) (by decide) (by decide) (by decide) (by decide) (fun _ _ => rfl) (Nat.le_of_ble_eq_true rfl) (Nat.le_of_ble_eq_true rfl) dX0_copyFrom_27 (fun H locs hP hD hS => ?_)
  rw [wX_sc G A S1 r 6 2 (by decide) (by decide) (by decide) _] at hP hD
  have hP : va_P G.1 vwCl (wX G A (su S1 6 2 (va_cpy (S1 0 2) (S1 6 2) (0 : Int32).toNatClampNeg (0 : Int32).toNatClampNeg (12 : Int32).toNatClampNeg)) r) H := hP
  have hD : va_D A0 (wX G A (su S1 6 2 (va_cpy (S1 0 2) (S1 6 2) (0 : Int32).toNatClampNeg (0 : Int32).toNatClampNeg (12 : Int32).toNatClampNeg)) r) := hD
  generalize hn2 : (su S1 6 2 (va_cpy (S1 0 2) (S1 6 2) (0 : Int32).toNatClampNeg (0 : Int32).toNatClampNeg (12 : Int32).toNatClampNeg)) = S2 at hP hD
  refine lv_aload_n hx hb dX0_copyFrom_30 rfl (lv_at hl 1 rfl) ?_
  refine va_get (D := G.1) (ci := 0) (v := .ref (A (6 * 0 + 3))) (C := RX0) (T := TX0) (N := 12) hx hb hts hinX0 hown hK.1 hP (6 * 0) (wX_o G A S2 r 0 (by decide)) rfl 2 (by decide) (hts (.fieldLink RX0 18 "WireLoops$Chip" "height" "[I") (List.mem_of_getElem? (i := 7) rfl)) (fun _ h9 => h9) rfl dX0_copyFrom_31 ?_
  refine lv_iconst (v := 0) hx hb dX0_copyFrom_34 (by decide) ?_
  refine lv_aload_n hx hb dX0_copyFrom_35 rfl (lv_at hl 0 rfl) ?_
  refine va_get (D := G.1) (ci := 0) (v := .ref (A (6 * 6 + 3))) (C := RX0) (T := TX0) (N := 12) hx hb hts hinX0 hown hK.1 hP (6 * 6) (wX_o G A S2 r 6 (by decide)) rfl 2 (by decide) (hts (.fieldLink RX0 18 "WireLoops$Chip" "height" "[I") (List.mem_of_getElem? (i := 7) rfl)) (fun _ h9 => h9) rfl dX0_copyFrom_36 ?_
  refine lv_iconst (v := 0) hx hb dX0_copyFrom_39 (by decide) ?_
  refine lv_bipush (v := 12) hx hb dX0_copyFrom_40 (by decide) ?_
  refine va_copyi (D := G.1) hx hb (by rw [hml]; exact hl.1.symm) hown (hts (.methodLink RX0 37 arraycopyName) (List.mem_of_getElem? (i := 2) rfl)) (hts (.native arraycopyName) (List.mem_of_getElem? (i := 3) rfl)) (hts (.static arraycopyName) (List.mem_of_getElem? (i := 4) rfl)) (hts (.initialized "java/lang/System") (List.mem_of_getElem? (i := 5) rfl)) hK.1 hP hD hS (6 * 0 + 3) (6 * 6 + 3) 0 0 (wX_c G A S2 r 0 3 (by decide) (by decide) (by decide)) (wX_c G A S2 r 6 3 (by decide) (by decide) (by decide)) rfl rfl rfl (by decide) (by decide) (by decide) (by decide) (by decide) (fun _ _ => rfl) (Nat.le_of_ble_eq_true rfl) (Nat.le_of_ble_eq_true rfl) dX0_copyFrom_42 (fun H locs hP hD hS => ?_)
  rw [wX_sc G A S2 r 6 3 (by decide) (by decide) (by decide) _] at hP hD
  have hP : va_P G.1 vwCl (wX G A (su S2 6 3 (va_cpy (S2 0 3) (S2 6 3) (0 : Int32).toNatClampNeg (0 : Int32).toNatClampNeg (12 : Int32).toNatClampNeg)) r) H := hP
  have hD : va_D A0 (wX G A (su S2 6 3 (va_cpy (S2 0 3) (S2 6 3) (0 : Int32).toNatClampNeg (0 : Int32).toNatClampNeg (12 : Int32).toNatClampNeg)) r) := hD
  generalize hn3 : (su S2 6 3 (va_cpy (S2 0 3) (S2 6 3) (0 : Int32).toNatClampNeg (0 : Int32).toNatClampNeg (12 : Int32).toNatClampNeg)) = S3 at hP hD
  refine lv_aload_n hx hb dX0_copyFrom_45 rfl (lv_at hl 1 rfl) ?_
  refine va_get (D := G.1) (ci := 0) (v := .ref (A (6 * 0 + 4))) (C := RX0) (T := TX0) (N := 12) hx hb hts hinX0 hown hK.1 hP (6 * 0) (wX_o G A S3 r 0 (by decide)) rfl 3 (by decide) (hts (.fieldLink RX0 21 "WireLoops$Chip" "strength" "[I") (List.mem_of_getElem? (i := 8) rfl)) (fun _ h9 => h9) rfl dX0_copyFrom_46 ?_
  refine lv_iconst (v := 0) hx hb dX0_copyFrom_49 (by decide) ?_
  refine lv_aload_n hx hb dX0_copyFrom_50 rfl (lv_at hl 0 rfl) ?_
  refine va_get (D := G.1) (ci := 0) (v := .ref (A (6 * 6 + 4))) (C := RX0) (T := TX0) (N := 12) hx hb hts hinX0 hown hK.1 hP (6 * 6) (wX_o G A S3 r 6 (by decide)) rfl 3 (by decide) (hts (.fieldLink RX0 21 "WireLoops$Chip" "strength" "[I") (List.mem_of_getElem? (i := 8) rfl)) (fun _ h9 => h9) rfl dX0_copyFrom_51 ?_
  refine lv_iconst (v := 0) hx hb dX0_copyFrom_54 (by decide) ?_
  refine lv_bipush (v := 12) hx hb dX0_copyFrom_55 (by decide) ?_
  refine va_copyi (D := G.1) hx hb (by rw [hml]; exact hl.1.symm) hown (hts (.methodLink RX0 37 arraycopyName) (List.mem_of_getElem? (i := 2) rfl)) (hts (.native arraycopyName) (List.mem_of_getElem? (i := 3) rfl)) (hts (.static arraycopyName) (List.mem_of_getElem? (i := 4) rfl)) (hts (.initialized "java/lang/System") (List.mem_of_getElem? (i := 5) rfl)) hK.1 hP hD hS (6 * 0 + 4) (6 * 6 + 4) 0 0 (wX_c G A S3 r 0 4 (by decide) (by decide) (by decide)) (wX_c G A S3 r 6 4 (by decide) (by decide) (by decide)) rfl rfl rfl (by decide) (by decide) (by decide) (by decide) (by decide) (fun _ _ => rfl) (Nat.le_of_ble_eq_true rfl) (Nat.le_of_ble_eq_true rfl) dX0_copyFrom_57 (fun H locs hP hD hS => ?_)
  rw [wX_sc G A S3 r 6 4 (by decide) (by decide) (by decide) _] at hP hD
  have hP : va_P G.1 vwCl (wX G A (su S3 6 4 (va_cpy (S3 0 4) (S3 6 4) (0 : Int32).toNatClampNeg (0 : Int32).toNatClampNeg (12 : Int32).toNatClampNeg)) r) H := hP
  have hD : va_D A0 (wX G A (su S3 6 4 (va_cpy (S3 0 4) (S3 6 4) (0 : Int32).toNatClampNeg (0 : Int32).toNatClampNeg (12 : Int32).toNatClampNeg)) r) := hD
  generalize hn4 : (su S3 6 4 (va_cpy (S3 0 4) (S3 6 4) (0 : Int32).toNatClampNeg (0 : Int32).toNatClampNeg (12 : Int32).toNatClampNeg)) = S4 at hP hD
  refine lv_aload_n hx hb dX0_copyFrom_60 rfl (lv_at hl 1 rfl) ?_
  refine va_get (D := G.1) (ci := 0) (v := .ref (A (6 * 0 + 5))) (C := RX0) (T := TX0) (N := 12) hx hb hts hinX0 hown hK.1 hP (6 * 0) (wX_o G A S4 r 0 (by decide)) rfl 4 (by decide) (hts (.fieldLink RX0 24 "WireLoops$Chip" "number" "[I") (List.mem_of_getElem? (i := 9) rfl)) (fun _ h9 => h9) rfl dX0_copyFrom_61 ?_
  refine lv_iconst (v := 0) hx hb dX0_copyFrom_64 (by decide) ?_
  refine lv_aload_n hx hb dX0_copyFrom_65 rfl (lv_at hl 0 rfl) ?_
  refine va_get (D := G.1) (ci := 0) (v := .ref (A (6 * 6 + 5))) (C := RX0) (T := TX0) (N := 12) hx hb hts hinX0 hown hK.1 hP (6 * 6) (wX_o G A S4 r 6 (by decide)) rfl 4 (by decide) (hts (.fieldLink RX0 24 "WireLoops$Chip" "number" "[I") (List.mem_of_getElem? (i := 9) rfl)) (fun _ h9 => h9) rfl dX0_copyFrom_66 ?_
  refine lv_iconst (v := 0) hx hb dX0_copyFrom_69 (by decide) ?_
  refine lv_bipush (v := 12) hx hb dX0_copyFrom_70 (by decide) ?_
  refine va_copyi (D := G.1) hx hb (by rw [hml]; exact hl.1.symm) hown (hts (.methodLink RX0 37 arraycopyName) (List.mem_of_getElem? (i := 2) rfl)) (hts (.native arraycopyName) (List.mem_of_getElem? (i := 3) rfl)) (hts (.static arraycopyName) (List.mem_of_getElem? (i := 4) rfl)) (hts (.initialized "java/lang/System") (List.mem_of_getElem? (i := 5) rfl)) hK.1 hP hD hS (6 * 0 + 5) (6 * 6 + 5) 0 0 (wX_c G A S4 r 0 5 (by decide) (by decide) (by decide)) (wX_c G A S4 r 6 5 (by decide) (by decide) (by decide)) rfl rfl rfl (by decide) (by decide) (by decide) (by decide) (by decide) (fun _ _ => rfl) (Nat.le_of_ble_eq_true rfl) (Nat.le_of_ble_eq_true rfl) dX0_copyFrom_72 (fun H locs hP hD hS => ?_)
  rw [wX_sc G A S4 r 6 5 (by decide) (by decide) (by decide) _] at hP hD
  have hP : va_P G.1 vwCl (wX G A (su S4 6 5 (va_cpy (S4 0 5) (S4 6 5) (0 : Int32).toNatClampNeg (0 : Int32).toNatClampNeg (12 : Int32).toNatClampNeg)) r) H := hP
  have hD : va_D A0 (wX G A (su S4 6 5 (va_cpy (S4 0 5) (S4 6 5) (0 : Int32).toNatClampNeg (0 : Int32).toNatClampNeg (12 : Int32).toNatClampNeg)) r) := hD
  generalize hn5 : (su S4 6 5 (va_cpy (S4 0 5) (S4 6 5) (0 : Int32).toNatClampNeg (0 : Int32).toNatClampNeg (12 : Int32).toNatClampNeg)) = S5 at hP hD
  refine lv_aload_n hx hb dX0_copyFrom_75 rfl (lv_at hl 0 rfl) ?_
  refine lv_aload_n hx hb dX0_copyFrom_76 rfl (lv_at hl 1 rfl) ?_
  refine va_get (D := G.1) (ci := 0) (v := .int (S5 0 0 0)) (C := RX0) (T := TX0) (N := 12) hx hb hts hinX0 hown hK.1 hP (6 * 0) (wX_o G A S5 r 0 (by decide)) rfl 5 (by decide) (hts (.fieldLink RX0 43 "WireLoops$Chip" "laid" "I") (List.mem_of_getElem? (i := 10) rfl)) (fun _ h9 => h9) rfl dX0_copyFrom_77 ?_
  refine va_put (D := G.1) (ci := 0) (v := .int (S5 0 0 0)) (ty := .int) (C := RX0) (T := TX0) (N := 12) hx hb hts hinX0 tyX0 tyX0_ok nmX0 hown hK.1 hP hD hS (6 * 6) (wX_o G A S5 r 6 (by decide)) rfl (5 + 0) (by decide) (hts (.fieldLink RX0 43 "WireLoops$Chip" "laid" "I") (List.mem_of_getElem? (i := 10) rfl)) (fun _ h9 => h9) rfl (by decide +kernel) rfl rfl (Nat.le_of_ble_eq_true rfl) dX0_copyFrom_80 (fun H locs hP hD hS => ?_)
  rw [wX_so G A S5 r 6 0 (by decide) (by decide) _] at hP hD
  have hP : va_P G.1 vwCl (wX G A (su S5 6 0 (upd (S5 6 0) 0 (S5 0 0 0))) r) H := hP
  have hD : va_D A0 (wX G A (su S5 6 0 (upd (S5 6 0) 0 (S5 0 0 0))) r) := hD
  generalize hn6 : (su S5 6 0 (upd (S5 6 0) 0 (S5 0 0 0))) = S6 at hP hD
  refine lv_aload_n hx hb dX0_copyFrom_83 rfl (lv_at hl 0 rfl) ?_
  refine lv_aload_n hx hb dX0_copyFrom_84 rfl (lv_at hl 1 rfl) ?_
  refine va_get (D := G.1) (ci := 0) (v := .int (S6 0 0 1)) (C := RX0) (T := TX0) (N := 12) hx hb hts hinX0 hown hK.1 hP (6 * 0) (wX_o G A S6 r 0 (by decide)) rfl 6 (by decide) (hts (.fieldLink RX0 33 "WireLoops$Chip" "width" "I") (List.mem_of_getElem? (i := 11) rfl)) (fun _ h9 => h9) rfl dX0_copyFrom_85 ?_
  refine va_put (D := G.1) (ci := 0) (v := .int (S6 0 0 1)) (ty := .int) (C := RX0) (T := TX0) (N := 12) hx hb hts hinX0 tyX0 tyX0_ok nmX0 hown hK.1 hP hD hS (6 * 6) (wX_o G A S6 r 6 (by decide)) rfl (5 + 1) (by decide) (hts (.fieldLink RX0 33 "WireLoops$Chip" "width" "I") (List.mem_of_getElem? (i := 11) rfl)) (fun _ h9 => h9) rfl (by decide +kernel) rfl rfl (Nat.le_of_ble_eq_true rfl) dX0_copyFrom_88 (fun H locs hP hD hS => ?_)
  rw [wX_so G A S6 r 6 1 (by decide) (by decide) _] at hP hD
  have hP : va_P G.1 vwCl (wX G A (su S6 6 0 (upd (S6 6 0) 1 (S6 0 0 1))) r) H := hP
  have hD : va_D A0 (wX G A (su S6 6 0 (upd (S6 6 0) 1 (S6 0 0 1))) r) := hD
  generalize hn7 : (su S6 6 0 (upd (S6 6 0) 1 (S6 0 0 1))) = S7 at hP hD
  refine lv_aload_n hx hb dX0_copyFrom_91 rfl (lv_at hl 0 rfl) ?_
  refine lv_aload_n hx hb dX0_copyFrom_92 rfl (lv_at hl 1 rfl) ?_
  refine va_get (D := G.1) (ci := 0) (v := .int (S7 0 0 2)) (C := RX0) (T := TX0) (N := 12) hx hb hts hinX0 hown hK.1 hP (6 * 0) (wX_o G A S7 r 0 (by decide)) rfl 7 (by decide) (hts (.fieldLink RX0 46 "WireLoops$Chip" "wear" "I") (List.mem_of_getElem? (i := 12) rfl)) (fun _ h9 => h9) rfl dX0_copyFrom_93 ?_
  refine va_put (D := G.1) (ci := 0) (v := .int (S7 0 0 2)) (ty := .int) (C := RX0) (T := TX0) (N := 12) hx hb hts hinX0 tyX0 tyX0_ok nmX0 hown hK.1 hP hD hS (6 * 6) (wX_o G A S7 r 6 (by decide)) rfl (5 + 2) (by decide) (hts (.fieldLink RX0 46 "WireLoops$Chip" "wear" "I") (List.mem_of_getElem? (i := 12) rfl)) (fun _ h9 => h9) rfl (by decide +kernel) rfl rfl (Nat.le_of_ble_eq_true rfl) dX0_copyFrom_96 (fun H locs hP hD hS => ?_)
  rw [wX_so G A S7 r 6 2 (by decide) (by decide) _] at hP hD
  have hP : va_P G.1 vwCl (wX G A (su S7 6 0 (upd (S7 6 0) 2 (S7 0 0 2))) r) H := hP
  have hD : va_D A0 (wX G A (su S7 6 0 (upd (S7 6 0) 2 (S7 0 0 2))) r) := hD
  generalize hn8 : (su S7 6 0 (upd (S7 6 0) 2 (S7 0 0 2))) = S8 at hP hD
  refine lv_aload_n hx hb dX0_copyFrom_99 rfl (lv_at hl 0 rfl) ?_
  refine lv_aload_n hx hb dX0_copyFrom_100 rfl (lv_at hl 1 rfl) ?_
  refine va_get (D := G.1) (ci := 0) (v := .int (S8 0 0 3)) (C := RX0) (T := TX0) (N := 12) hx hb hts hinX0 hown hK.1 hP (6 * 0) (wX_o G A S8 r 0 (by decide)) rfl 8 (by decide) (hts (.fieldLink RX0 49 "WireLoops$Chip" "toolsChanged" "I") (List.mem_of_getElem? (i := 13) rfl)) (fun _ h9 => h9) rfl dX0_copyFrom_101 ?_
  refine va_put (D := G.1) (ci := 0) (v := .int (S8 0 0 3)) (ty := .int) (C := RX0) (T := TX0) (N := 12) hx hb hts hinX0 tyX0 tyX0_ok nmX0 hown hK.1 hP hD hS (6 * 6) (wX_o G A S8 r 6 (by decide)) rfl (5 + 3) (by decide) (hts (.fieldLink RX0 49 "WireLoops$Chip" "toolsChanged" "I") (List.mem_of_getElem? (i := 13) rfl)) (fun _ h9 => h9) rfl (by decide +kernel) rfl rfl (Nat.le_of_ble_eq_true rfl) dX0_copyFrom_104 (fun H locs hP hD hS => ?_)
  rw [wX_so G A S8 r 6 3 (by decide) (by decide) _] at hP hD
  have hP : va_P G.1 vwCl (wX G A (su S8 6 0 (upd (S8 6 0) 3 (S8 0 0 3))) r) H := hP
  have hD : va_D A0 (wX G A (su S8 6 0 (upd (S8 6 0) 3 (S8 0 0 3))) r) := hD
  generalize hn9 : (su S8 6 0 (upd (S8 6 0) 3 (S8 0 0 3))) = S9 at hP hD
  refine lv_aload_n hx hb dX0_copyFrom_107 rfl (lv_at hl 0 rfl) ?_
  refine lv_aload_n hx hb dX0_copyFrom_108 rfl (lv_at hl 1 rfl) ?_
  refine va_get (D := G.1) (ci := 0) (v := .int (S9 0 0 4)) (C := RX0) (T := TX0) (N := 12) hx hb hts hinX0 hown hK.1 hP (6 * 0) (wX_o G A S9 r 0 (by decide)) rfl 9 (by decide) (hts (.fieldLink RX0 52 "WireLoops$Chip" "tailLost" "Z") (List.mem_of_getElem? (i := 14) rfl)) (fun _ h9 => h9) rfl dX0_copyFrom_109 ?_
  refine va_put (D := G.1) (ci := 0) (v := .int (S9 0 0 4)) (ty := .boolean) (C := RX0) (T := TX0) (N := 12) hx hb hts hinX0 tyX0 tyX0_ok nmX0 hown hK.1 hP hD hS (6 * 6) (wX_o G A S9 r 6 (by decide)) rfl (5 + 4) (by decide) (hts (.fieldLink RX0 52 "WireLoops$Chip" "tailLost" "Z") (List.mem_of_getElem? (i := 14) rfl)) (fun _ h9 => h9) rfl (by decide +kernel) (nb_of (by subst_vars; exact hbj)) (fb_of (by subst_vars; exact hbj)) (Nat.le_of_ble_eq_true rfl) dX0_copyFrom_112 (fun H locs hP hD hS => ?_)
  rw [wX_so G A S9 r 6 4 (by decide) (by decide) _] at hP hD
  have hP : va_P G.1 vwCl (wX G A (su S9 6 0 (upd (S9 6 0) 4 (S9 0 0 4))) r) H := hP
  have hD : va_D A0 (wX G A (su S9 6 0 (upd (S9 6 0) 4 (S9 0 0 4))) r) := hD
  generalize hn10 : (su S9 6 0 (upd (S9 6 0) 4 (S9 0 0 4))) = S10 at hP hD
  refine lv_aload_n hx hb dX0_copyFrom_115 rfl (lv_at hl 0 rfl) ?_
  refine lv_aload_n hx hb dX0_copyFrom_116 rfl (lv_at hl 1 rfl) ?_
  refine va_get (D := G.1) (ci := 0) (v := .int (S10 0 0 5)) (C := RX0) (T := TX0) (N := 12) hx hb hts hinX0 hown hK.1 hP (6 * 0) (wX_o G A S10 r 0 (by decide)) rfl 10 (by decide) (hts (.fieldLink RX0 56 "WireLoops$Chip" "tailsLost" "I") (List.mem_of_getElem? (i := 15) rfl)) (fun _ h9 => h9) rfl dX0_copyFrom_117 ?_
  refine va_put (D := G.1) (ci := 0) (v := .int (S10 0 0 5)) (ty := .int) (C := RX0) (T := TX0) (N := 12) hx hb hts hinX0 tyX0 tyX0_ok nmX0 hown hK.1 hP hD hS (6 * 6) (wX_o G A S10 r 6 (by decide)) rfl (5 + 5) (by decide) (hts (.fieldLink RX0 56 "WireLoops$Chip" "tailsLost" "I") (List.mem_of_getElem? (i := 15) rfl)) (fun _ h9 => h9) rfl (by decide +kernel) rfl rfl (Nat.le_of_ble_eq_true rfl) dX0_copyFrom_120 (fun H locs hP hD hS => ?_)
  rw [wX_so G A S10 r 6 5 (by decide) (by decide) _] at hP hD
  have hP : va_P G.1 vwCl (wX G A (su S10 6 0 (upd (S10 6 0) 5 (S10 0 0 5))) r) H := hP
  have hD : va_D A0 (wX G A (su S10 6 0 (upd (S10 6 0) 5 (S10 0 0 5))) r) := hD
  generalize hn11 : (su S10 6 0 (upd (S10 6 0) 5 (S10 0 0 5))) = S11 at hP hD
  refine lv_aload_n hx hb dX0_copyFrom_123 rfl (lv_at hl 0 rfl) ?_
  refine lv_aload_n hx hb dX0_copyFrom_124 rfl (lv_at hl 1 rfl) ?_
  refine va_get (D := G.1) (ci := 0) (v := .int (S11 0 0 6)) (C := RX0) (T := TX0) (N := 12) hx hb hts hinX0 hown hK.1 hP (6 * 0) (wX_o G A S11 r 0 (by decide)) rfl 11 (by decide) (hts (.fieldLink RX0 59 "WireLoops$Chip" "broken" "I") (List.mem_of_getElem? (i := 16) rfl)) (fun _ h9 => h9) rfl dX0_copyFrom_125 ?_
  refine va_put (D := G.1) (ci := 0) (v := .int (S11 0 0 6)) (ty := .int) (C := RX0) (T := TX0) (N := 12) hx hb hts hinX0 tyX0 tyX0_ok nmX0 hown hK.1 hP hD hS (6 * 6) (wX_o G A S11 r 6 (by decide)) rfl (5 + 6) (by decide) (hts (.fieldLink RX0 59 "WireLoops$Chip" "broken" "I") (List.mem_of_getElem? (i := 16) rfl)) (fun _ h9 => h9) rfl (by decide +kernel) rfl rfl (Nat.le_of_ble_eq_true rfl) dX0_copyFrom_128 (fun H locs hP hD hS => ?_)
  rw [wX_so G A S11 r 6 6 (by decide) (by decide) _] at hP hD
  have hP : va_P G.1 vwCl (wX G A (su S11 6 0 (upd (S11 6 0) 6 (S11 0 0 6))) r) H := hP
  have hD : va_D A0 (wX G A (su S11 6 0 (upd (S11 6 0) 6 (S11 0 0 6))) r) := hD
  generalize hn12 : (su S11 6 0 (upd (S11 6 0) 6 (S11 0 0 6))) = S12 at hP hD
  have he : eqX S12 (sc S 6 0) := by
    subst_vars
    refine ⟨?_, eqR.rfl'⟩
    intro x hx7
    rcases (show x = 0 ∨ x = 1 ∨ x = 2 ∨ x = 3 ∨ x = 4 ∨ x = 5 ∨ x = 6 by omega) with rfl | rfl | rfl | rfl | rfl | rfl | rfl
    · exact eqC.rfl'
    · exact eqC.rfl'
    · exact eqC.rfl'
    · exact eqC.rfl'
    · exact eqC.rfl'
    · exact eqC.rfl'
    · exact ⟨by intro k hk; rcases (show k = 0 ∨ k = 1 ∨ k = 2 ∨ k = 3 ∨ k = 4 ∨ k = 5 ∨ k = 6 by omega) with rfl | rfl | rfl | rfl | rfl | rfl | rfl <;> rfl, cpy16, cpy12, cpy12, cpy12, cpy12⟩
  have hP : va_P G.1 vwCl (wX G A (sc S 6 0) r) H := wX_ext he (fun _ _ => rfl) hP
  have hD : va_D A0 (wX G A (sc S 6 0) r) := wX_D hD
  exact endZ hx hb hr hlocks hP hD hS rfl dX0_copyFrom_131
def f_X0_copyFrom_6_1 (S : XS) : XS := sc S 6 1
theorem e_X0_copyFrom_6_1 (S : XS) : f_X0_copyFrom_6_1 S = sc S 6 1 := rfl
set_option maxHeartbeats 4000000 in
set_option maxRecDepth 100000 in
theorem c_X0_copyFrom_6_1 (l : Launch) (G : GG) (A : Nat → Nat) (S : XS) (r : Nat)  (hbj : S 1 0 4 = 0 ∨ S 1 0 4 = 1) : Mz l yX0_copyFrom wsX0_copyFrom ({ frames := 1, cells := 0, slots := 0, locals := 26 } : Room) G [.ref (A (6 * 6)), .ref (A (6 * 1))] (wX G A S r) (wX G A (f_X0_copyFrom_6_1 S) r) := by
  refine Mz.of (cc := cX0_copyFrom) (maxL := 2) (ret := none) (by decide) rfl (Nat.le_of_ble_eq_true rfl) ?_
  intro p e s m args below meth c A0 hA0 E hr hlocks hP hK hD hA hS ls hl
  have E : CallFix p m c cX0_copyFrom 2 s args wsX0_copyFrom RX0 := E
  have hx := E.1
  have hb := E.2.1
  have hml := E.2.2.1
  have hown := E.2.2.2.1
  have hts := E.2.2.2.2
  have hl : lv_has ls 2 [(0, .ref (A (6 * 6))), (1, .ref (A (6 * 1)))] := hl
  have hinX0 : ∀ w ∈ u_ws RX0 TX0 12, w ∈ wsX0_copyFrom := fun _ h => List.mem_cons_of_mem _ (List.mem_append_right _ h)
  refine lv_aload_n hx hb dX0_copyFrom_0 rfl (lv_at hl 1 rfl) ?_
  refine va_get (D := G.1) (ci := 0) (v := .ref (A (6 * 1 + 1))) (C := RX0) (T := TX0) (N := 12) hx hb hts hinX0 hown hK.1 hP (6 * 1) (wX_o G A S r 1 (by decide)) rfl 0 (by decide) (hts (.fieldLink RX0 9 "WireLoops$Chip" "leadX" "[I") (List.mem_of_getElem? (i := 1) rfl)) (fun _ h9 => h9) rfl dX0_copyFrom_1 ?_
  refine lv_iconst (v := 0) hx hb dX0_copyFrom_4 (by decide) ?_
  refine lv_aload_n hx hb dX0_copyFrom_5 rfl (lv_at hl 0 rfl) ?_
  refine va_get (D := G.1) (ci := 0) (v := .ref (A (6 * 6 + 1))) (C := RX0) (T := TX0) (N := 12) hx hb hts hinX0 hown hK.1 hP (6 * 6) (wX_o G A S r 6 (by decide)) rfl 0 (by decide) (hts (.fieldLink RX0 9 "WireLoops$Chip" "leadX" "[I") (List.mem_of_getElem? (i := 1) rfl)) (fun _ h9 => h9) rfl dX0_copyFrom_6 ?_
  refine lv_iconst (v := 0) hx hb dX0_copyFrom_9 (by decide) ?_
  refine lv_bipush (v := 16) hx hb dX0_copyFrom_10 (by decide) ?_
  refine va_copyi (D := G.1) hx hb (by rw [hml]; exact hl.1.symm) hown (hts (.methodLink RX0 37 arraycopyName) (List.mem_of_getElem? (i := 2) rfl)) (hts (.native arraycopyName) (List.mem_of_getElem? (i := 3) rfl)) (hts (.static arraycopyName) (List.mem_of_getElem? (i := 4) rfl)) (hts (.initialized "java/lang/System") (List.mem_of_getElem? (i := 5) rfl)) hK.1 hP hD hS (6 * 1 + 1) (6 * 6 + 1) 0 0 (wX_1 G A S r 1 (by decide)) (wX_1 G A S r 6 (by decide)) rfl rfl rfl (by decide) (by decide) (by decide) (by decide) (by decide) (fun _ _ => rfl) (Nat.le_of_ble_eq_true rfl) (Nat.le_of_ble_eq_true rfl) dX0_copyFrom_12 (fun H locs hP hD hS => ?_)
  rw [wX_s1 G A S r 6 (by decide) _] at hP hD
  have hP : va_P G.1 vwCl (wX G A (su S 6 1 (va_cpy (S 1 1) (S 6 1) (0 : Int32).toNatClampNeg (0 : Int32).toNatClampNeg (16 : Int32).toNatClampNeg)) r) H := hP
  have hD : va_D A0 (wX G A (su S 6 1 (va_cpy (S 1 1) (S 6 1) (0 : Int32).toNatClampNeg (0 : Int32).toNatClampNeg (16 : Int32).toNatClampNeg)) r) := hD
  generalize hn1 : (su S 6 1 (va_cpy (S 1 1) (S 6 1) (0 : Int32).toNatClampNeg (0 : Int32).toNatClampNeg (16 : Int32).toNatClampNeg)) = S1 at hP hD
  refine lv_aload_n hx hb dX0_copyFrom_15 rfl (lv_at hl 1 rfl) ?_
  refine va_get (D := G.1) (ci := 0) (v := .ref (A (6 * 1 + 2))) (C := RX0) (T := TX0) (N := 12) hx hb hts hinX0 hown hK.1 hP (6 * 1) (wX_o G A S1 r 1 (by decide)) rfl 1 (by decide) (hts (.fieldLink RX0 15 "WireLoops$Chip" "leadOf" "[I") (List.mem_of_getElem? (i := 6) rfl)) (fun _ h9 => h9) rfl dX0_copyFrom_16 ?_
  refine lv_iconst (v := 0) hx hb dX0_copyFrom_19 (by decide) ?_
  refine lv_aload_n hx hb dX0_copyFrom_20 rfl (lv_at hl 0 rfl) ?_
  refine va_get (D := G.1) (ci := 0) (v := .ref (A (6 * 6 + 2))) (C := RX0) (T := TX0) (N := 12) hx hb hts hinX0 hown hK.1 hP (6 * 6) (wX_o G A S1 r 6 (by decide)) rfl 1 (by decide) (hts (.fieldLink RX0 15 "WireLoops$Chip" "leadOf" "[I") (List.mem_of_getElem? (i := 6) rfl)) (fun _ h9 => h9) rfl dX0_copyFrom_21 ?_
  refine lv_iconst (v := 0) hx hb dX0_copyFrom_24 (by decide) ?_
  refine lv_bipush (v := 12) hx hb dX0_copyFrom_25 (by decide) ?_
  refine va_copyi (D := G.1) hx hb (by rw [hml]; exact hl.1.symm) hown (hts (.methodLink RX0 37 arraycopyName) (List.mem_of_getElem? (i := 2) rfl)) (hts (.native arraycopyName) (List.mem_of_getElem? (i := 3) rfl)) (hts (.static arraycopyName) (List.mem_of_getElem? (i := 4) rfl)) (hts (.initialized "java/lang/System") (List.mem_of_getElem? (i := 5) rfl)) hK.1 hP hD hS (6 * 1 + 2) (6 * 6 + 2) 0 0 (wX_c G A S1 r 1 2 (by decide) (by decide) (by decide)) (wX_c G A S1 r 6 2 (by decide) (by decide) (by decide)) rfl rfl rfl (by decide) (by decide) (by decide) (by decide) (by decide) (fun _ _ => rfl) (Nat.le_of_ble_eq_true rfl) (Nat.le_of_ble_eq_true rfl) dX0_copyFrom_27 (fun H locs hP hD hS => ?_)
  rw [wX_sc G A S1 r 6 2 (by decide) (by decide) (by decide) _] at hP hD
  have hP : va_P G.1 vwCl (wX G A (su S1 6 2 (va_cpy (S1 1 2) (S1 6 2) (0 : Int32).toNatClampNeg (0 : Int32).toNatClampNeg (12 : Int32).toNatClampNeg)) r) H := hP
  have hD : va_D A0 (wX G A (su S1 6 2 (va_cpy (S1 1 2) (S1 6 2) (0 : Int32).toNatClampNeg (0 : Int32).toNatClampNeg (12 : Int32).toNatClampNeg)) r) := hD
  generalize hn2 : (su S1 6 2 (va_cpy (S1 1 2) (S1 6 2) (0 : Int32).toNatClampNeg (0 : Int32).toNatClampNeg (12 : Int32).toNatClampNeg)) = S2 at hP hD
  refine lv_aload_n hx hb dX0_copyFrom_30 rfl (lv_at hl 1 rfl) ?_
  refine va_get (D := G.1) (ci := 0) (v := .ref (A (6 * 1 + 3))) (C := RX0) (T := TX0) (N := 12) hx hb hts hinX0 hown hK.1 hP (6 * 1) (wX_o G A S2 r 1 (by decide)) rfl 2 (by decide) (hts (.fieldLink RX0 18 "WireLoops$Chip" "height" "[I") (List.mem_of_getElem? (i := 7) rfl)) (fun _ h9 => h9) rfl dX0_copyFrom_31 ?_
  refine lv_iconst (v := 0) hx hb dX0_copyFrom_34 (by decide) ?_
  refine lv_aload_n hx hb dX0_copyFrom_35 rfl (lv_at hl 0 rfl) ?_
  refine va_get (D := G.1) (ci := 0) (v := .ref (A (6 * 6 + 3))) (C := RX0) (T := TX0) (N := 12) hx hb hts hinX0 hown hK.1 hP (6 * 6) (wX_o G A S2 r 6 (by decide)) rfl 2 (by decide) (hts (.fieldLink RX0 18 "WireLoops$Chip" "height" "[I") (List.mem_of_getElem? (i := 7) rfl)) (fun _ h9 => h9) rfl dX0_copyFrom_36 ?_
  refine lv_iconst (v := 0) hx hb dX0_copyFrom_39 (by decide) ?_
  refine lv_bipush (v := 12) hx hb dX0_copyFrom_40 (by decide) ?_
  refine va_copyi (D := G.1) hx hb (by rw [hml]; exact hl.1.symm) hown (hts (.methodLink RX0 37 arraycopyName) (List.mem_of_getElem? (i := 2) rfl)) (hts (.native arraycopyName) (List.mem_of_getElem? (i := 3) rfl)) (hts (.static arraycopyName) (List.mem_of_getElem? (i := 4) rfl)) (hts (.initialized "java/lang/System") (List.mem_of_getElem? (i := 5) rfl)) hK.1 hP hD hS (6 * 1 + 3) (6 * 6 + 3) 0 0 (wX_c G A S2 r 1 3 (by decide) (by decide) (by decide)) (wX_c G A S2 r 6 3 (by decide) (by decide) (by decide)) rfl rfl rfl (by decide) (by decide) (by decide) (by decide) (by decide) (fun _ _ => rfl) (Nat.le_of_ble_eq_true rfl) (Nat.le_of_ble_eq_true rfl) dX0_copyFrom_42 (fun H locs hP hD hS => ?_)
  rw [wX_sc G A S2 r 6 3 (by decide) (by decide) (by decide) _] at hP hD
  have hP : va_P G.1 vwCl (wX G A (su S2 6 3 (va_cpy (S2 1 3) (S2 6 3) (0 : Int32).toNatClampNeg (0 : Int32).toNatClampNeg (12 : Int32).toNatClampNeg)) r) H := hP
  have hD : va_D A0 (wX G A (su S2 6 3 (va_cpy (S2 1 3) (S2 6 3) (0 : Int32).toNatClampNeg (0 : Int32).toNatClampNeg (12 : Int32).toNatClampNeg)) r) := hD
  generalize hn3 : (su S2 6 3 (va_cpy (S2 1 3) (S2 6 3) (0 : Int32).toNatClampNeg (0 : Int32).toNatClampNeg (12 : Int32).toNatClampNeg)) = S3 at hP hD
  refine lv_aload_n hx hb dX0_copyFrom_45 rfl (lv_at hl 1 rfl) ?_
  refine va_get (D := G.1) (ci := 0) (v := .ref (A (6 * 1 + 4))) (C := RX0) (T := TX0) (N := 12) hx hb hts hinX0 hown hK.1 hP (6 * 1) (wX_o G A S3 r 1 (by decide)) rfl 3 (by decide) (hts (.fieldLink RX0 21 "WireLoops$Chip" "strength" "[I") (List.mem_of_getElem? (i := 8) rfl)) (fun _ h9 => h9) rfl dX0_copyFrom_46 ?_
  refine lv_iconst (v := 0) hx hb dX0_copyFrom_49 (by decide) ?_
  refine lv_aload_n hx hb dX0_copyFrom_50 rfl (lv_at hl 0 rfl) ?_
  refine va_get (D := G.1) (ci := 0) (v := .ref (A (6 * 6 + 4))) (C := RX0) (T := TX0) (N := 12) hx hb hts hinX0 hown hK.1 hP (6 * 6) (wX_o G A S3 r 6 (by decide)) rfl 3 (by decide) (hts (.fieldLink RX0 21 "WireLoops$Chip" "strength" "[I") (List.mem_of_getElem? (i := 8) rfl)) (fun _ h9 => h9) rfl dX0_copyFrom_51 ?_
  refine lv_iconst (v := 0) hx hb dX0_copyFrom_54 (by decide) ?_
  refine lv_bipush (v := 12) hx hb dX0_copyFrom_55 (by decide) ?_
  refine va_copyi (D := G.1) hx hb (by rw [hml]; exact hl.1.symm) hown (hts (.methodLink RX0 37 arraycopyName) (List.mem_of_getElem? (i := 2) rfl)) (hts (.native arraycopyName) (List.mem_of_getElem? (i := 3) rfl)) (hts (.static arraycopyName) (List.mem_of_getElem? (i := 4) rfl)) (hts (.initialized "java/lang/System") (List.mem_of_getElem? (i := 5) rfl)) hK.1 hP hD hS (6 * 1 + 4) (6 * 6 + 4) 0 0 (wX_c G A S3 r 1 4 (by decide) (by decide) (by decide)) (wX_c G A S3 r 6 4 (by decide) (by decide) (by decide)) rfl rfl rfl (by decide) (by decide) (by decide) (by decide) (by decide) (fun _ _ => rfl) (Nat.le_of_ble_eq_true rfl) (Nat.le_of_ble_eq_true rfl) dX0_copyFrom_57 (fun H locs hP hD hS => ?_)
  rw [wX_sc G A S3 r 6 4 (by decide) (by decide) (by decide) _] at hP hD
  have hP : va_P G.1 vwCl (wX G A (su S3 6 4 (va_cpy (S3 1 4) (S3 6 4) (0 : Int32).toNatClampNeg (0 : Int32).toNatClampNeg (12 : Int32).toNatClampNeg)) r) H := hP
  have hD : va_D A0 (wX G A (su S3 6 4 (va_cpy (S3 1 4) (S3 6 4) (0 : Int32).toNatClampNeg (0 : Int32).toNatClampNeg (12 : Int32).toNatClampNeg)) r) := hD
  generalize hn4 : (su S3 6 4 (va_cpy (S3 1 4) (S3 6 4) (0 : Int32).toNatClampNeg (0 : Int32).toNatClampNeg (12 : Int32).toNatClampNeg)) = S4 at hP hD
  refine lv_aload_n hx hb dX0_copyFrom_60 rfl (lv_at hl 1 rfl) ?_
  refine va_get (D := G.1) (ci := 0) (v := .ref (A (6 * 1 + 5))) (C := RX0) (T := TX0) (N := 12) hx hb hts hinX0 hown hK.1 hP (6 * 1) (wX_o G A S4 r 1 (by decide)) rfl 4 (by decide) (hts (.fieldLink RX0 24 "WireLoops$Chip" "number" "[I") (List.mem_of_getElem? (i := 9) rfl)) (fun _ h9 => h9) rfl dX0_copyFrom_61 ?_
  refine lv_iconst (v := 0) hx hb dX0_copyFrom_64 (by decide) ?_
  refine lv_aload_n hx hb dX0_copyFrom_65 rfl (lv_at hl 0 rfl) ?_
  refine va_get (D := G.1) (ci := 0) (v := .ref (A (6 * 6 + 5))) (C := RX0) (T := TX0) (N := 12) hx hb hts hinX0 hown hK.1 hP (6 * 6) (wX_o G A S4 r 6 (by decide)) rfl 4 (by decide) (hts (.fieldLink RX0 24 "WireLoops$Chip" "number" "[I") (List.mem_of_getElem? (i := 9) rfl)) (fun _ h9 => h9) rfl dX0_copyFrom_66 ?_
  refine lv_iconst (v := 0) hx hb dX0_copyFrom_69 (by decide) ?_
  refine lv_bipush (v := 12) hx hb dX0_copyFrom_70 (by decide) ?_
  refine va_copyi (D := G.1) hx hb (by rw [hml]; exact hl.1.symm) hown (hts (.methodLink RX0 37 arraycopyName) (List.mem_of_getElem? (i := 2) rfl)) (hts (.native arraycopyName) (List.mem_of_getElem? (i := 3) rfl)) (hts (.static arraycopyName) (List.mem_of_getElem? (i := 4) rfl)) (hts (.initialized "java/lang/System") (List.mem_of_getElem? (i := 5) rfl)) hK.1 hP hD hS (6 * 1 + 5) (6 * 6 + 5) 0 0 (wX_c G A S4 r 1 5 (by decide) (by decide) (by decide)) (wX_c G A S4 r 6 5 (by decide) (by decide) (by decide)) rfl rfl rfl (by decide) (by decide) (by decide) (by decide) (by decide) (fun _ _ => rfl) (Nat.le_of_ble_eq_true rfl) (Nat.le_of_ble_eq_true rfl) dX0_copyFrom_72 (fun H locs hP hD hS => ?_)
  rw [wX_sc G A S4 r 6 5 (by decide) (by decide) (by decide) _] at hP hD
  have hP : va_P G.1 vwCl (wX G A (su S4 6 5 (va_cpy (S4 1 5) (S4 6 5) (0 : Int32).toNatClampNeg (0 : Int32).toNatClampNeg (12 : Int32).toNatClampNeg)) r) H := hP
  have hD : va_D A0 (wX G A (su S4 6 5 (va_cpy (S4 1 5) (S4 6 5) (0 : Int32).toNatClampNeg (0 : Int32).toNatClampNeg (12 : Int32).toNatClampNeg)) r) := hD
  generalize hn5 : (su S4 6 5 (va_cpy (S4 1 5) (S4 6 5) (0 : Int32).toNatClampNeg (0 : Int32).toNatClampNeg (12 : Int32).toNatClampNeg)) = S5 at hP hD
  refine lv_aload_n hx hb dX0_copyFrom_75 rfl (lv_at hl 0 rfl) ?_
  refine lv_aload_n hx hb dX0_copyFrom_76 rfl (lv_at hl 1 rfl) ?_
  refine va_get (D := G.1) (ci := 0) (v := .int (S5 1 0 0)) (C := RX0) (T := TX0) (N := 12) hx hb hts hinX0 hown hK.1 hP (6 * 1) (wX_o G A S5 r 1 (by decide)) rfl 5 (by decide) (hts (.fieldLink RX0 43 "WireLoops$Chip" "laid" "I") (List.mem_of_getElem? (i := 10) rfl)) (fun _ h9 => h9) rfl dX0_copyFrom_77 ?_
  refine va_put (D := G.1) (ci := 0) (v := .int (S5 1 0 0)) (ty := .int) (C := RX0) (T := TX0) (N := 12) hx hb hts hinX0 tyX0 tyX0_ok nmX0 hown hK.1 hP hD hS (6 * 6) (wX_o G A S5 r 6 (by decide)) rfl (5 + 0) (by decide) (hts (.fieldLink RX0 43 "WireLoops$Chip" "laid" "I") (List.mem_of_getElem? (i := 10) rfl)) (fun _ h9 => h9) rfl (by decide +kernel) rfl rfl (Nat.le_of_ble_eq_true rfl) dX0_copyFrom_80 (fun H locs hP hD hS => ?_)
  rw [wX_so G A S5 r 6 0 (by decide) (by decide) _] at hP hD
  have hP : va_P G.1 vwCl (wX G A (su S5 6 0 (upd (S5 6 0) 0 (S5 1 0 0))) r) H := hP
  have hD : va_D A0 (wX G A (su S5 6 0 (upd (S5 6 0) 0 (S5 1 0 0))) r) := hD
  generalize hn6 : (su S5 6 0 (upd (S5 6 0) 0 (S5 1 0 0))) = S6 at hP hD
  refine lv_aload_n hx hb dX0_copyFrom_83 rfl (lv_at hl 0 rfl) ?_
  refine lv_aload_n hx hb dX0_copyFrom_84 rfl (lv_at hl 1 rfl) ?_
  refine va_get (D := G.1) (ci := 0) (v := .int (S6 1 0 1)) (C := RX0) (T := TX0) (N := 12) hx hb hts hinX0 hown hK.1 hP (6 * 1) (wX_o G A S6 r 1 (by decide)) rfl 6 (by decide) (hts (.fieldLink RX0 33 "WireLoops$Chip" "width" "I") (List.mem_of_getElem? (i := 11) rfl)) (fun _ h9 => h9) rfl dX0_copyFrom_85 ?_
  refine va_put (D := G.1) (ci := 0) (v := .int (S6 1 0 1)) (ty := .int) (C := RX0) (T := TX0) (N := 12) hx hb hts hinX0 tyX0 tyX0_ok nmX0 hown hK.1 hP hD hS (6 * 6) (wX_o G A S6 r 6 (by decide)) rfl (5 + 1) (by decide) (hts (.fieldLink RX0 33 "WireLoops$Chip" "width" "I") (List.mem_of_getElem? (i := 11) rfl)) (fun _ h9 => h9) rfl (by decide +kernel) rfl rfl (Nat.le_of_ble_eq_true rfl) dX0_copyFrom_88 (fun H locs hP hD hS => ?_)
  rw [wX_so G A S6 r 6 1 (by decide) (by decide) _] at hP hD
  have hP : va_P G.1 vwCl (wX G A (su S6 6 0 (upd (S6 6 0) 1 (S6 1 0 1))) r) H := hP
  have hD : va_D A0 (wX G A (su S6 6 0 (upd (S6 6 0) 1 (S6 1 0 1))) r) := hD
  generalize hn7 : (su S6 6 0 (upd (S6 6 0) 1 (S6 1 0 1))) = S7 at hP hD
  refine lv_aload_n hx hb dX0_copyFrom_91 rfl (lv_at hl 0 rfl) ?_
  refine lv_aload_n hx hb dX0_copyFrom_92 rfl (lv_at hl 1 rfl) ?_
  refine va_get (D := G.1) (ci := 0) (v := .int (S7 1 0 2)) (C := RX0) (T := TX0) (N := 12) hx hb hts hinX0 hown hK.1 hP (6 * 1) (wX_o G A S7 r 1 (by decide)) rfl 7 (by decide) (hts (.fieldLink RX0 46 "WireLoops$Chip" "wear" "I") (List.mem_of_getElem? (i := 12) rfl)) (fun _ h9 => h9) rfl dX0_copyFrom_93 ?_
  refine va_put (D := G.1) (ci := 0) (v := .int (S7 1 0 2)) (ty := .int) (C := RX0) (T := TX0) (N := 12) hx hb hts hinX0 tyX0 tyX0_ok nmX0 hown hK.1 hP hD hS (6 * 6) (wX_o G A S7 r 6 (by decide)) rfl (5 + 2) (by decide) (hts (.fieldLink RX0 46 "WireLoops$Chip" "wear" "I") (List.mem_of_getElem? (i := 12) rfl)) (fun _ h9 => h9) rfl (by decide +kernel) rfl rfl (Nat.le_of_ble_eq_true rfl) dX0_copyFrom_96 (fun H locs hP hD hS => ?_)
  rw [wX_so G A S7 r 6 2 (by decide) (by decide) _] at hP hD
  have hP : va_P G.1 vwCl (wX G A (su S7 6 0 (upd (S7 6 0) 2 (S7 1 0 2))) r) H := hP
  have hD : va_D A0 (wX G A (su S7 6 0 (upd (S7 6 0) 2 (S7 1 0 2))) r) := hD
  generalize hn8 : (su S7 6 0 (upd (S7 6 0) 2 (S7 1 0 2))) = S8 at hP hD
  refine lv_aload_n hx hb dX0_copyFrom_99 rfl (lv_at hl 0 rfl) ?_
  refine lv_aload_n hx hb dX0_copyFrom_100 rfl (lv_at hl 1 rfl) ?_
  refine va_get (D := G.1) (ci := 0) (v := .int (S8 1 0 3)) (C := RX0) (T := TX0) (N := 12) hx hb hts hinX0 hown hK.1 hP (6 * 1) (wX_o G A S8 r 1 (by decide)) rfl 8 (by decide) (hts (.fieldLink RX0 49 "WireLoops$Chip" "toolsChanged" "I") (List.mem_of_getElem? (i := 13) rfl)) (fun _ h9 => h9) rfl dX0_copyFrom_101 ?_
  refine va_put (D := G.1) (ci := 0) (v := .int (S8 1 0 3)) (ty := .int) (C := RX0) (T := TX0) (N := 12) hx hb hts hinX0 tyX0 tyX0_ok nmX0 hown hK.1 hP hD hS (6 * 6) (wX_o G A S8 r 6 (by decide)) rfl (5 + 3) (by decide) (hts (.fieldLink RX0 49 "WireLoops$Chip" "toolsChanged" "I") (List.mem_of_getElem? (i := 13) rfl)) (fun _ h9 => h9) rfl (by decide +kernel) rfl rfl (Nat.le_of_ble_eq_true rfl) dX0_copyFrom_104 (fun H locs hP hD hS => ?_)
  rw [wX_so G A S8 r 6 3 (by decide) (by decide) _] at hP hD
  have hP : va_P G.1 vwCl (wX G A (su S8 6 0 (upd (S8 6 0) 3 (S8 1 0 3))) r) H := hP
  have hD : va_D A0 (wX G A (su S8 6 0 (upd (S8 6 0) 3 (S8 1 0 3))) r) := hD
  generalize hn9 : (su S8 6 0 (upd (S8 6 0) 3 (S8 1 0 3))) = S9 at hP hD
  refine lv_aload_n hx hb dX0_copyFrom_107 rfl (lv_at hl 0 rfl) ?_
  refine lv_aload_n hx hb dX0_copyFrom_108 rfl (lv_at hl 1 rfl) ?_
  refine va_get (D := G.1) (ci := 0) (v := .int (S9 1 0 4)) (C := RX0) (T := TX0) (N := 12) hx hb hts hinX0 hown hK.1 hP (6 * 1) (wX_o G A S9 r 1 (by decide)) rfl 9 (by decide) (hts (.fieldLink RX0 52 "WireLoops$Chip" "tailLost" "Z") (List.mem_of_getElem? (i := 14) rfl)) (fun _ h9 => h9) rfl dX0_copyFrom_109 ?_
  refine va_put (D := G.1) (ci := 0) (v := .int (S9 1 0 4)) (ty := .boolean) (C := RX0) (T := TX0) (N := 12) hx hb hts hinX0 tyX0 tyX0_ok nmX0 hown hK.1 hP hD hS (6 * 6) (wX_o G A S9 r 6 (by decide)) rfl (5 + 4) (by decide) (hts (.fieldLink RX0 52 "WireLoops$Chip" "tailLost" "Z") (List.mem_of_getElem? (i := 14) rfl)) (fun _ h9 => h9) rfl (by decide +kernel) (nb_of (by subst_vars; exact hbj)) (fb_of (by subst_vars; exact hbj)) (Nat.le_of_ble_eq_true rfl) dX0_copyFrom_112 (fun H locs hP hD hS => ?_)
  rw [wX_so G A S9 r 6 4 (by decide) (by decide) _] at hP hD
  have hP : va_P G.1 vwCl (wX G A (su S9 6 0 (upd (S9 6 0) 4 (S9 1 0 4))) r) H := hP
  have hD : va_D A0 (wX G A (su S9 6 0 (upd (S9 6 0) 4 (S9 1 0 4))) r) := hD
  generalize hn10 : (su S9 6 0 (upd (S9 6 0) 4 (S9 1 0 4))) = S10 at hP hD
  refine lv_aload_n hx hb dX0_copyFrom_115 rfl (lv_at hl 0 rfl) ?_
  refine lv_aload_n hx hb dX0_copyFrom_116 rfl (lv_at hl 1 rfl) ?_
  refine va_get (D := G.1) (ci := 0) (v := .int (S10 1 0 5)) (C := RX0) (T := TX0) (N := 12) hx hb hts hinX0 hown hK.1 hP (6 * 1) (wX_o G A S10 r 1 (by decide)) rfl 10 (by decide) (hts (.fieldLink RX0 56 "WireLoops$Chip" "tailsLost" "I") (List.mem_of_getElem? (i := 15) rfl)) (fun _ h9 => h9) rfl dX0_copyFrom_117 ?_
  refine va_put (D := G.1) (ci := 0) (v := .int (S10 1 0 5)) (ty := .int) (C := RX0) (T := TX0) (N := 12) hx hb hts hinX0 tyX0 tyX0_ok nmX0 hown hK.1 hP hD hS (6 * 6) (wX_o G A S10 r 6 (by decide)) rfl (5 + 5) (by decide) (hts (.fieldLink RX0 56 "WireLoops$Chip" "tailsLost" "I") (List.mem_of_getElem? (i := 15) rfl)) (fun _ h9 => h9) rfl (by decide +kernel) rfl rfl (Nat.le_of_ble_eq_true rfl) dX0_copyFrom_120 (fun H locs hP hD hS => ?_)
  rw [wX_so G A S10 r 6 5 (by decide) (by decide) _] at hP hD
  have hP : va_P G.1 vwCl (wX G A (su S10 6 0 (upd (S10 6 0) 5 (S10 1 0 5))) r) H := hP
  have hD : va_D A0 (wX G A (su S10 6 0 (upd (S10 6 0) 5 (S10 1 0 5))) r) := hD
  generalize hn11 : (su S10 6 0 (upd (S10 6 0) 5 (S10 1 0 5))) = S11 at hP hD
  refine lv_aload_n hx hb dX0_copyFrom_123 rfl (lv_at hl 0 rfl) ?_
  refine lv_aload_n hx hb dX0_copyFrom_124 rfl (lv_at hl 1 rfl) ?_
  refine va_get (D := G.1) (ci := 0) (v := .int (S11 1 0 6)) (C := RX0) (T := TX0) (N := 12) hx hb hts hinX0 hown hK.1 hP (6 * 1) (wX_o G A S11 r 1 (by decide)) rfl 11 (by decide) (hts (.fieldLink RX0 59 "WireLoops$Chip" "broken" "I") (List.mem_of_getElem? (i := 16) rfl)) (fun _ h9 => h9) rfl dX0_copyFrom_125 ?_
  refine va_put (D := G.1) (ci := 0) (v := .int (S11 1 0 6)) (ty := .int) (C := RX0) (T := TX0) (N := 12) hx hb hts hinX0 tyX0 tyX0_ok nmX0 hown hK.1 hP hD hS (6 * 6) (wX_o G A S11 r 6 (by decide)) rfl (5 + 6) (by decide) (hts (.fieldLink RX0 59 "WireLoops$Chip" "broken" "I") (List.mem_of_getElem? (i := 16) rfl)) (fun _ h9 => h9) rfl (by decide +kernel) rfl rfl (Nat.le_of_ble_eq_true rfl) dX0_copyFrom_128 (fun H locs hP hD hS => ?_)
  rw [wX_so G A S11 r 6 6 (by decide) (by decide) _] at hP hD
  have hP : va_P G.1 vwCl (wX G A (su S11 6 0 (upd (S11 6 0) 6 (S11 1 0 6))) r) H := hP
  have hD : va_D A0 (wX G A (su S11 6 0 (upd (S11 6 0) 6 (S11 1 0 6))) r) := hD
  generalize hn12 : (su S11 6 0 (upd (S11 6 0) 6 (S11 1 0 6))) = S12 at hP hD
  have he : eqX S12 (sc S 6 1) := by
    subst_vars
    refine ⟨?_, eqR.rfl'⟩
    intro x hx7
    rcases (show x = 0 ∨ x = 1 ∨ x = 2 ∨ x = 3 ∨ x = 4 ∨ x = 5 ∨ x = 6 by omega) with rfl | rfl | rfl | rfl | rfl | rfl | rfl
    · exact eqC.rfl'
    · exact eqC.rfl'
    · exact eqC.rfl'
    · exact eqC.rfl'
    · exact eqC.rfl'
    · exact eqC.rfl'
    · exact ⟨by intro k hk; rcases (show k = 0 ∨ k = 1 ∨ k = 2 ∨ k = 3 ∨ k = 4 ∨ k = 5 ∨ k = 6 by omega) with rfl | rfl | rfl | rfl | rfl | rfl | rfl <;> rfl, cpy16, cpy12, cpy12, cpy12, cpy12⟩
  have hP : va_P G.1 vwCl (wX G A (sc S 6 1) r) H := wX_ext he (fun _ _ => rfl) hP
  have hD : va_D A0 (wX G A (sc S 6 1) r) := wX_D hD
  exact endZ hx hb hr hlocks hP hD hS rfl dX0_copyFrom_131
def f_X0_copyFrom_0_3 (S : XS) : XS := sc S 0 3
theorem e_X0_copyFrom_0_3 (S : XS) : f_X0_copyFrom_0_3 S = sc S 0 3 := rfl
set_option maxHeartbeats 4000000 in
set_option maxRecDepth 100000 in
theorem c_X0_copyFrom_0_3 (l : Launch) (G : GG) (A : Nat → Nat) (S : XS) (r : Nat)  (hbj : S 3 0 4 = 0 ∨ S 3 0 4 = 1) : Mz l yX0_copyFrom wsX0_copyFrom ({ frames := 1, cells := 0, slots := 0, locals := 26 } : Room) G [.ref (A (6 * 0)), .ref (A (6 * 3))] (wX G A S r) (wX G A (f_X0_copyFrom_0_3 S) r) := by
  refine Mz.of (cc := cX0_copyFrom) (maxL := 2) (ret := none) (by decide) rfl (Nat.le_of_ble_eq_true rfl) ?_
  intro p e s m args below meth c A0 hA0 E hr hlocks hP hK hD hA hS ls hl
  have E : CallFix p m c cX0_copyFrom 2 s args wsX0_copyFrom RX0 := E
  have hx := E.1
  have hb := E.2.1
  have hml := E.2.2.1
  have hown := E.2.2.2.1
  have hts := E.2.2.2.2
  have hl : lv_has ls 2 [(0, .ref (A (6 * 0))), (1, .ref (A (6 * 3)))] := hl
  have hinX0 : ∀ w ∈ u_ws RX0 TX0 12, w ∈ wsX0_copyFrom := fun _ h => List.mem_cons_of_mem _ (List.mem_append_right _ h)
  refine lv_aload_n hx hb dX0_copyFrom_0 rfl (lv_at hl 1 rfl) ?_
  refine va_get (D := G.1) (ci := 0) (v := .ref (A (6 * 3 + 1))) (C := RX0) (T := TX0) (N := 12) hx hb hts hinX0 hown hK.1 hP (6 * 3) (wX_o G A S r 3 (by decide)) rfl 0 (by decide) (hts (.fieldLink RX0 9 "WireLoops$Chip" "leadX" "[I") (List.mem_of_getElem? (i := 1) rfl)) (fun _ h9 => h9) rfl dX0_copyFrom_1 ?_
  refine lv_iconst (v := 0) hx hb dX0_copyFrom_4 (by decide) ?_
  refine lv_aload_n hx hb dX0_copyFrom_5 rfl (lv_at hl 0 rfl) ?_
  refine va_get (D := G.1) (ci := 0) (v := .ref (A (6 * 0 + 1))) (C := RX0) (T := TX0) (N := 12) hx hb hts hinX0 hown hK.1 hP (6 * 0) (wX_o G A S r 0 (by decide)) rfl 0 (by decide) (hts (.fieldLink RX0 9 "WireLoops$Chip" "leadX" "[I") (List.mem_of_getElem? (i := 1) rfl)) (fun _ h9 => h9) rfl dX0_copyFrom_6 ?_
  refine lv_iconst (v := 0) hx hb dX0_copyFrom_9 (by decide) ?_
  refine lv_bipush (v := 16) hx hb dX0_copyFrom_10 (by decide) ?_
  refine va_copyi (D := G.1) hx hb (by rw [hml]; exact hl.1.symm) hown (hts (.methodLink RX0 37 arraycopyName) (List.mem_of_getElem? (i := 2) rfl)) (hts (.native arraycopyName) (List.mem_of_getElem? (i := 3) rfl)) (hts (.static arraycopyName) (List.mem_of_getElem? (i := 4) rfl)) (hts (.initialized "java/lang/System") (List.mem_of_getElem? (i := 5) rfl)) hK.1 hP hD hS (6 * 3 + 1) (6 * 0 + 1) 0 0 (wX_1 G A S r 3 (by decide)) (wX_1 G A S r 0 (by decide)) rfl rfl rfl (by decide) (by decide) (by decide) (by decide) (by decide) (fun _ _ => rfl) (Nat.le_of_ble_eq_true rfl) (Nat.le_of_ble_eq_true rfl) dX0_copyFrom_12 (fun H locs hP hD hS => ?_)
  rw [wX_s1 G A S r 0 (by decide) _] at hP hD
  have hP : va_P G.1 vwCl (wX G A (su S 0 1 (va_cpy (S 3 1) (S 0 1) (0 : Int32).toNatClampNeg (0 : Int32).toNatClampNeg (16 : Int32).toNatClampNeg)) r) H := hP
  have hD : va_D A0 (wX G A (su S 0 1 (va_cpy (S 3 1) (S 0 1) (0 : Int32).toNatClampNeg (0 : Int32).toNatClampNeg (16 : Int32).toNatClampNeg)) r) := hD
  generalize hn1 : (su S 0 1 (va_cpy (S 3 1) (S 0 1) (0 : Int32).toNatClampNeg (0 : Int32).toNatClampNeg (16 : Int32).toNatClampNeg)) = S1 at hP hD
  refine lv_aload_n hx hb dX0_copyFrom_15 rfl (lv_at hl 1 rfl) ?_
  refine va_get (D := G.1) (ci := 0) (v := .ref (A (6 * 3 + 2))) (C := RX0) (T := TX0) (N := 12) hx hb hts hinX0 hown hK.1 hP (6 * 3) (wX_o G A S1 r 3 (by decide)) rfl 1 (by decide) (hts (.fieldLink RX0 15 "WireLoops$Chip" "leadOf" "[I") (List.mem_of_getElem? (i := 6) rfl)) (fun _ h9 => h9) rfl dX0_copyFrom_16 ?_
  refine lv_iconst (v := 0) hx hb dX0_copyFrom_19 (by decide) ?_
  refine lv_aload_n hx hb dX0_copyFrom_20 rfl (lv_at hl 0 rfl) ?_
  refine va_get (D := G.1) (ci := 0) (v := .ref (A (6 * 0 + 2))) (C := RX0) (T := TX0) (N := 12) hx hb hts hinX0 hown hK.1 hP (6 * 0) (wX_o G A S1 r 0 (by decide)) rfl 1 (by decide) (hts (.fieldLink RX0 15 "WireLoops$Chip" "leadOf" "[I") (List.mem_of_getElem? (i := 6) rfl)) (fun _ h9 => h9) rfl dX0_copyFrom_21 ?_
  refine lv_iconst (v := 0) hx hb dX0_copyFrom_24 (by decide) ?_
  refine lv_bipush (v := 12) hx hb dX0_copyFrom_25 (by decide) ?_
  refine va_copyi (D := G.1) hx hb (by rw [hml]; exact hl.1.symm) hown (hts (.methodLink RX0 37 arraycopyName) (List.mem_of_getElem? (i := 2) rfl)) (hts (.native arraycopyName) (List.mem_of_getElem? (i := 3) rfl)) (hts (.static arraycopyName) (List.mem_of_getElem? (i := 4) rfl)) (hts (.initialized "java/lang/System") (List.mem_of_getElem? (i := 5) rfl)) hK.1 hP hD hS (6 * 3 + 2) (6 * 0 + 2) 0 0 (wX_c G A S1 r 3 2 (by decide) (by decide) (by decide)) (wX_c G A S1 r 0 2 (by decide) (by decide) (by decide)) rfl rfl rfl (by decide) (by decide) (by decide) (by decide) (by decide) (fun _ _ => rfl) (Nat.le_of_ble_eq_true rfl) (Nat.le_of_ble_eq_true rfl) dX0_copyFrom_27 (fun H locs hP hD hS => ?_)
  rw [wX_sc G A S1 r 0 2 (by decide) (by decide) (by decide) _] at hP hD
  have hP : va_P G.1 vwCl (wX G A (su S1 0 2 (va_cpy (S1 3 2) (S1 0 2) (0 : Int32).toNatClampNeg (0 : Int32).toNatClampNeg (12 : Int32).toNatClampNeg)) r) H := hP
  have hD : va_D A0 (wX G A (su S1 0 2 (va_cpy (S1 3 2) (S1 0 2) (0 : Int32).toNatClampNeg (0 : Int32).toNatClampNeg (12 : Int32).toNatClampNeg)) r) := hD
  generalize hn2 : (su S1 0 2 (va_cpy (S1 3 2) (S1 0 2) (0 : Int32).toNatClampNeg (0 : Int32).toNatClampNeg (12 : Int32).toNatClampNeg)) = S2 at hP hD
  refine lv_aload_n hx hb dX0_copyFrom_30 rfl (lv_at hl 1 rfl) ?_
  refine va_get (D := G.1) (ci := 0) (v := .ref (A (6 * 3 + 3))) (C := RX0) (T := TX0) (N := 12) hx hb hts hinX0 hown hK.1 hP (6 * 3) (wX_o G A S2 r 3 (by decide)) rfl 2 (by decide) (hts (.fieldLink RX0 18 "WireLoops$Chip" "height" "[I") (List.mem_of_getElem? (i := 7) rfl)) (fun _ h9 => h9) rfl dX0_copyFrom_31 ?_
  refine lv_iconst (v := 0) hx hb dX0_copyFrom_34 (by decide) ?_
  refine lv_aload_n hx hb dX0_copyFrom_35 rfl (lv_at hl 0 rfl) ?_
  refine va_get (D := G.1) (ci := 0) (v := .ref (A (6 * 0 + 3))) (C := RX0) (T := TX0) (N := 12) hx hb hts hinX0 hown hK.1 hP (6 * 0) (wX_o G A S2 r 0 (by decide)) rfl 2 (by decide) (hts (.fieldLink RX0 18 "WireLoops$Chip" "height" "[I") (List.mem_of_getElem? (i := 7) rfl)) (fun _ h9 => h9) rfl dX0_copyFrom_36 ?_
  refine lv_iconst (v := 0) hx hb dX0_copyFrom_39 (by decide) ?_
  refine lv_bipush (v := 12) hx hb dX0_copyFrom_40 (by decide) ?_
  refine va_copyi (D := G.1) hx hb (by rw [hml]; exact hl.1.symm) hown (hts (.methodLink RX0 37 arraycopyName) (List.mem_of_getElem? (i := 2) rfl)) (hts (.native arraycopyName) (List.mem_of_getElem? (i := 3) rfl)) (hts (.static arraycopyName) (List.mem_of_getElem? (i := 4) rfl)) (hts (.initialized "java/lang/System") (List.mem_of_getElem? (i := 5) rfl)) hK.1 hP hD hS (6 * 3 + 3) (6 * 0 + 3) 0 0 (wX_c G A S2 r 3 3 (by decide) (by decide) (by decide)) (wX_c G A S2 r 0 3 (by decide) (by decide) (by decide)) rfl rfl rfl (by decide) (by decide) (by decide) (by decide) (by decide) (fun _ _ => rfl) (Nat.le_of_ble_eq_true rfl) (Nat.le_of_ble_eq_true rfl) dX0_copyFrom_42 (fun H locs hP hD hS => ?_)
  rw [wX_sc G A S2 r 0 3 (by decide) (by decide) (by decide) _] at hP hD
  have hP : va_P G.1 vwCl (wX G A (su S2 0 3 (va_cpy (S2 3 3) (S2 0 3) (0 : Int32).toNatClampNeg (0 : Int32).toNatClampNeg (12 : Int32).toNatClampNeg)) r) H := hP
  have hD : va_D A0 (wX G A (su S2 0 3 (va_cpy (S2 3 3) (S2 0 3) (0 : Int32).toNatClampNeg (0 : Int32).toNatClampNeg (12 : Int32).toNatClampNeg)) r) := hD
  generalize hn3 : (su S2 0 3 (va_cpy (S2 3 3) (S2 0 3) (0 : Int32).toNatClampNeg (0 : Int32).toNatClampNeg (12 : Int32).toNatClampNeg)) = S3 at hP hD
  refine lv_aload_n hx hb dX0_copyFrom_45 rfl (lv_at hl 1 rfl) ?_
  refine va_get (D := G.1) (ci := 0) (v := .ref (A (6 * 3 + 4))) (C := RX0) (T := TX0) (N := 12) hx hb hts hinX0 hown hK.1 hP (6 * 3) (wX_o G A S3 r 3 (by decide)) rfl 3 (by decide) (hts (.fieldLink RX0 21 "WireLoops$Chip" "strength" "[I") (List.mem_of_getElem? (i := 8) rfl)) (fun _ h9 => h9) rfl dX0_copyFrom_46 ?_
  refine lv_iconst (v := 0) hx hb dX0_copyFrom_49 (by decide) ?_
  refine lv_aload_n hx hb dX0_copyFrom_50 rfl (lv_at hl 0 rfl) ?_
  refine va_get (D := G.1) (ci := 0) (v := .ref (A (6 * 0 + 4))) (C := RX0) (T := TX0) (N := 12) hx hb hts hinX0 hown hK.1 hP (6 * 0) (wX_o G A S3 r 0 (by decide)) rfl 3 (by decide) (hts (.fieldLink RX0 21 "WireLoops$Chip" "strength" "[I") (List.mem_of_getElem? (i := 8) rfl)) (fun _ h9 => h9) rfl dX0_copyFrom_51 ?_
  refine lv_iconst (v := 0) hx hb dX0_copyFrom_54 (by decide) ?_
  refine lv_bipush (v := 12) hx hb dX0_copyFrom_55 (by decide) ?_
  refine va_copyi (D := G.1) hx hb (by rw [hml]; exact hl.1.symm) hown (hts (.methodLink RX0 37 arraycopyName) (List.mem_of_getElem? (i := 2) rfl)) (hts (.native arraycopyName) (List.mem_of_getElem? (i := 3) rfl)) (hts (.static arraycopyName) (List.mem_of_getElem? (i := 4) rfl)) (hts (.initialized "java/lang/System") (List.mem_of_getElem? (i := 5) rfl)) hK.1 hP hD hS (6 * 3 + 4) (6 * 0 + 4) 0 0 (wX_c G A S3 r 3 4 (by decide) (by decide) (by decide)) (wX_c G A S3 r 0 4 (by decide) (by decide) (by decide)) rfl rfl rfl (by decide) (by decide) (by decide) (by decide) (by decide) (fun _ _ => rfl) (Nat.le_of_ble_eq_true rfl) (Nat.le_of_ble_eq_true rfl) dX0_copyFrom_57 (fun H locs hP hD hS => ?_)
  rw [wX_sc G A S3 r 0 4 (by decide) (by decide) (by decide) _] at hP hD
  have hP : va_P G.1 vwCl (wX G A (su S3 0 4 (va_cpy (S3 3 4) (S3 0 4) (0 : Int32).toNatClampNeg (0 : Int32).toNatClampNeg (12 : Int32).toNatClampNeg)) r) H := hP
  have hD : va_D A0 (wX G A (su S3 0 4 (va_cpy (S3 3 4) (S3 0 4) (0 : Int32).toNatClampNeg (0 : Int32).toNatClampNeg (12 : Int32).toNatClampNeg)) r) := hD
  generalize hn4 : (su S3 0 4 (va_cpy (S3 3 4) (S3 0 4) (0 : Int32).toNatClampNeg (0 : Int32).toNatClampNeg (12 : Int32).toNatClampNeg)) = S4 at hP hD
  refine lv_aload_n hx hb dX0_copyFrom_60 rfl (lv_at hl 1 rfl) ?_
  refine va_get (D := G.1) (ci := 0) (v := .ref (A (6 * 3 + 5))) (C := RX0) (T := TX0) (N := 12) hx hb hts hinX0 hown hK.1 hP (6 * 3) (wX_o G A S4 r 3 (by decide)) rfl 4 (by decide) (hts (.fieldLink RX0 24 "WireLoops$Chip" "number" "[I") (List.mem_of_getElem? (i := 9) rfl)) (fun _ h9 => h9) rfl dX0_copyFrom_61 ?_
  refine lv_iconst (v := 0) hx hb dX0_copyFrom_64 (by decide) ?_
  refine lv_aload_n hx hb dX0_copyFrom_65 rfl (lv_at hl 0 rfl) ?_
  refine va_get (D := G.1) (ci := 0) (v := .ref (A (6 * 0 + 5))) (C := RX0) (T := TX0) (N := 12) hx hb hts hinX0 hown hK.1 hP (6 * 0) (wX_o G A S4 r 0 (by decide)) rfl 4 (by decide) (hts (.fieldLink RX0 24 "WireLoops$Chip" "number" "[I") (List.mem_of_getElem? (i := 9) rfl)) (fun _ h9 => h9) rfl dX0_copyFrom_66 ?_
  refine lv_iconst (v := 0) hx hb dX0_copyFrom_69 (by decide) ?_
  refine lv_bipush (v := 12) hx hb dX0_copyFrom_70 (by decide) ?_
  refine va_copyi (D := G.1) hx hb (by rw [hml]; exact hl.1.symm) hown (hts (.methodLink RX0 37 arraycopyName) (List.mem_of_getElem? (i := 2) rfl)) (hts (.native arraycopyName) (List.mem_of_getElem? (i := 3) rfl)) (hts (.static arraycopyName) (List.mem_of_getElem? (i := 4) rfl)) (hts (.initialized "java/lang/System") (List.mem_of_getElem? (i := 5) rfl)) hK.1 hP hD hS (6 * 3 + 5) (6 * 0 + 5) 0 0 (wX_c G A S4 r 3 5 (by decide) (by decide) (by decide)) (wX_c G A S4 r 0 5 (by decide) (by decide) (by decide)) rfl rfl rfl (by decide) (by decide) (by decide) (by decide) (by decide) (fun _ _ => rfl) (Nat.le_of_ble_eq_true rfl) (Nat.le_of_ble_eq_true rfl) dX0_copyFrom_72 (fun H locs hP hD hS => ?_)
  rw [wX_sc G A S4 r 0 5 (by decide) (by decide) (by decide) _] at hP hD
  have hP : va_P G.1 vwCl (wX G A (su S4 0 5 (va_cpy (S4 3 5) (S4 0 5) (0 : Int32).toNatClampNeg (0 : Int32).toNatClampNeg (12 : Int32).toNatClampNeg)) r) H := hP
  have hD : va_D A0 (wX G A (su S4 0 5 (va_cpy (S4 3 5) (S4 0 5) (0 : Int32).toNatClampNeg (0 : Int32).toNatClampNeg (12 : Int32).toNatClampNeg)) r) := hD
  generalize hn5 : (su S4 0 5 (va_cpy (S4 3 5) (S4 0 5) (0 : Int32).toNatClampNeg (0 : Int32).toNatClampNeg (12 : Int32).toNatClampNeg)) = S5 at hP hD
  refine lv_aload_n hx hb dX0_copyFrom_75 rfl (lv_at hl 0 rfl) ?_
  refine lv_aload_n hx hb dX0_copyFrom_76 rfl (lv_at hl 1 rfl) ?_
  refine va_get (D := G.1) (ci := 0) (v := .int (S5 3 0 0)) (C := RX0) (T := TX0) (N := 12) hx hb hts hinX0 hown hK.1 hP (6 * 3) (wX_o G A S5 r 3 (by decide)) rfl 5 (by decide) (hts (.fieldLink RX0 43 "WireLoops$Chip" "laid" "I") (List.mem_of_getElem? (i := 10) rfl)) (fun _ h9 => h9) rfl dX0_copyFrom_77 ?_
  refine va_put (D := G.1) (ci := 0) (v := .int (S5 3 0 0)) (ty := .int) (C := RX0) (T := TX0) (N := 12) hx hb hts hinX0 tyX0 tyX0_ok nmX0 hown hK.1 hP hD hS (6 * 0) (wX_o G A S5 r 0 (by decide)) rfl (5 + 0) (by decide) (hts (.fieldLink RX0 43 "WireLoops$Chip" "laid" "I") (List.mem_of_getElem? (i := 10) rfl)) (fun _ h9 => h9) rfl (by decide +kernel) rfl rfl (Nat.le_of_ble_eq_true rfl) dX0_copyFrom_80 (fun H locs hP hD hS => ?_)
  rw [wX_so G A S5 r 0 0 (by decide) (by decide) _] at hP hD
  have hP : va_P G.1 vwCl (wX G A (su S5 0 0 (upd (S5 0 0) 0 (S5 3 0 0))) r) H := hP
  have hD : va_D A0 (wX G A (su S5 0 0 (upd (S5 0 0) 0 (S5 3 0 0))) r) := hD
  generalize hn6 : (su S5 0 0 (upd (S5 0 0) 0 (S5 3 0 0))) = S6 at hP hD
  refine lv_aload_n hx hb dX0_copyFrom_83 rfl (lv_at hl 0 rfl) ?_
  refine lv_aload_n hx hb dX0_copyFrom_84 rfl (lv_at hl 1 rfl) ?_
  refine va_get (D := G.1) (ci := 0) (v := .int (S6 3 0 1)) (C := RX0) (T := TX0) (N := 12) hx hb hts hinX0 hown hK.1 hP (6 * 3) (wX_o G A S6 r 3 (by decide)) rfl 6 (by decide) (hts (.fieldLink RX0 33 "WireLoops$Chip" "width" "I") (List.mem_of_getElem? (i := 11) rfl)) (fun _ h9 => h9) rfl dX0_copyFrom_85 ?_
  refine va_put (D := G.1) (ci := 0) (v := .int (S6 3 0 1)) (ty := .int) (C := RX0) (T := TX0) (N := 12) hx hb hts hinX0 tyX0 tyX0_ok nmX0 hown hK.1 hP hD hS (6 * 0) (wX_o G A S6 r 0 (by decide)) rfl (5 + 1) (by decide) (hts (.fieldLink RX0 33 "WireLoops$Chip" "width" "I") (List.mem_of_getElem? (i := 11) rfl)) (fun _ h9 => h9) rfl (by decide +kernel) rfl rfl (Nat.le_of_ble_eq_true rfl) dX0_copyFrom_88 (fun H locs hP hD hS => ?_)
  rw [wX_so G A S6 r 0 1 (by decide) (by decide) _] at hP hD
  have hP : va_P G.1 vwCl (wX G A (su S6 0 0 (upd (S6 0 0) 1 (S6 3 0 1))) r) H := hP
  have hD : va_D A0 (wX G A (su S6 0 0 (upd (S6 0 0) 1 (S6 3 0 1))) r) := hD
  generalize hn7 : (su S6 0 0 (upd (S6 0 0) 1 (S6 3 0 1))) = S7 at hP hD
  refine lv_aload_n hx hb dX0_copyFrom_91 rfl (lv_at hl 0 rfl) ?_
  refine lv_aload_n hx hb dX0_copyFrom_92 rfl (lv_at hl 1 rfl) ?_
  refine va_get (D := G.1) (ci := 0) (v := .int (S7 3 0 2)) (C := RX0) (T := TX0) (N := 12) hx hb hts hinX0 hown hK.1 hP (6 * 3) (wX_o G A S7 r 3 (by decide)) rfl 7 (by decide) (hts (.fieldLink RX0 46 "WireLoops$Chip" "wear" "I") (List.mem_of_getElem? (i := 12) rfl)) (fun _ h9 => h9) rfl dX0_copyFrom_93 ?_
  refine va_put (D := G.1) (ci := 0) (v := .int (S7 3 0 2)) (ty := .int) (C := RX0) (T := TX0) (N := 12) hx hb hts hinX0 tyX0 tyX0_ok nmX0 hown hK.1 hP hD hS (6 * 0) (wX_o G A S7 r 0 (by decide)) rfl (5 + 2) (by decide) (hts (.fieldLink RX0 46 "WireLoops$Chip" "wear" "I") (List.mem_of_getElem? (i := 12) rfl)) (fun _ h9 => h9) rfl (by decide +kernel) rfl rfl (Nat.le_of_ble_eq_true rfl) dX0_copyFrom_96 (fun H locs hP hD hS => ?_)
  rw [wX_so G A S7 r 0 2 (by decide) (by decide) _] at hP hD
  have hP : va_P G.1 vwCl (wX G A (su S7 0 0 (upd (S7 0 0) 2 (S7 3 0 2))) r) H := hP
  have hD : va_D A0 (wX G A (su S7 0 0 (upd (S7 0 0) 2 (S7 3 0 2))) r) := hD
  generalize hn8 : (su S7 0 0 (upd (S7 0 0) 2 (S7 3 0 2))) = S8 at hP hD
  refine lv_aload_n hx hb dX0_copyFrom_99 rfl (lv_at hl 0 rfl) ?_
  refine lv_aload_n hx hb dX0_copyFrom_100 rfl (lv_at hl 1 rfl) ?_
  refine va_get (D := G.1) (ci := 0) (v := .int (S8 3 0 3)) (C := RX0) (T := TX0) (N := 12) hx hb hts hinX0 hown hK.1 hP (6 * 3) (wX_o G A S8 r 3 (by decide)) rfl 8 (by decide) (hts (.fieldLink RX0 49 "WireLoops$Chip" "toolsChanged" "I") (List.mem_of_getElem? (i := 13) rfl)) (fun _ h9 => h9) rfl dX0_copyFrom_101 ?_
  refine va_put (D := G.1) (ci := 0) (v := .int (S8 3 0 3)) (ty := .int) (C := RX0) (T := TX0) (N := 12) hx hb hts hinX0 tyX0 tyX0_ok nmX0 hown hK.1 hP hD hS (6 * 0) (wX_o G A S8 r 0 (by decide)) rfl (5 + 3) (by decide) (hts (.fieldLink RX0 49 "WireLoops$Chip" "toolsChanged" "I") (List.mem_of_getElem? (i := 13) rfl)) (fun _ h9 => h9) rfl (by decide +kernel) rfl rfl (Nat.le_of_ble_eq_true rfl) dX0_copyFrom_104 (fun H locs hP hD hS => ?_)
  rw [wX_so G A S8 r 0 3 (by decide) (by decide) _] at hP hD
  have hP : va_P G.1 vwCl (wX G A (su S8 0 0 (upd (S8 0 0) 3 (S8 3 0 3))) r) H := hP
  have hD : va_D A0 (wX G A (su S8 0 0 (upd (S8 0 0) 3 (S8 3 0 3))) r) := hD
  generalize hn9 : (su S8 0 0 (upd (S8 0 0) 3 (S8 3 0 3))) = S9 at hP hD
  refine lv_aload_n hx hb dX0_copyFrom_107 rfl (lv_at hl 0 rfl) ?_
  refine lv_aload_n hx hb dX0_copyFrom_108 rfl (lv_at hl 1 rfl) ?_
  refine va_get (D := G.1) (ci := 0) (v := .int (S9 3 0 4)) (C := RX0) (T := TX0) (N := 12) hx hb hts hinX0 hown hK.1 hP (6 * 3) (wX_o G A S9 r 3 (by decide)) rfl 9 (by decide) (hts (.fieldLink RX0 52 "WireLoops$Chip" "tailLost" "Z") (List.mem_of_getElem? (i := 14) rfl)) (fun _ h9 => h9) rfl dX0_copyFrom_109 ?_
  refine va_put (D := G.1) (ci := 0) (v := .int (S9 3 0 4)) (ty := .boolean) (C := RX0) (T := TX0) (N := 12) hx hb hts hinX0 tyX0 tyX0_ok nmX0 hown hK.1 hP hD hS (6 * 0) (wX_o G A S9 r 0 (by decide)) rfl (5 + 4) (by decide) (hts (.fieldLink RX0 52 "WireLoops$Chip" "tailLost" "Z") (List.mem_of_getElem? (i := 14) rfl)) (fun _ h9 => h9) rfl (by decide +kernel) (nb_of (by subst_vars; exact hbj)) (fb_of (by subst_vars; exact hbj)) (Nat.le_of_ble_eq_true rfl) dX0_copyFrom_112 (fun H locs hP hD hS => ?_)
  rw [wX_so G A S9 r 0 4 (by decide) (by decide) _] at hP hD
  have hP : va_P G.1 vwCl (wX G A (su S9 0 0 (upd (S9 0 0) 4 (S9 3 0 4))) r) H := hP
  have hD : va_D A0 (wX G A (su S9 0 0 (upd (S9 0 0) 4 (S9 3 0 4))) r) := hD
  generalize hn10 : (su S9 0 0 (upd (S9 0 0) 4 (S9 3 0 4))) = S10 at hP hD
  refine lv_aload_n hx hb dX0_copyFrom_115 rfl (lv_at hl 0 rfl) ?_
  refine lv_aload_n hx hb dX0_copyFrom_116 rfl (lv_at hl 1 rfl) ?_
  refine va_get (D := G.1) (ci := 0) (v := .int (S10 3 0 5)) (C := RX0) (T := TX0) (N := 12) hx hb hts hinX0 hown hK.1 hP (6 * 3) (wX_o G A S10 r 3 (by decide)) rfl 10 (by decide) (hts (.fieldLink RX0 56 "WireLoops$Chip" "tailsLost" "I") (List.mem_of_getElem? (i := 15) rfl)) (fun _ h9 => h9) rfl dX0_copyFrom_117 ?_
  refine va_put (D := G.1) (ci := 0) (v := .int (S10 3 0 5)) (ty := .int) (C := RX0) (T := TX0) (N := 12) hx hb hts hinX0 tyX0 tyX0_ok nmX0 hown hK.1 hP hD hS (6 * 0) (wX_o G A S10 r 0 (by decide)) rfl (5 + 5) (by decide) (hts (.fieldLink RX0 56 "WireLoops$Chip" "tailsLost" "I") (List.mem_of_getElem? (i := 15) rfl)) (fun _ h9 => h9) rfl (by decide +kernel) rfl rfl (Nat.le_of_ble_eq_true rfl) dX0_copyFrom_120 (fun H locs hP hD hS => ?_)
  rw [wX_so G A S10 r 0 5 (by decide) (by decide) _] at hP hD
  have hP : va_P G.1 vwCl (wX G A (su S10 0 0 (upd (S10 0 0) 5 (S10 3 0 5))) r) H := hP
  have hD : va_D A0 (wX G A (su S10 0 0 (upd (S10 0 0) 5 (S10 3 0 5))) r) := hD
  generalize hn11 : (su S10 0 0 (upd (S10 0 0) 5 (S10 3 0 5))) = S11 at hP hD
  refine lv_aload_n hx hb dX0_copyFrom_123 rfl (lv_at hl 0 rfl) ?_
  refine lv_aload_n hx hb dX0_copyFrom_124 rfl (lv_at hl 1 rfl) ?_
  refine va_get (D := G.1) (ci := 0) (v := .int (S11 3 0 6)) (C := RX0) (T := TX0) (N := 12) hx hb hts hinX0 hown hK.1 hP (6 * 3) (wX_o G A S11 r 3 (by decide)) rfl 11 (by decide) (hts (.fieldLink RX0 59 "WireLoops$Chip" "broken" "I") (List.mem_of_getElem? (i := 16) rfl)) (fun _ h9 => h9) rfl dX0_copyFrom_125 ?_
  refine va_put (D := G.1) (ci := 0) (v := .int (S11 3 0 6)) (ty := .int) (C := RX0) (T := TX0) (N := 12) hx hb hts hinX0 tyX0 tyX0_ok nmX0 hown hK.1 hP hD hS (6 * 0) (wX_o G A S11 r 0 (by decide)) rfl (5 + 6) (by decide) (hts (.fieldLink RX0 59 "WireLoops$Chip" "broken" "I") (List.mem_of_getElem? (i := 16) rfl)) (fun _ h9 => h9) rfl (by decide +kernel) rfl rfl (Nat.le_of_ble_eq_true rfl) dX0_copyFrom_128 (fun H locs hP hD hS => ?_)
  rw [wX_so G A S11 r 0 6 (by decide) (by decide) _] at hP hD
  have hP : va_P G.1 vwCl (wX G A (su S11 0 0 (upd (S11 0 0) 6 (S11 3 0 6))) r) H := hP
  have hD : va_D A0 (wX G A (su S11 0 0 (upd (S11 0 0) 6 (S11 3 0 6))) r) := hD
  generalize hn12 : (su S11 0 0 (upd (S11 0 0) 6 (S11 3 0 6))) = S12 at hP hD
  have he : eqX S12 (sc S 0 3) := by
    subst_vars
    refine ⟨?_, eqR.rfl'⟩
    intro x hx7
    rcases (show x = 0 ∨ x = 1 ∨ x = 2 ∨ x = 3 ∨ x = 4 ∨ x = 5 ∨ x = 6 by omega) with rfl | rfl | rfl | rfl | rfl | rfl | rfl
    · exact ⟨by intro k hk; rcases (show k = 0 ∨ k = 1 ∨ k = 2 ∨ k = 3 ∨ k = 4 ∨ k = 5 ∨ k = 6 by omega) with rfl | rfl | rfl | rfl | rfl | rfl | rfl <;> rfl, cpy16, cpy12, cpy12, cpy12, cpy12⟩
    · exact eqC.rfl'
    · exact eqC.rfl'
    · exact eqC.rfl'
    · exact eqC.rfl'
    · exact eqC.rfl'
    · exact eqC.rfl'
  have hP : va_P G.1 vwCl (wX G A (sc S 0 3) r) H := wX_ext he (fun _ _ => rfl) hP
  have hD : va_D A0 (wX G A (sc S 0 3) r) := wX_D hD
  exact endZ hx hb hr hlocks hP hD hS rfl dX0_copyFrom_131
def f_X0_copyFrom_0_4 (S : XS) : XS := sc S 0 4
theorem e_X0_copyFrom_0_4 (S : XS) : f_X0_copyFrom_0_4 S = sc S 0 4 := rfl
set_option maxHeartbeats 4000000 in
set_option maxRecDepth 100000 in
theorem c_X0_copyFrom_0_4 (l : Launch) (G : GG) (A : Nat → Nat) (S : XS) (r : Nat)  (hbj : S 4 0 4 = 0 ∨ S 4 0 4 = 1) : Mz l yX0_copyFrom wsX0_copyFrom ({ frames := 1, cells := 0, slots := 0, locals := 26 } : Room) G [.ref (A (6 * 0)), .ref (A (6 * 4))] (wX G A S r) (wX G A (f_X0_copyFrom_0_4 S) r) := by
  refine Mz.of (cc := cX0_copyFrom) (maxL := 2) (ret := none) (by decide) rfl (Nat.le_of_ble_eq_true rfl) ?_
  intro p e s m args below meth c A0 hA0 E hr hlocks hP hK hD hA hS ls hl
  have E : CallFix p m c cX0_copyFrom 2 s args wsX0_copyFrom RX0 := E
  have hx := E.1
  have hb := E.2.1
  have hml := E.2.2.1
  have hown := E.2.2.2.1
  have hts := E.2.2.2.2
  have hl : lv_has ls 2 [(0, .ref (A (6 * 0))), (1, .ref (A (6 * 4)))] := hl
  have hinX0 : ∀ w ∈ u_ws RX0 TX0 12, w ∈ wsX0_copyFrom := fun _ h => List.mem_cons_of_mem _ (List.mem_append_right _ h)
  refine lv_aload_n hx hb dX0_copyFrom_0 rfl (lv_at hl 1 rfl) ?_
  refine va_get (D := G.1) (ci := 0) (v := .ref (A (6 * 4 + 1))) (C := RX0) (T := TX0) (N := 12) hx hb hts hinX0 hown hK.1 hP (6 * 4) (wX_o G A S r 4 (by decide)) rfl 0 (by decide) (hts (.fieldLink RX0 9 "WireLoops$Chip" "leadX" "[I") (List.mem_of_getElem? (i := 1) rfl)) (fun _ h9 => h9) rfl dX0_copyFrom_1 ?_
  refine lv_iconst (v := 0) hx hb dX0_copyFrom_4 (by decide) ?_
  refine lv_aload_n hx hb dX0_copyFrom_5 rfl (lv_at hl 0 rfl) ?_
  refine va_get (D := G.1) (ci := 0) (v := .ref (A (6 * 0 + 1))) (C := RX0) (T := TX0) (N := 12) hx hb hts hinX0 hown hK.1 hP (6 * 0) (wX_o G A S r 0 (by decide)) rfl 0 (by decide) (hts (.fieldLink RX0 9 "WireLoops$Chip" "leadX" "[I") (List.mem_of_getElem? (i := 1) rfl)) (fun _ h9 => h9) rfl dX0_copyFrom_6 ?_
  refine lv_iconst (v := 0) hx hb dX0_copyFrom_9 (by decide) ?_
  refine lv_bipush (v := 16) hx hb dX0_copyFrom_10 (by decide) ?_
  refine va_copyi (D := G.1) hx hb (by rw [hml]; exact hl.1.symm) hown (hts (.methodLink RX0 37 arraycopyName) (List.mem_of_getElem? (i := 2) rfl)) (hts (.native arraycopyName) (List.mem_of_getElem? (i := 3) rfl)) (hts (.static arraycopyName) (List.mem_of_getElem? (i := 4) rfl)) (hts (.initialized "java/lang/System") (List.mem_of_getElem? (i := 5) rfl)) hK.1 hP hD hS (6 * 4 + 1) (6 * 0 + 1) 0 0 (wX_1 G A S r 4 (by decide)) (wX_1 G A S r 0 (by decide)) rfl rfl rfl (by decide) (by decide) (by decide) (by decide) (by decide) (fun _ _ => rfl) (Nat.le_of_ble_eq_true rfl) (Nat.le_of_ble_eq_true rfl) dX0_copyFrom_12 (fun H locs hP hD hS => ?_)
  rw [wX_s1 G A S r 0 (by decide) _] at hP hD
  have hP : va_P G.1 vwCl (wX G A (su S 0 1 (va_cpy (S 4 1) (S 0 1) (0 : Int32).toNatClampNeg (0 : Int32).toNatClampNeg (16 : Int32).toNatClampNeg)) r) H := hP
  have hD : va_D A0 (wX G A (su S 0 1 (va_cpy (S 4 1) (S 0 1) (0 : Int32).toNatClampNeg (0 : Int32).toNatClampNeg (16 : Int32).toNatClampNeg)) r) := hD
  generalize hn1 : (su S 0 1 (va_cpy (S 4 1) (S 0 1) (0 : Int32).toNatClampNeg (0 : Int32).toNatClampNeg (16 : Int32).toNatClampNeg)) = S1 at hP hD
  refine lv_aload_n hx hb dX0_copyFrom_15 rfl (lv_at hl 1 rfl) ?_
  refine va_get (D := G.1) (ci := 0) (v := .ref (A (6 * 4 + 2))) (C := RX0) (T := TX0) (N := 12) hx hb hts hinX0 hown hK.1 hP (6 * 4) (wX_o G A S1 r 4 (by decide)) rfl 1 (by decide) (hts (.fieldLink RX0 15 "WireLoops$Chip" "leadOf" "[I") (List.mem_of_getElem? (i := 6) rfl)) (fun _ h9 => h9) rfl dX0_copyFrom_16 ?_
  refine lv_iconst (v := 0) hx hb dX0_copyFrom_19 (by decide) ?_
  refine lv_aload_n hx hb dX0_copyFrom_20 rfl (lv_at hl 0 rfl) ?_
  refine va_get (D := G.1) (ci := 0) (v := .ref (A (6 * 0 + 2))) (C := RX0) (T := TX0) (N := 12) hx hb hts hinX0 hown hK.1 hP (6 * 0) (wX_o G A S1 r 0 (by decide)) rfl 1 (by decide) (hts (.fieldLink RX0 15 "WireLoops$Chip" "leadOf" "[I") (List.mem_of_getElem? (i := 6) rfl)) (fun _ h9 => h9) rfl dX0_copyFrom_21 ?_
  refine lv_iconst (v := 0) hx hb dX0_copyFrom_24 (by decide) ?_
  refine lv_bipush (v := 12) hx hb dX0_copyFrom_25 (by decide) ?_
  refine va_copyi (D := G.1) hx hb (by rw [hml]; exact hl.1.symm) hown (hts (.methodLink RX0 37 arraycopyName) (List.mem_of_getElem? (i := 2) rfl)) (hts (.native arraycopyName) (List.mem_of_getElem? (i := 3) rfl)) (hts (.static arraycopyName) (List.mem_of_getElem? (i := 4) rfl)) (hts (.initialized "java/lang/System") (List.mem_of_getElem? (i := 5) rfl)) hK.1 hP hD hS (6 * 4 + 2) (6 * 0 + 2) 0 0 (wX_c G A S1 r 4 2 (by decide) (by decide) (by decide)) (wX_c G A S1 r 0 2 (by decide) (by decide) (by decide)) rfl rfl rfl (by decide) (by decide) (by decide) (by decide) (by decide) (fun _ _ => rfl) (Nat.le_of_ble_eq_true rfl) (Nat.le_of_ble_eq_true rfl) dX0_copyFrom_27 (fun H locs hP hD hS => ?_)
  rw [wX_sc G A S1 r 0 2 (by decide) (by decide) (by decide) _] at hP hD
  have hP : va_P G.1 vwCl (wX G A (su S1 0 2 (va_cpy (S1 4 2) (S1 0 2) (0 : Int32).toNatClampNeg (0 : Int32).toNatClampNeg (12 : Int32).toNatClampNeg)) r) H := hP
  have hD : va_D A0 (wX G A (su S1 0 2 (va_cpy (S1 4 2) (S1 0 2) (0 : Int32).toNatClampNeg (0 : Int32).toNatClampNeg (12 : Int32).toNatClampNeg)) r) := hD
  generalize hn2 : (su S1 0 2 (va_cpy (S1 4 2) (S1 0 2) (0 : Int32).toNatClampNeg (0 : Int32).toNatClampNeg (12 : Int32).toNatClampNeg)) = S2 at hP hD
  refine lv_aload_n hx hb dX0_copyFrom_30 rfl (lv_at hl 1 rfl) ?_
  refine va_get (D := G.1) (ci := 0) (v := .ref (A (6 * 4 + 3))) (C := RX0) (T := TX0) (N := 12) hx hb hts hinX0 hown hK.1 hP (6 * 4) (wX_o G A S2 r 4 (by decide)) rfl 2 (by decide) (hts (.fieldLink RX0 18 "WireLoops$Chip" "height" "[I") (List.mem_of_getElem? (i := 7) rfl)) (fun _ h9 => h9) rfl dX0_copyFrom_31 ?_
  refine lv_iconst (v := 0) hx hb dX0_copyFrom_34 (by decide) ?_
  refine lv_aload_n hx hb dX0_copyFrom_35 rfl (lv_at hl 0 rfl) ?_
  refine va_get (D := G.1) (ci := 0) (v := .ref (A (6 * 0 + 3))) (C := RX0) (T := TX0) (N := 12) hx hb hts hinX0 hown hK.1 hP (6 * 0) (wX_o G A S2 r 0 (by decide)) rfl 2 (by decide) (hts (.fieldLink RX0 18 "WireLoops$Chip" "height" "[I") (List.mem_of_getElem? (i := 7) rfl)) (fun _ h9 => h9) rfl dX0_copyFrom_36 ?_
  refine lv_iconst (v := 0) hx hb dX0_copyFrom_39 (by decide) ?_
  refine lv_bipush (v := 12) hx hb dX0_copyFrom_40 (by decide) ?_
  refine va_copyi (D := G.1) hx hb (by rw [hml]; exact hl.1.symm) hown (hts (.methodLink RX0 37 arraycopyName) (List.mem_of_getElem? (i := 2) rfl)) (hts (.native arraycopyName) (List.mem_of_getElem? (i := 3) rfl)) (hts (.static arraycopyName) (List.mem_of_getElem? (i := 4) rfl)) (hts (.initialized "java/lang/System") (List.mem_of_getElem? (i := 5) rfl)) hK.1 hP hD hS (6 * 4 + 3) (6 * 0 + 3) 0 0 (wX_c G A S2 r 4 3 (by decide) (by decide) (by decide)) (wX_c G A S2 r 0 3 (by decide) (by decide) (by decide)) rfl rfl rfl (by decide) (by decide) (by decide) (by decide) (by decide) (fun _ _ => rfl) (Nat.le_of_ble_eq_true rfl) (Nat.le_of_ble_eq_true rfl) dX0_copyFrom_42 (fun H locs hP hD hS => ?_)
  rw [wX_sc G A S2 r 0 3 (by decide) (by decide) (by decide) _] at hP hD
  have hP : va_P G.1 vwCl (wX G A (su S2 0 3 (va_cpy (S2 4 3) (S2 0 3) (0 : Int32).toNatClampNeg (0 : Int32).toNatClampNeg (12 : Int32).toNatClampNeg)) r) H := hP
  have hD : va_D A0 (wX G A (su S2 0 3 (va_cpy (S2 4 3) (S2 0 3) (0 : Int32).toNatClampNeg (0 : Int32).toNatClampNeg (12 : Int32).toNatClampNeg)) r) := hD
  generalize hn3 : (su S2 0 3 (va_cpy (S2 4 3) (S2 0 3) (0 : Int32).toNatClampNeg (0 : Int32).toNatClampNeg (12 : Int32).toNatClampNeg)) = S3 at hP hD
  refine lv_aload_n hx hb dX0_copyFrom_45 rfl (lv_at hl 1 rfl) ?_
  refine va_get (D := G.1) (ci := 0) (v := .ref (A (6 * 4 + 4))) (C := RX0) (T := TX0) (N := 12) hx hb hts hinX0 hown hK.1 hP (6 * 4) (wX_o G A S3 r 4 (by decide)) rfl 3 (by decide) (hts (.fieldLink RX0 21 "WireLoops$Chip" "strength" "[I") (List.mem_of_getElem? (i := 8) rfl)) (fun _ h9 => h9) rfl dX0_copyFrom_46 ?_
  refine lv_iconst (v := 0) hx hb dX0_copyFrom_49 (by decide) ?_
  refine lv_aload_n hx hb dX0_copyFrom_50 rfl (lv_at hl 0 rfl) ?_
  refine va_get (D := G.1) (ci := 0) (v := .ref (A (6 * 0 + 4))) (C := RX0) (T := TX0) (N := 12) hx hb hts hinX0 hown hK.1 hP (6 * 0) (wX_o G A S3 r 0 (by decide)) rfl 3 (by decide) (hts (.fieldLink RX0 21 "WireLoops$Chip" "strength" "[I") (List.mem_of_getElem? (i := 8) rfl)) (fun _ h9 => h9) rfl dX0_copyFrom_51 ?_
  refine lv_iconst (v := 0) hx hb dX0_copyFrom_54 (by decide) ?_
  refine lv_bipush (v := 12) hx hb dX0_copyFrom_55 (by decide) ?_
  refine va_copyi (D := G.1) hx hb (by rw [hml]; exact hl.1.symm) hown (hts (.methodLink RX0 37 arraycopyName) (List.mem_of_getElem? (i := 2) rfl)) (hts (.native arraycopyName) (List.mem_of_getElem? (i := 3) rfl)) (hts (.static arraycopyName) (List.mem_of_getElem? (i := 4) rfl)) (hts (.initialized "java/lang/System") (List.mem_of_getElem? (i := 5) rfl)) hK.1 hP hD hS (6 * 4 + 4) (6 * 0 + 4) 0 0 (wX_c G A S3 r 4 4 (by decide) (by decide) (by decide)) (wX_c G A S3 r 0 4 (by decide) (by decide) (by decide)) rfl rfl rfl (by decide) (by decide) (by decide) (by decide) (by decide) (fun _ _ => rfl) (Nat.le_of_ble_eq_true rfl) (Nat.le_of_ble_eq_true rfl) dX0_copyFrom_57 (fun H locs hP hD hS => ?_)
  rw [wX_sc G A S3 r 0 4 (by decide) (by decide) (by decide) _] at hP hD
  have hP : va_P G.1 vwCl (wX G A (su S3 0 4 (va_cpy (S3 4 4) (S3 0 4) (0 : Int32).toNatClampNeg (0 : Int32).toNatClampNeg (12 : Int32).toNatClampNeg)) r) H := hP
  have hD : va_D A0 (wX G A (su S3 0 4 (va_cpy (S3 4 4) (S3 0 4) (0 : Int32).toNatClampNeg (0 : Int32).toNatClampNeg (12 : Int32).toNatClampNeg)) r) := hD
  generalize hn4 : (su S3 0 4 (va_cpy (S3 4 4) (S3 0 4) (0 : Int32).toNatClampNeg (0 : Int32).toNatClampNeg (12 : Int32).toNatClampNeg)) = S4 at hP hD
  refine lv_aload_n hx hb dX0_copyFrom_60 rfl (lv_at hl 1 rfl) ?_
  refine va_get (D := G.1) (ci := 0) (v := .ref (A (6 * 4 + 5))) (C := RX0) (T := TX0) (N := 12) hx hb hts hinX0 hown hK.1 hP (6 * 4) (wX_o G A S4 r 4 (by decide)) rfl 4 (by decide) (hts (.fieldLink RX0 24 "WireLoops$Chip" "number" "[I") (List.mem_of_getElem? (i := 9) rfl)) (fun _ h9 => h9) rfl dX0_copyFrom_61 ?_
  refine lv_iconst (v := 0) hx hb dX0_copyFrom_64 (by decide) ?_
  refine lv_aload_n hx hb dX0_copyFrom_65 rfl (lv_at hl 0 rfl) ?_
  refine va_get (D := G.1) (ci := 0) (v := .ref (A (6 * 0 + 5))) (C := RX0) (T := TX0) (N := 12) hx hb hts hinX0 hown hK.1 hP (6 * 0) (wX_o G A S4 r 0 (by decide)) rfl 4 (by decide) (hts (.fieldLink RX0 24 "WireLoops$Chip" "number" "[I") (List.mem_of_getElem? (i := 9) rfl)) (fun _ h9 => h9) rfl dX0_copyFrom_66 ?_
  refine lv_iconst (v := 0) hx hb dX0_copyFrom_69 (by decide) ?_
  refine lv_bipush (v := 12) hx hb dX0_copyFrom_70 (by decide) ?_
  refine va_copyi (D := G.1) hx hb (by rw [hml]; exact hl.1.symm) hown (hts (.methodLink RX0 37 arraycopyName) (List.mem_of_getElem? (i := 2) rfl)) (hts (.native arraycopyName) (List.mem_of_getElem? (i := 3) rfl)) (hts (.static arraycopyName) (List.mem_of_getElem? (i := 4) rfl)) (hts (.initialized "java/lang/System") (List.mem_of_getElem? (i := 5) rfl)) hK.1 hP hD hS (6 * 4 + 5) (6 * 0 + 5) 0 0 (wX_c G A S4 r 4 5 (by decide) (by decide) (by decide)) (wX_c G A S4 r 0 5 (by decide) (by decide) (by decide)) rfl rfl rfl (by decide) (by decide) (by decide) (by decide) (by decide) (fun _ _ => rfl) (Nat.le_of_ble_eq_true rfl) (Nat.le_of_ble_eq_true rfl) dX0_copyFrom_72 (fun H locs hP hD hS => ?_)
  rw [wX_sc G A S4 r 0 5 (by decide) (by decide) (by decide) _] at hP hD
  have hP : va_P G.1 vwCl (wX G A (su S4 0 5 (va_cpy (S4 4 5) (S4 0 5) (0 : Int32).toNatClampNeg (0 : Int32).toNatClampNeg (12 : Int32).toNatClampNeg)) r) H := hP
  have hD : va_D A0 (wX G A (su S4 0 5 (va_cpy (S4 4 5) (S4 0 5) (0 : Int32).toNatClampNeg (0 : Int32).toNatClampNeg (12 : Int32).toNatClampNeg)) r) := hD
  generalize hn5 : (su S4 0 5 (va_cpy (S4 4 5) (S4 0 5) (0 : Int32).toNatClampNeg (0 : Int32).toNatClampNeg (12 : Int32).toNatClampNeg)) = S5 at hP hD
  refine lv_aload_n hx hb dX0_copyFrom_75 rfl (lv_at hl 0 rfl) ?_
  refine lv_aload_n hx hb dX0_copyFrom_76 rfl (lv_at hl 1 rfl) ?_
  refine va_get (D := G.1) (ci := 0) (v := .int (S5 4 0 0)) (C := RX0) (T := TX0) (N := 12) hx hb hts hinX0 hown hK.1 hP (6 * 4) (wX_o G A S5 r 4 (by decide)) rfl 5 (by decide) (hts (.fieldLink RX0 43 "WireLoops$Chip" "laid" "I") (List.mem_of_getElem? (i := 10) rfl)) (fun _ h9 => h9) rfl dX0_copyFrom_77 ?_
  refine va_put (D := G.1) (ci := 0) (v := .int (S5 4 0 0)) (ty := .int) (C := RX0) (T := TX0) (N := 12) hx hb hts hinX0 tyX0 tyX0_ok nmX0 hown hK.1 hP hD hS (6 * 0) (wX_o G A S5 r 0 (by decide)) rfl (5 + 0) (by decide) (hts (.fieldLink RX0 43 "WireLoops$Chip" "laid" "I") (List.mem_of_getElem? (i := 10) rfl)) (fun _ h9 => h9) rfl (by decide +kernel) rfl rfl (Nat.le_of_ble_eq_true rfl) dX0_copyFrom_80 (fun H locs hP hD hS => ?_)
  rw [wX_so G A S5 r 0 0 (by decide) (by decide) _] at hP hD
  have hP : va_P G.1 vwCl (wX G A (su S5 0 0 (upd (S5 0 0) 0 (S5 4 0 0))) r) H := hP
  have hD : va_D A0 (wX G A (su S5 0 0 (upd (S5 0 0) 0 (S5 4 0 0))) r) := hD
  generalize hn6 : (su S5 0 0 (upd (S5 0 0) 0 (S5 4 0 0))) = S6 at hP hD
  refine lv_aload_n hx hb dX0_copyFrom_83 rfl (lv_at hl 0 rfl) ?_
  refine lv_aload_n hx hb dX0_copyFrom_84 rfl (lv_at hl 1 rfl) ?_
  refine va_get (D := G.1) (ci := 0) (v := .int (S6 4 0 1)) (C := RX0) (T := TX0) (N := 12) hx hb hts hinX0 hown hK.1 hP (6 * 4) (wX_o G A S6 r 4 (by decide)) rfl 6 (by decide) (hts (.fieldLink RX0 33 "WireLoops$Chip" "width" "I") (List.mem_of_getElem? (i := 11) rfl)) (fun _ h9 => h9) rfl dX0_copyFrom_85 ?_
  refine va_put (D := G.1) (ci := 0) (v := .int (S6 4 0 1)) (ty := .int) (C := RX0) (T := TX0) (N := 12) hx hb hts hinX0 tyX0 tyX0_ok nmX0 hown hK.1 hP hD hS (6 * 0) (wX_o G A S6 r 0 (by decide)) rfl (5 + 1) (by decide) (hts (.fieldLink RX0 33 "WireLoops$Chip" "width" "I") (List.mem_of_getElem? (i := 11) rfl)) (fun _ h9 => h9) rfl (by decide +kernel) rfl rfl (Nat.le_of_ble_eq_true rfl) dX0_copyFrom_88 (fun H locs hP hD hS => ?_)
  rw [wX_so G A S6 r 0 1 (by decide) (by decide) _] at hP hD
  have hP : va_P G.1 vwCl (wX G A (su S6 0 0 (upd (S6 0 0) 1 (S6 4 0 1))) r) H := hP
  have hD : va_D A0 (wX G A (su S6 0 0 (upd (S6 0 0) 1 (S6 4 0 1))) r) := hD
  generalize hn7 : (su S6 0 0 (upd (S6 0 0) 1 (S6 4 0 1))) = S7 at hP hD
  refine lv_aload_n hx hb dX0_copyFrom_91 rfl (lv_at hl 0 rfl) ?_
  refine lv_aload_n hx hb dX0_copyFrom_92 rfl (lv_at hl 1 rfl) ?_
  refine va_get (D := G.1) (ci := 0) (v := .int (S7 4 0 2)) (C := RX0) (T := TX0) (N := 12) hx hb hts hinX0 hown hK.1 hP (6 * 4) (wX_o G A S7 r 4 (by decide)) rfl 7 (by decide) (hts (.fieldLink RX0 46 "WireLoops$Chip" "wear" "I") (List.mem_of_getElem? (i := 12) rfl)) (fun _ h9 => h9) rfl dX0_copyFrom_93 ?_
  refine va_put (D := G.1) (ci := 0) (v := .int (S7 4 0 2)) (ty := .int) (C := RX0) (T := TX0) (N := 12) hx hb hts hinX0 tyX0 tyX0_ok nmX0 hown hK.1 hP hD hS (6 * 0) (wX_o G A S7 r 0 (by decide)) rfl (5 + 2) (by decide) (hts (.fieldLink RX0 46 "WireLoops$Chip" "wear" "I") (List.mem_of_getElem? (i := 12) rfl)) (fun _ h9 => h9) rfl (by decide +kernel) rfl rfl (Nat.le_of_ble_eq_true rfl) dX0_copyFrom_96 (fun H locs hP hD hS => ?_)
  rw [wX_so G A S7 r 0 2 (by decide) (by decide) _] at hP hD
  have hP : va_P G.1 vwCl (wX G A (su S7 0 0 (upd (S7 0 0) 2 (S7 4 0 2))) r) H := hP
  have hD : va_D A0 (wX G A (su S7 0 0 (upd (S7 0 0) 2 (S7 4 0 2))) r) := hD
  generalize hn8 : (su S7 0 0 (upd (S7 0 0) 2 (S7 4 0 2))) = S8 at hP hD
  refine lv_aload_n hx hb dX0_copyFrom_99 rfl (lv_at hl 0 rfl) ?_
  refine lv_aload_n hx hb dX0_copyFrom_100 rfl (lv_at hl 1 rfl) ?_
  refine va_get (D := G.1) (ci := 0) (v := .int (S8 4 0 3)) (C := RX0) (T := TX0) (N := 12) hx hb hts hinX0 hown hK.1 hP (6 * 4) (wX_o G A S8 r 4 (by decide)) rfl 8 (by decide) (hts (.fieldLink RX0 49 "WireLoops$Chip" "toolsChanged" "I") (List.mem_of_getElem? (i := 13) rfl)) (fun _ h9 => h9) rfl dX0_copyFrom_101 ?_
  refine va_put (D := G.1) (ci := 0) (v := .int (S8 4 0 3)) (ty := .int) (C := RX0) (T := TX0) (N := 12) hx hb hts hinX0 tyX0 tyX0_ok nmX0 hown hK.1 hP hD hS (6 * 0) (wX_o G A S8 r 0 (by decide)) rfl (5 + 3) (by decide) (hts (.fieldLink RX0 49 "WireLoops$Chip" "toolsChanged" "I") (List.mem_of_getElem? (i := 13) rfl)) (fun _ h9 => h9) rfl (by decide +kernel) rfl rfl (Nat.le_of_ble_eq_true rfl) dX0_copyFrom_104 (fun H locs hP hD hS => ?_)
  rw [wX_so G A S8 r 0 3 (by decide) (by decide) _] at hP hD
  have hP : va_P G.1 vwCl (wX G A (su S8 0 0 (upd (S8 0 0) 3 (S8 4 0 3))) r) H := hP
  have hD : va_D A0 (wX G A (su S8 0 0 (upd (S8 0 0) 3 (S8 4 0 3))) r) := hD
  generalize hn9 : (su S8 0 0 (upd (S8 0 0) 3 (S8 4 0 3))) = S9 at hP hD
  refine lv_aload_n hx hb dX0_copyFrom_107 rfl (lv_at hl 0 rfl) ?_
  refine lv_aload_n hx hb dX0_copyFrom_108 rfl (lv_at hl 1 rfl) ?_
  refine va_get (D := G.1) (ci := 0) (v := .int (S9 4 0 4)) (C := RX0) (T := TX0) (N := 12) hx hb hts hinX0 hown hK.1 hP (6 * 4) (wX_o G A S9 r 4 (by decide)) rfl 9 (by decide) (hts (.fieldLink RX0 52 "WireLoops$Chip" "tailLost" "Z") (List.mem_of_getElem? (i := 14) rfl)) (fun _ h9 => h9) rfl dX0_copyFrom_109 ?_
  refine va_put (D := G.1) (ci := 0) (v := .int (S9 4 0 4)) (ty := .boolean) (C := RX0) (T := TX0) (N := 12) hx hb hts hinX0 tyX0 tyX0_ok nmX0 hown hK.1 hP hD hS (6 * 0) (wX_o G A S9 r 0 (by decide)) rfl (5 + 4) (by decide) (hts (.fieldLink RX0 52 "WireLoops$Chip" "tailLost" "Z") (List.mem_of_getElem? (i := 14) rfl)) (fun _ h9 => h9) rfl (by decide +kernel) (nb_of (by subst_vars; exact hbj)) (fb_of (by subst_vars; exact hbj)) (Nat.le_of_ble_eq_true rfl) dX0_copyFrom_112 (fun H locs hP hD hS => ?_)
  rw [wX_so G A S9 r 0 4 (by decide) (by decide) _] at hP hD
  have hP : va_P G.1 vwCl (wX G A (su S9 0 0 (upd (S9 0 0) 4 (S9 4 0 4))) r) H := hP
  have hD : va_D A0 (wX G A (su S9 0 0 (upd (S9 0 0) 4 (S9 4 0 4))) r) := hD
  generalize hn10 : (su S9 0 0 (upd (S9 0 0) 4 (S9 4 0 4))) = S10 at hP hD
  refine lv_aload_n hx hb dX0_copyFrom_115 rfl (lv_at hl 0 rfl) ?_
  refine lv_aload_n hx hb dX0_copyFrom_116 rfl (lv_at hl 1 rfl) ?_
  refine va_get (D := G.1) (ci := 0) (v := .int (S10 4 0 5)) (C := RX0) (T := TX0) (N := 12) hx hb hts hinX0 hown hK.1 hP (6 * 4) (wX_o G A S10 r 4 (by decide)) rfl 10 (by decide) (hts (.fieldLink RX0 56 "WireLoops$Chip" "tailsLost" "I") (List.mem_of_getElem? (i := 15) rfl)) (fun _ h9 => h9) rfl dX0_copyFrom_117 ?_
  refine va_put (D := G.1) (ci := 0) (v := .int (S10 4 0 5)) (ty := .int) (C := RX0) (T := TX0) (N := 12) hx hb hts hinX0 tyX0 tyX0_ok nmX0 hown hK.1 hP hD hS (6 * 0) (wX_o G A S10 r 0 (by decide)) rfl (5 + 5) (by decide) (hts (.fieldLink RX0 56 "WireLoops$Chip" "tailsLost" "I") (List.mem_of_getElem? (i := 15) rfl)) (fun _ h9 => h9) rfl (by decide +kernel) rfl rfl (Nat.le_of_ble_eq_true rfl) dX0_copyFrom_120 (fun H locs hP hD hS => ?_)
  rw [wX_so G A S10 r 0 5 (by decide) (by decide) _] at hP hD
  have hP : va_P G.1 vwCl (wX G A (su S10 0 0 (upd (S10 0 0) 5 (S10 4 0 5))) r) H := hP
  have hD : va_D A0 (wX G A (su S10 0 0 (upd (S10 0 0) 5 (S10 4 0 5))) r) := hD
  generalize hn11 : (su S10 0 0 (upd (S10 0 0) 5 (S10 4 0 5))) = S11 at hP hD
  refine lv_aload_n hx hb dX0_copyFrom_123 rfl (lv_at hl 0 rfl) ?_
  refine lv_aload_n hx hb dX0_copyFrom_124 rfl (lv_at hl 1 rfl) ?_
  refine va_get (D := G.1) (ci := 0) (v := .int (S11 4 0 6)) (C := RX0) (T := TX0) (N := 12) hx hb hts hinX0 hown hK.1 hP (6 * 4) (wX_o G A S11 r 4 (by decide)) rfl 11 (by decide) (hts (.fieldLink RX0 59 "WireLoops$Chip" "broken" "I") (List.mem_of_getElem? (i := 16) rfl)) (fun _ h9 => h9) rfl dX0_copyFrom_125 ?_
  refine va_put (D := G.1) (ci := 0) (v := .int (S11 4 0 6)) (ty := .int) (C := RX0) (T := TX0) (N := 12) hx hb hts hinX0 tyX0 tyX0_ok nmX0 hown hK.1 hP hD hS (6 * 0) (wX_o G A S11 r 0 (by decide)) rfl (5 + 6) (by decide) (hts (.fieldLink RX0 59 "WireLoops$Chip" "broken" "I") (List.mem_of_getElem? (i := 16) rfl)) (fun _ h9 => h9) rfl (by decide +kernel) rfl rfl (Nat.le_of_ble_eq_true rfl) dX0_copyFrom_128 (fun H locs hP hD hS => ?_)
  rw [wX_so G A S11 r 0 6 (by decide) (by decide) _] at hP hD
  have hP : va_P G.1 vwCl (wX G A (su S11 0 0 (upd (S11 0 0) 6 (S11 4 0 6))) r) H := hP
  have hD : va_D A0 (wX G A (su S11 0 0 (upd (S11 0 0) 6 (S11 4 0 6))) r) := hD
  generalize hn12 : (su S11 0 0 (upd (S11 0 0) 6 (S11 4 0 6))) = S12 at hP hD
  have he : eqX S12 (sc S 0 4) := by
    subst_vars
    refine ⟨?_, eqR.rfl'⟩
    intro x hx7
    rcases (show x = 0 ∨ x = 1 ∨ x = 2 ∨ x = 3 ∨ x = 4 ∨ x = 5 ∨ x = 6 by omega) with rfl | rfl | rfl | rfl | rfl | rfl | rfl
    · exact ⟨by intro k hk; rcases (show k = 0 ∨ k = 1 ∨ k = 2 ∨ k = 3 ∨ k = 4 ∨ k = 5 ∨ k = 6 by omega) with rfl | rfl | rfl | rfl | rfl | rfl | rfl <;> rfl, cpy16, cpy12, cpy12, cpy12, cpy12⟩
    · exact eqC.rfl'
    · exact eqC.rfl'
    · exact eqC.rfl'
    · exact eqC.rfl'
    · exact eqC.rfl'
    · exact eqC.rfl'
  have hP : va_P G.1 vwCl (wX G A (sc S 0 4) r) H := wX_ext he (fun _ _ => rfl) hP
  have hD : va_D A0 (wX G A (sc S 0 4) r) := wX_D hD
  exact endZ hx hb hr hlocks hP hD hS rfl dX0_copyFrom_131
def f_X0_copyFrom_0_5 (S : XS) : XS := sc S 0 5
theorem e_X0_copyFrom_0_5 (S : XS) : f_X0_copyFrom_0_5 S = sc S 0 5 := rfl
set_option maxHeartbeats 4000000 in
set_option maxRecDepth 100000 in
theorem c_X0_copyFrom_0_5 (l : Launch) (G : GG) (A : Nat → Nat) (S : XS) (r : Nat)  (hbj : S 5 0 4 = 0 ∨ S 5 0 4 = 1) : Mz l yX0_copyFrom wsX0_copyFrom ({ frames := 1, cells := 0, slots := 0, locals := 26 } : Room) G [.ref (A (6 * 0)), .ref (A (6 * 5))] (wX G A S r) (wX G A (f_X0_copyFrom_0_5 S) r) := by
  refine Mz.of (cc := cX0_copyFrom) (maxL := 2) (ret := none) (by decide) rfl (Nat.le_of_ble_eq_true rfl) ?_
  intro p e s m args below meth c A0 hA0 E hr hlocks hP hK hD hA hS ls hl
  have E : CallFix p m c cX0_copyFrom 2 s args wsX0_copyFrom RX0 := E
  have hx := E.1
  have hb := E.2.1
  have hml := E.2.2.1
  have hown := E.2.2.2.1
  have hts := E.2.2.2.2
  have hl : lv_has ls 2 [(0, .ref (A (6 * 0))), (1, .ref (A (6 * 5)))] := hl
  have hinX0 : ∀ w ∈ u_ws RX0 TX0 12, w ∈ wsX0_copyFrom := fun _ h => List.mem_cons_of_mem _ (List.mem_append_right _ h)
  refine lv_aload_n hx hb dX0_copyFrom_0 rfl (lv_at hl 1 rfl) ?_
  refine va_get (D := G.1) (ci := 0) (v := .ref (A (6 * 5 + 1))) (C := RX0) (T := TX0) (N := 12) hx hb hts hinX0 hown hK.1 hP (6 * 5) (wX_o G A S r 5 (by decide)) rfl 0 (by decide) (hts (.fieldLink RX0 9 "WireLoops$Chip" "leadX" "[I") (List.mem_of_getElem? (i := 1) rfl)) (fun _ h9 => h9) rfl dX0_copyFrom_1 ?_
  refine lv_iconst (v := 0) hx hb dX0_copyFrom_4 (by decide) ?_
  refine lv_aload_n hx hb dX0_copyFrom_5 rfl (lv_at hl 0 rfl) ?_
  refine va_get (D := G.1) (ci := 0) (v := .ref (A (6 * 0 + 1))) (C := RX0) (T := TX0) (N := 12) hx hb hts hinX0 hown hK.1 hP (6 * 0) (wX_o G A S r 0 (by decide)) rfl 0 (by decide) (hts (.fieldLink RX0 9 "WireLoops$Chip" "leadX" "[I") (List.mem_of_getElem? (i := 1) rfl)) (fun _ h9 => h9) rfl dX0_copyFrom_6 ?_
  refine lv_iconst (v := 0) hx hb dX0_copyFrom_9 (by decide) ?_
  refine lv_bipush (v := 16) hx hb dX0_copyFrom_10 (by decide) ?_
  refine va_copyi (D := G.1) hx hb (by rw [hml]; exact hl.1.symm) hown (hts (.methodLink RX0 37 arraycopyName) (List.mem_of_getElem? (i := 2) rfl)) (hts (.native arraycopyName) (List.mem_of_getElem? (i := 3) rfl)) (hts (.static arraycopyName) (List.mem_of_getElem? (i := 4) rfl)) (hts (.initialized "java/lang/System") (List.mem_of_getElem? (i := 5) rfl)) hK.1 hP hD hS (6 * 5 + 1) (6 * 0 + 1) 0 0 (wX_1 G A S r 5 (by decide)) (wX_1 G A S r 0 (by decide)) rfl rfl rfl (by decide) (by decide) (by decide) (by decide) (by decide) (fun _ _ => rfl) (Nat.le_of_ble_eq_true rfl) (Nat.le_of_ble_eq_true rfl) dX0_copyFrom_12 (fun H locs hP hD hS => ?_)
  rw [wX_s1 G A S r 0 (by decide) _] at hP hD
  have hP : va_P G.1 vwCl (wX G A (su S 0 1 (va_cpy (S 5 1) (S 0 1) (0 : Int32).toNatClampNeg (0 : Int32).toNatClampNeg (16 : Int32).toNatClampNeg)) r) H := hP
  have hD : va_D A0 (wX G A (su S 0 1 (va_cpy (S 5 1) (S 0 1) (0 : Int32).toNatClampNeg (0 : Int32).toNatClampNeg (16 : Int32).toNatClampNeg)) r) := hD
  generalize hn1 : (su S 0 1 (va_cpy (S 5 1) (S 0 1) (0 : Int32).toNatClampNeg (0 : Int32).toNatClampNeg (16 : Int32).toNatClampNeg)) = S1 at hP hD
  refine lv_aload_n hx hb dX0_copyFrom_15 rfl (lv_at hl 1 rfl) ?_
  refine va_get (D := G.1) (ci := 0) (v := .ref (A (6 * 5 + 2))) (C := RX0) (T := TX0) (N := 12) hx hb hts hinX0 hown hK.1 hP (6 * 5) (wX_o G A S1 r 5 (by decide)) rfl 1 (by decide) (hts (.fieldLink RX0 15 "WireLoops$Chip" "leadOf" "[I") (List.mem_of_getElem? (i := 6) rfl)) (fun _ h9 => h9) rfl dX0_copyFrom_16 ?_
  refine lv_iconst (v := 0) hx hb dX0_copyFrom_19 (by decide) ?_
  refine lv_aload_n hx hb dX0_copyFrom_20 rfl (lv_at hl 0 rfl) ?_
  refine va_get (D := G.1) (ci := 0) (v := .ref (A (6 * 0 + 2))) (C := RX0) (T := TX0) (N := 12) hx hb hts hinX0 hown hK.1 hP (6 * 0) (wX_o G A S1 r 0 (by decide)) rfl 1 (by decide) (hts (.fieldLink RX0 15 "WireLoops$Chip" "leadOf" "[I") (List.mem_of_getElem? (i := 6) rfl)) (fun _ h9 => h9) rfl dX0_copyFrom_21 ?_
  refine lv_iconst (v := 0) hx hb dX0_copyFrom_24 (by decide) ?_
  refine lv_bipush (v := 12) hx hb dX0_copyFrom_25 (by decide) ?_
  refine va_copyi (D := G.1) hx hb (by rw [hml]; exact hl.1.symm) hown (hts (.methodLink RX0 37 arraycopyName) (List.mem_of_getElem? (i := 2) rfl)) (hts (.native arraycopyName) (List.mem_of_getElem? (i := 3) rfl)) (hts (.static arraycopyName) (List.mem_of_getElem? (i := 4) rfl)) (hts (.initialized "java/lang/System") (List.mem_of_getElem? (i := 5) rfl)) hK.1 hP hD hS (6 * 5 + 2) (6 * 0 + 2) 0 0 (wX_c G A S1 r 5 2 (by decide) (by decide) (by decide)) (wX_c G A S1 r 0 2 (by decide) (by decide) (by decide)) rfl rfl rfl (by decide) (by decide) (by decide) (by decide) (by decide) (fun _ _ => rfl) (Nat.le_of_ble_eq_true rfl) (Nat.le_of_ble_eq_true rfl) dX0_copyFrom_27 (fun H locs hP hD hS => ?_)
  rw [wX_sc G A S1 r 0 2 (by decide) (by decide) (by decide) _] at hP hD
  have hP : va_P G.1 vwCl (wX G A (su S1 0 2 (va_cpy (S1 5 2) (S1 0 2) (0 : Int32).toNatClampNeg (0 : Int32).toNatClampNeg (12 : Int32).toNatClampNeg)) r) H := hP
  have hD : va_D A0 (wX G A (su S1 0 2 (va_cpy (S1 5 2) (S1 0 2) (0 : Int32).toNatClampNeg (0 : Int32).toNatClampNeg (12 : Int32).toNatClampNeg)) r) := hD
  generalize hn2 : (su S1 0 2 (va_cpy (S1 5 2) (S1 0 2) (0 : Int32).toNatClampNeg (0 : Int32).toNatClampNeg (12 : Int32).toNatClampNeg)) = S2 at hP hD
  refine lv_aload_n hx hb dX0_copyFrom_30 rfl (lv_at hl 1 rfl) ?_
  refine va_get (D := G.1) (ci := 0) (v := .ref (A (6 * 5 + 3))) (C := RX0) (T := TX0) (N := 12) hx hb hts hinX0 hown hK.1 hP (6 * 5) (wX_o G A S2 r 5 (by decide)) rfl 2 (by decide) (hts (.fieldLink RX0 18 "WireLoops$Chip" "height" "[I") (List.mem_of_getElem? (i := 7) rfl)) (fun _ h9 => h9) rfl dX0_copyFrom_31 ?_
  refine lv_iconst (v := 0) hx hb dX0_copyFrom_34 (by decide) ?_
  refine lv_aload_n hx hb dX0_copyFrom_35 rfl (lv_at hl 0 rfl) ?_
  refine va_get (D := G.1) (ci := 0) (v := .ref (A (6 * 0 + 3))) (C := RX0) (T := TX0) (N := 12) hx hb hts hinX0 hown hK.1 hP (6 * 0) (wX_o G A S2 r 0 (by decide)) rfl 2 (by decide) (hts (.fieldLink RX0 18 "WireLoops$Chip" "height" "[I") (List.mem_of_getElem? (i := 7) rfl)) (fun _ h9 => h9) rfl dX0_copyFrom_36 ?_
  refine lv_iconst (v := 0) hx hb dX0_copyFrom_39 (by decide) ?_
  refine lv_bipush (v := 12) hx hb dX0_copyFrom_40 (by decide) ?_
  refine va_copyi (D := G.1) hx hb (by rw [hml]; exact hl.1.symm) hown (hts (.methodLink RX0 37 arraycopyName) (List.mem_of_getElem? (i := 2) rfl)) (hts (.native arraycopyName) (List.mem_of_getElem? (i := 3) rfl)) (hts (.static arraycopyName) (List.mem_of_getElem? (i := 4) rfl)) (hts (.initialized "java/lang/System") (List.mem_of_getElem? (i := 5) rfl)) hK.1 hP hD hS (6 * 5 + 3) (6 * 0 + 3) 0 0 (wX_c G A S2 r 5 3 (by decide) (by decide) (by decide)) (wX_c G A S2 r 0 3 (by decide) (by decide) (by decide)) rfl rfl rfl (by decide) (by decide) (by decide) (by decide) (by decide) (fun _ _ => rfl) (Nat.le_of_ble_eq_true rfl) (Nat.le_of_ble_eq_true rfl) dX0_copyFrom_42 (fun H locs hP hD hS => ?_)
  rw [wX_sc G A S2 r 0 3 (by decide) (by decide) (by decide) _] at hP hD
  have hP : va_P G.1 vwCl (wX G A (su S2 0 3 (va_cpy (S2 5 3) (S2 0 3) (0 : Int32).toNatClampNeg (0 : Int32).toNatClampNeg (12 : Int32).toNatClampNeg)) r) H := hP
  have hD : va_D A0 (wX G A (su S2 0 3 (va_cpy (S2 5 3) (S2 0 3) (0 : Int32).toNatClampNeg (0 : Int32).toNatClampNeg (12 : Int32).toNatClampNeg)) r) := hD
  generalize hn3 : (su S2 0 3 (va_cpy (S2 5 3) (S2 0 3) (0 : Int32).toNatClampNeg (0 : Int32).toNatClampNeg (12 : Int32).toNatClampNeg)) = S3 at hP hD
  refine lv_aload_n hx hb dX0_copyFrom_45 rfl (lv_at hl 1 rfl) ?_
  refine va_get (D := G.1) (ci := 0) (v := .ref (A (6 * 5 + 4))) (C := RX0) (T := TX0) (N := 12) hx hb hts hinX0 hown hK.1 hP (6 * 5) (wX_o G A S3 r 5 (by decide)) rfl 3 (by decide) (hts (.fieldLink RX0 21 "WireLoops$Chip" "strength" "[I") (List.mem_of_getElem? (i := 8) rfl)) (fun _ h9 => h9) rfl dX0_copyFrom_46 ?_
  refine lv_iconst (v := 0) hx hb dX0_copyFrom_49 (by decide) ?_
  refine lv_aload_n hx hb dX0_copyFrom_50 rfl (lv_at hl 0 rfl) ?_
  refine va_get (D := G.1) (ci := 0) (v := .ref (A (6 * 0 + 4))) (C := RX0) (T := TX0) (N := 12) hx hb hts hinX0 hown hK.1 hP (6 * 0) (wX_o G A S3 r 0 (by decide)) rfl 3 (by decide) (hts (.fieldLink RX0 21 "WireLoops$Chip" "strength" "[I") (List.mem_of_getElem? (i := 8) rfl)) (fun _ h9 => h9) rfl dX0_copyFrom_51 ?_
  refine lv_iconst (v := 0) hx hb dX0_copyFrom_54 (by decide) ?_
  refine lv_bipush (v := 12) hx hb dX0_copyFrom_55 (by decide) ?_
  refine va_copyi (D := G.1) hx hb (by rw [hml]; exact hl.1.symm) hown (hts (.methodLink RX0 37 arraycopyName) (List.mem_of_getElem? (i := 2) rfl)) (hts (.native arraycopyName) (List.mem_of_getElem? (i := 3) rfl)) (hts (.static arraycopyName) (List.mem_of_getElem? (i := 4) rfl)) (hts (.initialized "java/lang/System") (List.mem_of_getElem? (i := 5) rfl)) hK.1 hP hD hS (6 * 5 + 4) (6 * 0 + 4) 0 0 (wX_c G A S3 r 5 4 (by decide) (by decide) (by decide)) (wX_c G A S3 r 0 4 (by decide) (by decide) (by decide)) rfl rfl rfl (by decide) (by decide) (by decide) (by decide) (by decide) (fun _ _ => rfl) (Nat.le_of_ble_eq_true rfl) (Nat.le_of_ble_eq_true rfl) dX0_copyFrom_57 (fun H locs hP hD hS => ?_)
  rw [wX_sc G A S3 r 0 4 (by decide) (by decide) (by decide) _] at hP hD
  have hP : va_P G.1 vwCl (wX G A (su S3 0 4 (va_cpy (S3 5 4) (S3 0 4) (0 : Int32).toNatClampNeg (0 : Int32).toNatClampNeg (12 : Int32).toNatClampNeg)) r) H := hP
  have hD : va_D A0 (wX G A (su S3 0 4 (va_cpy (S3 5 4) (S3 0 4) (0 : Int32).toNatClampNeg (0 : Int32).toNatClampNeg (12 : Int32).toNatClampNeg)) r) := hD
  generalize hn4 : (su S3 0 4 (va_cpy (S3 5 4) (S3 0 4) (0 : Int32).toNatClampNeg (0 : Int32).toNatClampNeg (12 : Int32).toNatClampNeg)) = S4 at hP hD
  refine lv_aload_n hx hb dX0_copyFrom_60 rfl (lv_at hl 1 rfl) ?_
  refine va_get (D := G.1) (ci := 0) (v := .ref (A (6 * 5 + 5))) (C := RX0) (T := TX0) (N := 12) hx hb hts hinX0 hown hK.1 hP (6 * 5) (wX_o G A S4 r 5 (by decide)) rfl 4 (by decide) (hts (.fieldLink RX0 24 "WireLoops$Chip" "number" "[I") (List.mem_of_getElem? (i := 9) rfl)) (fun _ h9 => h9) rfl dX0_copyFrom_61 ?_
  refine lv_iconst (v := 0) hx hb dX0_copyFrom_64 (by decide) ?_
  refine lv_aload_n hx hb dX0_copyFrom_65 rfl (lv_at hl 0 rfl) ?_
  refine va_get (D := G.1) (ci := 0) (v := .ref (A (6 * 0 + 5))) (C := RX0) (T := TX0) (N := 12) hx hb hts hinX0 hown hK.1 hP (6 * 0) (wX_o G A S4 r 0 (by decide)) rfl 4 (by decide) (hts (.fieldLink RX0 24 "WireLoops$Chip" "number" "[I") (List.mem_of_getElem? (i := 9) rfl)) (fun _ h9 => h9) rfl dX0_copyFrom_66 ?_
  refine lv_iconst (v := 0) hx hb dX0_copyFrom_69 (by decide) ?_
  refine lv_bipush (v := 12) hx hb dX0_copyFrom_70 (by decide) ?_
  refine va_copyi (D := G.1) hx hb (by rw [hml]; exact hl.1.symm) hown (hts (.methodLink RX0 37 arraycopyName) (List.mem_of_getElem? (i := 2) rfl)) (hts (.native arraycopyName) (List.mem_of_getElem? (i := 3) rfl)) (hts (.static arraycopyName) (List.mem_of_getElem? (i := 4) rfl)) (hts (.initialized "java/lang/System") (List.mem_of_getElem? (i := 5) rfl)) hK.1 hP hD hS (6 * 5 + 5) (6 * 0 + 5) 0 0 (wX_c G A S4 r 5 5 (by decide) (by decide) (by decide)) (wX_c G A S4 r 0 5 (by decide) (by decide) (by decide)) rfl rfl rfl (by decide) (by decide) (by decide) (by decide) (by decide) (fun _ _ => rfl) (Nat.le_of_ble_eq_true rfl) (Nat.le_of_ble_eq_true rfl) dX0_copyFrom_72 (fun H locs hP hD hS => ?_)
  rw [wX_sc G A S4 r 0 5 (by decide) (by decide) (by decide) _] at hP hD
  have hP : va_P G.1 vwCl (wX G A (su S4 0 5 (va_cpy (S4 5 5) (S4 0 5) (0 : Int32).toNatClampNeg (0 : Int32).toNatClampNeg (12 : Int32).toNatClampNeg)) r) H := hP
  have hD : va_D A0 (wX G A (su S4 0 5 (va_cpy (S4 5 5) (S4 0 5) (0 : Int32).toNatClampNeg (0 : Int32).toNatClampNeg (12 : Int32).toNatClampNeg)) r) := hD
  generalize hn5 : (su S4 0 5 (va_cpy (S4 5 5) (S4 0 5) (0 : Int32).toNatClampNeg (0 : Int32).toNatClampNeg (12 : Int32).toNatClampNeg)) = S5 at hP hD
  refine lv_aload_n hx hb dX0_copyFrom_75 rfl (lv_at hl 0 rfl) ?_
  refine lv_aload_n hx hb dX0_copyFrom_76 rfl (lv_at hl 1 rfl) ?_
  refine va_get (D := G.1) (ci := 0) (v := .int (S5 5 0 0)) (C := RX0) (T := TX0) (N := 12) hx hb hts hinX0 hown hK.1 hP (6 * 5) (wX_o G A S5 r 5 (by decide)) rfl 5 (by decide) (hts (.fieldLink RX0 43 "WireLoops$Chip" "laid" "I") (List.mem_of_getElem? (i := 10) rfl)) (fun _ h9 => h9) rfl dX0_copyFrom_77 ?_
  refine va_put (D := G.1) (ci := 0) (v := .int (S5 5 0 0)) (ty := .int) (C := RX0) (T := TX0) (N := 12) hx hb hts hinX0 tyX0 tyX0_ok nmX0 hown hK.1 hP hD hS (6 * 0) (wX_o G A S5 r 0 (by decide)) rfl (5 + 0) (by decide) (hts (.fieldLink RX0 43 "WireLoops$Chip" "laid" "I") (List.mem_of_getElem? (i := 10) rfl)) (fun _ h9 => h9) rfl (by decide +kernel) rfl rfl (Nat.le_of_ble_eq_true rfl) dX0_copyFrom_80 (fun H locs hP hD hS => ?_)
  rw [wX_so G A S5 r 0 0 (by decide) (by decide) _] at hP hD
  have hP : va_P G.1 vwCl (wX G A (su S5 0 0 (upd (S5 0 0) 0 (S5 5 0 0))) r) H := hP
  have hD : va_D A0 (wX G A (su S5 0 0 (upd (S5 0 0) 0 (S5 5 0 0))) r) := hD
  generalize hn6 : (su S5 0 0 (upd (S5 0 0) 0 (S5 5 0 0))) = S6 at hP hD
  refine lv_aload_n hx hb dX0_copyFrom_83 rfl (lv_at hl 0 rfl) ?_
  refine lv_aload_n hx hb dX0_copyFrom_84 rfl (lv_at hl 1 rfl) ?_
  refine va_get (D := G.1) (ci := 0) (v := .int (S6 5 0 1)) (C := RX0) (T := TX0) (N := 12) hx hb hts hinX0 hown hK.1 hP (6 * 5) (wX_o G A S6 r 5 (by decide)) rfl 6 (by decide) (hts (.fieldLink RX0 33 "WireLoops$Chip" "width" "I") (List.mem_of_getElem? (i := 11) rfl)) (fun _ h9 => h9) rfl dX0_copyFrom_85 ?_
  refine va_put (D := G.1) (ci := 0) (v := .int (S6 5 0 1)) (ty := .int) (C := RX0) (T := TX0) (N := 12) hx hb hts hinX0 tyX0 tyX0_ok nmX0 hown hK.1 hP hD hS (6 * 0) (wX_o G A S6 r 0 (by decide)) rfl (5 + 1) (by decide) (hts (.fieldLink RX0 33 "WireLoops$Chip" "width" "I") (List.mem_of_getElem? (i := 11) rfl)) (fun _ h9 => h9) rfl (by decide +kernel) rfl rfl (Nat.le_of_ble_eq_true rfl) dX0_copyFrom_88 (fun H locs hP hD hS => ?_)
  rw [wX_so G A S6 r 0 1 (by decide) (by decide) _] at hP hD
  have hP : va_P G.1 vwCl (wX G A (su S6 0 0 (upd (S6 0 0) 1 (S6 5 0 1))) r) H := hP
  have hD : va_D A0 (wX G A (su S6 0 0 (upd (S6 0 0) 1 (S6 5 0 1))) r) := hD
  generalize hn7 : (su S6 0 0 (upd (S6 0 0) 1 (S6 5 0 1))) = S7 at hP hD
  refine lv_aload_n hx hb dX0_copyFrom_91 rfl (lv_at hl 0 rfl) ?_
  refine lv_aload_n hx hb dX0_copyFrom_92 rfl (lv_at hl 1 rfl) ?_
  refine va_get (D := G.1) (ci := 0) (v := .int (S7 5 0 2)) (C := RX0) (T := TX0) (N := 12) hx hb hts hinX0 hown hK.1 hP (6 * 5) (wX_o G A S7 r 5 (by decide)) rfl 7 (by decide) (hts (.fieldLink RX0 46 "WireLoops$Chip" "wear" "I") (List.mem_of_getElem? (i := 12) rfl)) (fun _ h9 => h9) rfl dX0_copyFrom_93 ?_
  refine va_put (D := G.1) (ci := 0) (v := .int (S7 5 0 2)) (ty := .int) (C := RX0) (T := TX0) (N := 12) hx hb hts hinX0 tyX0 tyX0_ok nmX0 hown hK.1 hP hD hS (6 * 0) (wX_o G A S7 r 0 (by decide)) rfl (5 + 2) (by decide) (hts (.fieldLink RX0 46 "WireLoops$Chip" "wear" "I") (List.mem_of_getElem? (i := 12) rfl)) (fun _ h9 => h9) rfl (by decide +kernel) rfl rfl (Nat.le_of_ble_eq_true rfl) dX0_copyFrom_96 (fun H locs hP hD hS => ?_)
  rw [wX_so G A S7 r 0 2 (by decide) (by decide) _] at hP hD
  have hP : va_P G.1 vwCl (wX G A (su S7 0 0 (upd (S7 0 0) 2 (S7 5 0 2))) r) H := hP
  have hD : va_D A0 (wX G A (su S7 0 0 (upd (S7 0 0) 2 (S7 5 0 2))) r) := hD
  generalize hn8 : (su S7 0 0 (upd (S7 0 0) 2 (S7 5 0 2))) = S8 at hP hD
  refine lv_aload_n hx hb dX0_copyFrom_99 rfl (lv_at hl 0 rfl) ?_
  refine lv_aload_n hx hb dX0_copyFrom_100 rfl (lv_at hl 1 rfl) ?_
  refine va_get (D := G.1) (ci := 0) (v := .int (S8 5 0 3)) (C := RX0) (T := TX0) (N := 12) hx hb hts hinX0 hown hK.1 hP (6 * 5) (wX_o G A S8 r 5 (by decide)) rfl 8 (by decide) (hts (.fieldLink RX0 49 "WireLoops$Chip" "toolsChanged" "I") (List.mem_of_getElem? (i := 13) rfl)) (fun _ h9 => h9) rfl dX0_copyFrom_101 ?_
  refine va_put (D := G.1) (ci := 0) (v := .int (S8 5 0 3)) (ty := .int) (C := RX0) (T := TX0) (N := 12) hx hb hts hinX0 tyX0 tyX0_ok nmX0 hown hK.1 hP hD hS (6 * 0) (wX_o G A S8 r 0 (by decide)) rfl (5 + 3) (by decide) (hts (.fieldLink RX0 49 "WireLoops$Chip" "toolsChanged" "I") (List.mem_of_getElem? (i := 13) rfl)) (fun _ h9 => h9) rfl (by decide +kernel) rfl rfl (Nat.le_of_ble_eq_true rfl) dX0_copyFrom_104 (fun H locs hP hD hS => ?_)
  rw [wX_so G A S8 r 0 3 (by decide) (by decide) _] at hP hD
  have hP : va_P G.1 vwCl (wX G A (su S8 0 0 (upd (S8 0 0) 3 (S8 5 0 3))) r) H := hP
  have hD : va_D A0 (wX G A (su S8 0 0 (upd (S8 0 0) 3 (S8 5 0 3))) r) := hD
  generalize hn9 : (su S8 0 0 (upd (S8 0 0) 3 (S8 5 0 3))) = S9 at hP hD
  refine lv_aload_n hx hb dX0_copyFrom_107 rfl (lv_at hl 0 rfl) ?_
  refine lv_aload_n hx hb dX0_copyFrom_108 rfl (lv_at hl 1 rfl) ?_
  refine va_get (D := G.1) (ci := 0) (v := .int (S9 5 0 4)) (C := RX0) (T := TX0) (N := 12) hx hb hts hinX0 hown hK.1 hP (6 * 5) (wX_o G A S9 r 5 (by decide)) rfl 9 (by decide) (hts (.fieldLink RX0 52 "WireLoops$Chip" "tailLost" "Z") (List.mem_of_getElem? (i := 14) rfl)) (fun _ h9 => h9) rfl dX0_copyFrom_109 ?_
  refine va_put (D := G.1) (ci := 0) (v := .int (S9 5 0 4)) (ty := .boolean) (C := RX0) (T := TX0) (N := 12) hx hb hts hinX0 tyX0 tyX0_ok nmX0 hown hK.1 hP hD hS (6 * 0) (wX_o G A S9 r 0 (by decide)) rfl (5 + 4) (by decide) (hts (.fieldLink RX0 52 "WireLoops$Chip" "tailLost" "Z") (List.mem_of_getElem? (i := 14) rfl)) (fun _ h9 => h9) rfl (by decide +kernel) (nb_of (by subst_vars; exact hbj)) (fb_of (by subst_vars; exact hbj)) (Nat.le_of_ble_eq_true rfl) dX0_copyFrom_112 (fun H locs hP hD hS => ?_)
  rw [wX_so G A S9 r 0 4 (by decide) (by decide) _] at hP hD
  have hP : va_P G.1 vwCl (wX G A (su S9 0 0 (upd (S9 0 0) 4 (S9 5 0 4))) r) H := hP
  have hD : va_D A0 (wX G A (su S9 0 0 (upd (S9 0 0) 4 (S9 5 0 4))) r) := hD
  generalize hn10 : (su S9 0 0 (upd (S9 0 0) 4 (S9 5 0 4))) = S10 at hP hD
  refine lv_aload_n hx hb dX0_copyFrom_115 rfl (lv_at hl 0 rfl) ?_
  refine lv_aload_n hx hb dX0_copyFrom_116 rfl (lv_at hl 1 rfl) ?_
  refine va_get (D := G.1) (ci := 0) (v := .int (S10 5 0 5)) (C := RX0) (T := TX0) (N := 12) hx hb hts hinX0 hown hK.1 hP (6 * 5) (wX_o G A S10 r 5 (by decide)) rfl 10 (by decide) (hts (.fieldLink RX0 56 "WireLoops$Chip" "tailsLost" "I") (List.mem_of_getElem? (i := 15) rfl)) (fun _ h9 => h9) rfl dX0_copyFrom_117 ?_
  refine va_put (D := G.1) (ci := 0) (v := .int (S10 5 0 5)) (ty := .int) (C := RX0) (T := TX0) (N := 12) hx hb hts hinX0 tyX0 tyX0_ok nmX0 hown hK.1 hP hD hS (6 * 0) (wX_o G A S10 r 0 (by decide)) rfl (5 + 5) (by decide) (hts (.fieldLink RX0 56 "WireLoops$Chip" "tailsLost" "I") (List.mem_of_getElem? (i := 15) rfl)) (fun _ h9 => h9) rfl (by decide +kernel) rfl rfl (Nat.le_of_ble_eq_true rfl) dX0_copyFrom_120 (fun H locs hP hD hS => ?_)
  rw [wX_so G A S10 r 0 5 (by decide) (by decide) _] at hP hD
  have hP : va_P G.1 vwCl (wX G A (su S10 0 0 (upd (S10 0 0) 5 (S10 5 0 5))) r) H := hP
  have hD : va_D A0 (wX G A (su S10 0 0 (upd (S10 0 0) 5 (S10 5 0 5))) r) := hD
  generalize hn11 : (su S10 0 0 (upd (S10 0 0) 5 (S10 5 0 5))) = S11 at hP hD
  refine lv_aload_n hx hb dX0_copyFrom_123 rfl (lv_at hl 0 rfl) ?_
  refine lv_aload_n hx hb dX0_copyFrom_124 rfl (lv_at hl 1 rfl) ?_
  refine va_get (D := G.1) (ci := 0) (v := .int (S11 5 0 6)) (C := RX0) (T := TX0) (N := 12) hx hb hts hinX0 hown hK.1 hP (6 * 5) (wX_o G A S11 r 5 (by decide)) rfl 11 (by decide) (hts (.fieldLink RX0 59 "WireLoops$Chip" "broken" "I") (List.mem_of_getElem? (i := 16) rfl)) (fun _ h9 => h9) rfl dX0_copyFrom_125 ?_
  refine va_put (D := G.1) (ci := 0) (v := .int (S11 5 0 6)) (ty := .int) (C := RX0) (T := TX0) (N := 12) hx hb hts hinX0 tyX0 tyX0_ok nmX0 hown hK.1 hP hD hS (6 * 0) (wX_o G A S11 r 0 (by decide)) rfl (5 + 6) (by decide) (hts (.fieldLink RX0 59 "WireLoops$Chip" "broken" "I") (List.mem_of_getElem? (i := 16) rfl)) (fun _ h9 => h9) rfl (by decide +kernel) rfl rfl (Nat.le_of_ble_eq_true rfl) dX0_copyFrom_128 (fun H locs hP hD hS => ?_)
  rw [wX_so G A S11 r 0 6 (by decide) (by decide) _] at hP hD
  have hP : va_P G.1 vwCl (wX G A (su S11 0 0 (upd (S11 0 0) 6 (S11 5 0 6))) r) H := hP
  have hD : va_D A0 (wX G A (su S11 0 0 (upd (S11 0 0) 6 (S11 5 0 6))) r) := hD
  generalize hn12 : (su S11 0 0 (upd (S11 0 0) 6 (S11 5 0 6))) = S12 at hP hD
  have he : eqX S12 (sc S 0 5) := by
    subst_vars
    refine ⟨?_, eqR.rfl'⟩
    intro x hx7
    rcases (show x = 0 ∨ x = 1 ∨ x = 2 ∨ x = 3 ∨ x = 4 ∨ x = 5 ∨ x = 6 by omega) with rfl | rfl | rfl | rfl | rfl | rfl | rfl
    · exact ⟨by intro k hk; rcases (show k = 0 ∨ k = 1 ∨ k = 2 ∨ k = 3 ∨ k = 4 ∨ k = 5 ∨ k = 6 by omega) with rfl | rfl | rfl | rfl | rfl | rfl | rfl <;> rfl, cpy16, cpy12, cpy12, cpy12, cpy12⟩
    · exact eqC.rfl'
    · exact eqC.rfl'
    · exact eqC.rfl'
    · exact eqC.rfl'
    · exact eqC.rfl'
    · exact eqC.rfl'
  have hP : va_P G.1 vwCl (wX G A (sc S 0 5) r) H := wX_ext he (fun _ _ => rfl) hP
  have hD : va_D A0 (wX G A (sc S 0 5) r) := wX_D hD
  exact endZ hx hb hr hlocks hP hD hS rfl dX0_copyFrom_131
def f_X0_copyFrom_0_6 (S : XS) : XS := sc S 0 6
theorem e_X0_copyFrom_0_6 (S : XS) : f_X0_copyFrom_0_6 S = sc S 0 6 := rfl
set_option maxHeartbeats 4000000 in
set_option maxRecDepth 100000 in
theorem c_X0_copyFrom_0_6 (l : Launch) (G : GG) (A : Nat → Nat) (S : XS) (r : Nat)  (hbj : S 6 0 4 = 0 ∨ S 6 0 4 = 1) : Mz l yX0_copyFrom wsX0_copyFrom ({ frames := 1, cells := 0, slots := 0, locals := 26 } : Room) G [.ref (A (6 * 0)), .ref (A (6 * 6))] (wX G A S r) (wX G A (f_X0_copyFrom_0_6 S) r) := by
  refine Mz.of (cc := cX0_copyFrom) (maxL := 2) (ret := none) (by decide) rfl (Nat.le_of_ble_eq_true rfl) ?_
  intro p e s m args below meth c A0 hA0 E hr hlocks hP hK hD hA hS ls hl
  have E : CallFix p m c cX0_copyFrom 2 s args wsX0_copyFrom RX0 := E
  have hx := E.1
  have hb := E.2.1
  have hml := E.2.2.1
  have hown := E.2.2.2.1
  have hts := E.2.2.2.2
  have hl : lv_has ls 2 [(0, .ref (A (6 * 0))), (1, .ref (A (6 * 6)))] := hl
  have hinX0 : ∀ w ∈ u_ws RX0 TX0 12, w ∈ wsX0_copyFrom := fun _ h => List.mem_cons_of_mem _ (List.mem_append_right _ h)
  refine lv_aload_n hx hb dX0_copyFrom_0 rfl (lv_at hl 1 rfl) ?_
  refine va_get (D := G.1) (ci := 0) (v := .ref (A (6 * 6 + 1))) (C := RX0) (T := TX0) (N := 12) hx hb hts hinX0 hown hK.1 hP (6 * 6) (wX_o G A S r 6 (by decide)) rfl 0 (by decide) (hts (.fieldLink RX0 9 "WireLoops$Chip" "leadX" "[I") (List.mem_of_getElem? (i := 1) rfl)) (fun _ h9 => h9) rfl dX0_copyFrom_1 ?_
  refine lv_iconst (v := 0) hx hb dX0_copyFrom_4 (by decide) ?_
  refine lv_aload_n hx hb dX0_copyFrom_5 rfl (lv_at hl 0 rfl) ?_
  refine va_get (D := G.1) (ci := 0) (v := .ref (A (6 * 0 + 1))) (C := RX0) (T := TX0) (N := 12) hx hb hts hinX0 hown hK.1 hP (6 * 0) (wX_o G A S r 0 (by decide)) rfl 0 (by decide) (hts (.fieldLink RX0 9 "WireLoops$Chip" "leadX" "[I") (List.mem_of_getElem? (i := 1) rfl)) (fun _ h9 => h9) rfl dX0_copyFrom_6 ?_
  refine lv_iconst (v := 0) hx hb dX0_copyFrom_9 (by decide) ?_
  refine lv_bipush (v := 16) hx hb dX0_copyFrom_10 (by decide) ?_
  refine va_copyi (D := G.1) hx hb (by rw [hml]; exact hl.1.symm) hown (hts (.methodLink RX0 37 arraycopyName) (List.mem_of_getElem? (i := 2) rfl)) (hts (.native arraycopyName) (List.mem_of_getElem? (i := 3) rfl)) (hts (.static arraycopyName) (List.mem_of_getElem? (i := 4) rfl)) (hts (.initialized "java/lang/System") (List.mem_of_getElem? (i := 5) rfl)) hK.1 hP hD hS (6 * 6 + 1) (6 * 0 + 1) 0 0 (wX_1 G A S r 6 (by decide)) (wX_1 G A S r 0 (by decide)) rfl rfl rfl (by decide) (by decide) (by decide) (by decide) (by decide) (fun _ _ => rfl) (Nat.le_of_ble_eq_true rfl) (Nat.le_of_ble_eq_true rfl) dX0_copyFrom_12 (fun H locs hP hD hS => ?_)
  rw [wX_s1 G A S r 0 (by decide) _] at hP hD
  have hP : va_P G.1 vwCl (wX G A (su S 0 1 (va_cpy (S 6 1) (S 0 1) (0 : Int32).toNatClampNeg (0 : Int32).toNatClampNeg (16 : Int32).toNatClampNeg)) r) H := hP
  have hD : va_D A0 (wX G A (su S 0 1 (va_cpy (S 6 1) (S 0 1) (0 : Int32).toNatClampNeg (0 : Int32).toNatClampNeg (16 : Int32).toNatClampNeg)) r) := hD
  generalize hn1 : (su S 0 1 (va_cpy (S 6 1) (S 0 1) (0 : Int32).toNatClampNeg (0 : Int32).toNatClampNeg (16 : Int32).toNatClampNeg)) = S1 at hP hD
  refine lv_aload_n hx hb dX0_copyFrom_15 rfl (lv_at hl 1 rfl) ?_
  refine va_get (D := G.1) (ci := 0) (v := .ref (A (6 * 6 + 2))) (C := RX0) (T := TX0) (N := 12) hx hb hts hinX0 hown hK.1 hP (6 * 6) (wX_o G A S1 r 6 (by decide)) rfl 1 (by decide) (hts (.fieldLink RX0 15 "WireLoops$Chip" "leadOf" "[I") (List.mem_of_getElem? (i := 6) rfl)) (fun _ h9 => h9) rfl dX0_copyFrom_16 ?_
  refine lv_iconst (v := 0) hx hb dX0_copyFrom_19 (by decide) ?_
  refine lv_aload_n hx hb dX0_copyFrom_20 rfl (lv_at hl 0 rfl) ?_
  refine va_get (D := G.1) (ci := 0) (v := .ref (A (6 * 0 + 2))) (C := RX0) (T := TX0) (N := 12) hx hb hts hinX0 hown hK.1 hP (6 * 0) (wX_o G A S1 r 0 (by decide)) rfl 1 (by decide) (hts (.fieldLink RX0 15 "WireLoops$Chip" "leadOf" "[I") (List.mem_of_getElem? (i := 6) rfl)) (fun _ h9 => h9) rfl dX0_copyFrom_21 ?_
  refine lv_iconst (v := 0) hx hb dX0_copyFrom_24 (by decide) ?_
  refine lv_bipush (v := 12) hx hb dX0_copyFrom_25 (by decide) ?_
  refine va_copyi (D := G.1) hx hb (by rw [hml]; exact hl.1.symm) hown (hts (.methodLink RX0 37 arraycopyName) (List.mem_of_getElem? (i := 2) rfl)) (hts (.native arraycopyName) (List.mem_of_getElem? (i := 3) rfl)) (hts (.static arraycopyName) (List.mem_of_getElem? (i := 4) rfl)) (hts (.initialized "java/lang/System") (List.mem_of_getElem? (i := 5) rfl)) hK.1 hP hD hS (6 * 6 + 2) (6 * 0 + 2) 0 0 (wX_c G A S1 r 6 2 (by decide) (by decide) (by decide)) (wX_c G A S1 r 0 2 (by decide) (by decide) (by decide)) rfl rfl rfl (by decide) (by decide) (by decide) (by decide) (by decide) (fun _ _ => rfl) (Nat.le_of_ble_eq_true rfl) (Nat.le_of_ble_eq_true rfl) dX0_copyFrom_27 (fun H locs hP hD hS => ?_)
  rw [wX_sc G A S1 r 0 2 (by decide) (by decide) (by decide) _] at hP hD
  have hP : va_P G.1 vwCl (wX G A (su S1 0 2 (va_cpy (S1 6 2) (S1 0 2) (0 : Int32).toNatClampNeg (0 : Int32).toNatClampNeg (12 : Int32).toNatClampNeg)) r) H := hP
  have hD : va_D A0 (wX G A (su S1 0 2 (va_cpy (S1 6 2) (S1 0 2) (0 : Int32).toNatClampNeg (0 : Int32).toNatClampNeg (12 : Int32).toNatClampNeg)) r) := hD
  generalize hn2 : (su S1 0 2 (va_cpy (S1 6 2) (S1 0 2) (0 : Int32).toNatClampNeg (0 : Int32).toNatClampNeg (12 : Int32).toNatClampNeg)) = S2 at hP hD
  refine lv_aload_n hx hb dX0_copyFrom_30 rfl (lv_at hl 1 rfl) ?_
  refine va_get (D := G.1) (ci := 0) (v := .ref (A (6 * 6 + 3))) (C := RX0) (T := TX0) (N := 12) hx hb hts hinX0 hown hK.1 hP (6 * 6) (wX_o G A S2 r 6 (by decide)) rfl 2 (by decide) (hts (.fieldLink RX0 18 "WireLoops$Chip" "height" "[I") (List.mem_of_getElem? (i := 7) rfl)) (fun _ h9 => h9) rfl dX0_copyFrom_31 ?_
  refine lv_iconst (v := 0) hx hb dX0_copyFrom_34 (by decide) ?_
  refine lv_aload_n hx hb dX0_copyFrom_35 rfl (lv_at hl 0 rfl) ?_
  refine va_get (D := G.1) (ci := 0) (v := .ref (A (6 * 0 + 3))) (C := RX0) (T := TX0) (N := 12) hx hb hts hinX0 hown hK.1 hP (6 * 0) (wX_o G A S2 r 0 (by decide)) rfl 2 (by decide) (hts (.fieldLink RX0 18 "WireLoops$Chip" "height" "[I") (List.mem_of_getElem? (i := 7) rfl)) (fun _ h9 => h9) rfl dX0_copyFrom_36 ?_
  refine lv_iconst (v := 0) hx hb dX0_copyFrom_39 (by decide) ?_
  refine lv_bipush (v := 12) hx hb dX0_copyFrom_40 (by decide) ?_
  refine va_copyi (D := G.1) hx hb (by rw [hml]; exact hl.1.symm) hown (hts (.methodLink RX0 37 arraycopyName) (List.mem_of_getElem? (i := 2) rfl)) (hts (.native arraycopyName) (List.mem_of_getElem? (i := 3) rfl)) (hts (.static arraycopyName) (List.mem_of_getElem? (i := 4) rfl)) (hts (.initialized "java/lang/System") (List.mem_of_getElem? (i := 5) rfl)) hK.1 hP hD hS (6 * 6 + 3) (6 * 0 + 3) 0 0 (wX_c G A S2 r 6 3 (by decide) (by decide) (by decide)) (wX_c G A S2 r 0 3 (by decide) (by decide) (by decide)) rfl rfl rfl (by decide) (by decide) (by decide) (by decide) (by decide) (fun _ _ => rfl) (Nat.le_of_ble_eq_true rfl) (Nat.le_of_ble_eq_true rfl) dX0_copyFrom_42 (fun H locs hP hD hS => ?_)
  rw [wX_sc G A S2 r 0 3 (by decide) (by decide) (by decide) _] at hP hD
  have hP : va_P G.1 vwCl (wX G A (su S2 0 3 (va_cpy (S2 6 3) (S2 0 3) (0 : Int32).toNatClampNeg (0 : Int32).toNatClampNeg (12 : Int32).toNatClampNeg)) r) H := hP
  have hD : va_D A0 (wX G A (su S2 0 3 (va_cpy (S2 6 3) (S2 0 3) (0 : Int32).toNatClampNeg (0 : Int32).toNatClampNeg (12 : Int32).toNatClampNeg)) r) := hD
  generalize hn3 : (su S2 0 3 (va_cpy (S2 6 3) (S2 0 3) (0 : Int32).toNatClampNeg (0 : Int32).toNatClampNeg (12 : Int32).toNatClampNeg)) = S3 at hP hD
  refine lv_aload_n hx hb dX0_copyFrom_45 rfl (lv_at hl 1 rfl) ?_
  refine va_get (D := G.1) (ci := 0) (v := .ref (A (6 * 6 + 4))) (C := RX0) (T := TX0) (N := 12) hx hb hts hinX0 hown hK.1 hP (6 * 6) (wX_o G A S3 r 6 (by decide)) rfl 3 (by decide) (hts (.fieldLink RX0 21 "WireLoops$Chip" "strength" "[I") (List.mem_of_getElem? (i := 8) rfl)) (fun _ h9 => h9) rfl dX0_copyFrom_46 ?_
  refine lv_iconst (v := 0) hx hb dX0_copyFrom_49 (by decide) ?_
  refine lv_aload_n hx hb dX0_copyFrom_50 rfl (lv_at hl 0 rfl) ?_
  refine va_get (D := G.1) (ci := 0) (v := .ref (A (6 * 0 + 4))) (C := RX0) (T := TX0) (N := 12) hx hb hts hinX0 hown hK.1 hP (6 * 0) (wX_o G A S3 r 0 (by decide)) rfl 3 (by decide) (hts (.fieldLink RX0 21 "WireLoops$Chip" "strength" "[I") (List.mem_of_getElem? (i := 8) rfl)) (fun _ h9 => h9) rfl dX0_copyFrom_51 ?_
  refine lv_iconst (v := 0) hx hb dX0_copyFrom_54 (by decide) ?_
  refine lv_bipush (v := 12) hx hb dX0_copyFrom_55 (by decide) ?_
  refine va_copyi (D := G.1) hx hb (by rw [hml]; exact hl.1.symm) hown (hts (.methodLink RX0 37 arraycopyName) (List.mem_of_getElem? (i := 2) rfl)) (hts (.native arraycopyName) (List.mem_of_getElem? (i := 3) rfl)) (hts (.static arraycopyName) (List.mem_of_getElem? (i := 4) rfl)) (hts (.initialized "java/lang/System") (List.mem_of_getElem? (i := 5) rfl)) hK.1 hP hD hS (6 * 6 + 4) (6 * 0 + 4) 0 0 (wX_c G A S3 r 6 4 (by decide) (by decide) (by decide)) (wX_c G A S3 r 0 4 (by decide) (by decide) (by decide)) rfl rfl rfl (by decide) (by decide) (by decide) (by decide) (by decide) (fun _ _ => rfl) (Nat.le_of_ble_eq_true rfl) (Nat.le_of_ble_eq_true rfl) dX0_copyFrom_57 (fun H locs hP hD hS => ?_)
  rw [wX_sc G A S3 r 0 4 (by decide) (by decide) (by decide) _] at hP hD
  have hP : va_P G.1 vwCl (wX G A (su S3 0 4 (va_cpy (S3 6 4) (S3 0 4) (0 : Int32).toNatClampNeg (0 : Int32).toNatClampNeg (12 : Int32).toNatClampNeg)) r) H := hP
  have hD : va_D A0 (wX G A (su S3 0 4 (va_cpy (S3 6 4) (S3 0 4) (0 : Int32).toNatClampNeg (0 : Int32).toNatClampNeg (12 : Int32).toNatClampNeg)) r) := hD
  generalize hn4 : (su S3 0 4 (va_cpy (S3 6 4) (S3 0 4) (0 : Int32).toNatClampNeg (0 : Int32).toNatClampNeg (12 : Int32).toNatClampNeg)) = S4 at hP hD
  refine lv_aload_n hx hb dX0_copyFrom_60 rfl (lv_at hl 1 rfl) ?_
  refine va_get (D := G.1) (ci := 0) (v := .ref (A (6 * 6 + 5))) (C := RX0) (T := TX0) (N := 12) hx hb hts hinX0 hown hK.1 hP (6 * 6) (wX_o G A S4 r 6 (by decide)) rfl 4 (by decide) (hts (.fieldLink RX0 24 "WireLoops$Chip" "number" "[I") (List.mem_of_getElem? (i := 9) rfl)) (fun _ h9 => h9) rfl dX0_copyFrom_61 ?_
  refine lv_iconst (v := 0) hx hb dX0_copyFrom_64 (by decide) ?_
  refine lv_aload_n hx hb dX0_copyFrom_65 rfl (lv_at hl 0 rfl) ?_
  refine va_get (D := G.1) (ci := 0) (v := .ref (A (6 * 0 + 5))) (C := RX0) (T := TX0) (N := 12) hx hb hts hinX0 hown hK.1 hP (6 * 0) (wX_o G A S4 r 0 (by decide)) rfl 4 (by decide) (hts (.fieldLink RX0 24 "WireLoops$Chip" "number" "[I") (List.mem_of_getElem? (i := 9) rfl)) (fun _ h9 => h9) rfl dX0_copyFrom_66 ?_
  refine lv_iconst (v := 0) hx hb dX0_copyFrom_69 (by decide) ?_
  refine lv_bipush (v := 12) hx hb dX0_copyFrom_70 (by decide) ?_
  refine va_copyi (D := G.1) hx hb (by rw [hml]; exact hl.1.symm) hown (hts (.methodLink RX0 37 arraycopyName) (List.mem_of_getElem? (i := 2) rfl)) (hts (.native arraycopyName) (List.mem_of_getElem? (i := 3) rfl)) (hts (.static arraycopyName) (List.mem_of_getElem? (i := 4) rfl)) (hts (.initialized "java/lang/System") (List.mem_of_getElem? (i := 5) rfl)) hK.1 hP hD hS (6 * 6 + 5) (6 * 0 + 5) 0 0 (wX_c G A S4 r 6 5 (by decide) (by decide) (by decide)) (wX_c G A S4 r 0 5 (by decide) (by decide) (by decide)) rfl rfl rfl (by decide) (by decide) (by decide) (by decide) (by decide) (fun _ _ => rfl) (Nat.le_of_ble_eq_true rfl) (Nat.le_of_ble_eq_true rfl) dX0_copyFrom_72 (fun H locs hP hD hS => ?_)
  rw [wX_sc G A S4 r 0 5 (by decide) (by decide) (by decide) _] at hP hD
  have hP : va_P G.1 vwCl (wX G A (su S4 0 5 (va_cpy (S4 6 5) (S4 0 5) (0 : Int32).toNatClampNeg (0 : Int32).toNatClampNeg (12 : Int32).toNatClampNeg)) r) H := hP
  have hD : va_D A0 (wX G A (su S4 0 5 (va_cpy (S4 6 5) (S4 0 5) (0 : Int32).toNatClampNeg (0 : Int32).toNatClampNeg (12 : Int32).toNatClampNeg)) r) := hD
  generalize hn5 : (su S4 0 5 (va_cpy (S4 6 5) (S4 0 5) (0 : Int32).toNatClampNeg (0 : Int32).toNatClampNeg (12 : Int32).toNatClampNeg)) = S5 at hP hD
  refine lv_aload_n hx hb dX0_copyFrom_75 rfl (lv_at hl 0 rfl) ?_
  refine lv_aload_n hx hb dX0_copyFrom_76 rfl (lv_at hl 1 rfl) ?_
  refine va_get (D := G.1) (ci := 0) (v := .int (S5 6 0 0)) (C := RX0) (T := TX0) (N := 12) hx hb hts hinX0 hown hK.1 hP (6 * 6) (wX_o G A S5 r 6 (by decide)) rfl 5 (by decide) (hts (.fieldLink RX0 43 "WireLoops$Chip" "laid" "I") (List.mem_of_getElem? (i := 10) rfl)) (fun _ h9 => h9) rfl dX0_copyFrom_77 ?_
  refine va_put (D := G.1) (ci := 0) (v := .int (S5 6 0 0)) (ty := .int) (C := RX0) (T := TX0) (N := 12) hx hb hts hinX0 tyX0 tyX0_ok nmX0 hown hK.1 hP hD hS (6 * 0) (wX_o G A S5 r 0 (by decide)) rfl (5 + 0) (by decide) (hts (.fieldLink RX0 43 "WireLoops$Chip" "laid" "I") (List.mem_of_getElem? (i := 10) rfl)) (fun _ h9 => h9) rfl (by decide +kernel) rfl rfl (Nat.le_of_ble_eq_true rfl) dX0_copyFrom_80 (fun H locs hP hD hS => ?_)
  rw [wX_so G A S5 r 0 0 (by decide) (by decide) _] at hP hD
  have hP : va_P G.1 vwCl (wX G A (su S5 0 0 (upd (S5 0 0) 0 (S5 6 0 0))) r) H := hP
  have hD : va_D A0 (wX G A (su S5 0 0 (upd (S5 0 0) 0 (S5 6 0 0))) r) := hD
  generalize hn6 : (su S5 0 0 (upd (S5 0 0) 0 (S5 6 0 0))) = S6 at hP hD
  refine lv_aload_n hx hb dX0_copyFrom_83 rfl (lv_at hl 0 rfl) ?_
  refine lv_aload_n hx hb dX0_copyFrom_84 rfl (lv_at hl 1 rfl) ?_
  refine va_get (D := G.1) (ci := 0) (v := .int (S6 6 0 1)) (C := RX0) (T := TX0) (N := 12) hx hb hts hinX0 hown hK.1 hP (6 * 6) (wX_o G A S6 r 6 (by decide)) rfl 6 (by decide) (hts (.fieldLink RX0 33 "WireLoops$Chip" "width" "I") (List.mem_of_getElem? (i := 11) rfl)) (fun _ h9 => h9) rfl dX0_copyFrom_85 ?_
  refine va_put (D := G.1) (ci := 0) (v := .int (S6 6 0 1)) (ty := .int) (C := RX0) (T := TX0) (N := 12) hx hb hts hinX0 tyX0 tyX0_ok nmX0 hown hK.1 hP hD hS (6 * 0) (wX_o G A S6 r 0 (by decide)) rfl (5 + 1) (by decide) (hts (.fieldLink RX0 33 "WireLoops$Chip" "width" "I") (List.mem_of_getElem? (i := 11) rfl)) (fun _ h9 => h9) rfl (by decide +kernel) rfl rfl (Nat.le_of_ble_eq_true rfl) dX0_copyFrom_88 (fun H locs hP hD hS => ?_)
  rw [wX_so G A S6 r 0 1 (by decide) (by decide) _] at hP hD
  have hP : va_P G.1 vwCl (wX G A (su S6 0 0 (upd (S6 0 0) 1 (S6 6 0 1))) r) H := hP
  have hD : va_D A0 (wX G A (su S6 0 0 (upd (S6 0 0) 1 (S6 6 0 1))) r) := hD
  generalize hn7 : (su S6 0 0 (upd (S6 0 0) 1 (S6 6 0 1))) = S7 at hP hD
  refine lv_aload_n hx hb dX0_copyFrom_91 rfl (lv_at hl 0 rfl) ?_
  refine lv_aload_n hx hb dX0_copyFrom_92 rfl (lv_at hl 1 rfl) ?_
  refine va_get (D := G.1) (ci := 0) (v := .int (S7 6 0 2)) (C := RX0) (T := TX0) (N := 12) hx hb hts hinX0 hown hK.1 hP (6 * 6) (wX_o G A S7 r 6 (by decide)) rfl 7 (by decide) (hts (.fieldLink RX0 46 "WireLoops$Chip" "wear" "I") (List.mem_of_getElem? (i := 12) rfl)) (fun _ h9 => h9) rfl dX0_copyFrom_93 ?_
  refine va_put (D := G.1) (ci := 0) (v := .int (S7 6 0 2)) (ty := .int) (C := RX0) (T := TX0) (N := 12) hx hb hts hinX0 tyX0 tyX0_ok nmX0 hown hK.1 hP hD hS (6 * 0) (wX_o G A S7 r 0 (by decide)) rfl (5 + 2) (by decide) (hts (.fieldLink RX0 46 "WireLoops$Chip" "wear" "I") (List.mem_of_getElem? (i := 12) rfl)) (fun _ h9 => h9) rfl (by decide +kernel) rfl rfl (Nat.le_of_ble_eq_true rfl) dX0_copyFrom_96 (fun H locs hP hD hS => ?_)
  rw [wX_so G A S7 r 0 2 (by decide) (by decide) _] at hP hD
  have hP : va_P G.1 vwCl (wX G A (su S7 0 0 (upd (S7 0 0) 2 (S7 6 0 2))) r) H := hP
  have hD : va_D A0 (wX G A (su S7 0 0 (upd (S7 0 0) 2 (S7 6 0 2))) r) := hD
  generalize hn8 : (su S7 0 0 (upd (S7 0 0) 2 (S7 6 0 2))) = S8 at hP hD
  refine lv_aload_n hx hb dX0_copyFrom_99 rfl (lv_at hl 0 rfl) ?_
  refine lv_aload_n hx hb dX0_copyFrom_100 rfl (lv_at hl 1 rfl) ?_
  refine va_get (D := G.1) (ci := 0) (v := .int (S8 6 0 3)) (C := RX0) (T := TX0) (N := 12) hx hb hts hinX0 hown hK.1 hP (6 * 6) (wX_o G A S8 r 6 (by decide)) rfl 8 (by decide) (hts (.fieldLink RX0 49 "WireLoops$Chip" "toolsChanged" "I") (List.mem_of_getElem? (i := 13) rfl)) (fun _ h9 => h9) rfl dX0_copyFrom_101 ?_
  refine va_put (D := G.1) (ci := 0) (v := .int (S8 6 0 3)) (ty := .int) (C := RX0) (T := TX0) (N := 12) hx hb hts hinX0 tyX0 tyX0_ok nmX0 hown hK.1 hP hD hS (6 * 0) (wX_o G A S8 r 0 (by decide)) rfl (5 + 3) (by decide) (hts (.fieldLink RX0 49 "WireLoops$Chip" "toolsChanged" "I") (List.mem_of_getElem? (i := 13) rfl)) (fun _ h9 => h9) rfl (by decide +kernel) rfl rfl (Nat.le_of_ble_eq_true rfl) dX0_copyFrom_104 (fun H locs hP hD hS => ?_)
  rw [wX_so G A S8 r 0 3 (by decide) (by decide) _] at hP hD
  have hP : va_P G.1 vwCl (wX G A (su S8 0 0 (upd (S8 0 0) 3 (S8 6 0 3))) r) H := hP
  have hD : va_D A0 (wX G A (su S8 0 0 (upd (S8 0 0) 3 (S8 6 0 3))) r) := hD
  generalize hn9 : (su S8 0 0 (upd (S8 0 0) 3 (S8 6 0 3))) = S9 at hP hD
  refine lv_aload_n hx hb dX0_copyFrom_107 rfl (lv_at hl 0 rfl) ?_
  refine lv_aload_n hx hb dX0_copyFrom_108 rfl (lv_at hl 1 rfl) ?_
  refine va_get (D := G.1) (ci := 0) (v := .int (S9 6 0 4)) (C := RX0) (T := TX0) (N := 12) hx hb hts hinX0 hown hK.1 hP (6 * 6) (wX_o G A S9 r 6 (by decide)) rfl 9 (by decide) (hts (.fieldLink RX0 52 "WireLoops$Chip" "tailLost" "Z") (List.mem_of_getElem? (i := 14) rfl)) (fun _ h9 => h9) rfl dX0_copyFrom_109 ?_
  refine va_put (D := G.1) (ci := 0) (v := .int (S9 6 0 4)) (ty := .boolean) (C := RX0) (T := TX0) (N := 12) hx hb hts hinX0 tyX0 tyX0_ok nmX0 hown hK.1 hP hD hS (6 * 0) (wX_o G A S9 r 0 (by decide)) rfl (5 + 4) (by decide) (hts (.fieldLink RX0 52 "WireLoops$Chip" "tailLost" "Z") (List.mem_of_getElem? (i := 14) rfl)) (fun _ h9 => h9) rfl (by decide +kernel) (nb_of (by subst_vars; exact hbj)) (fb_of (by subst_vars; exact hbj)) (Nat.le_of_ble_eq_true rfl) dX0_copyFrom_112 (fun H locs hP hD hS => ?_)
  rw [wX_so G A S9 r 0 4 (by decide) (by decide) _] at hP hD
  have hP : va_P G.1 vwCl (wX G A (su S9 0 0 (upd (S9 0 0) 4 (S9 6 0 4))) r) H := hP
  have hD : va_D A0 (wX G A (su S9 0 0 (upd (S9 0 0) 4 (S9 6 0 4))) r) := hD
  generalize hn10 : (su S9 0 0 (upd (S9 0 0) 4 (S9 6 0 4))) = S10 at hP hD
  refine lv_aload_n hx hb dX0_copyFrom_115 rfl (lv_at hl 0 rfl) ?_
  refine lv_aload_n hx hb dX0_copyFrom_116 rfl (lv_at hl 1 rfl) ?_
  refine va_get (D := G.1) (ci := 0) (v := .int (S10 6 0 5)) (C := RX0) (T := TX0) (N := 12) hx hb hts hinX0 hown hK.1 hP (6 * 6) (wX_o G A S10 r 6 (by decide)) rfl 10 (by decide) (hts (.fieldLink RX0 56 "WireLoops$Chip" "tailsLost" "I") (List.mem_of_getElem? (i := 15) rfl)) (fun _ h9 => h9) rfl dX0_copyFrom_117 ?_
  refine va_put (D := G.1) (ci := 0) (v := .int (S10 6 0 5)) (ty := .int) (C := RX0) (T := TX0) (N := 12) hx hb hts hinX0 tyX0 tyX0_ok nmX0 hown hK.1 hP hD hS (6 * 0) (wX_o G A S10 r 0 (by decide)) rfl (5 + 5) (by decide) (hts (.fieldLink RX0 56 "WireLoops$Chip" "tailsLost" "I") (List.mem_of_getElem? (i := 15) rfl)) (fun _ h9 => h9) rfl (by decide +kernel) rfl rfl (Nat.le_of_ble_eq_true rfl) dX0_copyFrom_120 (fun H locs hP hD hS => ?_)
  rw [wX_so G A S10 r 0 5 (by decide) (by decide) _] at hP hD
  have hP : va_P G.1 vwCl (wX G A (su S10 0 0 (upd (S10 0 0) 5 (S10 6 0 5))) r) H := hP
  have hD : va_D A0 (wX G A (su S10 0 0 (upd (S10 0 0) 5 (S10 6 0 5))) r) := hD
  generalize hn11 : (su S10 0 0 (upd (S10 0 0) 5 (S10 6 0 5))) = S11 at hP hD
  refine lv_aload_n hx hb dX0_copyFrom_123 rfl (lv_at hl 0 rfl) ?_
  refine lv_aload_n hx hb dX0_copyFrom_124 rfl (lv_at hl 1 rfl) ?_
  refine va_get (D := G.1) (ci := 0) (v := .int (S11 6 0 6)) (C := RX0) (T := TX0) (N := 12) hx hb hts hinX0 hown hK.1 hP (6 * 6) (wX_o G A S11 r 6 (by decide)) rfl 11 (by decide) (hts (.fieldLink RX0 59 "WireLoops$Chip" "broken" "I") (List.mem_of_getElem? (i := 16) rfl)) (fun _ h9 => h9) rfl dX0_copyFrom_125 ?_
  refine va_put (D := G.1) (ci := 0) (v := .int (S11 6 0 6)) (ty := .int) (C := RX0) (T := TX0) (N := 12) hx hb hts hinX0 tyX0 tyX0_ok nmX0 hown hK.1 hP hD hS (6 * 0) (wX_o G A S11 r 0 (by decide)) rfl (5 + 6) (by decide) (hts (.fieldLink RX0 59 "WireLoops$Chip" "broken" "I") (List.mem_of_getElem? (i := 16) rfl)) (fun _ h9 => h9) rfl (by decide +kernel) rfl rfl (Nat.le_of_ble_eq_true rfl) dX0_copyFrom_128 (fun H locs hP hD hS => ?_)
  rw [wX_so G A S11 r 0 6 (by decide) (by decide) _] at hP hD
  have hP : va_P G.1 vwCl (wX G A (su S11 0 0 (upd (S11 0 0) 6 (S11 6 0 6))) r) H := hP
  have hD : va_D A0 (wX G A (su S11 0 0 (upd (S11 0 0) 6 (S11 6 0 6))) r) := hD
  generalize hn12 : (su S11 0 0 (upd (S11 0 0) 6 (S11 6 0 6))) = S12 at hP hD
  have he : eqX S12 (sc S 0 6) := by
    subst_vars
    refine ⟨?_, eqR.rfl'⟩
    intro x hx7
    rcases (show x = 0 ∨ x = 1 ∨ x = 2 ∨ x = 3 ∨ x = 4 ∨ x = 5 ∨ x = 6 by omega) with rfl | rfl | rfl | rfl | rfl | rfl | rfl
    · exact ⟨by intro k hk; rcases (show k = 0 ∨ k = 1 ∨ k = 2 ∨ k = 3 ∨ k = 4 ∨ k = 5 ∨ k = 6 by omega) with rfl | rfl | rfl | rfl | rfl | rfl | rfl <;> rfl, cpy16, cpy12, cpy12, cpy12, cpy12⟩
    · exact eqC.rfl'
    · exact eqC.rfl'
    · exact eqC.rfl'
    · exact eqC.rfl'
    · exact eqC.rfl'
    · exact eqC.rfl'
  have hP : va_P G.1 vwCl (wX G A (sc S 0 6) r) H := wX_ext he (fun _ _ => rfl) hP
  have hD : va_D A0 (wX G A (sc S 0 6) r) := wX_D hD
  exact endZ hx hb hr hlocks hP hD hS rfl dX0_copyFrom_131
