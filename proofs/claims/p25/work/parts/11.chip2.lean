noncomputable def f_X0_cross (S : XS) (p0 p1 : Int32) : Int32 := opq (if (f_X0_hasWire S p0) = 0 then 0 else (if (f_X0_hasWire S p1) = 0 then 0 else (if p0 = p1 then 0 else (if p1 ≤ p0 then (if (f_X0_endX S p1) ≤ (f_X0_endX S p0) then 0 else 1) else (if (f_X0_endX S p0) ≤ (f_X0_endX S p1) then 0 else 1)))))
theorem e_X0_cross (S : XS) (p0 p1 : Int32) : f_X0_cross S p0 p1 = (if (f_X0_hasWire S p0) = 0 then 0 else (if (f_X0_hasWire S p1) = 0 then 0 else (if p0 = p1 then 0 else (if p1 ≤ p0 then (if (f_X0_endX S p1) ≤ (f_X0_endX S p0) then 0 else 1) else (if (f_X0_endX S p0) ≤ (f_X0_endX S p1) then 0 else 1))))) := opq_eq _
set_option maxHeartbeats 4000000 in
set_option maxRecDepth 100000 in
theorem c_X0_cross (l : Launch) (G : GG) (A : Nat → Nat) (S : XS) (r : Nat) (p0 p1 : Int32) : Mp l yX0_cross wsX0_cross ({ frames := 2, cells := 0, slots := 0, locals := 41 } : Room) G [.ref (A (6 * 0)), .int p0, .int p1] (wX G A S r) (f_X0_cross S p0 p1) := by
  refine Mp.of (cc := cX0_cross) (maxL := 3) (ret := (some .boolean)) (by decide) rfl (Nat.le_of_ble_eq_true rfl) ?_
  intro p e s m args below meth c E hr hlocks hP hK ls hl
  have E : CallFix p m c cX0_cross 3 s args wsX0_cross RX0 := E
  have hx := E.1
  have hb := E.2.1
  have hml := E.2.2.1
  have hown := E.2.2.2.1
  have hts := E.2.2.2.2
  have hl : lv_has ls 3 [(0, .ref (A (6 * 0))), (1, .int p0), (2, .int p1)] := hl
  refine lv_aload_n hx hb dX0_cross_0 rfl (lv_at hl 0 rfl) ?_
  refine lv_iload_n hx hb dX0_cross_1 rfl (lv_at hl 1 rfl) ?_
  refine cpV (rest := []) (As := [.int p0]) E (c_X0_hasWire l G A S r p0) (cwV 1 hts gX0_cross_X0_hasWire rfl rfl rfl (by decide +kernel) ⟨Nat.le_of_ble_eq_true rfl, Nat.le_of_ble_eq_true rfl⟩) hK hP (6 * 0) (wX_o G A S r 0 (by decide)) rfl rfl hl.1 rfl (Nat.le_of_ble_eq_true rfl) dX0_cross_2 ⟨Nat.zero_le _, Nat.zero_le _⟩ ?_
  refine lv_if_eq (tgt := 21) hx hb dX0_cross_5 (by decide) (fun c1 => ?_) (fun c1 => ?_)
  · skip
    refine lv_iconst (v := 0) hx hb dX0_cross_21 (by decide) ?_
    exact endP hx hb hr hlocks rfl (Eq.symm (Eq.trans (e_X0_cross S p0 p1) ((if_pos c1)))) dX0_cross_22
  · skip
    refine lv_aload_n hx hb dX0_cross_8 rfl (lv_at hl 0 rfl) ?_
    refine lv_iload_n hx hb dX0_cross_9 rfl (lv_at hl 2 rfl) ?_
    refine cpV (rest := []) (As := [.int p1]) E (c_X0_hasWire l G A S r p1) (cwV 1 hts gX0_cross_X0_hasWire rfl rfl rfl (by decide +kernel) ⟨Nat.le_of_ble_eq_true rfl, Nat.le_of_ble_eq_true rfl⟩) hK hP (6 * 0) (wX_o G A S r 0 (by decide)) rfl rfl hl.1 rfl (Nat.le_of_ble_eq_true rfl) dX0_cross_10 ⟨Nat.zero_le _, Nat.zero_le _⟩ ?_
    refine lv_if_eq (tgt := 21) hx hb dX0_cross_13 (by decide) (fun c2 => ?_) (fun c2 => ?_)
    · skip
      refine lv_iconst (v := 0) hx hb dX0_cross_21 (by decide) ?_
      exact endP hx hb hr hlocks rfl (Eq.symm (Eq.trans (e_X0_cross S p0 p1) (Eq.trans (if_neg c1) ((if_pos c2))))) dX0_cross_22
    · skip
      refine lv_iload_n hx hb dX0_cross_16 rfl (lv_at hl 1 rfl) ?_
      refine lv_iload_n hx hb dX0_cross_17 rfl (lv_at hl 2 rfl) ?_
      refine lv_icmp_ne (tgt := 23) hx hb dX0_cross_18 (by decide) (fun c3 => ?_) (fun c3 => ?_)
      · skip
        refine lv_iload_n hx hb dX0_cross_23 rfl (lv_at hl 1 rfl) ?_
        refine lv_iload_n hx hb dX0_cross_24 rfl (lv_at hl 2 rfl) ?_
        refine lv_icmp_ge (tgt := 49) hx hb dX0_cross_25 (by decide) (fun c4 => ?_) (fun c4 => ?_)
        · skip
          refine lv_aload_n hx hb dX0_cross_49 rfl (lv_at hl 0 rfl) ?_
          refine lv_iload_n hx hb dX0_cross_50 rfl (lv_at hl 1 rfl) ?_
          refine cpV (rest := []) (As := [.int p0]) E (c_X0_endX l G A S r p0) (cwV 1 hts gX0_cross_X0_endX rfl rfl rfl (by decide +kernel) ⟨Nat.le_of_ble_eq_true rfl, Nat.le_of_ble_eq_true rfl⟩) hK hP (6 * 0) (wX_o G A S r 0 (by decide)) rfl rfl hl.1 rfl (Nat.le_of_ble_eq_true rfl) dX0_cross_51 ⟨Nat.zero_le _, Nat.zero_le _⟩ ?_
          refine lv_aload_n hx hb dX0_cross_54 rfl (lv_at hl 0 rfl) ?_
          refine lv_iload_n hx hb dX0_cross_55 rfl (lv_at hl 2 rfl) ?_
          refine cpV (rest := [.int (f_X0_endX S p0)]) (As := [.int p1]) E (c_X0_endX l G A S r p1) (cwV 1 hts gX0_cross_X0_endX rfl rfl rfl (by decide +kernel) ⟨Nat.le_of_ble_eq_true rfl, Nat.le_of_ble_eq_true rfl⟩) hK hP (6 * 0) (wX_o G A S r 0 (by decide)) rfl rfl hl.1 rfl (Nat.le_of_ble_eq_true rfl) dX0_cross_56 ⟨Nat.zero_le _, Nat.zero_le _⟩ ?_
          refine lv_icmp_ge (tgt := 66) hx hb dX0_cross_59 (by decide) (fun c5 => ?_) (fun c5 => ?_)
          · skip
            refine lv_iconst (v := 0) hx hb dX0_cross_66 (by decide) ?_
            exact endP hx hb hr hlocks rfl (Eq.symm (Eq.trans (e_X0_cross S p0 p1) (Eq.trans (if_neg c1) (Eq.trans (if_neg c2) (Eq.trans (if_neg c3) (Eq.trans (if_pos c4) ((if_pos c5)))))))) dX0_cross_67
          · skip
            refine lv_iconst (v := 1) hx hb dX0_cross_62 (by decide) ?_
            refine lv_goto (tgt := 67) hx hb dX0_cross_63 (by decide) ?_
            exact endP hx hb hr hlocks rfl (Eq.symm (Eq.trans (e_X0_cross S p0 p1) (Eq.trans (if_neg c1) (Eq.trans (if_neg c2) (Eq.trans (if_neg c3) (Eq.trans (if_pos c4) ((if_neg c5)))))))) dX0_cross_67
        · skip
          refine lv_aload_n hx hb dX0_cross_28 rfl (lv_at hl 0 rfl) ?_
          refine lv_iload_n hx hb dX0_cross_29 rfl (lv_at hl 1 rfl) ?_
          refine cpV (rest := []) (As := [.int p0]) E (c_X0_endX l G A S r p0) (cwV 1 hts gX0_cross_X0_endX rfl rfl rfl (by decide +kernel) ⟨Nat.le_of_ble_eq_true rfl, Nat.le_of_ble_eq_true rfl⟩) hK hP (6 * 0) (wX_o G A S r 0 (by decide)) rfl rfl hl.1 rfl (Nat.le_of_ble_eq_true rfl) dX0_cross_30 ⟨Nat.zero_le _, Nat.zero_le _⟩ ?_
          refine lv_aload_n hx hb dX0_cross_33 rfl (lv_at hl 0 rfl) ?_
          refine lv_iload_n hx hb dX0_cross_34 rfl (lv_at hl 2 rfl) ?_
          refine cpV (rest := [.int (f_X0_endX S p0)]) (As := [.int p1]) E (c_X0_endX l G A S r p1) (cwV 1 hts gX0_cross_X0_endX rfl rfl rfl (by decide +kernel) ⟨Nat.le_of_ble_eq_true rfl, Nat.le_of_ble_eq_true rfl⟩) hK hP (6 * 0) (wX_o G A S r 0 (by decide)) rfl rfl hl.1 rfl (Nat.le_of_ble_eq_true rfl) dX0_cross_35 ⟨Nat.zero_le _, Nat.zero_le _⟩ ?_
          refine lv_icmp_le (tgt := 45) hx hb dX0_cross_38 (by decide) (fun c6 => ?_) (fun c6 => ?_)
          · skip
            refine lv_iconst (v := 0) hx hb dX0_cross_45 (by decide) ?_
            refine lv_goto (tgt := 67) hx hb dX0_cross_46 (by decide) ?_
            exact endP hx hb hr hlocks rfl (Eq.symm (Eq.trans (e_X0_cross S p0 p1) (Eq.trans (if_neg c1) (Eq.trans (if_neg c2) (Eq.trans (if_neg c3) (Eq.trans (if_neg c4) ((if_pos c6)))))))) dX0_cross_67
          · skip
            refine lv_iconst (v := 1) hx hb dX0_cross_41 (by decide) ?_
            refine lv_goto (tgt := 67) hx hb dX0_cross_42 (by decide) ?_
            exact endP hx hb hr hlocks rfl (Eq.symm (Eq.trans (e_X0_cross S p0 p1) (Eq.trans (if_neg c1) (Eq.trans (if_neg c2) (Eq.trans (if_neg c3) (Eq.trans (if_neg c4) ((if_neg c6)))))))) dX0_cross_67
      · skip
        refine lv_iconst (v := 0) hx hb dX0_cross_21 (by decide) ?_
        exact endP hx hb hr hlocks rfl (Eq.symm (Eq.trans (e_X0_cross S p0 p1) (Eq.trans (if_neg c1) (Eq.trans (if_neg c2) ((if_pos c3)))))) dX0_cross_22
noncomputable def f_X0_crossingY (S : XS) (p0 p1 : Int32) : Int32 := opq (if ((if 0 ≤ ((f_X3_padX p0) - (f_X3_padX p1)) then ((f_X3_padX p0) - (f_X3_padX p1)) else 0 - ((f_X3_padX p0) - (f_X3_padX p1))) + (if 0 ≤ ((f_X0_endX S p0) - (f_X0_endX S p1)) then ((f_X0_endX S p0) - (f_X0_endX S p1)) else 0 - ((f_X0_endX S p0) - (f_X0_endX S p1)))) ≤ 0 then 0 else ((200 * (if 0 ≤ ((f_X3_padX p0) - (f_X3_padX p1)) then ((f_X3_padX p0) - (f_X3_padX p1)) else 0 - ((f_X3_padX p0) - (f_X3_padX p1)))) / ((if 0 ≤ ((f_X3_padX p0) - (f_X3_padX p1)) then ((f_X3_padX p0) - (f_X3_padX p1)) else 0 - ((f_X3_padX p0) - (f_X3_padX p1))) + (if 0 ≤ ((f_X0_endX S p0) - (f_X0_endX S p1)) then ((f_X0_endX S p0) - (f_X0_endX S p1)) else 0 - ((f_X0_endX S p0) - (f_X0_endX S p1))))))
theorem e_X0_crossingY (S : XS) (p0 p1 : Int32) : f_X0_crossingY S p0 p1 = (if ((if 0 ≤ ((f_X3_padX p0) - (f_X3_padX p1)) then ((f_X3_padX p0) - (f_X3_padX p1)) else 0 - ((f_X3_padX p0) - (f_X3_padX p1))) + (if 0 ≤ ((f_X0_endX S p0) - (f_X0_endX S p1)) then ((f_X0_endX S p0) - (f_X0_endX S p1)) else 0 - ((f_X0_endX S p0) - (f_X0_endX S p1)))) ≤ 0 then 0 else ((200 * (if 0 ≤ ((f_X3_padX p0) - (f_X3_padX p1)) then ((f_X3_padX p0) - (f_X3_padX p1)) else 0 - ((f_X3_padX p0) - (f_X3_padX p1)))) / ((if 0 ≤ ((f_X3_padX p0) - (f_X3_padX p1)) then ((f_X3_padX p0) - (f_X3_padX p1)) else 0 - ((f_X3_padX p0) - (f_X3_padX p1))) + (if 0 ≤ ((f_X0_endX S p0) - (f_X0_endX S p1)) then ((f_X0_endX S p0) - (f_X0_endX S p1)) else 0 - ((f_X0_endX S p0) - (f_X0_endX S p1)))))) := opq_eq _
set_option maxHeartbeats 4000000 in
set_option maxRecDepth 100000 in
theorem c_X0_crossingY (l : Launch) (G : GG) (A : Nat → Nat) (S : XS) (r : Nat) (p0 p1 : Int32) : Mp l yX0_crossingY wsX0_crossingY ({ frames := 1, cells := 0, slots := 0, locals := 22 } : Room) G [.ref (A (6 * 0)), .int p0, .int p1] (wX G A S r) (f_X0_crossingY S p0 p1) := by
  refine Mp.of (cc := cX0_crossingY) (maxL := 6) (ret := (some .int)) (by decide) rfl (Nat.le_of_ble_eq_true rfl) ?_
  intro p e s m args below meth c E hr hlocks hP hK ls hl
  have E : CallFix p m c cX0_crossingY 6 s args wsX0_crossingY RX0 := E
  have hx := E.1
  have hb := E.2.1
  have hml := E.2.2.1
  have hown := E.2.2.2.1
  have hts := E.2.2.2.2
  have hl : lv_has ls 6 [(0, .ref (A (6 * 0))), (1, .int p0), (2, .int p1)] := hl
  refine lv_iload_n hx hb dX0_crossingY_0 rfl (lv_at hl 1 rfl) ?_
  refine cpN (host := RX3) (rest := []) (As := [.int p0]) E (c_X3_padX l G A S r p0) (va_cnB 1 hts gX0_crossingY_X3_padX_n113 rfl rfl rfl (hK.2 (.methodLinkNest RX0 113 yX3_padX RX3) (by decide +kernel)) (hts (.initialized RX3) (List.mem_of_getElem? (i := 6) rfl)) (by decide +kernel) ⟨Nat.le_of_ble_eq_true rfl, Nat.le_of_ble_eq_true rfl⟩) (hts (.static yX3_padX) (List.mem_of_getElem? (i := 5) rfl)) hK hP rfl hl.1 rfl (Nat.le_of_ble_eq_true rfl) dX0_crossingY_1 ⟨Nat.zero_le _, Nat.zero_le _⟩ ?_
  refine lv_iload_n hx hb dX0_crossingY_4 rfl (lv_at hl 2 rfl) ?_
  refine cpN (host := RX3) (rest := [.int (f_X3_padX p0)]) (As := [.int p1]) E (c_X3_padX l G A S r p1) (va_cnB 1 hts gX0_crossingY_X3_padX_n113 rfl rfl rfl (hK.2 (.methodLinkNest RX0 113 yX3_padX RX3) (by decide +kernel)) (hts (.initialized RX3) (List.mem_of_getElem? (i := 6) rfl)) (by decide +kernel) ⟨Nat.le_of_ble_eq_true rfl, Nat.le_of_ble_eq_true rfl⟩) (hts (.static yX3_padX) (List.mem_of_getElem? (i := 5) rfl)) hK hP rfl hl.1 rfl (Nat.le_of_ble_eq_true rfl) dX0_crossingY_5 ⟨Nat.zero_le _, Nat.zero_le _⟩ ?_
  refine lv_isub hx hb dX0_crossingY_8 ?_
  refine va_mabs hx hb (by rw [hml]; exact hl.1.symm) hown (hts (.methodLink RX0 119 Lib.Math.abs.name) (List.mem_of_getElem? (i := 1) rfl)) (hts (.static Lib.Math.abs.name) (List.mem_of_getElem? (i := 2) rfl)) (hts (.initialized "java/lang/Math") (List.mem_of_getElem? (i := 3) rfl)) (hts (.code Lib.Math.abs.name Lib.Math.abs.code 1 (some .int)) (List.mem_of_getElem? (i := 4) rfl)) (Nat.le_of_ble_eq_true rfl) (Nat.le_of_ble_eq_true rfl) (Nat.zero_le _) (Nat.zero_le _) dX0_crossingY_9 ?_
  refine lv_istore_n (lv' := [(3, .int (if 0 ≤ ((f_X3_padX p0) - (f_X3_padX p1)) then ((f_X3_padX p0) - (f_X3_padX p1)) else 0 - ((f_X3_padX p0) - (f_X3_padX p1)))), (0, .ref (A (6 * 0))), (1, .int p0), (2, .int p1)]) hx hb dX0_crossingY_12 rfl hl (by decide) rfl (fun ls hl => ?_)
  refine lv_aload_n hx hb dX0_crossingY_13 rfl (lv_at hl 1 rfl) ?_
  refine lv_iload_n hx hb dX0_crossingY_14 rfl (lv_at hl 2 rfl) ?_
  refine cpV (rest := []) (As := [.int p0]) E (c_X0_endX l G A S r p0) (cwV 1 hts gX0_crossingY_X0_endX rfl rfl rfl (by decide +kernel) ⟨Nat.le_of_ble_eq_true rfl, Nat.le_of_ble_eq_true rfl⟩) hK hP (6 * 0) (wX_o G A S r 0 (by decide)) rfl rfl hl.1 rfl (Nat.le_of_ble_eq_true rfl) dX0_crossingY_15 ⟨Nat.zero_le _, Nat.zero_le _⟩ ?_
  refine lv_aload_n hx hb dX0_crossingY_18 rfl (lv_at hl 1 rfl) ?_
  refine lv_iload_n hx hb dX0_crossingY_19 rfl (lv_at hl 3 rfl) ?_
  refine cpV (rest := [.int (f_X0_endX S p0)]) (As := [.int p1]) E (c_X0_endX l G A S r p1) (cwV 1 hts gX0_crossingY_X0_endX rfl rfl rfl (by decide +kernel) ⟨Nat.le_of_ble_eq_true rfl, Nat.le_of_ble_eq_true rfl⟩) hK hP (6 * 0) (wX_o G A S r 0 (by decide)) rfl rfl hl.1 rfl (Nat.le_of_ble_eq_true rfl) dX0_crossingY_20 ⟨Nat.zero_le _, Nat.zero_le _⟩ ?_
  refine lv_isub hx hb dX0_crossingY_23 ?_
  refine va_mabs hx hb (by rw [hml]; exact hl.1.symm) hown (hts (.methodLink RX0 119 Lib.Math.abs.name) (List.mem_of_getElem? (i := 1) rfl)) (hts (.static Lib.Math.abs.name) (List.mem_of_getElem? (i := 2) rfl)) (hts (.initialized "java/lang/Math") (List.mem_of_getElem? (i := 3) rfl)) (hts (.code Lib.Math.abs.name Lib.Math.abs.code 1 (some .int)) (List.mem_of_getElem? (i := 4) rfl)) (Nat.le_of_ble_eq_true rfl) (Nat.le_of_ble_eq_true rfl) (Nat.zero_le _) (Nat.zero_le _) dX0_crossingY_24 ?_
  refine lv_istore (lv' := [(4, .int (if 0 ≤ ((f_X0_endX S p0) - (f_X0_endX S p1)) then ((f_X0_endX S p0) - (f_X0_endX S p1)) else 0 - ((f_X0_endX S p0) - (f_X0_endX S p1)))), (3, .int (if 0 ≤ ((f_X3_padX p0) - (f_X3_padX p1)) then ((f_X3_padX p0) - (f_X3_padX p1)) else 0 - ((f_X3_padX p0) - (f_X3_padX p1)))), (0, .ref (A (6 * 0))), (1, .int p0), (2, .int p1)]) hx hb dX0_crossingY_27 hl (by decide) rfl (fun ls hl => ?_)
  refine lv_iload_n hx hb dX0_crossingY_29 rfl (lv_at hl 1 rfl) ?_
  refine lv_iload hx hb dX0_crossingY_30 (lv_at hl 0 rfl) ?_
  refine lv_iadd hx hb dX0_crossingY_32 ?_
  refine lv_istore (lv' := [(5, .int ((if 0 ≤ ((f_X3_padX p0) - (f_X3_padX p1)) then ((f_X3_padX p0) - (f_X3_padX p1)) else 0 - ((f_X3_padX p0) - (f_X3_padX p1))) + (if 0 ≤ ((f_X0_endX S p0) - (f_X0_endX S p1)) then ((f_X0_endX S p0) - (f_X0_endX S p1)) else 0 - ((f_X0_endX S p0) - (f_X0_endX S p1))))), (4, .int (if 0 ≤ ((f_X0_endX S p0) - (f_X0_endX S p1)) then ((f_X0_endX S p0) - (f_X0_endX S p1)) else 0 - ((f_X0_endX S p0) - (f_X0_endX S p1)))), (3, .int (if 0 ≤ ((f_X3_padX p0) - (f_X3_padX p1)) then ((f_X3_padX p0) - (f_X3_padX p1)) else 0 - ((f_X3_padX p0) - (f_X3_padX p1)))), (0, .ref (A (6 * 0))), (1, .int p0), (2, .int p1)]) hx hb dX0_crossingY_33 hl (by decide) rfl (fun ls hl => ?_)
  refine lv_iload hx hb dX0_crossingY_35 (lv_at hl 0 rfl) ?_
  refine lv_if_le (tgt := 51) hx hb dX0_crossingY_37 (by decide) (fun c1 => ?_) (fun c1 => ?_)
  · skip
    refine lv_iconst (v := 0) hx hb dX0_crossingY_51 (by decide) ?_
    exact endP hx hb hr hlocks rfl (Eq.symm (Eq.trans (e_X0_crossingY S p0 p1) ((if_pos c1)))) dX0_crossingY_52
  · skip
    refine lv_sipush (v := 200) hx hb dX0_crossingY_40 (by decide) ?_
    refine lv_iload_n hx hb dX0_crossingY_43 rfl (lv_at hl 2 rfl) ?_
    refine lv_imul hx hb dX0_crossingY_44 ?_
    refine lv_iload hx hb dX0_crossingY_45 (lv_at hl 0 rfl) ?_
    refine lv_idiv hx hb dX0_crossingY_47 (ne_of_pos (by assumption)) ?_
    refine lv_goto (tgt := 52) hx hb dX0_crossingY_48 (by decide) ?_
    exact endP hx hb hr hlocks rfl (Eq.symm (Eq.trans (e_X0_crossingY S p0 p1) ((if_neg c1)))) dX0_crossingY_52
noncomputable def f_X0_gap (S : XS) (p0 p1 p2 : Int32) : Int32 := opq (if 0 ≤ ((f_X3_loopAt p1 (f_X0_crossingY S p0 p2)) - (f_X3_loopAt (f_X0_heightOf S p2) (f_X0_crossingY S p0 p2))) then ((f_X3_loopAt p1 (f_X0_crossingY S p0 p2)) - (f_X3_loopAt (f_X0_heightOf S p2) (f_X0_crossingY S p0 p2))) else 0 - ((f_X3_loopAt p1 (f_X0_crossingY S p0 p2)) - (f_X3_loopAt (f_X0_heightOf S p2) (f_X0_crossingY S p0 p2))))
theorem e_X0_gap (S : XS) (p0 p1 p2 : Int32) : f_X0_gap S p0 p1 p2 = (if 0 ≤ ((f_X3_loopAt p1 (f_X0_crossingY S p0 p2)) - (f_X3_loopAt (f_X0_heightOf S p2) (f_X0_crossingY S p0 p2))) then ((f_X3_loopAt p1 (f_X0_crossingY S p0 p2)) - (f_X3_loopAt (f_X0_heightOf S p2) (f_X0_crossingY S p0 p2))) else 0 - ((f_X3_loopAt p1 (f_X0_crossingY S p0 p2)) - (f_X3_loopAt (f_X0_heightOf S p2) (f_X0_crossingY S p0 p2)))) := opq_eq _
set_option maxHeartbeats 4000000 in
set_option maxRecDepth 100000 in
theorem c_X0_gap (l : Launch) (G : GG) (A : Nat → Nat) (S : XS) (r : Nat) (p0 p1 p2 : Int32) : Mp l yX0_gap wsX0_gap ({ frames := 2, cells := 0, slots := 0, locals := 47 } : Room) G [.ref (A (6 * 0)), .int p0, .int p1, .int p2] (wX G A S r) (f_X0_gap S p0 p1 p2) := by
  refine Mp.of (cc := cX0_gap) (maxL := 5) (ret := (some .int)) (by decide) rfl (Nat.le_of_ble_eq_true rfl) ?_
  intro p e s m args below meth c E hr hlocks hP hK ls hl
  have E : CallFix p m c cX0_gap 5 s args wsX0_gap RX0 := E
  have hx := E.1
  have hb := E.2.1
  have hml := E.2.2.1
  have hown := E.2.2.2.1
  have hts := E.2.2.2.2
  have hl : lv_has ls 5 [(0, .ref (A (6 * 0))), (1, .int p0), (2, .int p1), (3, .int p2)] := hl
  refine lv_aload_n hx hb dX0_gap_0 rfl (lv_at hl 0 rfl) ?_
  refine lv_iload_n hx hb dX0_gap_1 rfl (lv_at hl 1 rfl) ?_
  refine lv_iload_n hx hb dX0_gap_2 rfl (lv_at hl 3 rfl) ?_
  refine cpV (rest := []) (As := [.int p0, .int p2]) E (c_X0_crossingY l G A S r p0 p2) (cwV 2 hts gX0_gap_X0_crossingY rfl rfl rfl (by decide +kernel) ⟨Nat.le_of_ble_eq_true rfl, Nat.le_of_ble_eq_true rfl⟩) hK hP (6 * 0) (wX_o G A S r 0 (by decide)) rfl rfl hl.1 rfl (Nat.le_of_ble_eq_true rfl) dX0_gap_3 ⟨Nat.zero_le _, Nat.zero_le _⟩ ?_
  refine lv_istore (lv' := [(4, .int (f_X0_crossingY S p0 p2)), (0, .ref (A (6 * 0))), (1, .int p0), (2, .int p1), (3, .int p2)]) hx hb dX0_gap_6 hl (by decide) rfl (fun ls hl => ?_)
  refine lv_iload_n hx hb dX0_gap_8 rfl (lv_at hl 3 rfl) ?_
  refine lv_iload hx hb dX0_gap_9 (lv_at hl 0 rfl) ?_
  refine cpN (host := RX3) (rest := []) (As := [.int p1, .int (f_X0_crossingY S p0 p2)]) E (c_X3_loopAt l G A S r p1 (f_X0_crossingY S p0 p2)) (va_cnB 2 hts gX0_gap_X3_loopAt_n136 rfl rfl rfl (hK.2 (.methodLinkNest RX0 136 yX3_loopAt RX3) (by decide +kernel)) (hts (.initialized RX3) (List.mem_of_getElem? (i := 11) rfl)) (by decide +kernel) ⟨Nat.le_of_ble_eq_true rfl, Nat.le_of_ble_eq_true rfl⟩) (hts (.static yX3_loopAt) (List.mem_of_getElem? (i := 19) rfl)) hK hP rfl hl.1 rfl (Nat.le_of_ble_eq_true rfl) dX0_gap_11 ⟨Nat.zero_le _, Nat.zero_le _⟩ ?_
  refine lv_aload_n hx hb dX0_gap_14 rfl (lv_at hl 1 rfl) ?_
  refine lv_iload_n hx hb dX0_gap_15 rfl (lv_at hl 4 rfl) ?_
  refine cpV (rest := [.int (f_X3_loopAt p1 (f_X0_crossingY S p0 p2))]) (As := [.int p2]) E (c_X0_heightOf l G A S r p2) (cwV 1 hts gX0_gap_X0_heightOf rfl rfl rfl (by decide +kernel) ⟨Nat.le_of_ble_eq_true rfl, Nat.le_of_ble_eq_true rfl⟩) hK hP (6 * 0) (wX_o G A S r 0 (by decide)) rfl rfl hl.1 rfl (Nat.le_of_ble_eq_true rfl) dX0_gap_16 ⟨Nat.zero_le _, Nat.zero_le _⟩ ?_
  refine lv_iload hx hb dX0_gap_19 (lv_at hl 0 rfl) ?_
  refine cpN (host := RX3) (rest := [.int (f_X3_loopAt p1 (f_X0_crossingY S p0 p2))]) (As := [.int (f_X0_heightOf S p2), .int (f_X0_crossingY S p0 p2)]) E (c_X3_loopAt l G A S r (f_X0_heightOf S p2) (f_X0_crossingY S p0 p2)) (va_cnB 2 hts gX0_gap_X3_loopAt_n136 rfl rfl rfl (hK.2 (.methodLinkNest RX0 136 yX3_loopAt RX3) (by decide +kernel)) (hts (.initialized RX3) (List.mem_of_getElem? (i := 11) rfl)) (by decide +kernel) ⟨Nat.le_of_ble_eq_true rfl, Nat.le_of_ble_eq_true rfl⟩) (hts (.static yX3_loopAt) (List.mem_of_getElem? (i := 19) rfl)) hK hP rfl hl.1 rfl (Nat.le_of_ble_eq_true rfl) dX0_gap_21 ⟨Nat.zero_le _, Nat.zero_le _⟩ ?_
  refine lv_isub hx hb dX0_gap_24 ?_
  refine va_mabs hx hb (by rw [hml]; exact hl.1.symm) hown (hts (.methodLink RX0 119 Lib.Math.abs.name) (List.mem_of_getElem? (i := 1) rfl)) (hts (.static Lib.Math.abs.name) (List.mem_of_getElem? (i := 2) rfl)) (hts (.initialized "java/lang/Math") (List.mem_of_getElem? (i := 3) rfl)) (hts (.code Lib.Math.abs.name Lib.Math.abs.code 1 (some .int)) (List.mem_of_getElem? (i := 4) rfl)) (Nat.le_of_ble_eq_true rfl) (Nat.le_of_ble_eq_true rfl) (Nat.zero_le _) (Nat.zero_le _) dX0_gap_25 ?_
  exact endP hx hb hr hlocks rfl (Eq.symm ((e_X0_gap S p0 p1 p2))) dX0_gap_28
noncomputable def f_X0_isShort (S : XS) (p0 p1 p2 : Int32) : Int32 := opq (if (f_X0_cross S p0 p2) = 0 then 0 else (if (S 0 0 1) ≤ (f_X0_gap S p0 p1 p2) then 0 else 1))
theorem e_X0_isShort (S : XS) (p0 p1 p2 : Int32) : f_X0_isShort S p0 p1 p2 = (if (f_X0_cross S p0 p2) = 0 then 0 else (if (S 0 0 1) ≤ (f_X0_gap S p0 p1 p2) then 0 else 1)) := opq_eq _
set_option maxHeartbeats 4000000 in
set_option maxRecDepth 100000 in
theorem c_X0_isShort (l : Launch) (G : GG) (A : Nat → Nat) (S : XS) (r : Nat) (p0 p1 p2 : Int32) : Mp l yX0_isShort wsX0_isShort ({ frames := 3, cells := 0, slots := 0, locals := 71 } : Room) G [.ref (A (6 * 0)), .int p0, .int p1, .int p2] (wX G A S r) (f_X0_isShort S p0 p1 p2) := by
  refine Mp.of (cc := cX0_isShort) (maxL := 4) (ret := (some .boolean)) (by decide) rfl (Nat.le_of_ble_eq_true rfl) ?_
  intro p e s m args below meth c E hr hlocks hP hK ls hl
  have E : CallFix p m c cX0_isShort 4 s args wsX0_isShort RX0 := E
  have hx := E.1
  have hb := E.2.1
  have hml := E.2.2.1
  have hown := E.2.2.2.1
  have hts := E.2.2.2.2
  have hl : lv_has ls 4 [(0, .ref (A (6 * 0))), (1, .int p0), (2, .int p1), (3, .int p2)] := hl
  have hinX0 : ∀ w ∈ u_ws RX0 TX0 12, w ∈ wsX0_isShort := fun _ h => List.mem_cons_of_mem _ (List.mem_append_right _ h)
  refine lv_aload_n hx hb dX0_isShort_0 rfl (lv_at hl 0 rfl) ?_
  refine lv_iload_n hx hb dX0_isShort_1 rfl (lv_at hl 1 rfl) ?_
  refine lv_iload_n hx hb dX0_isShort_2 rfl (lv_at hl 3 rfl) ?_
  refine cpV (rest := []) (As := [.int p0, .int p2]) E (c_X0_cross l G A S r p0 p2) (cwV 2 hts gX0_isShort_X0_cross rfl rfl rfl (by decide +kernel) ⟨Nat.le_of_ble_eq_true rfl, Nat.le_of_ble_eq_true rfl⟩) hK hP (6 * 0) (wX_o G A S r 0 (by decide)) rfl rfl hl.1 rfl (Nat.le_of_ble_eq_true rfl) dX0_isShort_3 ⟨Nat.zero_le _, Nat.zero_le _⟩ ?_
  refine lv_if_eq (tgt := 27) hx hb dX0_isShort_6 (by decide) (fun c1 => ?_) (fun c1 => ?_)
  · skip
    refine lv_iconst (v := 0) hx hb dX0_isShort_27 (by decide) ?_
    exact endP hx hb hr hlocks rfl (Eq.symm (Eq.trans (e_X0_isShort S p0 p1 p2) ((if_pos c1)))) dX0_isShort_28
  · skip
    refine lv_aload_n hx hb dX0_isShort_9 rfl (lv_at hl 0 rfl) ?_
    refine lv_iload_n hx hb dX0_isShort_10 rfl (lv_at hl 1 rfl) ?_
    refine lv_iload_n hx hb dX0_isShort_11 rfl (lv_at hl 2 rfl) ?_
    refine lv_iload_n hx hb dX0_isShort_12 rfl (lv_at hl 3 rfl) ?_
    refine cpV (rest := []) (As := [.int p0, .int p1, .int p2]) E (c_X0_gap l G A S r p0 p1 p2) (cwV 3 hts gX0_isShort_X0_gap rfl rfl rfl (by decide +kernel) ⟨Nat.le_of_ble_eq_true rfl, Nat.le_of_ble_eq_true rfl⟩) hK hP (6 * 0) (wX_o G A S r 0 (by decide)) rfl rfl hl.1 rfl (Nat.le_of_ble_eq_true rfl) dX0_isShort_13 ⟨Nat.zero_le _, Nat.zero_le _⟩ ?_
    refine lv_aload_n hx hb dX0_isShort_16 rfl (lv_at hl 0 rfl) ?_
    refine va_get (D := G.1) (ci := 0) (v := .int (S 0 0 1)) (C := RX0) (T := TX0) (N := 12) hx hb hts hinX0 hown hK.1 hP (6 * 0) (wX_o G A S r 0 (by decide)) rfl 6 (by decide) (hts (.fieldLink RX0 33 "WireLoops$Chip" "width" "I") (List.mem_of_getElem? (i := 1) rfl)) (fun _ h9 => h9) rfl dX0_isShort_17 ?_
    refine lv_icmp_ge (tgt := 27) hx hb dX0_isShort_20 (by decide) (fun c2 => ?_) (fun c2 => ?_)
    · skip
      refine lv_iconst (v := 0) hx hb dX0_isShort_27 (by decide) ?_
      exact endP hx hb hr hlocks rfl (Eq.symm (Eq.trans (e_X0_isShort S p0 p1 p2) (Eq.trans (if_neg c1) ((if_pos c2))))) dX0_isShort_28
    · skip
      refine lv_iconst (v := 1) hx hb dX0_isShort_23 (by decide) ?_
      refine lv_goto (tgt := 28) hx hb dX0_isShort_24 (by decide) ?_
      exact endP hx hb hr hlocks rfl (Eq.symm (Eq.trans (e_X0_isShort S p0 p1 p2) (Eq.trans (if_neg c1) ((if_neg c2))))) dX0_isShort_28
noncomputable def g_X0_crossingsOf_4 (S : XS) (p0 : Int32) : Nat → Nat → Int32 → Int32
  | 0, k, v => v
  | n + 1, k, v => opq (if 12 ≤ (nI k) then v else (if (f_X0_cross S p0 (nI k)) = 0 then (g_X0_crossingsOf_4 S p0 n (k + 1) v) else (g_X0_crossingsOf_4 S p0 n (k + 1) (v + 1))))
theorem ge_X0_crossingsOf_4 (S : XS) (p0 : Int32) (n : Nat) (k : Nat) (v : Int32) : g_X0_crossingsOf_4 S p0 (n + 1) k v = (if 12 ≤ (nI k) then v else (if (f_X0_cross S p0 (nI k)) = 0 then (g_X0_crossingsOf_4 S p0 n (k + 1) v) else (g_X0_crossingsOf_4 S p0 n (k + 1) (v + 1)))) := opq_eq _
noncomputable def f_X0_crossingsOf (S : XS) (p0 : Int32) : Int32 := opq (g_X0_crossingsOf_4 S p0 13 0 0)
theorem e_X0_crossingsOf (S : XS) (p0 : Int32) : f_X0_crossingsOf S p0 = (g_X0_crossingsOf_4 S p0 13 0 0) := opq_eq _
set_option maxHeartbeats 4000000 in
set_option maxRecDepth 100000 in
theorem c_X0_crossingsOf (l : Launch) (G : GG) (A : Nat → Nat) (S : XS) (r : Nat) (p0 : Int32) : Mp l yX0_crossingsOf wsX0_crossingsOf ({ frames := 3, cells := 0, slots := 0, locals := 63 } : Room) G [.ref (A (6 * 0)), .int p0] (wX G A S r) (f_X0_crossingsOf S p0) := by
  refine Mp.of (cc := cX0_crossingsOf) (maxL := 4) (ret := (some .int)) (by decide) rfl (Nat.le_of_ble_eq_true rfl) ?_
  intro p e s m args below meth c E hr hlocks hP hK ls hl
  have E : CallFix p m c cX0_crossingsOf 4 s args wsX0_crossingsOf RX0 := E
  have hx := E.1
  have hb := E.2.1
  have hml := E.2.2.1
  have hown := E.2.2.2.1
  have hts := E.2.2.2.2
  have hl : lv_has ls 4 [(0, .ref (A (6 * 0))), (1, .int p0)] := hl
  have LOOP4 : ∀ (n : Nat) (k : Nat) (v : Int32) (Q : State → Prop), (k ≤ 12) → (12 < k + n) → ∀ V : Int32, g_X0_crossingsOf_4 S p0 n k v = V → (∀ ls : Array Slot, lv_has ls 4 [(2, .int V)] → W p l e ({ frames := 3, cells := 0, slots := 0, locals := 63 } : Room) s m args below meth c s.heap [] 0 0 (Q) (F0 m 28 ls [])) → ∀ ls : Array Slot, lv_has ls 4 [(0, .ref (A (6 * 0))), (1, .int p0), (2, .int v), (3, .int (nI k))] → W p l e ({ frames := 3, cells := 0, slots := 0, locals := 63 } : Room) s m args below meth c s.heap [] 0 0 (Q) (F0 m 4 ls []) := by
    intro n
    induction n with
    | zero =>
      intro k v Q hk hn
      exact absurd hn (by omega)
    | succ n ih =>
      intro k v Q hk hn V hres kk ls hl
      have hl : lv_has ls 4 [(0, .ref (A (6 * 0))), (1, .int p0), (2, .int v), (3, .int (nI k))] := hl
      refine lv_iload_n hx hb dX0_crossingsOf_4 rfl (lv_at hl 3 rfl) ?_
      refine lv_bipush (v := 12) hx hb dX0_crossingsOf_5 (by decide) ?_
      refine lv_icmp_ge (tgt := 28) hx hb dX0_crossingsOf_7 (by decide) (fun c1 => ?_) (fun c1 => ?_)
      · skip
        have hfin : v = V := Eq.trans (Eq.symm (Eq.trans (ge_X0_crossingsOf_4 S p0 n k v) ((if_pos c1)))) hres
        subst hfin
        exact kk _ (lv_sub hl [2] rfl)
      · skip
        have hk2 : k < 12 := lt_of_nle (N := 12) rfl hk c1 (by decide)
        refine lv_aload_n hx hb dX0_crossingsOf_10 rfl (lv_at hl 0 rfl) ?_
        refine lv_iload_n hx hb dX0_crossingsOf_11 rfl (lv_at hl 1 rfl) ?_
        refine lv_iload_n hx hb dX0_crossingsOf_12 rfl (lv_at hl 3 rfl) ?_
        refine cpV (rest := []) (As := [.int p0, .int (nI k)]) E (c_X0_cross l G A S r p0 (nI k)) (cwV 2 hts gX0_crossingsOf_X0_cross rfl rfl rfl (by decide +kernel) ⟨Nat.le_of_ble_eq_true rfl, Nat.le_of_ble_eq_true rfl⟩) hK hP (6 * 0) (wX_o G A S r 0 (by decide)) rfl rfl hl.1 rfl (Nat.le_of_ble_eq_true rfl) dX0_crossingsOf_13 ⟨Nat.zero_le _, Nat.zero_le _⟩ ?_
        refine lv_if_eq (tgt := 22) hx hb dX0_crossingsOf_16 (by decide) (fun c2 => ?_) (fun c2 => ?_)
        · skip
          refine lv_iinc (v := (nI (k + 1))) (lv' := [(3, .int (nI (k + 1))), (0, .ref (A (6 * 0))), (1, .int p0), (2, .int v)]) hx hb dX0_crossingsOf_22 hl (k := 3) rfl (nI_1 k) (by decide) rfl (fun ls hl => ?_)
          refine lv_goto (tgt := 4) hx hb dX0_crossingsOf_25 (by decide) ?_
          exact ih (k + 1) v Q (by omega) (by omega) V (Eq.trans (Eq.symm (Eq.trans (ge_X0_crossingsOf_4 S p0 n k v) (Eq.trans (if_neg c1) ((if_pos c2))))) hres) kk  _ (lv_sub hl [1, 2, 3, 0] rfl)
        · skip
          refine lv_iinc (v := (v + 1)) (lv' := [(2, .int (v + 1)), (0, .ref (A (6 * 0))), (1, .int p0), (3, .int (nI k))]) hx hb dX0_crossingsOf_19 hl (k := 2) rfl (rfl) (by decide) rfl (fun ls hl => ?_)
          refine lv_iinc (v := (nI (k + 1))) (lv' := [(3, .int (nI (k + 1))), (2, .int (v + 1)), (0, .ref (A (6 * 0))), (1, .int p0)]) hx hb dX0_crossingsOf_22 hl (k := 3) rfl (nI_1 k) (by decide) rfl (fun ls hl => ?_)
          refine lv_goto (tgt := 4) hx hb dX0_crossingsOf_25 (by decide) ?_
          exact ih (k + 1) (v + 1) Q (by omega) (by omega) V (Eq.trans (Eq.symm (Eq.trans (ge_X0_crossingsOf_4 S p0 n k v) (Eq.trans (if_neg c1) ((if_neg c2))))) hres) kk  _ (lv_sub hl [2, 3, 1, 0] rfl)
  refine lv_iconst (v := 0) hx hb dX0_crossingsOf_0 (by decide) ?_
  refine lv_istore_n (lv' := [(2, .int 0), (0, .ref (A (6 * 0))), (1, .int p0)]) hx hb dX0_crossingsOf_1 rfl hl (by decide) rfl (fun ls hl => ?_)
  refine lv_iconst (v := 0) hx hb dX0_crossingsOf_2 (by decide) ?_
  refine lv_istore_n (lv' := [(3, .int 0), (2, .int 0), (0, .ref (A (6 * 0))), (1, .int p0)]) hx hb dX0_crossingsOf_3 rfl hl (by decide) rfl (fun ls hl => ?_)
  refine LOOP4 13 0 0 _ (by omega) (by omega) _ rfl (fun ls hl => ?_)  _ (lv_sub hl [2, 3, 1, 0] rfl)
  have hl : lv_has ls 4 [(2, .int (g_X0_crossingsOf_4 S p0 13 0 0))] := hl
  refine lv_iload_n hx hb dX0_crossingsOf_28 rfl (lv_at hl 0 rfl) ?_
  exact endP hx hb hr hlocks rfl (Eq.symm ((e_X0_crossingsOf S p0))) dX0_crossingsOf_29
noncomputable def g_X0_shortOnes_5 (S : XS) (p0 p1 : Int32) : Nat → Nat → Int32 → Int32
  | 0, k, v => v
  | n + 1, k, v => opq (if 12 ≤ (nI k) then v else (if (f_X0_isShort S p0 p1 (nI k)) = 0 then (g_X0_shortOnes_5 S p0 p1 n (k + 1) v) else (g_X0_shortOnes_5 S p0 p1 n (k + 1) (v + 1))))
theorem ge_X0_shortOnes_5 (S : XS) (p0 p1 : Int32) (n : Nat) (k : Nat) (v : Int32) : g_X0_shortOnes_5 S p0 p1 (n + 1) k v = (if 12 ≤ (nI k) then v else (if (f_X0_isShort S p0 p1 (nI k)) = 0 then (g_X0_shortOnes_5 S p0 p1 n (k + 1) v) else (g_X0_shortOnes_5 S p0 p1 n (k + 1) (v + 1)))) := opq_eq _
noncomputable def f_X0_shortOnes (S : XS) (p0 p1 : Int32) : Int32 := opq (g_X0_shortOnes_5 S p0 p1 13 0 0)
theorem e_X0_shortOnes (S : XS) (p0 p1 : Int32) : f_X0_shortOnes S p0 p1 = (g_X0_shortOnes_5 S p0 p1 13 0 0) := opq_eq _
set_option maxHeartbeats 4000000 in
set_option maxRecDepth 100000 in
theorem c_X0_shortOnes (l : Launch) (G : GG) (A : Nat → Nat) (S : XS) (r : Nat) (p0 p1 : Int32) : Mp l yX0_shortOnes wsX0_shortOnes ({ frames := 4, cells := 0, slots := 0, locals := 94 } : Room) G [.ref (A (6 * 0)), .int p0, .int p1] (wX G A S r) (f_X0_shortOnes S p0 p1) := by
  refine Mp.of (cc := cX0_shortOnes) (maxL := 5) (ret := (some .int)) (by decide) rfl (Nat.le_of_ble_eq_true rfl) ?_
  intro p e s m args below meth c E hr hlocks hP hK ls hl
  have E : CallFix p m c cX0_shortOnes 5 s args wsX0_shortOnes RX0 := E
  have hx := E.1
  have hb := E.2.1
  have hml := E.2.2.1
  have hown := E.2.2.2.1
  have hts := E.2.2.2.2
  have hl : lv_has ls 5 [(0, .ref (A (6 * 0))), (1, .int p0), (2, .int p1)] := hl
  have LOOP5 : ∀ (n : Nat) (k : Nat) (v : Int32) (Q : State → Prop), (k ≤ 12) → (12 < k + n) → ∀ V : Int32, g_X0_shortOnes_5 S p0 p1 n k v = V → (∀ ls : Array Slot, lv_has ls 5 [(3, .int V)] → W p l e ({ frames := 4, cells := 0, slots := 0, locals := 94 } : Room) s m args below meth c s.heap [] 0 0 (Q) (F0 m 32 ls [])) → ∀ ls : Array Slot, lv_has ls 5 [(0, .ref (A (6 * 0))), (1, .int p0), (2, .int p1), (3, .int v), (4, .int (nI k))] → W p l e ({ frames := 4, cells := 0, slots := 0, locals := 94 } : Room) s m args below meth c s.heap [] 0 0 (Q) (F0 m 5 ls []) := by
    intro n
    induction n with
    | zero =>
      intro k v Q hk hn
      exact absurd hn (by omega)
    | succ n ih =>
      intro k v Q hk hn V hres kk ls hl
      have hl : lv_has ls 5 [(0, .ref (A (6 * 0))), (1, .int p0), (2, .int p1), (3, .int v), (4, .int (nI k))] := hl
      refine lv_iload hx hb dX0_shortOnes_5 (lv_at hl 4 rfl) ?_
      refine lv_bipush (v := 12) hx hb dX0_shortOnes_7 (by decide) ?_
      refine lv_icmp_ge (tgt := 32) hx hb dX0_shortOnes_9 (by decide) (fun c1 => ?_) (fun c1 => ?_)
      · skip
        have hfin : v = V := Eq.trans (Eq.symm (Eq.trans (ge_X0_shortOnes_5 S p0 p1 n k v) ((if_pos c1)))) hres
        subst hfin
        exact kk _ (lv_sub hl [3] rfl)
      · skip
        have hk2 : k < 12 := lt_of_nle (N := 12) rfl hk c1 (by decide)
        refine lv_aload_n hx hb dX0_shortOnes_12 rfl (lv_at hl 0 rfl) ?_
        refine lv_iload_n hx hb dX0_shortOnes_13 rfl (lv_at hl 1 rfl) ?_
        refine lv_iload_n hx hb dX0_shortOnes_14 rfl (lv_at hl 2 rfl) ?_
        refine lv_iload hx hb dX0_shortOnes_15 (lv_at hl 4 rfl) ?_
        refine cpV (rest := []) (As := [.int p0, .int p1, .int (nI k)]) E (c_X0_isShort l G A S r p0 p1 (nI k)) (cwV 3 hts gX0_shortOnes_X0_isShort rfl rfl rfl (by decide +kernel) ⟨Nat.le_of_ble_eq_true rfl, Nat.le_of_ble_eq_true rfl⟩) hK hP (6 * 0) (wX_o G A S r 0 (by decide)) rfl rfl hl.1 rfl (Nat.le_of_ble_eq_true rfl) dX0_shortOnes_17 ⟨Nat.zero_le _, Nat.zero_le _⟩ ?_
        refine lv_if_eq (tgt := 26) hx hb dX0_shortOnes_20 (by decide) (fun c2 => ?_) (fun c2 => ?_)
        · skip
          refine lv_iinc (v := (nI (k + 1))) (lv' := [(4, .int (nI (k + 1))), (0, .ref (A (6 * 0))), (1, .int p0), (2, .int p1), (3, .int v)]) hx hb dX0_shortOnes_26 hl (k := 4) rfl (nI_1 k) (by decide) rfl (fun ls hl => ?_)
          refine lv_goto (tgt := 5) hx hb dX0_shortOnes_29 (by decide) ?_
          exact ih (k + 1) v Q (by omega) (by omega) V (Eq.trans (Eq.symm (Eq.trans (ge_X0_shortOnes_5 S p0 p1 n k v) (Eq.trans (if_neg c1) ((if_pos c2))))) hres) kk  _ (lv_sub hl [1, 2, 3, 4, 0] rfl)
        · skip
          refine lv_iinc (v := (v + 1)) (lv' := [(3, .int (v + 1)), (0, .ref (A (6 * 0))), (1, .int p0), (2, .int p1), (4, .int (nI k))]) hx hb dX0_shortOnes_23 hl (k := 3) rfl (rfl) (by decide) rfl (fun ls hl => ?_)
          refine lv_iinc (v := (nI (k + 1))) (lv' := [(4, .int (nI (k + 1))), (3, .int (v + 1)), (0, .ref (A (6 * 0))), (1, .int p0), (2, .int p1)]) hx hb dX0_shortOnes_26 hl (k := 4) rfl (nI_1 k) (by decide) rfl (fun ls hl => ?_)
          refine lv_goto (tgt := 5) hx hb dX0_shortOnes_29 (by decide) ?_
          exact ih (k + 1) (v + 1) Q (by omega) (by omega) V (Eq.trans (Eq.symm (Eq.trans (ge_X0_shortOnes_5 S p0 p1 n k v) (Eq.trans (if_neg c1) ((if_neg c2))))) hres) kk  _ (lv_sub hl [2, 3, 4, 1, 0] rfl)
  refine lv_iconst (v := 0) hx hb dX0_shortOnes_0 (by decide) ?_
  refine lv_istore_n (lv' := [(3, .int 0), (0, .ref (A (6 * 0))), (1, .int p0), (2, .int p1)]) hx hb dX0_shortOnes_1 rfl hl (by decide) rfl (fun ls hl => ?_)
  refine lv_iconst (v := 0) hx hb dX0_shortOnes_2 (by decide) ?_
  refine lv_istore (lv' := [(4, .int 0), (3, .int 0), (0, .ref (A (6 * 0))), (1, .int p0), (2, .int p1)]) hx hb dX0_shortOnes_3 hl (by decide) rfl (fun ls hl => ?_)
  refine LOOP5 13 0 0 _ (by omega) (by omega) _ rfl (fun ls hl => ?_)  _ (lv_sub hl [2, 3, 4, 1, 0] rfl)
  have hl : lv_has ls 5 [(3, .int (g_X0_shortOnes_5 S p0 p1 13 0 0))] := hl
  refine lv_iload_n hx hb dX0_shortOnes_32 rfl (lv_at hl 0 rfl) ?_
  exact endP hx hb hr hlocks rfl (Eq.symm ((e_X0_shortOnes S p0 p1))) dX0_shortOnes_33
noncomputable def g_X0_leastGap_5 (S : XS) (p0 : Int32) : Nat → Nat → Int32 → Int32
  | 0, k, v => v
  | n + 1, k, v => opq (if 12 ≤ (nI k) then v else (if (f_X0_cross S p0 (nI k)) = 0 then (g_X0_leastGap_5 S p0 n (k + 1) v) else (if v = (-5) then (g_X0_leastGap_5 S p0 n (k + 1) (f_X0_gap S p0 (f_X0_heightOf S p0) (nI k))) else (g_X0_leastGap_5 S p0 n (k + 1) (if (f_X0_gap S p0 (f_X0_heightOf S p0) (nI k)) < v then (f_X0_gap S p0 (f_X0_heightOf S p0) (nI k)) else v)))))
theorem ge_X0_leastGap_5 (S : XS) (p0 : Int32) (n : Nat) (k : Nat) (v : Int32) : g_X0_leastGap_5 S p0 (n + 1) k v = (if 12 ≤ (nI k) then v else (if (f_X0_cross S p0 (nI k)) = 0 then (g_X0_leastGap_5 S p0 n (k + 1) v) else (if v = (-5) then (g_X0_leastGap_5 S p0 n (k + 1) (f_X0_gap S p0 (f_X0_heightOf S p0) (nI k))) else (g_X0_leastGap_5 S p0 n (k + 1) (if (f_X0_gap S p0 (f_X0_heightOf S p0) (nI k)) < v then (f_X0_gap S p0 (f_X0_heightOf S p0) (nI k)) else v))))) := opq_eq _
noncomputable def f_X0_leastGap (S : XS) (p0 : Int32) : Int32 := opq (g_X0_leastGap_5 S p0 13 0 (-5))
theorem e_X0_leastGap (S : XS) (p0 : Int32) : f_X0_leastGap S p0 = (g_X0_leastGap_5 S p0 13 0 (-5)) := opq_eq _
set_option maxHeartbeats 4000000 in
set_option maxRecDepth 100000 in
theorem c_X0_leastGap (l : Launch) (G : GG) (A : Nat → Nat) (S : XS) (r : Nat) (p0 : Int32) : Mp l yX0_leastGap wsX0_leastGap ({ frames := 3, cells := 0, slots := 0, locals := 71 } : Room) G [.ref (A (6 * 0)), .int p0] (wX G A S r) (f_X0_leastGap S p0) := by
  refine Mp.of (cc := cX0_leastGap) (maxL := 5) (ret := (some .int)) (by decide) rfl (Nat.le_of_ble_eq_true rfl) ?_
  intro p e s m args below meth c E hr hlocks hP hK ls hl
  have E : CallFix p m c cX0_leastGap 5 s args wsX0_leastGap RX0 := E
  have hx := E.1
  have hb := E.2.1
  have hml := E.2.2.1
  have hown := E.2.2.2.1
  have hts := E.2.2.2.2
  have hl : lv_has ls 5 [(0, .ref (A (6 * 0))), (1, .int p0)] := hl
  have LOOP5 : ∀ (n : Nat) (k : Nat) (v : Int32) (Q : State → Prop), (k ≤ 12) → (12 < k + n) → ∀ V : Int32, g_X0_leastGap_5 S p0 n k v = V → (∀ ls : Array Slot, lv_has ls 5 [(2, .int V)] → W p l e ({ frames := 3, cells := 0, slots := 0, locals := 71 } : Room) s m args below meth c s.heap [] 0 0 (Q) (F0 m 57 ls [])) → ∀ ls : Array Slot, lv_has ls 5 [(0, .ref (A (6 * 0))), (1, .int p0), (2, .int v), (3, .int (nI k))] → W p l e ({ frames := 3, cells := 0, slots := 0, locals := 71 } : Room) s m args below meth c s.heap [] 0 0 (Q) (F0 m 5 ls []) := by
    intro n
    induction n with
    | zero =>
      intro k v Q hk hn
      exact absurd hn (by omega)
    | succ n ih =>
      intro k v Q hk hn V hres kk ls hl
      have hl : lv_has ls 5 [(0, .ref (A (6 * 0))), (1, .int p0), (2, .int v), (3, .int (nI k))] := hl
      refine lv_iload_n hx hb dX0_leastGap_5 rfl (lv_at hl 3 rfl) ?_
      refine lv_bipush (v := 12) hx hb dX0_leastGap_6 (by decide) ?_
      refine lv_icmp_ge (tgt := 57) hx hb dX0_leastGap_8 (by decide) (fun c1 => ?_) (fun c1 => ?_)
      · skip
        have hfin : v = V := Eq.trans (Eq.symm (Eq.trans (ge_X0_leastGap_5 S p0 n k v) ((if_pos c1)))) hres
        subst hfin
        exact kk _ (lv_sub hl [2] rfl)
      · skip
        have hk2 : k < 12 := lt_of_nle (N := 12) rfl hk c1 (by decide)
        refine lv_aload_n hx hb dX0_leastGap_11 rfl (lv_at hl 0 rfl) ?_
        refine lv_iload_n hx hb dX0_leastGap_12 rfl (lv_at hl 1 rfl) ?_
        refine lv_iload_n hx hb dX0_leastGap_13 rfl (lv_at hl 3 rfl) ?_
        refine cpV (rest := []) (As := [.int p0, .int (nI k)]) E (c_X0_cross l G A S r p0 (nI k)) (cwV 2 hts gX0_leastGap_X0_cross rfl rfl rfl (by decide +kernel) ⟨Nat.le_of_ble_eq_true rfl, Nat.le_of_ble_eq_true rfl⟩) hK hP (6 * 0) (wX_o G A S r 0 (by decide)) rfl rfl hl.1 rfl (Nat.le_of_ble_eq_true rfl) dX0_leastGap_14 ⟨Nat.zero_le _, Nat.zero_le _⟩ ?_
        refine lv_if_eq (tgt := 51) hx hb dX0_leastGap_17 (by decide) (fun c2 => ?_) (fun c2 => ?_)
        · skip
          refine lv_iinc (v := (nI (k + 1))) (lv' := [(3, .int (nI (k + 1))), (0, .ref (A (6 * 0))), (1, .int p0), (2, .int v)]) hx hb dX0_leastGap_51 hl (k := 3) rfl (nI_1 k) (by decide) rfl (fun ls hl => ?_)
          refine lv_goto (tgt := 5) hx hb dX0_leastGap_54 (by decide) ?_
          exact ih (k + 1) v Q (by omega) (by omega) V (Eq.trans (Eq.symm (Eq.trans (ge_X0_leastGap_5 S p0 n k v) (Eq.trans (if_neg c1) ((if_pos c2))))) hres) kk  _ (lv_sub hl [1, 2, 3, 0] rfl)
        · skip
          refine lv_aload_n hx hb dX0_leastGap_20 rfl (lv_at hl 0 rfl) ?_
          refine lv_iload_n hx hb dX0_leastGap_21 rfl (lv_at hl 1 rfl) ?_
          refine lv_aload_n hx hb dX0_leastGap_22 rfl (lv_at hl 0 rfl) ?_
          refine lv_iload_n hx hb dX0_leastGap_23 rfl (lv_at hl 1 rfl) ?_
          refine cpV (rest := [.int p0, .ref (A (6 * 0))]) (As := [.int p0]) E (c_X0_heightOf l G A S r p0) (cwV 1 hts gX0_leastGap_X0_heightOf rfl rfl rfl (by decide +kernel) ⟨Nat.le_of_ble_eq_true rfl, Nat.le_of_ble_eq_true rfl⟩) hK hP (6 * 0) (wX_o G A S r 0 (by decide)) rfl rfl hl.1 rfl (Nat.le_of_ble_eq_true rfl) dX0_leastGap_24 ⟨Nat.zero_le _, Nat.zero_le _⟩ ?_
          refine lv_iload_n hx hb dX0_leastGap_27 rfl (lv_at hl 3 rfl) ?_
          refine cpV (rest := []) (As := [.int p0, .int (f_X0_heightOf S p0), .int (nI k)]) E (c_X0_gap l G A S r p0 (f_X0_heightOf S p0) (nI k)) (cwV 3 hts gX0_leastGap_X0_gap rfl rfl rfl (by decide +kernel) ⟨Nat.le_of_ble_eq_true rfl, Nat.le_of_ble_eq_true rfl⟩) hK hP (6 * 0) (wX_o G A S r 0 (by decide)) rfl rfl hl.1 rfl (Nat.le_of_ble_eq_true rfl) dX0_leastGap_28 ⟨Nat.zero_le _, Nat.zero_le _⟩ ?_
          refine lv_istore (lv' := [(4, .int (f_X0_gap S p0 (f_X0_heightOf S p0) (nI k))), (0, .ref (A (6 * 0))), (1, .int p0), (2, .int v), (3, .int (nI k))]) hx hb dX0_leastGap_31 hl (by decide) rfl (fun ls hl => ?_)
          refine lv_iload_n hx hb dX0_leastGap_33 rfl (lv_at hl 3 rfl) ?_
          refine lv_bipush (v := (-5)) hx hb dX0_leastGap_34 (by decide) ?_
          refine lv_icmp_ne (tgt := 44) hx hb dX0_leastGap_36 (by decide) (fun c3 => ?_) (fun c3 => ?_)
          · skip
            refine lv_iload_n hx hb dX0_leastGap_44 rfl (lv_at hl 3 rfl) ?_
            refine lv_iload hx hb dX0_leastGap_45 (lv_at hl 0 rfl) ?_
            refine va_mmin hx hb (by rw [hml]; exact hl.1.symm) hown (hts (.methodLink RX0 153 Lib.Math.min.name) (List.mem_of_getElem? (i := 1) rfl)) (hts (.static Lib.Math.min.name) (List.mem_of_getElem? (i := 2) rfl)) (hts (.initialized "java/lang/Math") (List.mem_of_getElem? (i := 3) rfl)) (hts (.code Lib.Math.min.name Lib.Math.min.code 2 (some .int)) (List.mem_of_getElem? (i := 4) rfl)) (Nat.le_of_ble_eq_true rfl) (Nat.le_of_ble_eq_true rfl) (Nat.zero_le _) (Nat.zero_le _) dX0_leastGap_47 ?_
            refine lv_istore_n (lv' := [(2, .int (if (f_X0_gap S p0 (f_X0_heightOf S p0) (nI k)) < v then (f_X0_gap S p0 (f_X0_heightOf S p0) (nI k)) else v)), (4, .int (f_X0_gap S p0 (f_X0_heightOf S p0) (nI k))), (0, .ref (A (6 * 0))), (1, .int p0), (3, .int (nI k))]) hx hb dX0_leastGap_50 rfl hl (by decide) rfl (fun ls hl => ?_)
            refine lv_iinc (v := (nI (k + 1))) (lv' := [(3, .int (nI (k + 1))), (2, .int (if (f_X0_gap S p0 (f_X0_heightOf S p0) (nI k)) < v then (f_X0_gap S p0 (f_X0_heightOf S p0) (nI k)) else v)), (4, .int (f_X0_gap S p0 (f_X0_heightOf S p0) (nI k))), (0, .ref (A (6 * 0))), (1, .int p0)]) hx hb dX0_leastGap_51 hl (k := 4) rfl (nI_1 k) (by decide) rfl (fun ls hl => ?_)
            refine lv_goto (tgt := 5) hx hb dX0_leastGap_54 (by decide) ?_
            exact ih (k + 1) (if (f_X0_gap S p0 (f_X0_heightOf S p0) (nI k)) < v then (f_X0_gap S p0 (f_X0_heightOf S p0) (nI k)) else v) Q (by omega) (by omega) V (Eq.trans (Eq.symm (Eq.trans (ge_X0_leastGap_5 S p0 n k v) (Eq.trans (if_neg c1) (Eq.trans (if_neg c2) ((if_neg c3)))))) hres) kk  _ (lv_sub hl [3, 4, 1, 0] rfl)
          · skip
            refine lv_iload hx hb dX0_leastGap_39 (lv_at hl 0 rfl) ?_
            refine lv_goto (tgt := 50) hx hb dX0_leastGap_41 (by decide) ?_
            refine lv_istore_n (lv' := [(2, .int (f_X0_gap S p0 (f_X0_heightOf S p0) (nI k))), (4, .int (f_X0_gap S p0 (f_X0_heightOf S p0) (nI k))), (0, .ref (A (6 * 0))), (1, .int p0), (3, .int (nI k))]) hx hb dX0_leastGap_50 rfl hl (by decide) rfl (fun ls hl => ?_)
            refine lv_iinc (v := (nI (k + 1))) (lv' := [(3, .int (nI (k + 1))), (2, .int (f_X0_gap S p0 (f_X0_heightOf S p0) (nI k))), (4, .int (f_X0_gap S p0 (f_X0_heightOf S p0) (nI k))), (0, .ref (A (6 * 0))), (1, .int p0)]) hx hb dX0_leastGap_51 hl (k := 4) rfl (nI_1 k) (by decide) rfl (fun ls hl => ?_)
            refine lv_goto (tgt := 5) hx hb dX0_leastGap_54 (by decide) ?_
            exact ih (k + 1) (f_X0_gap S p0 (f_X0_heightOf S p0) (nI k)) Q (by omega) (by omega) V (Eq.trans (Eq.symm (Eq.trans (ge_X0_leastGap_5 S p0 n k v) (Eq.trans (if_neg c1) (Eq.trans (if_neg c2) ((if_pos c3)))))) hres) kk  _ (lv_sub hl [3, 4, 1, 0] rfl)
  refine lv_bipush (v := (-5)) hx hb dX0_leastGap_0 (by decide) ?_
  refine lv_istore_n (lv' := [(2, .int (-5)), (0, .ref (A (6 * 0))), (1, .int p0)]) hx hb dX0_leastGap_2 rfl hl (by decide) rfl (fun ls hl => ?_)
  refine lv_iconst (v := 0) hx hb dX0_leastGap_3 (by decide) ?_
  refine lv_istore_n (lv' := [(3, .int 0), (2, .int (-5)), (0, .ref (A (6 * 0))), (1, .int p0)]) hx hb dX0_leastGap_4 rfl hl (by decide) rfl (fun ls hl => ?_)
  refine LOOP5 13 0 (-5) _ (by omega) (by omega) _ rfl (fun ls hl => ?_)  _ (lv_sub hl [2, 3, 1, 0] rfl)
  have hl : lv_has ls 5 [(2, .int (g_X0_leastGap_5 S p0 13 0 (-5)))] := hl
  refine lv_iload_n hx hb dX0_leastGap_57 rfl (lv_at hl 0 rfl) ?_
  exact endP hx hb hr hlocks rfl (Eq.symm ((e_X0_leastGap S p0))) dX0_leastGap_58
noncomputable def g_X0_clearestHeight_14 (S : XS) (p0 : Int32) : Nat → Nat → Int32 → Int32 → Int32
  | 0, k, v, u => v
  | n + 1, k, v, u => opq (if 200 < (nI k) then v else (if u ≤ (f_X0_shortOnes S p0 (nI k)) then (g_X0_clearestHeight_14 S p0 n (k + 1) v u) else (g_X0_clearestHeight_14 S p0 n (k + 1) (nI k) (f_X0_shortOnes S p0 (nI k)))))
theorem ge_X0_clearestHeight_14 (S : XS) (p0 : Int32) (n : Nat) (k : Nat) (v : Int32) (u : Int32) : g_X0_clearestHeight_14 S p0 (n + 1) k v u = (if 200 < (nI k) then v else (if u ≤ (f_X0_shortOnes S p0 (nI k)) then (g_X0_clearestHeight_14 S p0 n (k + 1) v u) else (g_X0_clearestHeight_14 S p0 n (k + 1) (nI k) (f_X0_shortOnes S p0 (nI k))))) := opq_eq _
noncomputable def f_X0_clearestHeight (S : XS) (p0 : Int32) : Int32 := opq (g_X0_clearestHeight_14 S p0 202 11 10 (f_X0_shortOnes S p0 10))
theorem e_X0_clearestHeight (S : XS) (p0 : Int32) : f_X0_clearestHeight S p0 = (g_X0_clearestHeight_14 S p0 202 11 10 (f_X0_shortOnes S p0 10)) := opq_eq _
set_option maxHeartbeats 4000000 in
set_option maxRecDepth 100000 in
theorem c_X0_clearestHeight (l : Launch) (G : GG) (A : Nat → Nat) (S : XS) (r : Nat) (p0 : Int32) : Mp l yX0_clearestHeight wsX0_clearestHeight ({ frames := 5, cells := 0, slots := 0, locals := 118 } : Room) G [.ref (A (6 * 0)), .int p0] (wX G A S r) (f_X0_clearestHeight S p0) := by
  refine Mp.of (cc := cX0_clearestHeight) (maxL := 6) (ret := (some .int)) (by decide) rfl (Nat.le_of_ble_eq_true rfl) ?_
  intro p e s m args below meth c E hr hlocks hP hK ls hl
  have E : CallFix p m c cX0_clearestHeight 6 s args wsX0_clearestHeight RX0 := E
  have hx := E.1
  have hb := E.2.1
  have hml := E.2.2.1
  have hown := E.2.2.2.1
  have hts := E.2.2.2.2
  have hl : lv_has ls 6 [(0, .ref (A (6 * 0))), (1, .int p0)] := hl
  have LOOP14 : ∀ (n : Nat) (k : Nat) (v : Int32) (u : Int32) (Q : State → Prop), (k ≤ 201) → (201 < k + n) → ∀ V : Int32, g_X0_clearestHeight_14 S p0 n k v u = V → (∀ ls : Array Slot, lv_has ls 6 [(2, .int V)] → W p l e ({ frames := 5, cells := 0, slots := 0, locals := 118 } : Room) s m args below meth c s.heap [] 0 0 (Q) (F0 m 49 ls [])) → ∀ ls : Array Slot, lv_has ls 6 [(0, .ref (A (6 * 0))), (1, .int p0), (2, .int v), (3, .int u), (4, .int (nI k))] → W p l e ({ frames := 5, cells := 0, slots := 0, locals := 118 } : Room) s m args below meth c s.heap [] 0 0 (Q) (F0 m 14 ls []) := by
    intro n
    induction n with
    | zero =>
      intro k v u Q hk hn
      exact absurd hn (by omega)
    | succ n ih =>
      intro k v u Q hk hn V hres kk ls hl
      have hl : lv_has ls 6 [(0, .ref (A (6 * 0))), (1, .int p0), (2, .int v), (3, .int u), (4, .int (nI k))] := hl
      refine lv_iload hx hb dX0_clearestHeight_14 (lv_at hl 4 rfl) ?_
      refine lv_sipush (v := 200) hx hb dX0_clearestHeight_16 (by decide) ?_
      refine lv_icmp_gt (tgt := 49) hx hb dX0_clearestHeight_19 (by decide) (fun c1 => ?_) (fun c1 => ?_)
      · skip
        have hfin : v = V := Eq.trans (Eq.symm (Eq.trans (ge_X0_clearestHeight_14 S p0 n k v u) ((if_pos c1)))) hres
        subst hfin
        exact kk _ (lv_sub hl [2] rfl)
      · skip
        have hk2 : k < 201 := lt_of_nlt (N := 200) rfl hk c1 (by decide)
        refine lv_aload_n hx hb dX0_clearestHeight_22 rfl (lv_at hl 0 rfl) ?_
        refine lv_iload_n hx hb dX0_clearestHeight_23 rfl (lv_at hl 1 rfl) ?_
        refine lv_iload hx hb dX0_clearestHeight_24 (lv_at hl 4 rfl) ?_
        refine cpV (rest := []) (As := [.int p0, .int (nI k)]) E (c_X0_shortOnes l G A S r p0 (nI k)) (cwV 2 hts gX0_clearestHeight_X0_shortOnes rfl rfl rfl (by decide +kernel) ⟨Nat.le_of_ble_eq_true rfl, Nat.le_of_ble_eq_true rfl⟩) hK hP (6 * 0) (wX_o G A S r 0 (by decide)) rfl rfl hl.1 rfl (Nat.le_of_ble_eq_true rfl) dX0_clearestHeight_26 ⟨Nat.zero_le _, Nat.zero_le _⟩ ?_
        refine lv_istore (lv' := [(5, .int (f_X0_shortOnes S p0 (nI k))), (0, .ref (A (6 * 0))), (1, .int p0), (2, .int v), (3, .int u), (4, .int (nI k))]) hx hb dX0_clearestHeight_29 hl (by decide) rfl (fun ls hl => ?_)
        refine lv_iload hx hb dX0_clearestHeight_31 (lv_at hl 0 rfl) ?_
        refine lv_iload_n hx hb dX0_clearestHeight_33 rfl (lv_at hl 4 rfl) ?_
        refine lv_icmp_ge (tgt := 43) hx hb dX0_clearestHeight_34 (by decide) (fun c2 => ?_) (fun c2 => ?_)
        · skip
          refine lv_iinc (v := (nI (k + 1))) (lv' := [(4, .int (nI (k + 1))), (5, .int (f_X0_shortOnes S p0 (nI k))), (0, .ref (A (6 * 0))), (1, .int p0), (2, .int v), (3, .int u)]) hx hb dX0_clearestHeight_43 hl (k := 5) rfl (nI_1 k) (by decide) rfl (fun ls hl => ?_)
          refine lv_goto (tgt := 14) hx hb dX0_clearestHeight_46 (by decide) ?_
          exact ih (k + 1) v u Q (by omega) (by omega) V (Eq.trans (Eq.symm (Eq.trans (ge_X0_clearestHeight_14 S p0 n k v u) (Eq.trans (if_neg c1) ((if_pos c2))))) hres) kk  _ (lv_sub hl [2, 3, 4, 5, 0] rfl)
        · skip
          refine lv_iload hx hb dX0_clearestHeight_37 (lv_at hl 5 rfl) ?_
          refine lv_istore_n (lv' := [(2, .int (nI k)), (5, .int (f_X0_shortOnes S p0 (nI k))), (0, .ref (A (6 * 0))), (1, .int p0), (3, .int u), (4, .int (nI k))]) hx hb dX0_clearestHeight_39 rfl hl (by decide) rfl (fun ls hl => ?_)
          refine lv_iload hx hb dX0_clearestHeight_40 (lv_at hl 1 rfl) ?_
          refine lv_istore_n (lv' := [(3, .int (f_X0_shortOnes S p0 (nI k))), (2, .int (nI k)), (5, .int (f_X0_shortOnes S p0 (nI k))), (0, .ref (A (6 * 0))), (1, .int p0), (4, .int (nI k))]) hx hb dX0_clearestHeight_42 rfl hl (by decide) rfl (fun ls hl => ?_)
          refine lv_iinc (v := (nI (k + 1))) (lv' := [(4, .int (nI (k + 1))), (3, .int (f_X0_shortOnes S p0 (nI k))), (2, .int (nI k)), (5, .int (f_X0_shortOnes S p0 (nI k))), (0, .ref (A (6 * 0))), (1, .int p0)]) hx hb dX0_clearestHeight_43 hl (k := 5) rfl (nI_1 k) (by decide) rfl (fun ls hl => ?_)
          refine lv_goto (tgt := 14) hx hb dX0_clearestHeight_46 (by decide) ?_
          exact ih (k + 1) (nI k) (f_X0_shortOnes S p0 (nI k)) Q (by omega) (by omega) V (Eq.trans (Eq.symm (Eq.trans (ge_X0_clearestHeight_14 S p0 n k v u) (Eq.trans (if_neg c1) ((if_neg c2))))) hres) kk  _ (lv_sub hl [4, 5, 2, 1, 0] rfl)
  refine lv_bipush (v := 10) hx hb dX0_clearestHeight_0 (by decide) ?_
  refine lv_istore_n (lv' := [(2, .int 10), (0, .ref (A (6 * 0))), (1, .int p0)]) hx hb dX0_clearestHeight_2 rfl hl (by decide) rfl (fun ls hl => ?_)
  refine lv_aload_n hx hb dX0_clearestHeight_3 rfl (lv_at hl 1 rfl) ?_
  refine lv_iload_n hx hb dX0_clearestHeight_4 rfl (lv_at hl 2 rfl) ?_
  refine lv_iload_n hx hb dX0_clearestHeight_5 rfl (lv_at hl 0 rfl) ?_
  refine cpV (rest := []) (As := [.int p0, .int 10]) E (c_X0_shortOnes l G A S r p0 10) (cwV 2 hts gX0_clearestHeight_X0_shortOnes rfl rfl rfl (by decide +kernel) ⟨Nat.le_of_ble_eq_true rfl, Nat.le_of_ble_eq_true rfl⟩) hK hP (6 * 0) (wX_o G A S r 0 (by decide)) rfl rfl hl.1 rfl (Nat.le_of_ble_eq_true rfl) dX0_clearestHeight_6 ⟨Nat.zero_le _, Nat.zero_le _⟩ ?_
  refine lv_istore_n (lv' := [(3, .int (f_X0_shortOnes S p0 10)), (2, .int 10), (0, .ref (A (6 * 0))), (1, .int p0)]) hx hb dX0_clearestHeight_9 rfl hl (by decide) rfl (fun ls hl => ?_)
  refine lv_bipush (v := 11) hx hb dX0_clearestHeight_10 (by decide) ?_
  refine lv_istore (lv' := [(4, .int 11), (3, .int (f_X0_shortOnes S p0 10)), (2, .int 10), (0, .ref (A (6 * 0))), (1, .int p0)]) hx hb dX0_clearestHeight_12 hl (by decide) rfl (fun ls hl => ?_)
  refine LOOP14 202 11 10 (f_X0_shortOnes S p0 10) _ (by omega) (by omega) _ rfl (fun ls hl => ?_)  _ (lv_sub hl [3, 4, 2, 1, 0] rfl)
  have hl : lv_has ls 6 [(2, .int (g_X0_clearestHeight_14 S p0 202 11 10 (f_X0_shortOnes S p0 10)))] := hl
  refine lv_iload_n hx hb dX0_clearestHeight_49 rfl (lv_at hl 0 rfl) ?_
  exact endP hx hb hr hlocks rfl (Eq.symm ((e_X0_clearestHeight S p0))) dX0_clearestHeight_50
noncomputable def g_X0_wires_4 (S : XS) : Nat → Nat → Int32 → Int32
  | 0, k, v => v
  | n + 1, k, v => opq (if 12 ≤ (nI k) then v else (if (f_X0_hasWire S (nI k)) = 0 then (g_X0_wires_4 S n (k + 1) v) else (g_X0_wires_4 S n (k + 1) (v + 1))))
theorem ge_X0_wires_4 (S : XS) (n : Nat) (k : Nat) (v : Int32) : g_X0_wires_4 S (n + 1) k v = (if 12 ≤ (nI k) then v else (if (f_X0_hasWire S (nI k)) = 0 then (g_X0_wires_4 S n (k + 1) v) else (g_X0_wires_4 S n (k + 1) (v + 1)))) := opq_eq _
noncomputable def f_X0_wires (S : XS) : Int32 := opq (g_X0_wires_4 S 13 0 0)
theorem e_X0_wires (S : XS) : f_X0_wires S = (g_X0_wires_4 S 13 0 0) := opq_eq _
set_option maxHeartbeats 4000000 in
set_option maxRecDepth 100000 in
theorem c_X0_wires (l : Launch) (G : GG) (A : Nat → Nat) (S : XS) (r : Nat)  : Mp l yX0_wires wsX0_wires ({ frames := 2, cells := 0, slots := 0, locals := 41 } : Room) G [.ref (A (6 * 0))] (wX G A S r) (f_X0_wires S) := by
  refine Mp.of (cc := cX0_wires) (maxL := 3) (ret := (some .int)) (by decide) rfl (Nat.le_of_ble_eq_true rfl) ?_
  intro p e s m args below meth c E hr hlocks hP hK ls hl
  have E : CallFix p m c cX0_wires 3 s args wsX0_wires RX0 := E
  have hx := E.1
  have hb := E.2.1
  have hml := E.2.2.1
  have hown := E.2.2.2.1
  have hts := E.2.2.2.2
  have hl : lv_has ls 3 [(0, .ref (A (6 * 0)))] := hl
  have LOOP4 : ∀ (n : Nat) (k : Nat) (v : Int32) (Q : State → Prop), (k ≤ 12) → (12 < k + n) → ∀ V : Int32, g_X0_wires_4 S n k v = V → (∀ ls : Array Slot, lv_has ls 3 [(1, .int V)] → W p l e ({ frames := 2, cells := 0, slots := 0, locals := 41 } : Room) s m args below meth c s.heap [] 0 0 (Q) (F0 m 27 ls [])) → ∀ ls : Array Slot, lv_has ls 3 [(0, .ref (A (6 * 0))), (1, .int v), (2, .int (nI k))] → W p l e ({ frames := 2, cells := 0, slots := 0, locals := 41 } : Room) s m args below meth c s.heap [] 0 0 (Q) (F0 m 4 ls []) := by
    intro n
    induction n with
    | zero =>
      intro k v Q hk hn
      exact absurd hn (by omega)
    | succ n ih =>
      intro k v Q hk hn V hres kk ls hl
      have hl : lv_has ls 3 [(0, .ref (A (6 * 0))), (1, .int v), (2, .int (nI k))] := hl
      refine lv_iload_n hx hb dX0_wires_4 rfl (lv_at hl 2 rfl) ?_
      refine lv_bipush (v := 12) hx hb dX0_wires_5 (by decide) ?_
      refine lv_icmp_ge (tgt := 27) hx hb dX0_wires_7 (by decide) (fun c1 => ?_) (fun c1 => ?_)
      · skip
        have hfin : v = V := Eq.trans (Eq.symm (Eq.trans (ge_X0_wires_4 S n k v) ((if_pos c1)))) hres
        subst hfin
        exact kk _ (lv_sub hl [1] rfl)
      · skip
        have hk2 : k < 12 := lt_of_nle (N := 12) rfl hk c1 (by decide)
        refine lv_aload_n hx hb dX0_wires_10 rfl (lv_at hl 0 rfl) ?_
        refine lv_iload_n hx hb dX0_wires_11 rfl (lv_at hl 2 rfl) ?_
        refine cpV (rest := []) (As := [.int (nI k)]) E (c_X0_hasWire l G A S r (nI k)) (cwV 1 hts gX0_wires_X0_hasWire rfl rfl rfl (by decide +kernel) ⟨Nat.le_of_ble_eq_true rfl, Nat.le_of_ble_eq_true rfl⟩) hK hP (6 * 0) (wX_o G A S r 0 (by decide)) rfl rfl hl.1 rfl (Nat.le_of_ble_eq_true rfl) dX0_wires_12 ⟨Nat.zero_le _, Nat.zero_le _⟩ ?_
        refine lv_if_eq (tgt := 21) hx hb dX0_wires_15 (by decide) (fun c2 => ?_) (fun c2 => ?_)
        · skip
          refine lv_iinc (v := (nI (k + 1))) (lv' := [(2, .int (nI (k + 1))), (0, .ref (A (6 * 0))), (1, .int v)]) hx hb dX0_wires_21 hl (k := 2) rfl (nI_1 k) (by decide) rfl (fun ls hl => ?_)
          refine lv_goto (tgt := 4) hx hb dX0_wires_24 (by decide) ?_
          exact ih (k + 1) v Q (by omega) (by omega) V (Eq.trans (Eq.symm (Eq.trans (ge_X0_wires_4 S n k v) (Eq.trans (if_neg c1) ((if_pos c2))))) hres) kk  _ (lv_sub hl [1, 2, 0] rfl)
        · skip
          refine lv_iinc (v := (v + 1)) (lv' := [(1, .int (v + 1)), (0, .ref (A (6 * 0))), (2, .int (nI k))]) hx hb dX0_wires_18 hl (k := 1) rfl (rfl) (by decide) rfl (fun ls hl => ?_)
          refine lv_iinc (v := (nI (k + 1))) (lv' := [(2, .int (nI (k + 1))), (1, .int (v + 1)), (0, .ref (A (6 * 0)))]) hx hb dX0_wires_21 hl (k := 2) rfl (nI_1 k) (by decide) rfl (fun ls hl => ?_)
          refine lv_goto (tgt := 4) hx hb dX0_wires_24 (by decide) ?_
          exact ih (k + 1) (v + 1) Q (by omega) (by omega) V (Eq.trans (Eq.symm (Eq.trans (ge_X0_wires_4 S n k v) (Eq.trans (if_neg c1) ((if_neg c2))))) hres) kk  _ (lv_sub hl [2, 1, 0] rfl)
  refine lv_iconst (v := 0) hx hb dX0_wires_0 (by decide) ?_
  refine lv_istore_n (lv' := [(1, .int 0), (0, .ref (A (6 * 0)))]) hx hb dX0_wires_1 rfl hl (by decide) rfl (fun ls hl => ?_)
  refine lv_iconst (v := 0) hx hb dX0_wires_2 (by decide) ?_
  refine lv_istore_n (lv' := [(2, .int 0), (1, .int 0), (0, .ref (A (6 * 0)))]) hx hb dX0_wires_3 rfl hl (by decide) rfl (fun ls hl => ?_)
  refine LOOP4 13 0 0 _ (by omega) (by omega) _ rfl (fun ls hl => ?_)  _ (lv_sub hl [2, 1, 0] rfl)
  have hl : lv_has ls 3 [(1, .int (g_X0_wires_4 S 13 0 0))] := hl
  refine lv_iload_n hx hb dX0_wires_27 rfl (lv_at hl 0 rfl) ?_
  exact endP hx hb hr hlocks rfl (Eq.symm ((e_X0_wires S))) dX0_wires_28
noncomputable def g_X0_allCrossings_14 (S : XS) : Nat → Nat → Nat → Int32 → Int32
  | 0, k, j, v => v
  | n + 1, k, j, v => opq (if 12 ≤ (nI j) then v else (if (f_X0_cross S (nI k) (nI j)) = 0 then (g_X0_allCrossings_14 S n k (j + 1) v) else (g_X0_allCrossings_14 S n k (j + 1) (v + 1))))
theorem ge_X0_allCrossings_14 (S : XS) (n : Nat) (k : Nat) (j : Nat) (v : Int32) : g_X0_allCrossings_14 S (n + 1) k j v = (if 12 ≤ (nI j) then v else (if (f_X0_cross S (nI k) (nI j)) = 0 then (g_X0_allCrossings_14 S n k (j + 1) v) else (g_X0_allCrossings_14 S n k (j + 1) (v + 1)))) := opq_eq _
noncomputable def g_X0_allCrossings_4 (S : XS) : Nat → Nat → Int32 → Int32
  | 0, k, v => v
  | n + 1, k, v => opq (if 12 ≤ (nI k) then v else (g_X0_allCrossings_4 S n (k + 1) (g_X0_allCrossings_14 S 13 k (k + 1) v)))
theorem ge_X0_allCrossings_4 (S : XS) (n : Nat) (k : Nat) (v : Int32) : g_X0_allCrossings_4 S (n + 1) k v = (if 12 ≤ (nI k) then v else (g_X0_allCrossings_4 S n (k + 1) (g_X0_allCrossings_14 S 13 k (k + 1) v))) := opq_eq _
noncomputable def f_X0_allCrossings (S : XS) : Int32 := opq (g_X0_allCrossings_4 S 13 0 0)
theorem e_X0_allCrossings (S : XS) : f_X0_allCrossings S = (g_X0_allCrossings_4 S 13 0 0) := opq_eq _
set_option maxHeartbeats 4000000 in
set_option maxRecDepth 100000 in
theorem c_X0_allCrossings (l : Launch) (G : GG) (A : Nat → Nat) (S : XS) (r : Nat)  : Mp l yX0_allCrossings wsX0_allCrossings ({ frames := 3, cells := 0, slots := 0, locals := 63 } : Room) G [.ref (A (6 * 0))] (wX G A S r) (f_X0_allCrossings S) := by
  refine Mp.of (cc := cX0_allCrossings) (maxL := 4) (ret := (some .int)) (by decide) rfl (Nat.le_of_ble_eq_true rfl) ?_
  intro p e s m args below meth c E hr hlocks hP hK ls hl
  have E : CallFix p m c cX0_allCrossings 4 s args wsX0_allCrossings RX0 := E
  have hx := E.1
  have hb := E.2.1
  have hml := E.2.2.1
  have hown := E.2.2.2.1
  have hts := E.2.2.2.2
  have hl : lv_has ls 4 [(0, .ref (A (6 * 0)))] := hl
  have LOOP14 : ∀ (n : Nat) (k : Nat) (j : Nat) (v : Int32) (Q : State → Prop), (j ≤ 12) → (12 < j + n) → ∀ V : Int32, g_X0_allCrossings_14 S n k j v = V → (∀ ls : Array Slot, lv_has ls 4 [(0, .ref (A (6 * 0))), (2, .int (nI k)), (1, .int V)] → W p l e ({ frames := 3, cells := 0, slots := 0, locals := 63 } : Room) s m args below meth c s.heap [] 0 0 (Q) (F0 m 38 ls [])) → ∀ ls : Array Slot, lv_has ls 4 [(0, .ref (A (6 * 0))), (2, .int (nI k)), (1, .int v), (3, .int (nI j))] → W p l e ({ frames := 3, cells := 0, slots := 0, locals := 63 } : Room) s m args below meth c s.heap [] 0 0 (Q) (F0 m 14 ls []) := by
    intro n
    induction n with
    | zero =>
      intro k j v Q hj hn
      exact absurd hn (by omega)
    | succ n ih =>
      intro k j v Q hj hn V hres kk ls hl
      have hl : lv_has ls 4 [(0, .ref (A (6 * 0))), (2, .int (nI k)), (1, .int v), (3, .int (nI j))] := hl
      refine lv_iload_n hx hb dX0_allCrossings_14 rfl (lv_at hl 3 rfl) ?_
      refine lv_bipush (v := 12) hx hb dX0_allCrossings_15 (by decide) ?_
      refine lv_icmp_ge (tgt := 38) hx hb dX0_allCrossings_17 (by decide) (fun c1 => ?_) (fun c1 => ?_)
      · skip
        have hfin : v = V := Eq.trans (Eq.symm (Eq.trans (ge_X0_allCrossings_14 S n k j v) ((if_pos c1)))) hres
        subst hfin
        exact kk _ (lv_sub hl [0, 1, 2] rfl)
      · skip
        have hj2 : j < 12 := lt_of_nle (N := 12) rfl hj c1 (by decide)
        refine lv_aload_n hx hb dX0_allCrossings_20 rfl (lv_at hl 0 rfl) ?_
        refine lv_iload_n hx hb dX0_allCrossings_21 rfl (lv_at hl 1 rfl) ?_
        refine lv_iload_n hx hb dX0_allCrossings_22 rfl (lv_at hl 3 rfl) ?_
        refine cpV (rest := []) (As := [.int (nI k), .int (nI j)]) E (c_X0_cross l G A S r (nI k) (nI j)) (cwV 2 hts gX0_allCrossings_X0_cross rfl rfl rfl (by decide +kernel) ⟨Nat.le_of_ble_eq_true rfl, Nat.le_of_ble_eq_true rfl⟩) hK hP (6 * 0) (wX_o G A S r 0 (by decide)) rfl rfl hl.1 rfl (Nat.le_of_ble_eq_true rfl) dX0_allCrossings_23 ⟨Nat.zero_le _, Nat.zero_le _⟩ ?_
        refine lv_if_eq (tgt := 32) hx hb dX0_allCrossings_26 (by decide) (fun c2 => ?_) (fun c2 => ?_)
        · skip
          refine lv_iinc (v := (nI (j + 1))) (lv' := [(3, .int (nI (j + 1))), (0, .ref (A (6 * 0))), (2, .int (nI k)), (1, .int v)]) hx hb dX0_allCrossings_32 hl (k := 3) rfl (nI_1 j) (by decide) rfl (fun ls hl => ?_)
          refine lv_goto (tgt := 14) hx hb dX0_allCrossings_35 (by decide) ?_
          exact ih k (j + 1) v Q (by omega) (by omega) V (Eq.trans (Eq.symm (Eq.trans (ge_X0_allCrossings_14 S n k j v) (Eq.trans (if_neg c1) ((if_pos c2))))) hres) kk  _ (lv_sub hl [1, 2, 3, 0] rfl)
        · skip
          refine lv_iinc (v := (v + 1)) (lv' := [(1, .int (v + 1)), (0, .ref (A (6 * 0))), (2, .int (nI k)), (3, .int (nI j))]) hx hb dX0_allCrossings_29 hl (k := 2) rfl (rfl) (by decide) rfl (fun ls hl => ?_)
          refine lv_iinc (v := (nI (j + 1))) (lv' := [(3, .int (nI (j + 1))), (1, .int (v + 1)), (0, .ref (A (6 * 0))), (2, .int (nI k))]) hx hb dX0_allCrossings_32 hl (k := 3) rfl (nI_1 j) (by decide) rfl (fun ls hl => ?_)
          refine lv_goto (tgt := 14) hx hb dX0_allCrossings_35 (by decide) ?_
          exact ih k (j + 1) (v + 1) Q (by omega) (by omega) V (Eq.trans (Eq.symm (Eq.trans (ge_X0_allCrossings_14 S n k j v) (Eq.trans (if_neg c1) ((if_neg c2))))) hres) kk  _ (lv_sub hl [2, 3, 1, 0] rfl)
  have LOOP4 : ∀ (n : Nat) (k : Nat) (v : Int32) (Q : State → Prop), (k ≤ 12) → (12 < k + n) → ∀ V : Int32, g_X0_allCrossings_4 S n k v = V → (∀ ls : Array Slot, lv_has ls 4 [(1, .int V)] → W p l e ({ frames := 3, cells := 0, slots := 0, locals := 63 } : Room) s m args below meth c s.heap [] 0 0 (Q) (F0 m 44 ls [])) → ∀ ls : Array Slot, lv_has ls 4 [(0, .ref (A (6 * 0))), (1, .int v), (2, .int (nI k))] → W p l e ({ frames := 3, cells := 0, slots := 0, locals := 63 } : Room) s m args below meth c s.heap [] 0 0 (Q) (F0 m 4 ls []) := by
    intro n
    induction n with
    | zero =>
      intro k v Q hk hn
      exact absurd hn (by omega)
    | succ n ih =>
      intro k v Q hk hn V hres kk ls hl
      have hl : lv_has ls 4 [(0, .ref (A (6 * 0))), (1, .int v), (2, .int (nI k))] := hl
      refine lv_iload_n hx hb dX0_allCrossings_4 rfl (lv_at hl 2 rfl) ?_
      refine lv_bipush (v := 12) hx hb dX0_allCrossings_5 (by decide) ?_
      refine lv_icmp_ge (tgt := 44) hx hb dX0_allCrossings_7 (by decide) (fun c3 => ?_) (fun c3 => ?_)
      · skip
        have hfin : v = V := Eq.trans (Eq.symm (Eq.trans (ge_X0_allCrossings_4 S n k v) ((if_pos c3)))) hres
        subst hfin
        exact kk _ (lv_sub hl [1] rfl)
      · skip
        have hk2 : k < 12 := lt_of_nle (N := 12) rfl hk c3 (by decide)
        refine lv_iload_n hx hb dX0_allCrossings_10 rfl (lv_at hl 2 rfl) ?_
        refine lv_iconst (v := 1) hx hb dX0_allCrossings_11 (by decide) ?_
        refine lv_iadd hx hb dX0_allCrossings_12 ?_
        refine W.eq (g2 := F0 m 13 ls [.int (nI (k + 1))]) (by rw [nI_1] <;> rfl) ?_
        refine lv_istore_n (lv' := [(3, .int (nI (k + 1))), (0, .ref (A (6 * 0))), (1, .int v), (2, .int (nI k))]) hx hb dX0_allCrossings_13 rfl hl (by decide) rfl (fun ls hl => ?_)
        refine LOOP14 13 k (k + 1) v _ (by omega) (by omega) _ rfl (fun ls hl => ?_)  _ (lv_sub hl [1, 3, 2, 0] rfl)
        have hl : lv_has ls 4 [(0, .ref (A (6 * 0))), (2, .int (nI k)), (1, .int (g_X0_allCrossings_14 S 13 k (k + 1) v))] := hl
        refine lv_iinc (v := (nI (k + 1))) (lv' := [(2, .int (nI (k + 1))), (0, .ref (A (6 * 0))), (1, .int (g_X0_allCrossings_14 S 13 k (k + 1) v))]) hx hb dX0_allCrossings_38 hl (k := 1) rfl (nI_1 k) (by decide) rfl (fun ls hl => ?_)
        refine lv_goto (tgt := 4) hx hb dX0_allCrossings_41 (by decide) ?_
        exact ih (k + 1) (g_X0_allCrossings_14 S 13 k (k + 1) v) Q (by omega) (by omega) V (Eq.trans (Eq.symm (Eq.trans (ge_X0_allCrossings_4 S n k v) ((if_neg c3)))) hres) kk  _ (lv_sub hl [1, 2, 0] rfl)
  refine lv_iconst (v := 0) hx hb dX0_allCrossings_0 (by decide) ?_
  refine lv_istore_n (lv' := [(1, .int 0), (0, .ref (A (6 * 0)))]) hx hb dX0_allCrossings_1 rfl hl (by decide) rfl (fun ls hl => ?_)
  refine lv_iconst (v := 0) hx hb dX0_allCrossings_2 (by decide) ?_
  refine lv_istore_n (lv' := [(2, .int 0), (1, .int 0), (0, .ref (A (6 * 0)))]) hx hb dX0_allCrossings_3 rfl hl (by decide) rfl (fun ls hl => ?_)
  refine LOOP4 13 0 0 _ (by omega) (by omega) _ rfl (fun ls hl => ?_)  _ (lv_sub hl [2, 1, 0] rfl)
  have hl : lv_has ls 4 [(1, .int (g_X0_allCrossings_4 S 13 0 0))] := hl
  refine lv_iload_n hx hb dX0_allCrossings_44 rfl (lv_at hl 0 rfl) ?_
  exact endP hx hb hr hlocks rfl (Eq.symm ((e_X0_allCrossings S))) dX0_allCrossings_45
noncomputable def g_X0_allShortOnes_14 (S : XS) : Nat → Nat → Nat → Int32 → Int32
  | 0, k, j, v => v
  | n + 1, k, j, v => opq (if 12 ≤ (nI j) then v else (if (f_X0_isShort S (nI k) (f_X0_heightOf S (nI k)) (nI j)) = 0 then (g_X0_allShortOnes_14 S n k (j + 1) v) else (g_X0_allShortOnes_14 S n k (j + 1) (v + 1))))
theorem ge_X0_allShortOnes_14 (S : XS) (n : Nat) (k : Nat) (j : Nat) (v : Int32) : g_X0_allShortOnes_14 S (n + 1) k j v = (if 12 ≤ (nI j) then v else (if (f_X0_isShort S (nI k) (f_X0_heightOf S (nI k)) (nI j)) = 0 then (g_X0_allShortOnes_14 S n k (j + 1) v) else (g_X0_allShortOnes_14 S n k (j + 1) (v + 1)))) := opq_eq _
noncomputable def g_X0_allShortOnes_4 (S : XS) : Nat → Nat → Int32 → Int32
  | 0, k, v => v
  | n + 1, k, v => opq (if 12 ≤ (nI k) then v else (g_X0_allShortOnes_4 S n (k + 1) (g_X0_allShortOnes_14 S 13 k (k + 1) v)))
theorem ge_X0_allShortOnes_4 (S : XS) (n : Nat) (k : Nat) (v : Int32) : g_X0_allShortOnes_4 S (n + 1) k v = (if 12 ≤ (nI k) then v else (g_X0_allShortOnes_4 S n (k + 1) (g_X0_allShortOnes_14 S 13 k (k + 1) v))) := opq_eq _
noncomputable def f_X0_allShortOnes (S : XS) : Int32 := opq (g_X0_allShortOnes_4 S 13 0 0)
theorem e_X0_allShortOnes (S : XS) : f_X0_allShortOnes S = (g_X0_allShortOnes_4 S 13 0 0) := opq_eq _
set_option maxHeartbeats 4000000 in
set_option maxRecDepth 100000 in
theorem c_X0_allShortOnes (l : Launch) (G : GG) (A : Nat → Nat) (S : XS) (r : Nat)  : Mp l yX0_allShortOnes wsX0_allShortOnes ({ frames := 4, cells := 0, slots := 0, locals := 94 } : Room) G [.ref (A (6 * 0))] (wX G A S r) (f_X0_allShortOnes S) := by
  refine Mp.of (cc := cX0_allShortOnes) (maxL := 4) (ret := (some .int)) (by decide) rfl (Nat.le_of_ble_eq_true rfl) ?_
  intro p e s m args below meth c E hr hlocks hP hK ls hl
  have E : CallFix p m c cX0_allShortOnes 4 s args wsX0_allShortOnes RX0 := E
  have hx := E.1
  have hb := E.2.1
  have hml := E.2.2.1
  have hown := E.2.2.2.1
  have hts := E.2.2.2.2
  have hl : lv_has ls 4 [(0, .ref (A (6 * 0)))] := hl
  have LOOP14 : ∀ (n : Nat) (k : Nat) (j : Nat) (v : Int32) (Q : State → Prop), (j ≤ 12) → (12 < j + n) → ∀ V : Int32, g_X0_allShortOnes_14 S n k j v = V → (∀ ls : Array Slot, lv_has ls 4 [(0, .ref (A (6 * 0))), (2, .int (nI k)), (1, .int V)] → W p l e ({ frames := 4, cells := 0, slots := 0, locals := 94 } : Room) s m args below meth c s.heap [] 0 0 (Q) (F0 m 43 ls [])) → ∀ ls : Array Slot, lv_has ls 4 [(0, .ref (A (6 * 0))), (2, .int (nI k)), (1, .int v), (3, .int (nI j))] → W p l e ({ frames := 4, cells := 0, slots := 0, locals := 94 } : Room) s m args below meth c s.heap [] 0 0 (Q) (F0 m 14 ls []) := by
    intro n
    induction n with
    | zero =>
      intro k j v Q hj hn
      exact absurd hn (by omega)
    | succ n ih =>
      intro k j v Q hj hn V hres kk ls hl
      have hl : lv_has ls 4 [(0, .ref (A (6 * 0))), (2, .int (nI k)), (1, .int v), (3, .int (nI j))] := hl
      refine lv_iload_n hx hb dX0_allShortOnes_14 rfl (lv_at hl 3 rfl) ?_
      refine lv_bipush (v := 12) hx hb dX0_allShortOnes_15 (by decide) ?_
      refine lv_icmp_ge (tgt := 43) hx hb dX0_allShortOnes_17 (by decide) (fun c1 => ?_) (fun c1 => ?_)
      · skip
        have hfin : v = V := Eq.trans (Eq.symm (Eq.trans (ge_X0_allShortOnes_14 S n k j v) ((if_pos c1)))) hres
        subst hfin
        exact kk _ (lv_sub hl [0, 1, 2] rfl)
      · skip
        have hj2 : j < 12 := lt_of_nle (N := 12) rfl hj c1 (by decide)
        refine lv_aload_n hx hb dX0_allShortOnes_20 rfl (lv_at hl 0 rfl) ?_
        refine lv_iload_n hx hb dX0_allShortOnes_21 rfl (lv_at hl 1 rfl) ?_
        refine lv_aload_n hx hb dX0_allShortOnes_22 rfl (lv_at hl 0 rfl) ?_
        refine lv_iload_n hx hb dX0_allShortOnes_23 rfl (lv_at hl 1 rfl) ?_
        refine cpV (rest := [.int (nI k), .ref (A (6 * 0))]) (As := [.int (nI k)]) E (c_X0_heightOf l G A S r (nI k)) (cwV 1 hts gX0_allShortOnes_X0_heightOf rfl rfl rfl (by decide +kernel) ⟨Nat.le_of_ble_eq_true rfl, Nat.le_of_ble_eq_true rfl⟩) hK hP (6 * 0) (wX_o G A S r 0 (by decide)) rfl rfl hl.1 rfl (Nat.le_of_ble_eq_true rfl) dX0_allShortOnes_24 ⟨Nat.zero_le _, Nat.zero_le _⟩ ?_
        refine lv_iload_n hx hb dX0_allShortOnes_27 rfl (lv_at hl 3 rfl) ?_
        refine cpV (rest := []) (As := [.int (nI k), .int (f_X0_heightOf S (nI k)), .int (nI j)]) E (c_X0_isShort l G A S r (nI k) (f_X0_heightOf S (nI k)) (nI j)) (cwV 3 hts gX0_allShortOnes_X0_isShort rfl rfl rfl (by decide +kernel) ⟨Nat.le_of_ble_eq_true rfl, Nat.le_of_ble_eq_true rfl⟩) hK hP (6 * 0) (wX_o G A S r 0 (by decide)) rfl rfl hl.1 rfl (Nat.le_of_ble_eq_true rfl) dX0_allShortOnes_28 ⟨Nat.zero_le _, Nat.zero_le _⟩ ?_
        refine lv_if_eq (tgt := 37) hx hb dX0_allShortOnes_31 (by decide) (fun c2 => ?_) (fun c2 => ?_)
        · skip
          refine lv_iinc (v := (nI (j + 1))) (lv' := [(3, .int (nI (j + 1))), (0, .ref (A (6 * 0))), (2, .int (nI k)), (1, .int v)]) hx hb dX0_allShortOnes_37 hl (k := 3) rfl (nI_1 j) (by decide) rfl (fun ls hl => ?_)
          refine lv_goto (tgt := 14) hx hb dX0_allShortOnes_40 (by decide) ?_
          exact ih k (j + 1) v Q (by omega) (by omega) V (Eq.trans (Eq.symm (Eq.trans (ge_X0_allShortOnes_14 S n k j v) (Eq.trans (if_neg c1) ((if_pos c2))))) hres) kk  _ (lv_sub hl [1, 2, 3, 0] rfl)
        · skip
          refine lv_iinc (v := (v + 1)) (lv' := [(1, .int (v + 1)), (0, .ref (A (6 * 0))), (2, .int (nI k)), (3, .int (nI j))]) hx hb dX0_allShortOnes_34 hl (k := 2) rfl (rfl) (by decide) rfl (fun ls hl => ?_)
          refine lv_iinc (v := (nI (j + 1))) (lv' := [(3, .int (nI (j + 1))), (1, .int (v + 1)), (0, .ref (A (6 * 0))), (2, .int (nI k))]) hx hb dX0_allShortOnes_37 hl (k := 3) rfl (nI_1 j) (by decide) rfl (fun ls hl => ?_)
          refine lv_goto (tgt := 14) hx hb dX0_allShortOnes_40 (by decide) ?_
          exact ih k (j + 1) (v + 1) Q (by omega) (by omega) V (Eq.trans (Eq.symm (Eq.trans (ge_X0_allShortOnes_14 S n k j v) (Eq.trans (if_neg c1) ((if_neg c2))))) hres) kk  _ (lv_sub hl [2, 3, 1, 0] rfl)
  have LOOP4 : ∀ (n : Nat) (k : Nat) (v : Int32) (Q : State → Prop), (k ≤ 12) → (12 < k + n) → ∀ V : Int32, g_X0_allShortOnes_4 S n k v = V → (∀ ls : Array Slot, lv_has ls 4 [(1, .int V)] → W p l e ({ frames := 4, cells := 0, slots := 0, locals := 94 } : Room) s m args below meth c s.heap [] 0 0 (Q) (F0 m 49 ls [])) → ∀ ls : Array Slot, lv_has ls 4 [(0, .ref (A (6 * 0))), (1, .int v), (2, .int (nI k))] → W p l e ({ frames := 4, cells := 0, slots := 0, locals := 94 } : Room) s m args below meth c s.heap [] 0 0 (Q) (F0 m 4 ls []) := by
    intro n
    induction n with
    | zero =>
      intro k v Q hk hn
      exact absurd hn (by omega)
    | succ n ih =>
      intro k v Q hk hn V hres kk ls hl
      have hl : lv_has ls 4 [(0, .ref (A (6 * 0))), (1, .int v), (2, .int (nI k))] := hl
      refine lv_iload_n hx hb dX0_allShortOnes_4 rfl (lv_at hl 2 rfl) ?_
      refine lv_bipush (v := 12) hx hb dX0_allShortOnes_5 (by decide) ?_
      refine lv_icmp_ge (tgt := 49) hx hb dX0_allShortOnes_7 (by decide) (fun c3 => ?_) (fun c3 => ?_)
      · skip
        have hfin : v = V := Eq.trans (Eq.symm (Eq.trans (ge_X0_allShortOnes_4 S n k v) ((if_pos c3)))) hres
        subst hfin
        exact kk _ (lv_sub hl [1] rfl)
      · skip
        have hk2 : k < 12 := lt_of_nle (N := 12) rfl hk c3 (by decide)
        refine lv_iload_n hx hb dX0_allShortOnes_10 rfl (lv_at hl 2 rfl) ?_
        refine lv_iconst (v := 1) hx hb dX0_allShortOnes_11 (by decide) ?_
        refine lv_iadd hx hb dX0_allShortOnes_12 ?_
        refine W.eq (g2 := F0 m 13 ls [.int (nI (k + 1))]) (by rw [nI_1] <;> rfl) ?_
        refine lv_istore_n (lv' := [(3, .int (nI (k + 1))), (0, .ref (A (6 * 0))), (1, .int v), (2, .int (nI k))]) hx hb dX0_allShortOnes_13 rfl hl (by decide) rfl (fun ls hl => ?_)
        refine LOOP14 13 k (k + 1) v _ (by omega) (by omega) _ rfl (fun ls hl => ?_)  _ (lv_sub hl [1, 3, 2, 0] rfl)
        have hl : lv_has ls 4 [(0, .ref (A (6 * 0))), (2, .int (nI k)), (1, .int (g_X0_allShortOnes_14 S 13 k (k + 1) v))] := hl
        refine lv_iinc (v := (nI (k + 1))) (lv' := [(2, .int (nI (k + 1))), (0, .ref (A (6 * 0))), (1, .int (g_X0_allShortOnes_14 S 13 k (k + 1) v))]) hx hb dX0_allShortOnes_43 hl (k := 1) rfl (nI_1 k) (by decide) rfl (fun ls hl => ?_)
        refine lv_goto (tgt := 4) hx hb dX0_allShortOnes_46 (by decide) ?_
        exact ih (k + 1) (g_X0_allShortOnes_14 S 13 k (k + 1) v) Q (by omega) (by omega) V (Eq.trans (Eq.symm (Eq.trans (ge_X0_allShortOnes_4 S n k v) ((if_neg c3)))) hres) kk  _ (lv_sub hl [1, 2, 0] rfl)
  refine lv_iconst (v := 0) hx hb dX0_allShortOnes_0 (by decide) ?_
  refine lv_istore_n (lv' := [(1, .int 0), (0, .ref (A (6 * 0)))]) hx hb dX0_allShortOnes_1 rfl hl (by decide) rfl (fun ls hl => ?_)
  refine lv_iconst (v := 0) hx hb dX0_allShortOnes_2 (by decide) ?_
  refine lv_istore_n (lv' := [(2, .int 0), (1, .int 0), (0, .ref (A (6 * 0)))]) hx hb dX0_allShortOnes_3 rfl hl (by decide) rfl (fun ls hl => ?_)
  refine LOOP4 13 0 0 _ (by omega) (by omega) _ rfl (fun ls hl => ?_)  _ (lv_sub hl [2, 1, 0] rfl)
  have hl : lv_has ls 4 [(1, .int (g_X0_allShortOnes_4 S 13 0 0))] := hl
  refine lv_iload_n hx hb dX0_allShortOnes_49 rfl (lv_at hl 0 rfl) ?_
  exact endP hx hb hr hlocks rfl (Eq.symm ((e_X0_allShortOnes S))) dX0_allShortOnes_50
noncomputable def g_X0_allStrengths_4 (S : XS) : Nat → Nat → Int32 → Int32
  | 0, k, v => v
  | n + 1, k, v => opq (if 12 ≤ (nI k) then v else (if (f_X0_hasWire S (nI k)) = 0 then (g_X0_allStrengths_4 S n (k + 1) v) else (g_X0_allStrengths_4 S n (k + 1) (v + ((S 0 4) k)))))
theorem ge_X0_allStrengths_4 (S : XS) (n : Nat) (k : Nat) (v : Int32) : g_X0_allStrengths_4 S (n + 1) k v = (if 12 ≤ (nI k) then v else (if (f_X0_hasWire S (nI k)) = 0 then (g_X0_allStrengths_4 S n (k + 1) v) else (g_X0_allStrengths_4 S n (k + 1) (v + ((S 0 4) k))))) := opq_eq _
noncomputable def f_X0_allStrengths (S : XS) : Int32 := opq (g_X0_allStrengths_4 S 13 0 0)
theorem e_X0_allStrengths (S : XS) : f_X0_allStrengths S = (g_X0_allStrengths_4 S 13 0 0) := opq_eq _
set_option maxHeartbeats 4000000 in
set_option maxRecDepth 100000 in
theorem c_X0_allStrengths (l : Launch) (G : GG) (A : Nat → Nat) (S : XS) (r : Nat)  : Mp l yX0_allStrengths wsX0_allStrengths ({ frames := 2, cells := 0, slots := 0, locals := 41 } : Room) G [.ref (A (6 * 0))] (wX G A S r) (f_X0_allStrengths S) := by
  refine Mp.of (cc := cX0_allStrengths) (maxL := 3) (ret := (some .int)) (by decide) rfl (Nat.le_of_ble_eq_true rfl) ?_
  intro p e s m args below meth c E hr hlocks hP hK ls hl
  have E : CallFix p m c cX0_allStrengths 3 s args wsX0_allStrengths RX0 := E
  have hx := E.1
  have hb := E.2.1
  have hml := E.2.2.1
  have hown := E.2.2.2.1
  have hts := E.2.2.2.2
  have hl : lv_has ls 3 [(0, .ref (A (6 * 0)))] := hl
  have hinX0 : ∀ w ∈ u_ws RX0 TX0 12, w ∈ wsX0_allStrengths := fun _ h => List.mem_cons_of_mem _ (List.mem_append_right _ h)
  have LOOP4 : ∀ (n : Nat) (k : Nat) (v : Int32) (Q : State → Prop), (k ≤ 12) → (12 < k + n) → ∀ V : Int32, g_X0_allStrengths_4 S n k v = V → (∀ ls : Array Slot, lv_has ls 3 [(1, .int V)] → W p l e ({ frames := 2, cells := 0, slots := 0, locals := 41 } : Room) s m args below meth c s.heap [] 0 0 (Q) (F0 m 33 ls [])) → ∀ ls : Array Slot, lv_has ls 3 [(0, .ref (A (6 * 0))), (1, .int v), (2, .int (nI k))] → W p l e ({ frames := 2, cells := 0, slots := 0, locals := 41 } : Room) s m args below meth c s.heap [] 0 0 (Q) (F0 m 4 ls []) := by
    intro n
    induction n with
    | zero =>
      intro k v Q hk hn
      exact absurd hn (by omega)
    | succ n ih =>
      intro k v Q hk hn V hres kk ls hl
      have hl : lv_has ls 3 [(0, .ref (A (6 * 0))), (1, .int v), (2, .int (nI k))] := hl
      refine lv_iload_n hx hb dX0_allStrengths_4 rfl (lv_at hl 2 rfl) ?_
      refine lv_bipush (v := 12) hx hb dX0_allStrengths_5 (by decide) ?_
      refine lv_icmp_ge (tgt := 33) hx hb dX0_allStrengths_7 (by decide) (fun c1 => ?_) (fun c1 => ?_)
      · skip
        have hfin : v = V := Eq.trans (Eq.symm (Eq.trans (ge_X0_allStrengths_4 S n k v) ((if_pos c1)))) hres
        subst hfin
        exact kk _ (lv_sub hl [1] rfl)
      · skip
        have hk2 : k < 12 := lt_of_nle (N := 12) rfl hk c1 (by decide)
        refine lv_aload_n hx hb dX0_allStrengths_10 rfl (lv_at hl 0 rfl) ?_
        refine lv_iload_n hx hb dX0_allStrengths_11 rfl (lv_at hl 2 rfl) ?_
        refine cpV (rest := []) (As := [.int (nI k)]) E (c_X0_hasWire l G A S r (nI k)) (cwV 1 hts gX0_allStrengths_X0_hasWire rfl rfl rfl (by decide +kernel) ⟨Nat.le_of_ble_eq_true rfl, Nat.le_of_ble_eq_true rfl⟩) hK hP (6 * 0) (wX_o G A S r 0 (by decide)) rfl rfl hl.1 rfl (Nat.le_of_ble_eq_true rfl) dX0_allStrengths_12 ⟨Nat.zero_le _, Nat.zero_le _⟩ ?_
        refine lv_if_eq (tgt := 27) hx hb dX0_allStrengths_15 (by decide) (fun c2 => ?_) (fun c2 => ?_)
        · skip
          refine lv_iinc (v := (nI (k + 1))) (lv' := [(2, .int (nI (k + 1))), (0, .ref (A (6 * 0))), (1, .int v)]) hx hb dX0_allStrengths_27 hl (k := 2) rfl (nI_1 k) (by decide) rfl (fun ls hl => ?_)
          refine lv_goto (tgt := 4) hx hb dX0_allStrengths_30 (by decide) ?_
          exact ih (k + 1) v Q (by omega) (by omega) V (Eq.trans (Eq.symm (Eq.trans (ge_X0_allStrengths_4 S n k v) (Eq.trans (if_neg c1) ((if_pos c2))))) hres) kk  _ (lv_sub hl [1, 2, 0] rfl)
        · skip
          refine lv_iload_n hx hb dX0_allStrengths_18 rfl (lv_at hl 1 rfl) ?_
          refine lv_aload_n hx hb dX0_allStrengths_19 rfl (lv_at hl 0 rfl) ?_
          refine va_get (D := G.1) (ci := 0) (v := .ref (A (6 * 0 + 4))) (C := RX0) (T := TX0) (N := 12) hx hb hts hinX0 hown hK.1 hP (6 * 0) (wX_o G A S r 0 (by decide)) rfl 3 (by decide) (hts (.fieldLink RX0 21 "WireLoops$Chip" "strength" "[I") (List.mem_of_getElem? (i := 1) rfl)) (fun _ h9 => h9) rfl dX0_allStrengths_20 ?_
          refine lv_iload_n hx hb dX0_allStrengths_23 rfl (lv_at hl 2 rfl) ?_
          refine va_iald (D := G.1) hx hb hK.1 hP (6 * 0 + 4) 0 (wX_c G A S r 0 4 (by decide) (by decide) (by decide)) rfl (vp_in_nI hk2 (by decide)) dX0_allStrengths_24 ?_
          refine W.eq (g2 := F0 m 25 ls [.int ((S 0 4) k), .int v]) (by rw [nI_cl (n := k) (by omega)] <;> rfl) ?_
          refine lv_iadd hx hb dX0_allStrengths_25 ?_
          refine lv_istore_n (lv' := [(1, .int (v + ((S 0 4) k))), (0, .ref (A (6 * 0))), (2, .int (nI k))]) hx hb dX0_allStrengths_26 rfl hl (by decide) rfl (fun ls hl => ?_)
          refine lv_iinc (v := (nI (k + 1))) (lv' := [(2, .int (nI (k + 1))), (1, .int (v + ((S 0 4) k))), (0, .ref (A (6 * 0)))]) hx hb dX0_allStrengths_27 hl (k := 2) rfl (nI_1 k) (by decide) rfl (fun ls hl => ?_)
          refine lv_goto (tgt := 4) hx hb dX0_allStrengths_30 (by decide) ?_
          exact ih (k + 1) (v + ((S 0 4) k)) Q (by omega) (by omega) V (Eq.trans (Eq.symm (Eq.trans (ge_X0_allStrengths_4 S n k v) (Eq.trans (if_neg c1) ((if_neg c2))))) hres) kk  _ (lv_sub hl [2, 1, 0] rfl)
  refine lv_iconst (v := 0) hx hb dX0_allStrengths_0 (by decide) ?_
  refine lv_istore_n (lv' := [(1, .int 0), (0, .ref (A (6 * 0)))]) hx hb dX0_allStrengths_1 rfl hl (by decide) rfl (fun ls hl => ?_)
  refine lv_iconst (v := 0) hx hb dX0_allStrengths_2 (by decide) ?_
  refine lv_istore_n (lv' := [(2, .int 0), (1, .int 0), (0, .ref (A (6 * 0)))]) hx hb dX0_allStrengths_3 rfl hl (by decide) rfl (fun ls hl => ?_)
  refine LOOP4 13 0 0 _ (by omega) (by omega) _ rfl (fun ls hl => ?_)  _ (lv_sub hl [2, 1, 0] rfl)
  have hl : lv_has ls 3 [(1, .int (g_X0_allStrengths_4 S 13 0 0))] := hl
  refine lv_iload_n hx hb dX0_allStrengths_33 rfl (lv_at hl 0 rfl) ?_
  exact endP hx hb hr hlocks rfl (Eq.symm ((e_X0_allStrengths S))) dX0_allStrengths_34
noncomputable def g_X0_weakestPad_5 (S : XS) : Nat → Nat → Int32 → Int32
  | 0, k, v => v
  | n + 1, k, v => opq (if 12 ≤ (nI k) then v else (if (f_X0_hasWire S (nI k)) = 0 then (g_X0_weakestPad_5 S n (k + 1) v) else (if v = (-5) then (g_X0_weakestPad_5 S n (k + 1) (nI k)) else (if (f_X0_strengthOf S v) ≤ ((S 0 4) k) then (g_X0_weakestPad_5 S n (k + 1) v) else (g_X0_weakestPad_5 S n (k + 1) (nI k))))))
theorem ge_X0_weakestPad_5 (S : XS) (n : Nat) (k : Nat) (v : Int32) : g_X0_weakestPad_5 S (n + 1) k v = (if 12 ≤ (nI k) then v else (if (f_X0_hasWire S (nI k)) = 0 then (g_X0_weakestPad_5 S n (k + 1) v) else (if v = (-5) then (g_X0_weakestPad_5 S n (k + 1) (nI k)) else (if (f_X0_strengthOf S v) ≤ ((S 0 4) k) then (g_X0_weakestPad_5 S n (k + 1) v) else (g_X0_weakestPad_5 S n (k + 1) (nI k)))))) := opq_eq _
noncomputable def f_X0_weakestPad (S : XS) : Int32 := opq (g_X0_weakestPad_5 S 13 0 (-5))
theorem e_X0_weakestPad (S : XS) : f_X0_weakestPad S = (g_X0_weakestPad_5 S 13 0 (-5)) := opq_eq _
set_option maxHeartbeats 4000000 in
set_option maxRecDepth 100000 in
theorem c_X0_weakestPad (l : Launch) (G : GG) (A : Nat → Nat) (S : XS) (r : Nat)  : Mp l yX0_weakestPad wsX0_weakestPad ({ frames := 2, cells := 0, slots := 0, locals := 41 } : Room) G [.ref (A (6 * 0))] (wX G A S r) (f_X0_weakestPad S) := by
  refine Mp.of (cc := cX0_weakestPad) (maxL := 3) (ret := (some .int)) (by decide) rfl (Nat.le_of_ble_eq_true rfl) ?_
  intro p e s m args below meth c E hr hlocks hP hK ls hl
  have E : CallFix p m c cX0_weakestPad 3 s args wsX0_weakestPad RX0 := E
  have hx := E.1
  have hb := E.2.1
  have hml := E.2.2.1
  have hown := E.2.2.2.1
  have hts := E.2.2.2.2
  have hl : lv_has ls 3 [(0, .ref (A (6 * 0)))] := hl
  have hinX0 : ∀ w ∈ u_ws RX0 TX0 12, w ∈ wsX0_weakestPad := fun _ h => List.mem_cons_of_mem _ (List.mem_append_right _ h)
  have LOOP5 : ∀ (n : Nat) (k : Nat) (v : Int32) (Q : State → Prop), (k ≤ 12) → (12 < k + n) → ∀ V : Int32, g_X0_weakestPad_5 S n k v = V → (∀ ls : Array Slot, lv_has ls 3 [(1, .int V)] → W p l e ({ frames := 2, cells := 0, slots := 0, locals := 41 } : Room) s m args below meth c s.heap [] 0 0 (Q) (F0 m 47 ls [])) → ∀ ls : Array Slot, lv_has ls 3 [(0, .ref (A (6 * 0))), (1, .int v), (2, .int (nI k))] → W p l e ({ frames := 2, cells := 0, slots := 0, locals := 41 } : Room) s m args below meth c s.heap [] 0 0 (Q) (F0 m 5 ls []) := by
    intro n
    induction n with
    | zero =>
      intro k v Q hk hn
      exact absurd hn (by omega)
    | succ n ih =>
      intro k v Q hk hn V hres kk ls hl
      have hl : lv_has ls 3 [(0, .ref (A (6 * 0))), (1, .int v), (2, .int (nI k))] := hl
      refine lv_iload_n hx hb dX0_weakestPad_5 rfl (lv_at hl 2 rfl) ?_
      refine lv_bipush (v := 12) hx hb dX0_weakestPad_6 (by decide) ?_
      refine lv_icmp_ge (tgt := 47) hx hb dX0_weakestPad_8 (by decide) (fun c1 => ?_) (fun c1 => ?_)
      · skip
        have hfin : v = V := Eq.trans (Eq.symm (Eq.trans (ge_X0_weakestPad_5 S n k v) ((if_pos c1)))) hres
        subst hfin
        exact kk _ (lv_sub hl [1] rfl)
      · skip
        have hk2 : k < 12 := lt_of_nle (N := 12) rfl hk c1 (by decide)
        refine lv_aload_n hx hb dX0_weakestPad_11 rfl (lv_at hl 0 rfl) ?_
        refine lv_iload_n hx hb dX0_weakestPad_12 rfl (lv_at hl 2 rfl) ?_
        refine cpV (rest := []) (As := [.int (nI k)]) E (c_X0_hasWire l G A S r (nI k)) (cwV 1 hts gX0_weakestPad_X0_hasWire rfl rfl rfl (by decide +kernel) ⟨Nat.le_of_ble_eq_true rfl, Nat.le_of_ble_eq_true rfl⟩) hK hP (6 * 0) (wX_o G A S r 0 (by decide)) rfl rfl hl.1 rfl (Nat.le_of_ble_eq_true rfl) dX0_weakestPad_13 ⟨Nat.zero_le _, Nat.zero_le _⟩ ?_
        refine lv_if_eq (tgt := 41) hx hb dX0_weakestPad_16 (by decide) (fun c2 => ?_) (fun c2 => ?_)
        · skip
          refine lv_iinc (v := (nI (k + 1))) (lv' := [(2, .int (nI (k + 1))), (0, .ref (A (6 * 0))), (1, .int v)]) hx hb dX0_weakestPad_41 hl (k := 2) rfl (nI_1 k) (by decide) rfl (fun ls hl => ?_)
          refine lv_goto (tgt := 5) hx hb dX0_weakestPad_44 (by decide) ?_
          exact ih (k + 1) v Q (by omega) (by omega) V (Eq.trans (Eq.symm (Eq.trans (ge_X0_weakestPad_5 S n k v) (Eq.trans (if_neg c1) ((if_pos c2))))) hres) kk  _ (lv_sub hl [1, 2, 0] rfl)
        · skip
          refine lv_iload_n hx hb dX0_weakestPad_19 rfl (lv_at hl 1 rfl) ?_
          refine lv_bipush (v := (-5)) hx hb dX0_weakestPad_20 (by decide) ?_
          refine lv_icmp_eq (tgt := 39) hx hb dX0_weakestPad_22 (by decide) (fun c3 => ?_) (fun c3 => ?_)
          · skip
            refine lv_iload_n hx hb dX0_weakestPad_39 rfl (lv_at hl 2 rfl) ?_
            refine lv_istore_n (lv' := [(1, .int (nI k)), (0, .ref (A (6 * 0))), (2, .int (nI k))]) hx hb dX0_weakestPad_40 rfl hl (by decide) rfl (fun ls hl => ?_)
            refine lv_iinc (v := (nI (k + 1))) (lv' := [(2, .int (nI (k + 1))), (1, .int (nI k)), (0, .ref (A (6 * 0)))]) hx hb dX0_weakestPad_41 hl (k := 2) rfl (nI_1 k) (by decide) rfl (fun ls hl => ?_)
            refine lv_goto (tgt := 5) hx hb dX0_weakestPad_44 (by decide) ?_
            exact ih (k + 1) (nI k) Q (by omega) (by omega) V (Eq.trans (Eq.symm (Eq.trans (ge_X0_weakestPad_5 S n k v) (Eq.trans (if_neg c1) (Eq.trans (if_neg c2) ((if_pos c3)))))) hres) kk  _ (lv_sub hl [2, 1, 0] rfl)
          · skip
            refine lv_aload_n hx hb dX0_weakestPad_25 rfl (lv_at hl 0 rfl) ?_
            refine va_get (D := G.1) (ci := 0) (v := .ref (A (6 * 0 + 4))) (C := RX0) (T := TX0) (N := 12) hx hb hts hinX0 hown hK.1 hP (6 * 0) (wX_o G A S r 0 (by decide)) rfl 3 (by decide) (hts (.fieldLink RX0 21 "WireLoops$Chip" "strength" "[I") (List.mem_of_getElem? (i := 1) rfl)) (fun _ h9 => h9) rfl dX0_weakestPad_26 ?_
            refine lv_iload_n hx hb dX0_weakestPad_29 rfl (lv_at hl 2 rfl) ?_
            refine va_iald (D := G.1) hx hb hK.1 hP (6 * 0 + 4) 0 (wX_c G A S r 0 4 (by decide) (by decide) (by decide)) rfl (vp_in_nI hk2 (by decide)) dX0_weakestPad_30 ?_
            refine W.eq (g2 := F0 m 31 ls [.int ((S 0 4) k)]) (by rw [nI_cl (n := k) (by omega)] <;> rfl) ?_
            refine lv_aload_n hx hb dX0_weakestPad_31 rfl (lv_at hl 0 rfl) ?_
            refine lv_iload_n hx hb dX0_weakestPad_32 rfl (lv_at hl 1 rfl) ?_
            refine cpV (rest := [.int ((S 0 4) k)]) (As := [.int v]) E (c_X0_strengthOf l G A S r v) (cwV 1 hts gX0_weakestPad_X0_strengthOf rfl rfl rfl (by decide +kernel) ⟨Nat.le_of_ble_eq_true rfl, Nat.le_of_ble_eq_true rfl⟩) hK hP (6 * 0) (wX_o G A S r 0 (by decide)) rfl rfl hl.1 rfl (Nat.le_of_ble_eq_true rfl) dX0_weakestPad_33 ⟨Nat.zero_le _, Nat.zero_le _⟩ ?_
            refine lv_icmp_ge (tgt := 41) hx hb dX0_weakestPad_36 (by decide) (fun c4 => ?_) (fun c4 => ?_)
            · skip
              refine lv_iinc (v := (nI (k + 1))) (lv' := [(2, .int (nI (k + 1))), (0, .ref (A (6 * 0))), (1, .int v)]) hx hb dX0_weakestPad_41 hl (k := 2) rfl (nI_1 k) (by decide) rfl (fun ls hl => ?_)
              refine lv_goto (tgt := 5) hx hb dX0_weakestPad_44 (by decide) ?_
              exact ih (k + 1) v Q (by omega) (by omega) V (Eq.trans (Eq.symm (Eq.trans (ge_X0_weakestPad_5 S n k v) (Eq.trans (if_neg c1) (Eq.trans (if_neg c2) (Eq.trans (if_neg c3) ((if_pos c4))))))) hres) kk  _ (lv_sub hl [1, 2, 0] rfl)
            · skip
              refine lv_iload_n hx hb dX0_weakestPad_39 rfl (lv_at hl 2 rfl) ?_
              refine lv_istore_n (lv' := [(1, .int (nI k)), (0, .ref (A (6 * 0))), (2, .int (nI k))]) hx hb dX0_weakestPad_40 rfl hl (by decide) rfl (fun ls hl => ?_)
              refine lv_iinc (v := (nI (k + 1))) (lv' := [(2, .int (nI (k + 1))), (1, .int (nI k)), (0, .ref (A (6 * 0)))]) hx hb dX0_weakestPad_41 hl (k := 2) rfl (nI_1 k) (by decide) rfl (fun ls hl => ?_)
              refine lv_goto (tgt := 5) hx hb dX0_weakestPad_44 (by decide) ?_
              exact ih (k + 1) (nI k) Q (by omega) (by omega) V (Eq.trans (Eq.symm (Eq.trans (ge_X0_weakestPad_5 S n k v) (Eq.trans (if_neg c1) (Eq.trans (if_neg c2) (Eq.trans (if_neg c3) ((if_neg c4))))))) hres) kk  _ (lv_sub hl [2, 1, 0] rfl)
  refine lv_bipush (v := (-5)) hx hb dX0_weakestPad_0 (by decide) ?_
  refine lv_istore_n (lv' := [(1, .int (-5)), (0, .ref (A (6 * 0)))]) hx hb dX0_weakestPad_2 rfl hl (by decide) rfl (fun ls hl => ?_)
  refine lv_iconst (v := 0) hx hb dX0_weakestPad_3 (by decide) ?_
  refine lv_istore_n (lv' := [(2, .int 0), (1, .int (-5)), (0, .ref (A (6 * 0)))]) hx hb dX0_weakestPad_4 rfl hl (by decide) rfl (fun ls hl => ?_)
  refine LOOP5 13 0 (-5) _ (by omega) (by omega) _ rfl (fun ls hl => ?_)  _ (lv_sub hl [2, 1, 0] rfl)
  have hl : lv_has ls 3 [(1, .int (g_X0_weakestPad_5 S 13 0 (-5)))] := hl
  refine lv_iload_n hx hb dX0_weakestPad_47 rfl (lv_at hl 0 rfl) ?_
  exact endP hx hb hr hlocks rfl (Eq.symm ((e_X0_weakestPad S))) dX0_weakestPad_48
noncomputable def g_X0_laysUntilStop_13 (S : XS) (p0 : Int32) : Nat → Nat → Int32 → Int32 → Int32
  | 0, k, w, u => (nI k)
  | n + 1, k, w, u => opq (if 7 ≤ (nI k) then nI k else (if u = 0 then (if 200 ≤ w then nI k else (g_X0_laysUntilStop_13 S p0 n (k + 1) (w + (f_X0_wearOfLaying p0)) (f_X0_losesTail ((S 0 0 0) + (nI (k + 1)))))) else nI k))
theorem ge_X0_laysUntilStop_13 (S : XS) (p0 : Int32) (n : Nat) (k : Nat) (w : Int32) (u : Int32) : g_X0_laysUntilStop_13 S p0 (n + 1) k w u = (if 7 ≤ (nI k) then nI k else (if u = 0 then (if 200 ≤ w then nI k else (g_X0_laysUntilStop_13 S p0 n (k + 1) (w + (f_X0_wearOfLaying p0)) (f_X0_losesTail ((S 0 0 0) + (nI (k + 1)))))) else nI k)) := opq_eq _
noncomputable def f_X0_laysUntilStop (S : XS) (p0 : Int32) : Int32 := opq (g_X0_laysUntilStop_13 S p0 8 0 (S 0 0 2) (S 0 0 4))
theorem e_X0_laysUntilStop (S : XS) (p0 : Int32) : f_X0_laysUntilStop S p0 = (g_X0_laysUntilStop_13 S p0 8 0 (S 0 0 2) (S 0 0 4)) := opq_eq _
set_option maxHeartbeats 4000000 in
set_option maxRecDepth 100000 in
theorem c_X0_laysUntilStop (l : Launch) (G : GG) (A : Nat → Nat) (S : XS) (r : Nat) (p0 : Int32) : Mp l yX0_laysUntilStop wsX0_laysUntilStop ({ frames := 1, cells := 0, slots := 0, locals := 20 } : Room) G [.ref (A (6 * 0)), .int p0] (wX G A S r) (f_X0_laysUntilStop S p0) := by
  refine Mp.of (cc := cX0_laysUntilStop) (maxL := 5) (ret := (some .int)) (by decide) rfl (Nat.le_of_ble_eq_true rfl) ?_
  intro p e s m args below meth c E hr hlocks hP hK ls hl
  have E : CallFix p m c cX0_laysUntilStop 5 s args wsX0_laysUntilStop RX0 := E
  have hx := E.1
  have hb := E.2.1
  have hml := E.2.2.1
  have hown := E.2.2.2.1
  have hts := E.2.2.2.2
  have hl : lv_has ls 5 [(0, .ref (A (6 * 0))), (1, .int p0)] := hl
  have hinX0 : ∀ w ∈ u_ws RX0 TX0 12, w ∈ wsX0_laysUntilStop := fun _ h => List.mem_cons_of_mem _ (List.mem_append_right _ h)
  have LOOP13 : ∀ (n : Nat) (k : Nat) (w : Int32) (u : Int32) (Q : State → Prop), (k ≤ 7) → (7 < k + n) → ∀ V : Int32, g_X0_laysUntilStop_13 S p0 n k w u = V → (∀ ls : Array Slot, lv_has ls 5 [(4, .int V)] → W p l e ({ frames := 1, cells := 0, slots := 0, locals := 20 } : Room) s m args below meth c s.heap [] 0 0 (Q) (F0 m 55 ls [])) → ∀ ls : Array Slot, lv_has ls 5 [(0, .ref (A (6 * 0))), (1, .int p0), (2, .int w), (3, .int u), (4, .int (nI k))] → W p l e ({ frames := 1, cells := 0, slots := 0, locals := 20 } : Room) s m args below meth c s.heap [] 0 0 (Q) (F0 m 13 ls []) := by
    intro n
    induction n with
    | zero =>
      intro k w u Q hk hn
      exact absurd hn (by omega)
    | succ n ih =>
      intro k w u Q hk hn V hres kk ls hl
      have hl : lv_has ls 5 [(0, .ref (A (6 * 0))), (1, .int p0), (2, .int w), (3, .int u), (4, .int (nI k))] := hl
      refine lv_iload hx hb dX0_laysUntilStop_13 (lv_at hl 4 rfl) ?_
      refine lv_bipush (v := 7) hx hb dX0_laysUntilStop_15 (by decide) ?_
      refine lv_icmp_ge (tgt := 55) hx hb dX0_laysUntilStop_17 (by decide) (fun c1 => ?_) (fun c1 => ?_)
      · skip
        have hfin : nI k = V := Eq.trans (Eq.symm (Eq.trans (ge_X0_laysUntilStop_13 S p0 n k w u) ((if_pos c1)))) hres
        subst hfin
        exact kk _ (lv_sub hl [4] rfl)
      · skip
        have hk2 : k < 7 := lt_of_nle (N := 7) rfl hk c1 (by decide)
        refine lv_iload_n hx hb dX0_laysUntilStop_20 rfl (lv_at hl 3 rfl) ?_
        refine lv_if_ne (tgt := 55) hx hb dX0_laysUntilStop_21 (by decide) (fun c2 => ?_) (fun c2 => ?_)
        · skip
          have hfin : nI k = V := Eq.trans (Eq.symm (Eq.trans (ge_X0_laysUntilStop_13 S p0 n k w u) (Eq.trans (if_neg c1) ((if_neg c2))))) hres
          subst hfin
          exact kk _ (lv_sub hl [4] rfl)
        · skip
          refine lv_iload_n hx hb dX0_laysUntilStop_24 rfl (lv_at hl 2 rfl) ?_
          refine lv_sipush (v := 200) hx hb dX0_laysUntilStop_25 (by decide) ?_
          refine lv_icmp_ge (tgt := 55) hx hb dX0_laysUntilStop_28 (by decide) (fun c3 => ?_) (fun c3 => ?_)
          · skip
            have hfin : nI k = V := Eq.trans (Eq.symm (Eq.trans (ge_X0_laysUntilStop_13 S p0 n k w u) (Eq.trans (if_neg c1) (Eq.trans (if_pos c2) ((if_pos c3)))))) hres
            subst hfin
            exact kk _ (lv_sub hl [4] rfl)
          · skip
            refine lv_iinc (v := (nI (k + 1))) (lv' := [(4, .int (nI (k + 1))), (0, .ref (A (6 * 0))), (1, .int p0), (2, .int w), (3, .int u)]) hx hb dX0_laysUntilStop_31 hl (k := 4) rfl (nI_1 k) (by decide) rfl (fun ls hl => ?_)
            refine lv_iload_n hx hb dX0_laysUntilStop_34 rfl (lv_at hl 3 rfl) ?_
            refine lv_iload_n hx hb dX0_laysUntilStop_35 rfl (lv_at hl 2 rfl) ?_
            refine cpS (rest := [.int w]) (As := [.int p0]) E (c_X0_wearOfLaying l G A S r p0) (va_cwS 1 hts gX0_laysUntilStop_X0_wearOfLaying rfl rfl rfl (by decide +kernel) ⟨Nat.le_of_ble_eq_true rfl, Nat.le_of_ble_eq_true rfl⟩) hK hP rfl hl.1 rfl (Nat.le_of_ble_eq_true rfl) dX0_laysUntilStop_36 ⟨Nat.zero_le _, Nat.zero_le _⟩ ?_
            refine lv_iadd hx hb dX0_laysUntilStop_39 ?_
            refine lv_istore_n (lv' := [(2, .int (w + (f_X0_wearOfLaying p0))), (4, .int (nI (k + 1))), (0, .ref (A (6 * 0))), (1, .int p0), (3, .int u)]) hx hb dX0_laysUntilStop_40 rfl hl (by decide) rfl (fun ls hl => ?_)
            refine lv_aload_n hx hb dX0_laysUntilStop_41 rfl (lv_at hl 2 rfl) ?_
            refine va_get (D := G.1) (ci := 0) (v := .int (S 0 0 0)) (C := RX0) (T := TX0) (N := 12) hx hb hts hinX0 hown hK.1 hP (6 * 0) (wX_o G A S r 0 (by decide)) rfl 5 (by decide) (hts (.fieldLink RX0 43 "WireLoops$Chip" "laid" "I") (List.mem_of_getElem? (i := 3) rfl)) (fun _ h9 => h9) rfl dX0_laysUntilStop_42 ?_
            refine lv_iload hx hb dX0_laysUntilStop_45 (lv_at hl 1 rfl) ?_
            refine lv_iadd hx hb dX0_laysUntilStop_47 ?_
            refine cpS (rest := []) (As := [.int ((S 0 0 0) + (nI (k + 1)))]) E (c_X0_losesTail l G A S r ((S 0 0 0) + (nI (k + 1)))) (va_cwS 1 hts gX0_laysUntilStop_X0_losesTail rfl rfl rfl (by decide +kernel) ⟨Nat.le_of_ble_eq_true rfl, Nat.le_of_ble_eq_true rfl⟩) hK hP rfl hl.1 rfl (Nat.le_of_ble_eq_true rfl) dX0_laysUntilStop_48 ⟨Nat.zero_le _, Nat.zero_le _⟩ ?_
            refine lv_istore_n (lv' := [(3, .int (f_X0_losesTail ((S 0 0 0) + (nI (k + 1))))), (2, .int (w + (f_X0_wearOfLaying p0))), (4, .int (nI (k + 1))), (0, .ref (A (6 * 0))), (1, .int p0)]) hx hb dX0_laysUntilStop_51 rfl hl (by decide) rfl (fun ls hl => ?_)
            refine lv_goto (tgt := 13) hx hb dX0_laysUntilStop_52 (by decide) ?_
            exact ih (k + 1) (w + (f_X0_wearOfLaying p0)) (f_X0_losesTail ((S 0 0 0) + (nI (k + 1)))) Q (by omega) (by omega) V (Eq.trans (Eq.symm (Eq.trans (ge_X0_laysUntilStop_13 S p0 n k w u) (Eq.trans (if_neg c1) (Eq.trans (if_pos c2) ((if_neg c3)))))) hres) kk  _ (lv_sub hl [3, 4, 1, 0, 2] rfl)
  refine lv_aload_n hx hb dX0_laysUntilStop_0 rfl (lv_at hl 0 rfl) ?_
  refine va_get (D := G.1) (ci := 0) (v := .int (S 0 0 2)) (C := RX0) (T := TX0) (N := 12) hx hb hts hinX0 hown hK.1 hP (6 * 0) (wX_o G A S r 0 (by decide)) rfl 7 (by decide) (hts (.fieldLink RX0 46 "WireLoops$Chip" "wear" "I") (List.mem_of_getElem? (i := 1) rfl)) (fun _ h9 => h9) rfl dX0_laysUntilStop_1 ?_
  refine lv_istore_n (lv' := [(2, .int (S 0 0 2)), (0, .ref (A (6 * 0))), (1, .int p0)]) hx hb dX0_laysUntilStop_4 rfl hl (by decide) rfl (fun ls hl => ?_)
  refine lv_aload_n hx hb dX0_laysUntilStop_5 rfl (lv_at hl 1 rfl) ?_
  refine va_get (D := G.1) (ci := 0) (v := .int (S 0 0 4)) (C := RX0) (T := TX0) (N := 12) hx hb hts hinX0 hown hK.1 hP (6 * 0) (wX_o G A S r 0 (by decide)) rfl 9 (by decide) (hts (.fieldLink RX0 52 "WireLoops$Chip" "tailLost" "Z") (List.mem_of_getElem? (i := 2) rfl)) (fun _ h9 => h9) rfl dX0_laysUntilStop_6 ?_
  refine lv_istore_n (lv' := [(3, .int (S 0 0 4)), (2, .int (S 0 0 2)), (0, .ref (A (6 * 0))), (1, .int p0)]) hx hb dX0_laysUntilStop_9 rfl hl (by decide) rfl (fun ls hl => ?_)
  refine lv_iconst (v := 0) hx hb dX0_laysUntilStop_10 (by decide) ?_
  refine lv_istore (lv' := [(4, .int 0), (3, .int (S 0 0 4)), (2, .int (S 0 0 2)), (0, .ref (A (6 * 0))), (1, .int p0)]) hx hb dX0_laysUntilStop_11 hl (by decide) rfl (fun ls hl => ?_)
  refine LOOP13 8 0 (S 0 0 2) (S 0 0 4) _ (by omega) (by omega) _ rfl (fun ls hl => ?_)  _ (lv_sub hl [3, 4, 2, 1, 0] rfl)
  have hl : lv_has ls 5 [(4, .int (g_X0_laysUntilStop_13 S p0 8 0 (S 0 0 2) (S 0 0 4)))] := hl
  refine lv_iload hx hb dX0_laysUntilStop_55 (lv_at hl 0 rfl) ?_
  exact endP hx hb hr hlocks rfl (Eq.symm ((e_X0_laysUntilStop S p0))) dX0_laysUntilStop_57
