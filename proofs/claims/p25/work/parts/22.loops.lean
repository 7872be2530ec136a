noncomputable def f_X3_lay_k2 (z2 : XS) (z1 : XS) (S : XS) (p0 p1 p2 : Int32) : Int32 × XS := opq ((f_X0_strengthOf z2 p0), z2)
theorem e_X3_lay_k2 (z2 : XS) (z1 : XS) (S : XS) (p0 p1 p2 : Int32) : f_X3_lay_k2 z2 z1 S p0 p1 p2 = ((f_X0_strengthOf z2 p0), z2) := opq_eq _
noncomputable def f_X3_lay_k1 (z1 : XS) (S : XS) (p0 p1 p2 : Int32) : Int32 × XS := opq (f_X3_lay_k2 (f_X0_addWire z1 p0 p1 p2) z1 S p0 p1 p2)
theorem e_X3_lay_k1 (z1 : XS) (S : XS) (p0 p1 p2 : Int32) : f_X3_lay_k1 z1 S p0 p1 p2 = (f_X3_lay_k2 (f_X0_addWire z1 p0 p1 p2) z1 S p0 p1 p2) := opq_eq _
noncomputable def f_X3_lay (S : XS) (p0 p1 p2 : Int32) : Int32 × XS := opq (if (f_X3_isPad p0) = 0 then ((-1), S) else (if (f_X3_isLead p1) = 0 then ((-1), S) else (if (f_X3_isHeight p2) = 0 then ((-2), S) else (if (f_X0_errorOfLaying S p0 p1) = 0 then (f_X3_lay_k1 (recS S 0) S p0 p1 p2) else ((f_X0_errorOfLaying S p0 p1), S)))))
theorem e_X3_lay (S : XS) (p0 p1 p2 : Int32) : f_X3_lay S p0 p1 p2 = (if (f_X3_isPad p0) = 0 then ((-1), S) else (if (f_X3_isLead p1) = 0 then ((-1), S) else (if (f_X3_isHeight p2) = 0 then ((-2), S) else (if (f_X0_errorOfLaying S p0 p1) = 0 then (f_X3_lay_k1 (recS S 0) S p0 p1 p2) else ((f_X0_errorOfLaying S p0 p1), S))))) := opq_eq _
set_option maxHeartbeats 4000000 in
set_option maxRecDepth 100000 in
theorem c_X3_lay (l : Launch) (G : GG) (A : Nat → Nat) (S : XS) (p0 p1 p2 : Int32) (q : Nat) (hq : S 7 0 1 = nI q) (hq4 : q ≤ 4) (hbs : ∀ b, b < 7 → S b 0 4 = 0 ∨ S b 0 4 = 1) : Mm l yX3_lay wsX3_lay ({ frames := 4, cells := 0, slots := 0, locals := 88 } : Room) G [.ref (A 42), .int p0, .int p1, .int p2] (wX G A S (rot S)) (f_X3_lay S p0 p1 p2).1 (wX G A (f_X3_lay S p0 p1 p2).2 (rot (f_X3_lay S p0 p1 p2).2)) := by
  refine Mm.of (cc := cX3_lay) (maxL := 5) (ret := (some .int)) (by decide) rfl (Nat.le_of_ble_eq_true rfl) ?_
  intro p e s m args below meth c A0 hA0 E hr hlocks hP hK hD hA hS ls hl
  have E : CallFix p m c cX3_lay 5 s args wsX3_lay RX3 := E
  have hx := E.1
  have hb := E.2.1
  have hml := E.2.2.1
  have hown := E.2.2.2.1
  have hts := E.2.2.2.2
  have hl : lv_has ls 5 [(0, .ref (A 42)), (1, .int p0), (2, .int p1), (3, .int p2)] := hl
  have hinX3 : ∀ w ∈ u_ws RX3 TX3 6, w ∈ wsX3_lay := fun _ h => List.mem_cons_of_mem _ (List.mem_append_left _ (List.mem_append_left _ (List.mem_append_right _ h)))
  refine lv_iload_n hx hb dX3_lay_0 rfl (lv_at hl 1 rfl) ?_
  refine cpS (rest := []) (As := [.int p0]) E (c_X3_isPad l G A S (rot S) p0) (va_cwS 1 hts gX3_lay_X3_isPad rfl rfl rfl (by decide +kernel) ⟨Nat.le_of_ble_eq_true rfl, Nat.le_of_ble_eq_true rfl⟩) hK hP rfl hl.1 rfl (Nat.le_of_ble_eq_true rfl) dX3_lay_1 ⟨Nat.zero_le _, Nat.zero_le _⟩ ?_
  refine lv_if_eq (tgt := 14) hx hb dX3_lay_4 (by decide) (fun c1 => ?_) (fun c1 => ?_)
  · skip
    refine lv_iconst (v := (-1)) hx hb dX3_lay_14 (by decide) ?_
    have hfin : ((-1), S) = (f_X3_lay S p0 p1 p2) := Eq.symm (Eq.trans (e_X3_lay S p0 p1 p2) ((if_pos c1)))
    exact endM hx hb hr hlocks rfl hP hD hS ⟨@congrArg (Int32 × XS) Int32 ((-1), S) (f_X3_lay S p0 p1 p2) Prod.fst hfin, @congrArg (Int32 × XS) va_W ((-1), S) (f_X3_lay S p0 p1 p2) (fun z => wX G A z.2 (rot z.2)) hfin⟩ dX3_lay_15
  · skip
    refine lv_iload_n hx hb dX3_lay_7 rfl (lv_at hl 2 rfl) ?_
    refine cpS (rest := []) (As := [.int p1]) E (c_X3_isLead l G A S (rot S) p1) (va_cwS 1 hts gX3_lay_X3_isLead rfl rfl rfl (by decide +kernel) ⟨Nat.le_of_ble_eq_true rfl, Nat.le_of_ble_eq_true rfl⟩) hK hP rfl hl.1 rfl (Nat.le_of_ble_eq_true rfl) dX3_lay_8 ⟨Nat.zero_le _, Nat.zero_le _⟩ ?_
    refine lv_if_ne (tgt := 16) hx hb dX3_lay_11 (by decide) (fun c2 => ?_) (fun c2 => ?_)
    · skip
      refine lv_iload_n hx hb dX3_lay_16 rfl (lv_at hl 3 rfl) ?_
      refine cpS (rest := []) (As := [.int p2]) E (c_X3_isHeight l G A S (rot S) p2) (va_cwS 1 hts gX3_lay_X3_isHeight rfl rfl rfl (by decide +kernel) ⟨Nat.le_of_ble_eq_true rfl, Nat.le_of_ble_eq_true rfl⟩) hK hP rfl hl.1 rfl (Nat.le_of_ble_eq_true rfl) dX3_lay_17 ⟨Nat.zero_le _, Nat.zero_le _⟩ ?_
      refine lv_if_ne (tgt := 26) hx hb dX3_lay_20 (by decide) (fun c3 => ?_) (fun c3 => ?_)
      · skip
        refine lv_aload_n hx hb dX3_lay_26 rfl (lv_at hl 0 rfl) ?_
        refine va_get (D := G.1) (ci := 3) (v := .ref (A (6 * 0))) (C := RX3) (T := TX3) (N := 6) hx hb hts hinX3 hown hK.1 hP 42 (wX_42 G A S (rot S)) rfl 0 (by decide) (hts (.fieldLink RX3 10 "WireLoops" "chip" "LWireLoops$Chip;") (List.mem_of_getElem? (i := 1) rfl)) (fun _ h9 => h9) rfl dX3_lay_27 ?_
        refine lv_iload_n hx hb dX3_lay_30 rfl (lv_at hl 1 rfl) ?_
        refine lv_iload_n hx hb dX3_lay_31 rfl (lv_at hl 2 rfl) ?_
        refine cpV (rest := []) (As := [.int p0, .int p1]) E (c_X0_errorOfLaying l G A S (rot S) p0 p1) (cwV 2 hts gX3_lay_X0_errorOfLaying rfl rfl rfl (by decide +kernel) ⟨Nat.le_of_ble_eq_true rfl, Nat.le_of_ble_eq_true rfl⟩) hK hP (6 * 0) (wX_o G A S (rot S) 0 (by decide)) rfl rfl hl.1 rfl (Nat.le_of_ble_eq_true rfl) dX3_lay_32 ⟨Nat.zero_le _, Nat.zero_le _⟩ ?_
        refine lv_istore (lv' := [(4, .int (f_X0_errorOfLaying S p0 p1)), (0, .ref (A 42)), (1, .int p0), (2, .int p1), (3, .int p2)]) hx hb dX3_lay_35 hl (by decide) rfl (fun ls hl => ?_)
        refine lv_iload hx hb dX3_lay_37 (lv_at hl 0 rfl) ?_
        refine lv_if_eq (tgt := 45) hx hb dX3_lay_39 (by decide) (fun c4 => ?_) (fun c4 => ?_)
        · skip
          refine lv_aload_n hx hb dX3_lay_45 rfl (lv_at hl 1 rfl) ?_
          refine va_get (D := G.1) (ci := 3) (v := .ref (A 43)) (C := RX3) (T := TX3) (N := 6) hx hb hts hinX3 hown hK.1 hP 42 (wX_42 G A S (rot S)) rfl 4 (by decide) (hts (.fieldLink RX3 29 "WireLoops" "history" "LWireLoops$History;") (List.mem_of_getElem? (i := 2) rfl)) (fun _ h9 => h9) rfl dX3_lay_46 ?_
          refine lv_aload_n hx hb dX3_lay_49 rfl (lv_at hl 1 rfl) ?_
          refine va_get (D := G.1) (ci := 3) (v := .ref (A (6 * 0))) (C := RX3) (T := TX3) (N := 6) hx hb hts hinX3 hown hK.1 hP 42 (wX_42 G A S (rot S)) rfl 0 (by decide) (hts (.fieldLink RX3 10 "WireLoops" "chip" "LWireLoops$Chip;") (List.mem_of_getElem? (i := 1) rfl)) (fun _ h9 => h9) rfl dX3_lay_50 ?_
          refine czV (rest := []) (As := [.ref (A (6 * 0))]) E (c_X1_record_0 l G A S q hq hq4 (hbs 0 (by decide))) (cwV 1 hts gX3_lay_X1_record rfl rfl rfl (by decide +kernel) ⟨Nat.le_of_ble_eq_true rfl, Nat.le_of_ble_eq_true rfl⟩) hK hP hD hS hA 43 (wX_43 G A S (rot S)) rfl rfl hl.1 rfl (Nat.le_of_ble_eq_true rfl) dX3_lay_53 ⟨Nat.zero_le _, Nat.zero_le _⟩ (fun H locs hP hD hS => ?_)
          have hres1 : f_X3_lay_k1 (recS S 0) S p0 p1 p2 = (f_X3_lay S p0 p1 p2) := Eq.symm (Eq.trans (e_X3_lay S p0 p1 p2) (Eq.trans (if_neg c1) (Eq.trans (if_neg c2) (Eq.trans (if_neg c3) ((if_pos c4))))))
          generalize hz1 : (recS S 0) = z1 at hres1 hP hD ⊢
          refine lv_aload_n hx hb dX3_lay_56 rfl (lv_at hl 1 rfl) ?_
          refine va_get (D := G.1) (ci := 3) (v := .ref (A (6 * 0))) (C := RX3) (T := TX3) (N := 6) hx hb hts hinX3 hown hK.1 hP 42 (wX_42 G A z1 (rot z1)) rfl 0 (by decide) (hts (.fieldLink RX3 10 "WireLoops" "chip" "LWireLoops$Chip;") (List.mem_of_getElem? (i := 1) rfl)) (fun _ h9 => h9) rfl dX3_lay_57 ?_
          refine lv_iload_n hx hb dX3_lay_60 rfl (lv_at hl 2 rfl) ?_
          refine lv_iload_n hx hb dX3_lay_61 rfl (lv_at hl 3 rfl) ?_
          refine lv_iload_n hx hb dX3_lay_62 rfl (lv_at hl 4 rfl) ?_
          refine czV (rest := []) (As := [.int p0, .int p1, .int p2]) E (c_X0_addWire l G A z1 (rot z1) p0 p1 p2) (cwV 3 hts gX3_lay_X0_addWire rfl rfl rfl (by decide +kernel) ⟨Nat.le_of_ble_eq_true rfl, Nat.le_of_ble_eq_true rfl⟩) hK hP hD hS hA (6 * 0) (wX_o G A z1 (rot z1) 0 (by decide)) rfl rfl hl.1 rfl (Nat.le_of_ble_eq_true rfl) dX3_lay_63 ⟨Nat.zero_le _, Nat.zero_le _⟩ (fun H locs hP hD hS => ?_)
          have hP : va_P G.1 vwCl (wX G A (f_X0_addWire z1 p0 p1 p2) (rot (f_X0_addWire z1 p0 p1 p2))) H := by rw [rot_X0_addWire]; exact hP
          have hD : va_D A0 (wX G A (f_X0_addWire z1 p0 p1 p2) (rot (f_X0_addWire z1 p0 p1 p2))) := by rw [rot_X0_addWire]; exact hD
          have hres2 : f_X3_lay_k2 (f_X0_addWire z1 p0 p1 p2) z1 S p0 p1 p2 = (f_X3_lay S p0 p1 p2) := Eq.trans (Eq.symm ((e_X3_lay_k1 z1 S p0 p1 p2))) hres1
          generalize hz2 : (f_X0_addWire z1 p0 p1 p2) = z2 at hres2 hP hD ⊢
          refine lv_aload_n hx hb dX3_lay_66 rfl (lv_at hl 1 rfl) ?_
          refine va_get (D := G.1) (ci := 3) (v := .ref (A (6 * 0))) (C := RX3) (T := TX3) (N := 6) hx hb hts hinX3 hown hK.1 hP 42 (wX_42 G A z2 (rot z2)) rfl 0 (by decide) (hts (.fieldLink RX3 10 "WireLoops" "chip" "LWireLoops$Chip;") (List.mem_of_getElem? (i := 1) rfl)) (fun _ h9 => h9) rfl dX3_lay_67 ?_
          refine lv_iload_n hx hb dX3_lay_70 rfl (lv_at hl 2 rfl) ?_
          refine cpV (rest := []) (As := [.int p0]) E (c_X0_strengthOf l G A z2 (rot z2) p0) (cwV 1 hts gX3_lay_X0_strengthOf rfl rfl rfl (by decide +kernel) ⟨Nat.le_of_ble_eq_true rfl, Nat.le_of_ble_eq_true rfl⟩) hK hP (6 * 0) (wX_o G A z2 (rot z2) 0 (by decide)) rfl rfl hl.1 rfl (Nat.le_of_ble_eq_true rfl) dX3_lay_71 ⟨Nat.zero_le _, Nat.zero_le _⟩ ?_
          have hfin : ((f_X0_strengthOf z2 p0), z2) = (f_X3_lay S p0 p1 p2) := Eq.trans (Eq.symm ((e_X3_lay_k2 z2 z1 S p0 p1 p2))) hres2
          exact endM hx hb hr hlocks rfl hP hD hS ⟨@congrArg (Int32 × XS) Int32 ((f_X0_strengthOf z2 p0), z2) (f_X3_lay S p0 p1 p2) Prod.fst hfin, @congrArg (Int32 × XS) va_W ((f_X0_strengthOf z2 p0), z2) (f_X3_lay S p0 p1 p2) (fun z => wX G A z.2 (rot z.2)) hfin⟩ dX3_lay_74
        · skip
          refine lv_iload hx hb dX3_lay_42 (lv_at hl 0 rfl) ?_
          have hfin : ((f_X0_errorOfLaying S p0 p1), S) = (f_X3_lay S p0 p1 p2) := Eq.symm (Eq.trans (e_X3_lay S p0 p1 p2) (Eq.trans (if_neg c1) (Eq.trans (if_neg c2) (Eq.trans (if_neg c3) ((if_neg c4))))))
          exact endM hx hb hr hlocks rfl hP hD hS ⟨@congrArg (Int32 × XS) Int32 ((f_X0_errorOfLaying S p0 p1), S) (f_X3_lay S p0 p1 p2) Prod.fst hfin, @congrArg (Int32 × XS) va_W ((f_X0_errorOfLaying S p0 p1), S) (f_X3_lay S p0 p1 p2) (fun z => wX G A z.2 (rot z.2)) hfin⟩ dX3_lay_44
      · skip
        refine lv_bipush (v := (-2)) hx hb dX3_lay_23 (by decide) ?_
        have hfin : ((-2), S) = (f_X3_lay S p0 p1 p2) := Eq.symm (Eq.trans (e_X3_lay S p0 p1 p2) (Eq.trans (if_neg c1) (Eq.trans (if_neg c2) ((if_pos c3)))))
        exact endM hx hb hr hlocks rfl hP hD hS ⟨@congrArg (Int32 × XS) Int32 ((-2), S) (f_X3_lay S p0 p1 p2) Prod.fst hfin, @congrArg (Int32 × XS) va_W ((-2), S) (f_X3_lay S p0 p1 p2) (fun z => wX G A z.2 (rot z.2)) hfin⟩ dX3_lay_25
    · skip
      refine lv_iconst (v := (-1)) hx hb dX3_lay_14 (by decide) ?_
      have hfin : ((-1), S) = (f_X3_lay S p0 p1 p2) := Eq.symm (Eq.trans (e_X3_lay S p0 p1 p2) (Eq.trans (if_neg c1) ((if_pos c2))))
      exact endM hx hb hr hlocks rfl hP hD hS ⟨@congrArg (Int32 × XS) Int32 ((-1), S) (f_X3_lay S p0 p1 p2) Prod.fst hfin, @congrArg (Int32 × XS) va_W ((-1), S) (f_X3_lay S p0 p1 p2) (fun z => wX G A z.2 (rot z.2)) hfin⟩ dX3_lay_15
noncomputable def f_X3_takeOff_k2 (z2 : XS) (z1 : XS) (S : XS) (p0 : Int32) : Int32 × XS := opq ((f_X0_strengthOf z1 p0), z2)
theorem e_X3_takeOff_k2 (z2 : XS) (z1 : XS) (S : XS) (p0 : Int32) : f_X3_takeOff_k2 z2 z1 S p0 = ((f_X0_strengthOf z1 p0), z2) := opq_eq _
noncomputable def f_X3_takeOff_k1 (z1 : XS) (S : XS) (p0 : Int32) : Int32 × XS := opq (f_X3_takeOff_k2 (f_X0_removeWire z1 p0) z1 S p0)
theorem e_X3_takeOff_k1 (z1 : XS) (S : XS) (p0 : Int32) : f_X3_takeOff_k1 z1 S p0 = (f_X3_takeOff_k2 (f_X0_removeWire z1 p0) z1 S p0) := opq_eq _
noncomputable def f_X3_takeOff (S : XS) (p0 : Int32) : Int32 × XS := opq (if (f_X0_hasWire S p0) = 0 then ((-1), S) else (f_X3_takeOff_k1 (recS S 0) S p0))
theorem e_X3_takeOff (S : XS) (p0 : Int32) : f_X3_takeOff S p0 = (if (f_X0_hasWire S p0) = 0 then ((-1), S) else (f_X3_takeOff_k1 (recS S 0) S p0)) := opq_eq _
set_option maxHeartbeats 4000000 in
set_option maxRecDepth 100000 in
theorem c_X3_takeOff (l : Launch) (G : GG) (A : Nat → Nat) (S : XS) (p0 : Int32) (q : Nat) (hq : S 7 0 1 = nI q) (hq4 : q ≤ 4) (hbs : ∀ b, b < 7 → S b 0 4 = 0 ∨ S b 0 4 = 1) : Mm l yX3_takeOff wsX3_takeOff ({ frames := 3, cells := 0, slots := 0, locals := 69 } : Room) G [.ref (A 42), .int p0] (wX G A S (rot S)) (f_X3_takeOff S p0).1 (wX G A (f_X3_takeOff S p0).2 (rot (f_X3_takeOff S p0).2)) := by
  refine Mm.of (cc := cX3_takeOff) (maxL := 3) (ret := (some .int)) (by decide) rfl (Nat.le_of_ble_eq_true rfl) ?_
  intro p e s m args below meth c A0 hA0 E hr hlocks hP hK hD hA hS ls hl
  have E : CallFix p m c cX3_takeOff 3 s args wsX3_takeOff RX3 := E
  have hx := E.1
  have hb := E.2.1
  have hml := E.2.2.1
  have hown := E.2.2.2.1
  have hts := E.2.2.2.2
  have hl : lv_has ls 3 [(0, .ref (A 42)), (1, .int p0)] := hl
  have hinX3 : ∀ w ∈ u_ws RX3 TX3 6, w ∈ wsX3_takeOff := fun _ h => List.mem_cons_of_mem _ (List.mem_append_left _ (List.mem_append_left _ (List.mem_append_right _ h)))
  refine lv_aload_n hx hb dX3_takeOff_0 rfl (lv_at hl 0 rfl) ?_
  refine va_get (D := G.1) (ci := 3) (v := .ref (A (6 * 0))) (C := RX3) (T := TX3) (N := 6) hx hb hts hinX3 hown hK.1 hP 42 (wX_42 G A S (rot S)) rfl 0 (by decide) (hts (.fieldLink RX3 10 "WireLoops" "chip" "LWireLoops$Chip;") (List.mem_of_getElem? (i := 1) rfl)) (fun _ h9 => h9) rfl dX3_takeOff_1 ?_
  refine lv_iload_n hx hb dX3_takeOff_4 rfl (lv_at hl 1 rfl) ?_
  refine cpV (rest := []) (As := [.int p0]) E (c_X0_hasWire l G A S (rot S) p0) (cwV 1 hts gX3_takeOff_X0_hasWire rfl rfl rfl (by decide +kernel) ⟨Nat.le_of_ble_eq_true rfl, Nat.le_of_ble_eq_true rfl⟩) hK hP (6 * 0) (wX_o G A S (rot S) 0 (by decide)) rfl rfl hl.1 rfl (Nat.le_of_ble_eq_true rfl) dX3_takeOff_5 ⟨Nat.zero_le _, Nat.zero_le _⟩ ?_
  refine lv_if_ne (tgt := 13) hx hb dX3_takeOff_8 (by decide) (fun c1 => ?_) (fun c1 => ?_)
  · skip
    refine lv_aload_n hx hb dX3_takeOff_13 rfl (lv_at hl 0 rfl) ?_
    refine va_get (D := G.1) (ci := 3) (v := .ref (A 43)) (C := RX3) (T := TX3) (N := 6) hx hb hts hinX3 hown hK.1 hP 42 (wX_42 G A S (rot S)) rfl 4 (by decide) (hts (.fieldLink RX3 29 "WireLoops" "history" "LWireLoops$History;") (List.mem_of_getElem? (i := 2) rfl)) (fun _ h9 => h9) rfl dX3_takeOff_14 ?_
    refine lv_aload_n hx hb dX3_takeOff_17 rfl (lv_at hl 0 rfl) ?_
    refine va_get (D := G.1) (ci := 3) (v := .ref (A (6 * 0))) (C := RX3) (T := TX3) (N := 6) hx hb hts hinX3 hown hK.1 hP 42 (wX_42 G A S (rot S)) rfl 0 (by decide) (hts (.fieldLink RX3 10 "WireLoops" "chip" "LWireLoops$Chip;") (List.mem_of_getElem? (i := 1) rfl)) (fun _ h9 => h9) rfl dX3_takeOff_18 ?_
    refine czV (rest := []) (As := [.ref (A (6 * 0))]) E (c_X1_record_0 l G A S q hq hq4 (hbs 0 (by decide))) (cwV 1 hts gX3_takeOff_X1_record rfl rfl rfl (by decide +kernel) ⟨Nat.le_of_ble_eq_true rfl, Nat.le_of_ble_eq_true rfl⟩) hK hP hD hS hA 43 (wX_43 G A S (rot S)) rfl rfl hl.1 rfl (Nat.le_of_ble_eq_true rfl) dX3_takeOff_21 ⟨Nat.zero_le _, Nat.zero_le _⟩ (fun H locs hP hD hS => ?_)
    have hres1 : f_X3_takeOff_k1 (recS S 0) S p0 = (f_X3_takeOff S p0) := Eq.symm (Eq.trans (e_X3_takeOff S p0) ((if_neg c1)))
    generalize hz1 : (recS S 0) = z1 at hres1 hP hD ⊢
    refine lv_aload_n hx hb dX3_takeOff_24 rfl (lv_at hl 0 rfl) ?_
    refine va_get (D := G.1) (ci := 3) (v := .ref (A (6 * 0))) (C := RX3) (T := TX3) (N := 6) hx hb hts hinX3 hown hK.1 hP 42 (wX_42 G A z1 (rot z1)) rfl 0 (by decide) (hts (.fieldLink RX3 10 "WireLoops" "chip" "LWireLoops$Chip;") (List.mem_of_getElem? (i := 1) rfl)) (fun _ h9 => h9) rfl dX3_takeOff_25 ?_
    refine lv_iload_n hx hb dX3_takeOff_28 rfl (lv_at hl 1 rfl) ?_
    refine cpV (rest := []) (As := [.int p0]) E (c_X0_strengthOf l G A z1 (rot z1) p0) (cwV 1 hts gX3_takeOff_X0_strengthOf rfl rfl rfl (by decide +kernel) ⟨Nat.le_of_ble_eq_true rfl, Nat.le_of_ble_eq_true rfl⟩) hK hP (6 * 0) (wX_o G A z1 (rot z1) 0 (by decide)) rfl rfl hl.1 rfl (Nat.le_of_ble_eq_true rfl) dX3_takeOff_29 ⟨Nat.zero_le _, Nat.zero_le _⟩ ?_
    refine lv_istore_n (lv' := [(2, .int (f_X0_strengthOf z1 p0)), (0, .ref (A 42)), (1, .int p0)]) hx hb dX3_takeOff_32 rfl hl (by decide) rfl (fun ls hl => ?_)
    refine lv_aload_n hx hb dX3_takeOff_33 rfl (lv_at hl 1 rfl) ?_
    refine va_get (D := G.1) (ci := 3) (v := .ref (A (6 * 0))) (C := RX3) (T := TX3) (N := 6) hx hb hts hinX3 hown hK.1 hP 42 (wX_42 G A z1 (rot z1)) rfl 0 (by decide) (hts (.fieldLink RX3 10 "WireLoops" "chip" "LWireLoops$Chip;") (List.mem_of_getElem? (i := 1) rfl)) (fun _ h9 => h9) rfl dX3_takeOff_34 ?_
    refine lv_iload_n hx hb dX3_takeOff_37 rfl (lv_at hl 2 rfl) ?_
    refine czV (rest := []) (As := [.int p0]) E (c_X0_removeWire l G A z1 (rot z1) p0) (cwV 1 hts gX3_takeOff_X0_removeWire rfl rfl rfl (by decide +kernel) ⟨Nat.le_of_ble_eq_true rfl, Nat.le_of_ble_eq_true rfl⟩) hK hP hD hS hA (6 * 0) (wX_o G A z1 (rot z1) 0 (by decide)) rfl rfl hl.1 rfl (Nat.le_of_ble_eq_true rfl) dX3_takeOff_38 ⟨Nat.zero_le _, Nat.zero_le _⟩ (fun H locs hP hD hS => ?_)
    have hP : va_P G.1 vwCl (wX G A (f_X0_removeWire z1 p0) (rot (f_X0_removeWire z1 p0))) H := by rw [rot_X0_removeWire]; exact hP
    have hD : va_D A0 (wX G A (f_X0_removeWire z1 p0) (rot (f_X0_removeWire z1 p0))) := by rw [rot_X0_removeWire]; exact hD
    have hres2 : f_X3_takeOff_k2 (f_X0_removeWire z1 p0) z1 S p0 = (f_X3_takeOff S p0) := Eq.trans (Eq.symm ((e_X3_takeOff_k1 z1 S p0))) hres1
    generalize hz2 : (f_X0_removeWire z1 p0) = z2 at hres2 hP hD ⊢
    refine lv_iload_n hx hb dX3_takeOff_41 rfl (lv_at hl 0 rfl) ?_
    have hfin : ((f_X0_strengthOf z1 p0), z2) = (f_X3_takeOff S p0) := Eq.trans (Eq.symm ((e_X3_takeOff_k2 z2 z1 S p0))) hres2
    exact endM hx hb hr hlocks rfl hP hD hS ⟨@congrArg (Int32 × XS) Int32 ((f_X0_strengthOf z1 p0), z2) (f_X3_takeOff S p0) Prod.fst hfin, @congrArg (Int32 × XS) va_W ((f_X0_strengthOf z1 p0), z2) (f_X3_takeOff S p0) (fun z => wX G A z.2 (rot z.2)) hfin⟩ dX3_takeOff_42
  · skip
    refine lv_iconst (v := (-1)) hx hb dX3_takeOff_11 (by decide) ?_
    have hfin : ((-1), S) = (f_X3_takeOff S p0) := Eq.symm (Eq.trans (e_X3_takeOff S p0) ((if_pos c1)))
    exact endM hx hb hr hlocks rfl hP hD hS ⟨@congrArg (Int32 × XS) Int32 ((-1), S) (f_X3_takeOff S p0) Prod.fst hfin, @congrArg (Int32 × XS) va_W ((-1), S) (f_X3_takeOff S p0) (fun z => wX G A z.2 (rot z.2)) hfin⟩ dX3_takeOff_12
noncomputable def f_X3_bend_k2 (z2 : XS) (z1 : XS) (S : XS) (p0 p1 : Int32) : Int32 × XS := opq ((f_X0_heightOf S p0), z2)
theorem e_X3_bend_k2 (z2 : XS) (z1 : XS) (S : XS) (p0 p1 : Int32) : f_X3_bend_k2 z2 z1 S p0 p1 = ((f_X0_heightOf S p0), z2) := opq_eq _
noncomputable def f_X3_bend_k1 (z1 : XS) (S : XS) (p0 p1 : Int32) : Int32 × XS := opq (f_X3_bend_k2 (f_X0_changeHeight z1 p0 p1) z1 S p0 p1)
theorem e_X3_bend_k1 (z1 : XS) (S : XS) (p0 p1 : Int32) : f_X3_bend_k1 z1 S p0 p1 = (f_X3_bend_k2 (f_X0_changeHeight z1 p0 p1) z1 S p0 p1) := opq_eq _
noncomputable def f_X3_bend (S : XS) (p0 p1 : Int32) : Int32 × XS := opq (if (f_X0_hasWire S p0) = 0 then ((-1), S) else (if (f_X3_isHeight p1) = 0 then ((-2), S) else (if (f_X0_heightOf S p0) = p1 then ((-5), S) else (f_X3_bend_k1 (recS S 0) S p0 p1))))
theorem e_X3_bend (S : XS) (p0 p1 : Int32) : f_X3_bend S p0 p1 = (if (f_X0_hasWire S p0) = 0 then ((-1), S) else (if (f_X3_isHeight p1) = 0 then ((-2), S) else (if (f_X0_heightOf S p0) = p1 then ((-5), S) else (f_X3_bend_k1 (recS S 0) S p0 p1)))) := opq_eq _
set_option maxHeartbeats 4000000 in
set_option maxRecDepth 100000 in
theorem c_X3_bend (l : Launch) (G : GG) (A : Nat → Nat) (S : XS) (p0 p1 : Int32) (q : Nat) (hq : S 7 0 1 = nI q) (hq4 : q ≤ 4) (hbs : ∀ b, b < 7 → S b 0 4 = 0 ∨ S b 0 4 = 1) : Mm l yX3_bend wsX3_bend ({ frames := 3, cells := 0, slots := 0, locals := 69 } : Room) G [.ref (A 42), .int p0, .int p1] (wX G A S (rot S)) (f_X3_bend S p0 p1).1 (wX G A (f_X3_bend S p0 p1).2 (rot (f_X3_bend S p0 p1).2)) := by
  refine Mm.of (cc := cX3_bend) (maxL := 4) (ret := (some .int)) (by decide) rfl (Nat.le_of_ble_eq_true rfl) ?_
  intro p e s m args below meth c A0 hA0 E hr hlocks hP hK hD hA hS ls hl
  have E : CallFix p m c cX3_bend 4 s args wsX3_bend RX3 := E
  have hx := E.1
  have hb := E.2.1
  have hml := E.2.2.1
  have hown := E.2.2.2.1
  have hts := E.2.2.2.2
  have hl : lv_has ls 4 [(0, .ref (A 42)), (1, .int p0), (2, .int p1)] := hl
  have hinX3 : ∀ w ∈ u_ws RX3 TX3 6, w ∈ wsX3_bend := fun _ h => List.mem_cons_of_mem _ (List.mem_append_left _ (List.mem_append_left _ (List.mem_append_right _ h)))
  refine lv_aload_n hx hb dX3_bend_0 rfl (lv_at hl 0 rfl) ?_
  refine va_get (D := G.1) (ci := 3) (v := .ref (A (6 * 0))) (C := RX3) (T := TX3) (N := 6) hx hb hts hinX3 hown hK.1 hP 42 (wX_42 G A S (rot S)) rfl 0 (by decide) (hts (.fieldLink RX3 10 "WireLoops" "chip" "LWireLoops$Chip;") (List.mem_of_getElem? (i := 1) rfl)) (fun _ h9 => h9) rfl dX3_bend_1 ?_
  refine lv_iload_n hx hb dX3_bend_4 rfl (lv_at hl 1 rfl) ?_
  refine cpV (rest := []) (As := [.int p0]) E (c_X0_hasWire l G A S (rot S) p0) (cwV 1 hts gX3_bend_X0_hasWire rfl rfl rfl (by decide +kernel) ⟨Nat.le_of_ble_eq_true rfl, Nat.le_of_ble_eq_true rfl⟩) hK hP (6 * 0) (wX_o G A S (rot S) 0 (by decide)) rfl rfl hl.1 rfl (Nat.le_of_ble_eq_true rfl) dX3_bend_5 ⟨Nat.zero_le _, Nat.zero_le _⟩ ?_
  refine lv_if_ne (tgt := 13) hx hb dX3_bend_8 (by decide) (fun c1 => ?_) (fun c1 => ?_)
  · skip
    refine lv_iload_n hx hb dX3_bend_13 rfl (lv_at hl 2 rfl) ?_
    refine cpS (rest := []) (As := [.int p1]) E (c_X3_isHeight l G A S (rot S) p1) (va_cwS 1 hts gX3_bend_X3_isHeight rfl rfl rfl (by decide +kernel) ⟨Nat.le_of_ble_eq_true rfl, Nat.le_of_ble_eq_true rfl⟩) hK hP rfl hl.1 rfl (Nat.le_of_ble_eq_true rfl) dX3_bend_14 ⟨Nat.zero_le _, Nat.zero_le _⟩ ?_
    refine lv_if_ne (tgt := 23) hx hb dX3_bend_17 (by decide) (fun c2 => ?_) (fun c2 => ?_)
    · skip
      refine lv_aload_n hx hb dX3_bend_23 rfl (lv_at hl 0 rfl) ?_
      refine va_get (D := G.1) (ci := 3) (v := .ref (A (6 * 0))) (C := RX3) (T := TX3) (N := 6) hx hb hts hinX3 hown hK.1 hP 42 (wX_42 G A S (rot S)) rfl 0 (by decide) (hts (.fieldLink RX3 10 "WireLoops" "chip" "LWireLoops$Chip;") (List.mem_of_getElem? (i := 1) rfl)) (fun _ h9 => h9) rfl dX3_bend_24 ?_
      refine lv_iload_n hx hb dX3_bend_27 rfl (lv_at hl 1 rfl) ?_
      refine cpV (rest := []) (As := [.int p0]) E (c_X0_heightOf l G A S (rot S) p0) (cwV 1 hts gX3_bend_X0_heightOf rfl rfl rfl (by decide +kernel) ⟨Nat.le_of_ble_eq_true rfl, Nat.le_of_ble_eq_true rfl⟩) hK hP (6 * 0) (wX_o G A S (rot S) 0 (by decide)) rfl rfl hl.1 rfl (Nat.le_of_ble_eq_true rfl) dX3_bend_28 ⟨Nat.zero_le _, Nat.zero_le _⟩ ?_
      refine lv_istore_n (lv' := [(3, .int (f_X0_heightOf S p0)), (0, .ref (A 42)), (1, .int p0), (2, .int p1)]) hx hb dX3_bend_31 rfl hl (by decide) rfl (fun ls hl => ?_)
      refine lv_iload_n hx hb dX3_bend_32 rfl (lv_at hl 0 rfl) ?_
      refine lv_iload_n hx hb dX3_bend_33 rfl (lv_at hl 3 rfl) ?_
      refine lv_icmp_ne (tgt := 40) hx hb dX3_bend_34 (by decide) (fun c3 => ?_) (fun c3 => ?_)
      · skip
        refine lv_aload_n hx hb dX3_bend_40 rfl (lv_at hl 1 rfl) ?_
        refine va_get (D := G.1) (ci := 3) (v := .ref (A 43)) (C := RX3) (T := TX3) (N := 6) hx hb hts hinX3 hown hK.1 hP 42 (wX_42 G A S (rot S)) rfl 4 (by decide) (hts (.fieldLink RX3 29 "WireLoops" "history" "LWireLoops$History;") (List.mem_of_getElem? (i := 2) rfl)) (fun _ h9 => h9) rfl dX3_bend_41 ?_
        refine lv_aload_n hx hb dX3_bend_44 rfl (lv_at hl 1 rfl) ?_
        refine va_get (D := G.1) (ci := 3) (v := .ref (A (6 * 0))) (C := RX3) (T := TX3) (N := 6) hx hb hts hinX3 hown hK.1 hP 42 (wX_42 G A S (rot S)) rfl 0 (by decide) (hts (.fieldLink RX3 10 "WireLoops" "chip" "LWireLoops$Chip;") (List.mem_of_getElem? (i := 1) rfl)) (fun _ h9 => h9) rfl dX3_bend_45 ?_
        refine czV (rest := []) (As := [.ref (A (6 * 0))]) E (c_X1_record_0 l G A S q hq hq4 (hbs 0 (by decide))) (cwV 1 hts gX3_bend_X1_record rfl rfl rfl (by decide +kernel) ⟨Nat.le_of_ble_eq_true rfl, Nat.le_of_ble_eq_true rfl⟩) hK hP hD hS hA 43 (wX_43 G A S (rot S)) rfl rfl hl.1 rfl (Nat.le_of_ble_eq_true rfl) dX3_bend_48 ⟨Nat.zero_le _, Nat.zero_le _⟩ (fun H locs hP hD hS => ?_)
        have hres1 : f_X3_bend_k1 (recS S 0) S p0 p1 = (f_X3_bend S p0 p1) := Eq.symm (Eq.trans (e_X3_bend S p0 p1) (Eq.trans (if_neg c1) (Eq.trans (if_neg c2) ((if_neg c3)))))
        generalize hz1 : (recS S 0) = z1 at hres1 hP hD ⊢
        refine lv_aload_n hx hb dX3_bend_51 rfl (lv_at hl 1 rfl) ?_
        refine va_get (D := G.1) (ci := 3) (v := .ref (A (6 * 0))) (C := RX3) (T := TX3) (N := 6) hx hb hts hinX3 hown hK.1 hP 42 (wX_42 G A z1 (rot z1)) rfl 0 (by decide) (hts (.fieldLink RX3 10 "WireLoops" "chip" "LWireLoops$Chip;") (List.mem_of_getElem? (i := 1) rfl)) (fun _ h9 => h9) rfl dX3_bend_52 ?_
        refine lv_iload_n hx hb dX3_bend_55 rfl (lv_at hl 2 rfl) ?_
        refine lv_iload_n hx hb dX3_bend_56 rfl (lv_at hl 3 rfl) ?_
        refine czV (rest := []) (As := [.int p0, .int p1]) E (c_X0_changeHeight l G A z1 (rot z1) p0 p1) (cwV 2 hts gX3_bend_X0_changeHeight rfl rfl rfl (by decide +kernel) ⟨Nat.le_of_ble_eq_true rfl, Nat.le_of_ble_eq_true rfl⟩) hK hP hD hS hA (6 * 0) (wX_o G A z1 (rot z1) 0 (by decide)) rfl rfl hl.1 rfl (Nat.le_of_ble_eq_true rfl) dX3_bend_57 ⟨Nat.zero_le _, Nat.zero_le _⟩ (fun H locs hP hD hS => ?_)
        have hP : va_P G.1 vwCl (wX G A (f_X0_changeHeight z1 p0 p1) (rot (f_X0_changeHeight z1 p0 p1))) H := by rw [rot_X0_changeHeight]; exact hP
        have hD : va_D A0 (wX G A (f_X0_changeHeight z1 p0 p1) (rot (f_X0_changeHeight z1 p0 p1))) := by rw [rot_X0_changeHeight]; exact hD
        have hres2 : f_X3_bend_k2 (f_X0_changeHeight z1 p0 p1) z1 S p0 p1 = (f_X3_bend S p0 p1) := Eq.trans (Eq.symm ((e_X3_bend_k1 z1 S p0 p1))) hres1
        generalize hz2 : (f_X0_changeHeight z1 p0 p1) = z2 at hres2 hP hD ⊢
        refine lv_iload_n hx hb dX3_bend_60 rfl (lv_at hl 0 rfl) ?_
        have hfin : ((f_X0_heightOf S p0), z2) = (f_X3_bend S p0 p1) := Eq.trans (Eq.symm ((e_X3_bend_k2 z2 z1 S p0 p1))) hres2
        exact endM hx hb hr hlocks rfl hP hD hS ⟨@congrArg (Int32 × XS) Int32 ((f_X0_heightOf S p0), z2) (f_X3_bend S p0 p1) Prod.fst hfin, @congrArg (Int32 × XS) va_W ((f_X0_heightOf S p0), z2) (f_X3_bend S p0 p1) (fun z => wX G A z.2 (rot z.2)) hfin⟩ dX3_bend_61
      · skip
        refine lv_bipush (v := (-5)) hx hb dX3_bend_37 (by decide) ?_
        have hfin : ((-5), S) = (f_X3_bend S p0 p1) := Eq.symm (Eq.trans (e_X3_bend S p0 p1) (Eq.trans (if_neg c1) (Eq.trans (if_neg c2) ((if_pos c3)))))
        exact endM hx hb hr hlocks rfl hP hD hS ⟨@congrArg (Int32 × XS) Int32 ((-5), S) (f_X3_bend S p0 p1) Prod.fst hfin, @congrArg (Int32 × XS) va_W ((-5), S) (f_X3_bend S p0 p1) (fun z => wX G A z.2 (rot z.2)) hfin⟩ dX3_bend_39
    · skip
      refine lv_bipush (v := (-2)) hx hb dX3_bend_20 (by decide) ?_
      have hfin : ((-2), S) = (f_X3_bend S p0 p1) := Eq.symm (Eq.trans (e_X3_bend S p0 p1) (Eq.trans (if_neg c1) ((if_pos c2))))
      exact endM hx hb hr hlocks rfl hP hD hS ⟨@congrArg (Int32 × XS) Int32 ((-2), S) (f_X3_bend S p0 p1) Prod.fst hfin, @congrArg (Int32 × XS) va_W ((-2), S) (f_X3_bend S p0 p1) (fun z => wX G A z.2 (rot z.2)) hfin⟩ dX3_bend_22
  · skip
    refine lv_iconst (v := (-1)) hx hb dX3_bend_11 (by decide) ?_
    have hfin : ((-1), S) = (f_X3_bend S p0 p1) := Eq.symm (Eq.trans (e_X3_bend S p0 p1) ((if_pos c1)))
    exact endM hx hb hr hlocks rfl hP hD hS ⟨@congrArg (Int32 × XS) Int32 ((-1), S) (f_X3_bend S p0 p1) Prod.fst hfin, @congrArg (Int32 × XS) va_W ((-1), S) (f_X3_bend S p0 p1) (fun z => wX G A z.2 (rot z.2)) hfin⟩ dX3_bend_12
noncomputable def f_X3_moveLead_k2 (z2 : XS) (z1 : XS) (S : XS) (p0 p1 : Int32) : Int32 × XS := opq ((f_X0_xOfLead S p0), z2)
theorem e_X3_moveLead_k2 (z2 : XS) (z1 : XS) (S : XS) (p0 p1 : Int32) : f_X3_moveLead_k2 z2 z1 S p0 p1 = ((f_X0_xOfLead S p0), z2) := opq_eq _
noncomputable def f_X3_moveLead_k1 (z1 : XS) (S : XS) (p0 p1 : Int32) : Int32 × XS := opq (f_X3_moveLead_k2 (f_X0_placeLead z1 p0 p1) z1 S p0 p1)
theorem e_X3_moveLead_k1 (z1 : XS) (S : XS) (p0 p1 : Int32) : f_X3_moveLead_k1 z1 S p0 p1 = (f_X3_moveLead_k2 (f_X0_placeLead z1 p0 p1) z1 S p0 p1) := opq_eq _
noncomputable def f_X3_moveLead (S : XS) (p0 p1 : Int32) : Int32 × XS := opq (if (f_X3_isLead p0) = 0 then ((-1), S) else (if (f_X3_isWithin p1 0 600) = 0 then ((-2), S) else (if (f_X0_padAtLead S p0) = (-5) then (if (f_X0_xOfLead S p0) = p1 then ((-5), S) else (f_X3_moveLead_k1 (recS S 0) S p0 p1)) else ((-4), S))))
theorem e_X3_moveLead (S : XS) (p0 p1 : Int32) : f_X3_moveLead S p0 p1 = (if (f_X3_isLead p0) = 0 then ((-1), S) else (if (f_X3_isWithin p1 0 600) = 0 then ((-2), S) else (if (f_X0_padAtLead S p0) = (-5) then (if (f_X0_xOfLead S p0) = p1 then ((-5), S) else (f_X3_moveLead_k1 (recS S 0) S p0 p1)) else ((-4), S)))) := opq_eq _
set_option maxHeartbeats 4000000 in
set_option maxRecDepth 100000 in
theorem c_X3_moveLead (l : Launch) (G : GG) (A : Nat → Nat) (S : XS) (p0 p1 : Int32) (q : Nat) (hq : S 7 0 1 = nI q) (hq4 : q ≤ 4) (hbs : ∀ b, b < 7 → S b 0 4 = 0 ∨ S b 0 4 = 1) : Mm l yX3_moveLead wsX3_moveLead ({ frames := 3, cells := 0, slots := 0, locals := 69 } : Room) G [.ref (A 42), .int p0, .int p1] (wX G A S (rot S)) (f_X3_moveLead S p0 p1).1 (wX G A (f_X3_moveLead S p0 p1).2 (rot (f_X3_moveLead S p0 p1).2)) := by
  refine Mm.of (cc := cX3_moveLead) (maxL := 4) (ret := (some .int)) (by decide) rfl (Nat.le_of_ble_eq_true rfl) ?_
  intro p e s m args below meth c A0 hA0 E hr hlocks hP hK hD hA hS ls hl
  have E : CallFix p m c cX3_moveLead 4 s args wsX3_moveLead RX3 := E
  have hx := E.1
  have hb := E.2.1
  have hml := E.2.2.1
  have hown := E.2.2.2.1
  have hts := E.2.2.2.2
  have hl : lv_has ls 4 [(0, .ref (A 42)), (1, .int p0), (2, .int p1)] := hl
  have hinX3 : ∀ w ∈ u_ws RX3 TX3 6, w ∈ wsX3_moveLead := fun _ h => List.mem_cons_of_mem _ (List.mem_append_left _ (List.mem_append_left _ (List.mem_append_right _ h)))
  refine lv_iload_n hx hb dX3_moveLead_0 rfl (lv_at hl 1 rfl) ?_
  refine cpS (rest := []) (As := [.int p0]) E (c_X3_isLead l G A S (rot S) p0) (va_cwS 1 hts gX3_moveLead_X3_isLead rfl rfl rfl (by decide +kernel) ⟨Nat.le_of_ble_eq_true rfl, Nat.le_of_ble_eq_true rfl⟩) hK hP rfl hl.1 rfl (Nat.le_of_ble_eq_true rfl) dX3_moveLead_1 ⟨Nat.zero_le _, Nat.zero_le _⟩ ?_
  refine lv_if_ne (tgt := 9) hx hb dX3_moveLead_4 (by decide) (fun c1 => ?_) (fun c1 => ?_)
  · skip
    refine lv_iload_n hx hb dX3_moveLead_9 rfl (lv_at hl 2 rfl) ?_
    refine lv_iconst (v := 0) hx hb dX3_moveLead_10 (by decide) ?_
    refine lv_sipush (v := 600) hx hb dX3_moveLead_11 (by decide) ?_
    refine cpS (rest := []) (As := [.int p1, .int 0, .int 600]) E (c_X3_isWithin l G A S (rot S) p1 0 600) (va_cwS 3 hts gX3_moveLead_X3_isWithin rfl rfl rfl (by decide +kernel) ⟨Nat.le_of_ble_eq_true rfl, Nat.le_of_ble_eq_true rfl⟩) hK hP rfl hl.1 rfl (Nat.le_of_ble_eq_true rfl) dX3_moveLead_14 ⟨Nat.zero_le _, Nat.zero_le _⟩ ?_
    refine lv_if_ne (tgt := 23) hx hb dX3_moveLead_17 (by decide) (fun c2 => ?_) (fun c2 => ?_)
    · skip
      refine lv_aload_n hx hb dX3_moveLead_23 rfl (lv_at hl 0 rfl) ?_
      refine va_get (D := G.1) (ci := 3) (v := .ref (A (6 * 0))) (C := RX3) (T := TX3) (N := 6) hx hb hts hinX3 hown hK.1 hP 42 (wX_42 G A S (rot S)) rfl 0 (by decide) (hts (.fieldLink RX3 10 "WireLoops" "chip" "LWireLoops$Chip;") (List.mem_of_getElem? (i := 1) rfl)) (fun _ h9 => h9) rfl dX3_moveLead_24 ?_
      refine lv_iload_n hx hb dX3_moveLead_27 rfl (lv_at hl 1 rfl) ?_
      refine cpV (rest := []) (As := [.int p0]) E (c_X0_padAtLead l G A S (rot S) p0) (cwV 1 hts gX3_moveLead_X0_padAtLead rfl rfl rfl (by decide +kernel) ⟨Nat.le_of_ble_eq_true rfl, Nat.le_of_ble_eq_true rfl⟩) hK hP (6 * 0) (wX_o G A S (rot S) 0 (by decide)) rfl rfl hl.1 rfl (Nat.le_of_ble_eq_true rfl) dX3_moveLead_28 ⟨Nat.zero_le _, Nat.zero_le _⟩ ?_
      refine lv_bipush (v := (-5)) hx hb dX3_moveLead_31 (by decide) ?_
      refine lv_icmp_eq (tgt := 39) hx hb dX3_moveLead_33 (by decide) (fun c3 => ?_) (fun c3 => ?_)
      · skip
        refine lv_aload_n hx hb dX3_moveLead_39 rfl (lv_at hl 0 rfl) ?_
        refine va_get (D := G.1) (ci := 3) (v := .ref (A (6 * 0))) (C := RX3) (T := TX3) (N := 6) hx hb hts hinX3 hown hK.1 hP 42 (wX_42 G A S (rot S)) rfl 0 (by decide) (hts (.fieldLink RX3 10 "WireLoops" "chip" "LWireLoops$Chip;") (List.mem_of_getElem? (i := 1) rfl)) (fun _ h9 => h9) rfl dX3_moveLead_40 ?_
        refine lv_iload_n hx hb dX3_moveLead_43 rfl (lv_at hl 1 rfl) ?_
        refine cpV (rest := []) (As := [.int p0]) E (c_X0_xOfLead l G A S (rot S) p0) (cwV 1 hts gX3_moveLead_X0_xOfLead rfl rfl rfl (by decide +kernel) ⟨Nat.le_of_ble_eq_true rfl, Nat.le_of_ble_eq_true rfl⟩) hK hP (6 * 0) (wX_o G A S (rot S) 0 (by decide)) rfl rfl hl.1 rfl (Nat.le_of_ble_eq_true rfl) dX3_moveLead_44 ⟨Nat.zero_le _, Nat.zero_le _⟩ ?_
        refine lv_istore_n (lv' := [(3, .int (f_X0_xOfLead S p0)), (0, .ref (A 42)), (1, .int p0), (2, .int p1)]) hx hb dX3_moveLead_47 rfl hl (by decide) rfl (fun ls hl => ?_)
        refine lv_iload_n hx hb dX3_moveLead_48 rfl (lv_at hl 0 rfl) ?_
        refine lv_iload_n hx hb dX3_moveLead_49 rfl (lv_at hl 3 rfl) ?_
        refine lv_icmp_ne (tgt := 56) hx hb dX3_moveLead_50 (by decide) (fun c4 => ?_) (fun c4 => ?_)
        · skip
          refine lv_aload_n hx hb dX3_moveLead_56 rfl (lv_at hl 1 rfl) ?_
          refine va_get (D := G.1) (ci := 3) (v := .ref (A 43)) (C := RX3) (T := TX3) (N := 6) hx hb hts hinX3 hown hK.1 hP 42 (wX_42 G A S (rot S)) rfl 4 (by decide) (hts (.fieldLink RX3 29 "WireLoops" "history" "LWireLoops$History;") (List.mem_of_getElem? (i := 2) rfl)) (fun _ h9 => h9) rfl dX3_moveLead_57 ?_
          refine lv_aload_n hx hb dX3_moveLead_60 rfl (lv_at hl 1 rfl) ?_
          refine va_get (D := G.1) (ci := 3) (v := .ref (A (6 * 0))) (C := RX3) (T := TX3) (N := 6) hx hb hts hinX3 hown hK.1 hP 42 (wX_42 G A S (rot S)) rfl 0 (by decide) (hts (.fieldLink RX3 10 "WireLoops" "chip" "LWireLoops$Chip;") (List.mem_of_getElem? (i := 1) rfl)) (fun _ h9 => h9) rfl dX3_moveLead_61 ?_
          refine czV (rest := []) (As := [.ref (A (6 * 0))]) E (c_X1_record_0 l G A S q hq hq4 (hbs 0 (by decide))) (cwV 1 hts gX3_moveLead_X1_record rfl rfl rfl (by decide +kernel) ⟨Nat.le_of_ble_eq_true rfl, Nat.le_of_ble_eq_true rfl⟩) hK hP hD hS hA 43 (wX_43 G A S (rot S)) rfl rfl hl.1 rfl (Nat.le_of_ble_eq_true rfl) dX3_moveLead_64 ⟨Nat.zero_le _, Nat.zero_le _⟩ (fun H locs hP hD hS => ?_)
          have hres1 : f_X3_moveLead_k1 (recS S 0) S p0 p1 = (f_X3_moveLead S p0 p1) := Eq.symm (Eq.trans (e_X3_moveLead S p0 p1) (Eq.trans (if_neg c1) (Eq.trans (if_neg c2) (Eq.trans (if_pos c3) ((if_neg c4))))))
          generalize hz1 : (recS S 0) = z1 at hres1 hP hD ⊢
          refine lv_aload_n hx hb dX3_moveLead_67 rfl (lv_at hl 1 rfl) ?_
          refine va_get (D := G.1) (ci := 3) (v := .ref (A (6 * 0))) (C := RX3) (T := TX3) (N := 6) hx hb hts hinX3 hown hK.1 hP 42 (wX_42 G A z1 (rot z1)) rfl 0 (by decide) (hts (.fieldLink RX3 10 "WireLoops" "chip" "LWireLoops$Chip;") (List.mem_of_getElem? (i := 1) rfl)) (fun _ h9 => h9) rfl dX3_moveLead_68 ?_
          refine lv_iload_n hx hb dX3_moveLead_71 rfl (lv_at hl 2 rfl) ?_
          refine lv_iload_n hx hb dX3_moveLead_72 rfl (lv_at hl 3 rfl) ?_
          refine czV (rest := []) (As := [.int p0, .int p1]) E (c_X0_placeLead l G A z1 (rot z1) p0 p1) (cwV 2 hts gX3_moveLead_X0_placeLead rfl rfl rfl (by decide +kernel) ⟨Nat.le_of_ble_eq_true rfl, Nat.le_of_ble_eq_true rfl⟩) hK hP hD hS hA (6 * 0) (wX_o G A z1 (rot z1) 0 (by decide)) rfl rfl hl.1 rfl (Nat.le_of_ble_eq_true rfl) dX3_moveLead_73 ⟨Nat.zero_le _, Nat.zero_le _⟩ (fun H locs hP hD hS => ?_)
          have hP : va_P G.1 vwCl (wX G A (f_X0_placeLead z1 p0 p1) (rot (f_X0_placeLead z1 p0 p1))) H := by rw [rot_X0_placeLead]; exact hP
          have hD : va_D A0 (wX G A (f_X0_placeLead z1 p0 p1) (rot (f_X0_placeLead z1 p0 p1))) := by rw [rot_X0_placeLead]; exact hD
          have hres2 : f_X3_moveLead_k2 (f_X0_placeLead z1 p0 p1) z1 S p0 p1 = (f_X3_moveLead S p0 p1) := Eq.trans (Eq.symm ((e_X3_moveLead_k1 z1 S p0 p1))) hres1
          generalize hz2 : (f_X0_placeLead z1 p0 p1) = z2 at hres2 hP hD ⊢
          refine lv_iload_n hx hb dX3_moveLead_76 rfl (lv_at hl 0 rfl) ?_
          have hfin : ((f_X0_xOfLead S p0), z2) = (f_X3_moveLead S p0 p1) := Eq.trans (Eq.symm ((e_X3_moveLead_k2 z2 z1 S p0 p1))) hres2
          exact endM hx hb hr hlocks rfl hP hD hS ⟨@congrArg (Int32 × XS) Int32 ((f_X0_xOfLead S p0), z2) (f_X3_moveLead S p0 p1) Prod.fst hfin, @congrArg (Int32 × XS) va_W ((f_X0_xOfLead S p0), z2) (f_X3_moveLead S p0 p1) (fun z => wX G A z.2 (rot z.2)) hfin⟩ dX3_moveLead_77
        · skip
          refine lv_bipush (v := (-5)) hx hb dX3_moveLead_53 (by decide) ?_
          have hfin : ((-5), S) = (f_X3_moveLead S p0 p1) := Eq.symm (Eq.trans (e_X3_moveLead S p0 p1) (Eq.trans (if_neg c1) (Eq.trans (if_neg c2) (Eq.trans (if_pos c3) ((if_pos c4))))))
          exact endM hx hb hr hlocks rfl hP hD hS ⟨@congrArg (Int32 × XS) Int32 ((-5), S) (f_X3_moveLead S p0 p1) Prod.fst hfin, @congrArg (Int32 × XS) va_W ((-5), S) (f_X3_moveLead S p0 p1) (fun z => wX G A z.2 (rot z.2)) hfin⟩ dX3_moveLead_55
      · skip
        refine lv_bipush (v := (-4)) hx hb dX3_moveLead_36 (by decide) ?_
        have hfin : ((-4), S) = (f_X3_moveLead S p0 p1) := Eq.symm (Eq.trans (e_X3_moveLead S p0 p1) (Eq.trans (if_neg c1) (Eq.trans (if_neg c2) ((if_neg c3)))))
        exact endM hx hb hr hlocks rfl hP hD hS ⟨@congrArg (Int32 × XS) Int32 ((-4), S) (f_X3_moveLead S p0 p1) Prod.fst hfin, @congrArg (Int32 × XS) va_W ((-4), S) (f_X3_moveLead S p0 p1) (fun z => wX G A z.2 (rot z.2)) hfin⟩ dX3_moveLead_38
    · skip
      refine lv_bipush (v := (-2)) hx hb dX3_moveLead_20 (by decide) ?_
      have hfin : ((-2), S) = (f_X3_moveLead S p0 p1) := Eq.symm (Eq.trans (e_X3_moveLead S p0 p1) (Eq.trans (if_neg c1) ((if_pos c2))))
      exact endM hx hb hr hlocks rfl hP hD hS ⟨@congrArg (Int32 × XS) Int32 ((-2), S) (f_X3_moveLead S p0 p1) Prod.fst hfin, @congrArg (Int32 × XS) va_W ((-2), S) (f_X3_moveLead S p0 p1) (fun z => wX G A z.2 (rot z.2)) hfin⟩ dX3_moveLead_22
  · skip
    refine lv_iconst (v := (-1)) hx hb dX3_moveLead_7 (by decide) ?_
    have hfin : ((-1), S) = (f_X3_moveLead S p0 p1) := Eq.symm (Eq.trans (e_X3_moveLead S p0 p1) ((if_pos c1)))
    exact endM hx hb hr hlocks rfl hP hD hS ⟨@congrArg (Int32 × XS) Int32 ((-1), S) (f_X3_moveLead S p0 p1) Prod.fst hfin, @congrArg (Int32 × XS) va_W ((-1), S) (f_X3_moveLead S p0 p1) (fun z => wX G A z.2 (rot z.2)) hfin⟩ dX3_moveLead_8
noncomputable def f_X3_setWidth_k1 (z1 : XS) (S : XS) (p0 : Int32) : Int32 × XS := opq ((S 0 0 1), (su z1 0 0 (upd (z1 0 0) 1 p0)))
theorem e_X3_setWidth_k1 (z1 : XS) (S : XS) (p0 : Int32) : f_X3_setWidth_k1 z1 S p0 = ((S 0 0 1), (su z1 0 0 (upd (z1 0 0) 1 p0))) := opq_eq _
noncomputable def f_X3_setWidth (S : XS) (p0 : Int32) : Int32 × XS := opq (if (f_X3_isWithin p0 1 50) = 0 then ((-2), S) else (if (S 0 0 1) = p0 then ((-5), S) else (f_X3_setWidth_k1 (recS S 0) S p0)))
theorem e_X3_setWidth (S : XS) (p0 : Int32) : f_X3_setWidth S p0 = (if (f_X3_isWithin p0 1 50) = 0 then ((-2), S) else (if (S 0 0 1) = p0 then ((-5), S) else (f_X3_setWidth_k1 (recS S 0) S p0))) := opq_eq _
set_option maxHeartbeats 4000000 in
set_option maxRecDepth 100000 in
theorem c_X3_setWidth (l : Launch) (G : GG) (A : Nat → Nat) (S : XS) (p0 : Int32) (q : Nat) (hq : S 7 0 1 = nI q) (hq4 : q ≤ 4) (hbs : ∀ b, b < 7 → S b 0 4 = 0 ∨ S b 0 4 = 1) : Mm l yX3_setWidth wsX3_setWidth ({ frames := 3, cells := 0, slots := 0, locals := 69 } : Room) G [.ref (A 42), .int p0] (wX G A S (rot S)) (f_X3_setWidth S p0).1 (wX G A (f_X3_setWidth S p0).2 (rot (f_X3_setWidth S p0).2)) := by
  refine Mm.of (cc := cX3_setWidth) (maxL := 3) (ret := (some .int)) (by decide) rfl (Nat.le_of_ble_eq_true rfl) ?_
  intro p e s m args below meth c A0 hA0 E hr hlocks hP hK hD hA hS ls hl
  have E : CallFix p m c cX3_setWidth 3 s args wsX3_setWidth RX3 := E
  have hx := E.1
  have hb := E.2.1
  have hml := E.2.2.1
  have hown := E.2.2.2.1
  have hts := E.2.2.2.2
  have hl : lv_has ls 3 [(0, .ref (A 42)), (1, .int p0)] := hl
  have hinX0 : ∀ w ∈ u_ws RX0 TX0 12, w ∈ wsX3_setWidth := fun _ h => List.mem_cons_of_mem _ (List.mem_append_left _ (List.mem_append_right _ h))
  have hinX3 : ∀ w ∈ u_ws RX3 TX3 6, w ∈ wsX3_setWidth := fun _ h => List.mem_cons_of_mem _ (List.mem_append_left _ (List.mem_append_left _ (List.mem_append_right _ h)))
  refine lv_iload_n hx hb dX3_setWidth_0 rfl (lv_at hl 1 rfl) ?_
  refine lv_iconst (v := 1) hx hb dX3_setWidth_1 (by decide) ?_
  refine lv_bipush (v := 50) hx hb dX3_setWidth_2 (by decide) ?_
  refine cpS (rest := []) (As := [.int p0, .int 1, .int 50]) E (c_X3_isWithin l G A S (rot S) p0 1 50) (va_cwS 3 hts gX3_setWidth_X3_isWithin rfl rfl rfl (by decide +kernel) ⟨Nat.le_of_ble_eq_true rfl, Nat.le_of_ble_eq_true rfl⟩) hK hP rfl hl.1 rfl (Nat.le_of_ble_eq_true rfl) dX3_setWidth_4 ⟨Nat.zero_le _, Nat.zero_le _⟩ ?_
  refine lv_if_ne (tgt := 13) hx hb dX3_setWidth_7 (by decide) (fun c1 => ?_) (fun c1 => ?_)
  · skip
    refine lv_aload_n hx hb dX3_setWidth_13 rfl (lv_at hl 0 rfl) ?_
    refine va_get (D := G.1) (ci := 3) (v := .ref (A (6 * 0))) (C := RX3) (T := TX3) (N := 6) hx hb hts hinX3 hown hK.1 hP 42 (wX_42 G A S (rot S)) rfl 0 (by decide) (hts (.fieldLink RX3 10 "WireLoops" "chip" "LWireLoops$Chip;") (List.mem_of_getElem? (i := 1) rfl)) (fun _ h9 => h9) rfl dX3_setWidth_14 ?_
    refine va_getN (D := G.1) (ci := 0) (v := .int (S 0 0 1)) (C := RX0) (T := TX0) (N := 12) (own := RX3) (ref := RX0) (host := RX3) hx hb hts hinX0 hown hK.1 hP (6 * 0) (wX_o G A S (rot S) 0 (by decide)) rfl 6 (by decide) (va_Nw.use rfl (hK.2 (.fieldLinkNest "WireLoops" 107 "WireLoops$Chip" "width" "I" "WireLoops") (by decide +kernel))) (fun _ h9 => h9) rfl dX3_setWidth_17 ?_
    refine lv_istore_n (lv' := [(2, .int (S 0 0 1)), (0, .ref (A 42)), (1, .int p0)]) hx hb dX3_setWidth_20 rfl hl (by decide) rfl (fun ls hl => ?_)
    refine lv_iload_n hx hb dX3_setWidth_21 rfl (lv_at hl 0 rfl) ?_
    refine lv_iload_n hx hb dX3_setWidth_22 rfl (lv_at hl 2 rfl) ?_
    refine lv_icmp_ne (tgt := 29) hx hb dX3_setWidth_23 (by decide) (fun c2 => ?_) (fun c2 => ?_)
    · skip
      refine lv_aload_n hx hb dX3_setWidth_29 rfl (lv_at hl 1 rfl) ?_
      refine va_get (D := G.1) (ci := 3) (v := .ref (A 43)) (C := RX3) (T := TX3) (N := 6) hx hb hts hinX3 hown hK.1 hP 42 (wX_42 G A S (rot S)) rfl 4 (by decide) (hts (.fieldLink RX3 29 "WireLoops" "history" "LWireLoops$History;") (List.mem_of_getElem? (i := 2) rfl)) (fun _ h9 => h9) rfl dX3_setWidth_30 ?_
      refine lv_aload_n hx hb dX3_setWidth_33 rfl (lv_at hl 1 rfl) ?_
      refine va_get (D := G.1) (ci := 3) (v := .ref (A (6 * 0))) (C := RX3) (T := TX3) (N := 6) hx hb hts hinX3 hown hK.1 hP 42 (wX_42 G A S (rot S)) rfl 0 (by decide) (hts (.fieldLink RX3 10 "WireLoops" "chip" "LWireLoops$Chip;") (List.mem_of_getElem? (i := 1) rfl)) (fun _ h9 => h9) rfl dX3_setWidth_34 ?_
      refine czV (rest := []) (As := [.ref (A (6 * 0))]) E (c_X1_record_0 l G A S q hq hq4 (hbs 0 (by decide))) (cwV 1 hts gX3_setWidth_X1_record rfl rfl rfl (by decide +kernel) ⟨Nat.le_of_ble_eq_true rfl, Nat.le_of_ble_eq_true rfl⟩) hK hP hD hS hA 43 (wX_43 G A S (rot S)) rfl rfl hl.1 rfl (Nat.le_of_ble_eq_true rfl) dX3_setWidth_37 ⟨Nat.zero_le _, Nat.zero_le _⟩ (fun H locs hP hD hS => ?_)
      have hres1 : f_X3_setWidth_k1 (recS S 0) S p0 = (f_X3_setWidth S p0) := Eq.symm (Eq.trans (e_X3_setWidth S p0) (Eq.trans (if_neg c1) ((if_neg c2))))
      generalize hz1 : (recS S 0) = z1 at hres1 hP hD ⊢
      refine lv_aload_n hx hb dX3_setWidth_40 rfl (lv_at hl 1 rfl) ?_
      refine va_get (D := G.1) (ci := 3) (v := .ref (A (6 * 0))) (C := RX3) (T := TX3) (N := 6) hx hb hts hinX3 hown hK.1 hP 42 (wX_42 G A z1 (rot z1)) rfl 0 (by decide) (hts (.fieldLink RX3 10 "WireLoops" "chip" "LWireLoops$Chip;") (List.mem_of_getElem? (i := 1) rfl)) (fun _ h9 => h9) rfl dX3_setWidth_41 ?_
      refine lv_iload_n hx hb dX3_setWidth_44 rfl (lv_at hl 2 rfl) ?_
      refine va_putN (D := G.1) (ci := 0) (v := .int p0) (ty := .int) (C := RX0) (T := TX0) (N := 12) (own := RX3) (ref := RX0) (host := RX3) hx hb hts hinX0 tyX0 tyX0_ok nmX0 hown hK.1 hP hD hS (6 * 0) (wX_o G A z1 (rot z1) 0 (by decide)) rfl (5 + 1) (by decide) (va_Nw.use rfl (hK.2 (.fieldLinkNest "WireLoops" 107 "WireLoops$Chip" "width" "I" "WireLoops") (by decide +kernel))) (fun _ h9 => h9) rfl (by decide +kernel) rfl rfl (Nat.le_of_ble_eq_true rfl) dX3_setWidth_45 (fun H locs hP hD hS => ?_)
      rw [wX_so G A z1 (rot z1) 0 1 (by decide) (by decide) _] at hP hD
      have hP : va_P G.1 vwCl (wX G A (su z1 0 0 (upd (z1 0 0) 1 p0)) (rot (su z1 0 0 (upd (z1 0 0) 1 p0)))) H := hP
      have hD : va_D A0 (wX G A (su z1 0 0 (upd (z1 0 0) 1 p0)) (rot (su z1 0 0 (upd (z1 0 0) 1 p0)))) := hD
      refine lv_iload_n hx hb dX3_setWidth_48 rfl (lv_at hl 0 rfl) ?_
      have hfin : ((S 0 0 1), (su z1 0 0 (upd (z1 0 0) 1 p0))) = (f_X3_setWidth S p0) := Eq.trans (Eq.symm ((e_X3_setWidth_k1 z1 S p0))) hres1
      exact endM hx hb hr hlocks rfl hP hD hS ⟨@congrArg (Int32 × XS) Int32 ((S 0 0 1), (su z1 0 0 (upd (z1 0 0) 1 p0))) (f_X3_setWidth S p0) Prod.fst hfin, @congrArg (Int32 × XS) va_W ((S 0 0 1), (su z1 0 0 (upd (z1 0 0) 1 p0))) (f_X3_setWidth S p0) (fun z => wX G A z.2 (rot z.2)) hfin⟩ dX3_setWidth_49
    · skip
      refine lv_bipush (v := (-5)) hx hb dX3_setWidth_26 (by decide) ?_
      have hfin : ((-5), S) = (f_X3_setWidth S p0) := Eq.symm (Eq.trans (e_X3_setWidth S p0) (Eq.trans (if_neg c1) ((if_pos c2))))
      exact endM hx hb hr hlocks rfl hP hD hS ⟨@congrArg (Int32 × XS) Int32 ((-5), S) (f_X3_setWidth S p0) Prod.fst hfin, @congrArg (Int32 × XS) va_W ((-5), S) (f_X3_setWidth S p0) (fun z => wX G A z.2 (rot z.2)) hfin⟩ dX3_setWidth_28
  · skip
    refine lv_bipush (v := (-2)) hx hb dX3_setWidth_10 (by decide) ?_
    have hfin : ((-2), S) = (f_X3_setWidth S p0) := Eq.symm (Eq.trans (e_X3_setWidth S p0) ((if_pos c1)))
    exact endM hx hb hr hlocks rfl hP hD hS ⟨@congrArg (Int32 × XS) Int32 ((-2), S) (f_X3_setWidth S p0) Prod.fst hfin, @congrArg (Int32 × XS) va_W ((-2), S) (f_X3_setWidth S p0) (fun z => wX G A z.2 (rot z.2)) hfin⟩ dX3_setWidth_12
noncomputable def f_X3_changeTool_k1 (z1 : XS) (S : XS) : Int32 × XS := opq ((S 0 0 2), (su (su z1 0 0 (upd (z1 0 0) 2 0)) 0 0 (upd (upd (z1 0 0) 2 0) 3 ((z1 0 0 3) + 1))))
theorem e_X3_changeTool_k1 (z1 : XS) (S : XS) : f_X3_changeTool_k1 z1 S = ((S 0 0 2), (su (su z1 0 0 (upd (z1 0 0) 2 0)) 0 0 (upd (upd (z1 0 0) 2 0) 3 ((z1 0 0 3) + 1)))) := opq_eq _
noncomputable def f_X3_changeTool (S : XS) : Int32 × XS := opq (if (S 0 0 2) = 0 then ((-5), S) else (f_X3_changeTool_k1 (recS S 0) S))
theorem e_X3_changeTool (S : XS) : f_X3_changeTool S = (if (S 0 0 2) = 0 then ((-5), S) else (f_X3_changeTool_k1 (recS S 0) S)) := opq_eq _
set_option maxHeartbeats 4000000 in
set_option maxRecDepth 100000 in
theorem c_X3_changeTool (l : Launch) (G : GG) (A : Nat → Nat) (S : XS)  (q : Nat) (hq : S 7 0 1 = nI q) (hq4 : q ≤ 4) (hbs : ∀ b, b < 7 → S b 0 4 = 0 ∨ S b 0 4 = 1) : Mm l yX3_changeTool wsX3_changeTool ({ frames := 3, cells := 0, slots := 0, locals := 69 } : Room) G [.ref (A 42)] (wX G A S (rot S)) (f_X3_changeTool S).1 (wX G A (f_X3_changeTool S).2 (rot (f_X3_changeTool S).2)) := by
  refine Mm.of (cc := cX3_changeTool) (maxL := 2) (ret := (some .int)) (by decide) rfl (Nat.le_of_ble_eq_true rfl) ?_
  intro p e s m args below meth c A0 hA0 E hr hlocks hP hK hD hA hS ls hl
  have E : CallFix p m c cX3_changeTool 2 s args wsX3_changeTool RX3 := E
  have hx := E.1
  have hb := E.2.1
  have hml := E.2.2.1
  have hown := E.2.2.2.1
  have hts := E.2.2.2.2
  have hl : lv_has ls 2 [(0, .ref (A 42))] := hl
  have hinX0 : ∀ w ∈ u_ws RX0 TX0 12, w ∈ wsX3_changeTool := fun _ h => List.mem_cons_of_mem _ (List.mem_append_left _ (List.mem_append_right _ h))
  have hinX3 : ∀ w ∈ u_ws RX3 TX3 6, w ∈ wsX3_changeTool := fun _ h => List.mem_cons_of_mem _ (List.mem_append_left _ (List.mem_append_left _ (List.mem_append_right _ h)))
  refine lv_aload_n hx hb dX3_changeTool_0 rfl (lv_at hl 0 rfl) ?_
  refine va_get (D := G.1) (ci := 3) (v := .ref (A (6 * 0))) (C := RX3) (T := TX3) (N := 6) hx hb hts hinX3 hown hK.1 hP 42 (wX_42 G A S (rot S)) rfl 0 (by decide) (hts (.fieldLink RX3 10 "WireLoops" "chip" "LWireLoops$Chip;") (List.mem_of_getElem? (i := 1) rfl)) (fun _ h9 => h9) rfl dX3_changeTool_1 ?_
  refine va_getN (D := G.1) (ci := 0) (v := .int (S 0 0 2)) (C := RX0) (T := TX0) (N := 12) (own := RX3) (ref := RX0) (host := RX3) hx hb hts hinX0 hown hK.1 hP (6 * 0) (wX_o G A S (rot S) 0 (by decide)) rfl 7 (by decide) (va_Nw.use rfl (hK.2 (.fieldLinkNest "WireLoops" 111 "WireLoops$Chip" "wear" "I" "WireLoops") (by decide +kernel))) (fun _ h9 => h9) rfl dX3_changeTool_4 ?_
  refine lv_istore_n (lv' := [(1, .int (S 0 0 2)), (0, .ref (A 42))]) hx hb dX3_changeTool_7 rfl hl (by decide) rfl (fun ls hl => ?_)
  refine lv_iload_n hx hb dX3_changeTool_8 rfl (lv_at hl 0 rfl) ?_
  refine lv_if_ne (tgt := 15) hx hb dX3_changeTool_9 (by decide) (fun c1 => ?_) (fun c1 => ?_)
  · skip
    refine lv_aload_n hx hb dX3_changeTool_15 rfl (lv_at hl 1 rfl) ?_
    refine va_get (D := G.1) (ci := 3) (v := .ref (A 43)) (C := RX3) (T := TX3) (N := 6) hx hb hts hinX3 hown hK.1 hP 42 (wX_42 G A S (rot S)) rfl 4 (by decide) (hts (.fieldLink RX3 29 "WireLoops" "history" "LWireLoops$History;") (List.mem_of_getElem? (i := 2) rfl)) (fun _ h9 => h9) rfl dX3_changeTool_16 ?_
    refine lv_aload_n hx hb dX3_changeTool_19 rfl (lv_at hl 1 rfl) ?_
    refine va_get (D := G.1) (ci := 3) (v := .ref (A (6 * 0))) (C := RX3) (T := TX3) (N := 6) hx hb hts hinX3 hown hK.1 hP 42 (wX_42 G A S (rot S)) rfl 0 (by decide) (hts (.fieldLink RX3 10 "WireLoops" "chip" "LWireLoops$Chip;") (List.mem_of_getElem? (i := 1) rfl)) (fun _ h9 => h9) rfl dX3_changeTool_20 ?_
    refine czV (rest := []) (As := [.ref (A (6 * 0))]) E (c_X1_record_0 l G A S q hq hq4 (hbs 0 (by decide))) (cwV 1 hts gX3_changeTool_X1_record rfl rfl rfl (by decide +kernel) ⟨Nat.le_of_ble_eq_true rfl, Nat.le_of_ble_eq_true rfl⟩) hK hP hD hS hA 43 (wX_43 G A S (rot S)) rfl rfl hl.1 rfl (Nat.le_of_ble_eq_true rfl) dX3_changeTool_23 ⟨Nat.zero_le _, Nat.zero_le _⟩ (fun H locs hP hD hS => ?_)
    have hres1 : f_X3_changeTool_k1 (recS S 0) S = (f_X3_changeTool S) := Eq.symm (Eq.trans (e_X3_changeTool S) ((if_neg c1)))
    generalize hz1 : (recS S 0) = z1 at hres1 hP hD ⊢
    refine lv_aload_n hx hb dX3_changeTool_26 rfl (lv_at hl 1 rfl) ?_
    refine va_get (D := G.1) (ci := 3) (v := .ref (A (6 * 0))) (C := RX3) (T := TX3) (N := 6) hx hb hts hinX3 hown hK.1 hP 42 (wX_42 G A z1 (rot z1)) rfl 0 (by decide) (hts (.fieldLink RX3 10 "WireLoops" "chip" "LWireLoops$Chip;") (List.mem_of_getElem? (i := 1) rfl)) (fun _ h9 => h9) rfl dX3_changeTool_27 ?_
    refine lv_iconst (v := 0) hx hb dX3_changeTool_30 (by decide) ?_
    refine va_putN (D := G.1) (ci := 0) (v := .int 0) (ty := .int) (C := RX0) (T := TX0) (N := 12) (own := RX3) (ref := RX0) (host := RX3) hx hb hts hinX0 tyX0 tyX0_ok nmX0 hown hK.1 hP hD hS (6 * 0) (wX_o G A z1 (rot z1) 0 (by decide)) rfl (5 + 2) (by decide) (va_Nw.use rfl (hK.2 (.fieldLinkNest "WireLoops" 111 "WireLoops$Chip" "wear" "I" "WireLoops") (by decide +kernel))) (fun _ h9 => h9) rfl (by decide +kernel) rfl rfl (Nat.le_of_ble_eq_true rfl) dX3_changeTool_31 (fun H locs hP hD hS => ?_)
    rw [wX_so G A z1 (rot z1) 0 2 (by decide) (by decide) _] at hP hD
    have hP : va_P G.1 vwCl (wX G A (su z1 0 0 (upd (z1 0 0) 2 0)) (rot (su z1 0 0 (upd (z1 0 0) 2 0)))) H := hP
    have hD : va_D A0 (wX G A (su z1 0 0 (upd (z1 0 0) 2 0)) (rot (su z1 0 0 (upd (z1 0 0) 2 0)))) := hD
    refine lv_aload_n hx hb dX3_changeTool_34 rfl (lv_at hl 1 rfl) ?_
    refine va_get (D := G.1) (ci := 3) (v := .ref (A (6 * 0))) (C := RX3) (T := TX3) (N := 6) hx hb hts hinX3 hown hK.1 hP 42 (wX_42 G A (su z1 0 0 (upd (z1 0 0) 2 0)) (rot (su z1 0 0 (upd (z1 0 0) 2 0)))) rfl 0 (by decide) (hts (.fieldLink RX3 10 "WireLoops" "chip" "LWireLoops$Chip;") (List.mem_of_getElem? (i := 1) rfl)) (fun _ h9 => h9) rfl dX3_changeTool_35 ?_
    refine lv_dup hx hb dX3_changeTool_38 rfl ?_
    refine va_getN (D := G.1) (ci := 0) (v := .int (z1 0 0 3)) (C := RX0) (T := TX0) (N := 12) (own := RX3) (ref := RX0) (host := RX3) hx hb hts hinX0 hown hK.1 hP (6 * 0) (wX_o G A (su z1 0 0 (upd (z1 0 0) 2 0)) (rot (su z1 0 0 (upd (z1 0 0) 2 0))) 0 (by decide)) rfl 8 (by decide) (va_Nw.use rfl (hK.2 (.fieldLinkNest "WireLoops" 114 "WireLoops$Chip" "toolsChanged" "I" "WireLoops") (by decide +kernel))) (fun _ h9 => h9) rfl dX3_changeTool_39 ?_
    refine lv_iconst (v := 1) hx hb dX3_changeTool_42 (by decide) ?_
    refine lv_iadd hx hb dX3_changeTool_43 ?_
    refine va_putN (D := G.1) (ci := 0) (v := .int ((z1 0 0 3) + 1)) (ty := .int) (C := RX0) (T := TX0) (N := 12) (own := RX3) (ref := RX0) (host := RX3) hx hb hts hinX0 tyX0 tyX0_ok nmX0 hown hK.1 hP hD hS (6 * 0) (wX_o G A (su z1 0 0 (upd (z1 0 0) 2 0)) (rot (su z1 0 0 (upd (z1 0 0) 2 0))) 0 (by decide)) rfl (5 + 3) (by decide) (va_Nw.use rfl (hK.2 (.fieldLinkNest "WireLoops" 114 "WireLoops$Chip" "toolsChanged" "I" "WireLoops") (by decide +kernel))) (fun _ h9 => h9) rfl (by decide +kernel) rfl rfl (Nat.le_of_ble_eq_true rfl) dX3_changeTool_44 (fun H locs hP hD hS => ?_)
    rw [wX_so G A (su z1 0 0 (upd (z1 0 0) 2 0)) (rot (su z1 0 0 (upd (z1 0 0) 2 0))) 0 3 (by decide) (by decide) _] at hP hD
    have hP : va_P G.1 vwCl (wX G A (su (su z1 0 0 (upd (z1 0 0) 2 0)) 0 0 (upd (upd (z1 0 0) 2 0) 3 ((z1 0 0 3) + 1))) (rot (su (su z1 0 0 (upd (z1 0 0) 2 0)) 0 0 (upd (upd (z1 0 0) 2 0) 3 ((z1 0 0 3) + 1))))) H := hP
    have hD : va_D A0 (wX G A (su (su z1 0 0 (upd (z1 0 0) 2 0)) 0 0 (upd (upd (z1 0 0) 2 0) 3 ((z1 0 0 3) + 1))) (rot (su (su z1 0 0 (upd (z1 0 0) 2 0)) 0 0 (upd (upd (z1 0 0) 2 0) 3 ((z1 0 0 3) + 1))))) := hD
    refine lv_iload_n hx hb dX3_changeTool_47 rfl (lv_at hl 0 rfl) ?_
    have hfin : ((S 0 0 2), (su (su z1 0 0 (upd (z1 0 0) 2 0)) 0 0 (upd (upd (z1 0 0) 2 0) 3 ((z1 0 0 3) + 1)))) = (f_X3_changeTool S) := Eq.trans (Eq.symm ((e_X3_changeTool_k1 z1 S))) hres1
    exact endM hx hb hr hlocks rfl hP hD hS ⟨@congrArg (Int32 × XS) Int32 ((S 0 0 2), (su (su z1 0 0 (upd (z1 0 0) 2 0)) 0 0 (upd (upd (z1 0 0) 2 0) 3 ((z1 0 0 3) + 1)))) (f_X3_changeTool S) Prod.fst hfin, @congrArg (Int32 × XS) va_W ((S 0 0 2), (su (su z1 0 0 (upd (z1 0 0) 2 0)) 0 0 (upd (upd (z1 0 0) 2 0) 3 ((z1 0 0 3) + 1)))) (f_X3_changeTool S) (fun z => wX G A z.2 (rot z.2)) hfin⟩ dX3_changeTool_48
  · skip
    refine lv_bipush (v := (-5)) hx hb dX3_changeTool_12 (by decide) ?_
    have hfin : ((-5), S) = (f_X3_changeTool S) := Eq.symm (Eq.trans (e_X3_changeTool S) ((if_pos c1)))
    exact endM hx hb hr hlocks rfl hP hD hS ⟨@congrArg (Int32 × XS) Int32 ((-5), S) (f_X3_changeTool S) Prod.fst hfin, @congrArg (Int32 × XS) va_W ((-5), S) (f_X3_changeTool S) (fun z => wX G A z.2 (rot z.2)) hfin⟩ dX3_changeTool_14
noncomputable def f_X3_thread_k1 (z1 : XS) (S : XS) : Int32 × XS := opq ((z1 0 0 5), (su z1 0 0 (upd (z1 0 0) 4 0)))
theorem e_X3_thread_k1 (z1 : XS) (S : XS) : f_X3_thread_k1 z1 S = ((z1 0 0 5), (su z1 0 0 (upd (z1 0 0) 4 0))) := opq_eq _
noncomputable def f_X3_thread (S : XS) : Int32 × XS := opq (if (S 0 0 4) = 0 then ((-5), S) else (f_X3_thread_k1 (recS S 0) S))
theorem e_X3_thread (S : XS) : f_X3_thread S = (if (S 0 0 4) = 0 then ((-5), S) else (f_X3_thread_k1 (recS S 0) S)) := opq_eq _
set_option maxHeartbeats 4000000 in
set_option maxRecDepth 100000 in
theorem c_X3_thread (l : Launch) (G : GG) (A : Nat → Nat) (S : XS)  (q : Nat) (hq : S 7 0 1 = nI q) (hq4 : q ≤ 4) (hbs : ∀ b, b < 7 → S b 0 4 = 0 ∨ S b 0 4 = 1) : Mm l yX3_thread wsX3_thread ({ frames := 3, cells := 0, slots := 0, locals := 69 } : Room) G [.ref (A 42)] (wX G A S (rot S)) (f_X3_thread S).1 (wX G A (f_X3_thread S).2 (rot (f_X3_thread S).2)) := by
  refine Mm.of (cc := cX3_thread) (maxL := 1) (ret := (some .int)) (by decide) rfl (Nat.le_of_ble_eq_true rfl) ?_
  intro p e s m args below meth c A0 hA0 E hr hlocks hP hK hD hA hS ls hl
  have E : CallFix p m c cX3_thread 1 s args wsX3_thread RX3 := E
  have hx := E.1
  have hb := E.2.1
  have hml := E.2.2.1
  have hown := E.2.2.2.1
  have hts := E.2.2.2.2
  have hl : lv_has ls 1 [(0, .ref (A 42))] := hl
  have hinX0 : ∀ w ∈ u_ws RX0 TX0 12, w ∈ wsX3_thread := fun _ h => List.mem_cons_of_mem _ (List.mem_append_left _ (List.mem_append_right _ h))
  have hinX3 : ∀ w ∈ u_ws RX3 TX3 6, w ∈ wsX3_thread := fun _ h => List.mem_cons_of_mem _ (List.mem_append_left _ (List.mem_append_left _ (List.mem_append_right _ h)))
  refine lv_aload_n hx hb dX3_thread_0 rfl (lv_at hl 0 rfl) ?_
  refine va_get (D := G.1) (ci := 3) (v := .ref (A (6 * 0))) (C := RX3) (T := TX3) (N := 6) hx hb hts hinX3 hown hK.1 hP 42 (wX_42 G A S (rot S)) rfl 0 (by decide) (hts (.fieldLink RX3 10 "WireLoops" "chip" "LWireLoops$Chip;") (List.mem_of_getElem? (i := 1) rfl)) (fun _ h9 => h9) rfl dX3_thread_1 ?_
  refine va_getN (D := G.1) (ci := 0) (v := .int (S 0 0 4)) (C := RX0) (T := TX0) (N := 12) (own := RX3) (ref := RX0) (host := RX3) hx hb hts hinX0 hown hK.1 hP (6 * 0) (wX_o G A S (rot S) 0 (by decide)) rfl 9 (by decide) (va_Nw.use rfl (hK.2 (.fieldLinkNest "WireLoops" 117 "WireLoops$Chip" "tailLost" "Z" "WireLoops") (by decide +kernel))) (fun _ h9 => h9) rfl dX3_thread_4 ?_
  refine lv_if_ne (tgt := 13) hx hb dX3_thread_7 (by decide) (fun c1 => ?_) (fun c1 => ?_)
  · skip
    refine lv_aload_n hx hb dX3_thread_13 rfl (lv_at hl 0 rfl) ?_
    refine va_get (D := G.1) (ci := 3) (v := .ref (A 43)) (C := RX3) (T := TX3) (N := 6) hx hb hts hinX3 hown hK.1 hP 42 (wX_42 G A S (rot S)) rfl 4 (by decide) (hts (.fieldLink RX3 29 "WireLoops" "history" "LWireLoops$History;") (List.mem_of_getElem? (i := 2) rfl)) (fun _ h9 => h9) rfl dX3_thread_14 ?_
    refine lv_aload_n hx hb dX3_thread_17 rfl (lv_at hl 0 rfl) ?_
    refine va_get (D := G.1) (ci := 3) (v := .ref (A (6 * 0))) (C := RX3) (T := TX3) (N := 6) hx hb hts hinX3 hown hK.1 hP 42 (wX_42 G A S (rot S)) rfl 0 (by decide) (hts (.fieldLink RX3 10 "WireLoops" "chip" "LWireLoops$Chip;") (List.mem_of_getElem? (i := 1) rfl)) (fun _ h9 => h9) rfl dX3_thread_18 ?_
    refine czV (rest := []) (As := [.ref (A (6 * 0))]) E (c_X1_record_0 l G A S q hq hq4 (hbs 0 (by decide))) (cwV 1 hts gX3_thread_X1_record rfl rfl rfl (by decide +kernel) ⟨Nat.le_of_ble_eq_true rfl, Nat.le_of_ble_eq_true rfl⟩) hK hP hD hS hA 43 (wX_43 G A S (rot S)) rfl rfl hl.1 rfl (Nat.le_of_ble_eq_true rfl) dX3_thread_21 ⟨Nat.zero_le _, Nat.zero_le _⟩ (fun H locs hP hD hS => ?_)
    have hres1 : f_X3_thread_k1 (recS S 0) S = (f_X3_thread S) := Eq.symm (Eq.trans (e_X3_thread S) ((if_neg c1)))
    generalize hz1 : (recS S 0) = z1 at hres1 hP hD ⊢
    refine lv_aload_n hx hb dX3_thread_24 rfl (lv_at hl 0 rfl) ?_
    refine va_get (D := G.1) (ci := 3) (v := .ref (A (6 * 0))) (C := RX3) (T := TX3) (N := 6) hx hb hts hinX3 hown hK.1 hP 42 (wX_42 G A z1 (rot z1)) rfl 0 (by decide) (hts (.fieldLink RX3 10 "WireLoops" "chip" "LWireLoops$Chip;") (List.mem_of_getElem? (i := 1) rfl)) (fun _ h9 => h9) rfl dX3_thread_25 ?_
    refine lv_iconst (v := 0) hx hb dX3_thread_28 (by decide) ?_
    refine va_putN (D := G.1) (ci := 0) (v := .int 0) (ty := .boolean) (C := RX0) (T := TX0) (N := 12) (own := RX3) (ref := RX0) (host := RX3) hx hb hts hinX0 tyX0 tyX0_ok nmX0 hown hK.1 hP hD hS (6 * 0) (wX_o G A z1 (rot z1) 0 (by decide)) rfl (5 + 4) (by decide) (va_Nw.use rfl (hK.2 (.fieldLinkNest "WireLoops" 117 "WireLoops$Chip" "tailLost" "Z" "WireLoops") (by decide +kernel))) (fun _ h9 => h9) rfl (by decide +kernel) rfl rfl (Nat.le_of_ble_eq_true rfl) dX3_thread_29 (fun H locs hP hD hS => ?_)
    rw [wX_so G A z1 (rot z1) 0 4 (by decide) (by decide) _] at hP hD
    have hP : va_P G.1 vwCl (wX G A (su z1 0 0 (upd (z1 0 0) 4 0)) (rot (su z1 0 0 (upd (z1 0 0) 4 0)))) H := hP
    have hD : va_D A0 (wX G A (su z1 0 0 (upd (z1 0 0) 4 0)) (rot (su z1 0 0 (upd (z1 0 0) 4 0)))) := hD
    refine lv_aload_n hx hb dX3_thread_32 rfl (lv_at hl 0 rfl) ?_
    refine va_get (D := G.1) (ci := 3) (v := .ref (A (6 * 0))) (C := RX3) (T := TX3) (N := 6) hx hb hts hinX3 hown hK.1 hP 42 (wX_42 G A (su z1 0 0 (upd (z1 0 0) 4 0)) (rot (su z1 0 0 (upd (z1 0 0) 4 0)))) rfl 0 (by decide) (hts (.fieldLink RX3 10 "WireLoops" "chip" "LWireLoops$Chip;") (List.mem_of_getElem? (i := 1) rfl)) (fun _ h9 => h9) rfl dX3_thread_33 ?_
    refine va_getN (D := G.1) (ci := 0) (v := .int (z1 0 0 5)) (C := RX0) (T := TX0) (N := 12) (own := RX3) (ref := RX0) (host := RX3) hx hb hts hinX0 hown hK.1 hP (6 * 0) (wX_o G A (su z1 0 0 (upd (z1 0 0) 4 0)) (rot (su z1 0 0 (upd (z1 0 0) 4 0))) 0 (by decide)) rfl 10 (by decide) (va_Nw.use rfl (hK.2 (.fieldLinkNest "WireLoops" 120 "WireLoops$Chip" "tailsLost" "I" "WireLoops") (by decide +kernel))) (fun _ h9 => h9) rfl dX3_thread_36 ?_
    have hfin : ((z1 0 0 5), (su z1 0 0 (upd (z1 0 0) 4 0))) = (f_X3_thread S) := Eq.trans (Eq.symm ((e_X3_thread_k1 z1 S))) hres1
    exact endM hx hb hr hlocks rfl hP hD hS ⟨@congrArg (Int32 × XS) Int32 ((z1 0 0 5), (su z1 0 0 (upd (z1 0 0) 4 0))) (f_X3_thread S) Prod.fst hfin, @congrArg (Int32 × XS) va_W ((z1 0 0 5), (su z1 0 0 (upd (z1 0 0) 4 0))) (f_X3_thread S) (fun z => wX G A z.2 (rot z.2)) hfin⟩ dX3_thread_39
  · skip
    refine lv_bipush (v := (-5)) hx hb dX3_thread_10 (by decide) ?_
    have hfin : ((-5), S) = (f_X3_thread S) := Eq.symm (Eq.trans (e_X3_thread S) ((if_pos c1)))
    exact endM hx hb hr hlocks rfl hP hD hS ⟨@congrArg (Int32 × XS) Int32 ((-5), S) (f_X3_thread S) Prod.fst hfin, @congrArg (Int32 × XS) va_W ((-5), S) (f_X3_thread S) (fun z => wX G A z.2 (rot z.2)) hfin⟩ dX3_thread_12
noncomputable def f_X3_pull_k2 (z2 : Int32 × XS) (z1 : XS) (S : XS) (p0 p1 : Int32) : Int32 × XS := opq (if z2.1 = 0 then ((f_X0_strengthOf z2.2 p0), z2.2) else (1000, z2.2))
theorem e_X3_pull_k2 (z2 : Int32 × XS) (z1 : XS) (S : XS) (p0 p1 : Int32) : f_X3_pull_k2 z2 z1 S p0 p1 = (if z2.1 = 0 then ((f_X0_strengthOf z2.2 p0), z2.2) else (1000, z2.2)) := opq_eq _
noncomputable def f_X3_pull_k1 (z1 : XS) (S : XS) (p0 p1 : Int32) : Int32 × XS := opq (f_X3_pull_k2 (f_X0_breaksUnder z1 p0 p1) z1 S p0 p1)
theorem e_X3_pull_k1 (z1 : XS) (S : XS) (p0 p1 : Int32) : f_X3_pull_k1 z1 S p0 p1 = (f_X3_pull_k2 (f_X0_breaksUnder z1 p0 p1) z1 S p0 p1) := opq_eq _
noncomputable def f_X3_pull (S : XS) (p0 p1 : Int32) : Int32 × XS := opq (if (f_X0_hasWire S p0) = 0 then ((-1), S) else (if (f_X3_isWithin p1 1 100) = 0 then ((-2), S) else (f_X3_pull_k1 (recS S 0) S p0 p1)))
theorem e_X3_pull (S : XS) (p0 p1 : Int32) : f_X3_pull S p0 p1 = (if (f_X0_hasWire S p0) = 0 then ((-1), S) else (if (f_X3_isWithin p1 1 100) = 0 then ((-2), S) else (f_X3_pull_k1 (recS S 0) S p0 p1))) := opq_eq _
set_option maxHeartbeats 4000000 in
set_option maxRecDepth 100000 in
theorem c_X3_pull (l : Launch) (G : GG) (A : Nat → Nat) (S : XS) (p0 p1 : Int32) (q : Nat) (hq : S 7 0 1 = nI q) (hq4 : q ≤ 4) (hbs : ∀ b, b < 7 → S b 0 4 = 0 ∨ S b 0 4 = 1) : Mm l yX3_pull wsX3_pull ({ frames := 3, cells := 0, slots := 0, locals := 69 } : Room) G [.ref (A 42), .int p0, .int p1] (wX G A S (rot S)) (f_X3_pull S p0 p1).1 (wX G A (f_X3_pull S p0 p1).2 (rot (f_X3_pull S p0 p1).2)) := by
  refine Mm.of (cc := cX3_pull) (maxL := 3) (ret := (some .int)) (by decide) rfl (Nat.le_of_ble_eq_true rfl) ?_
  intro p e s m args below meth c A0 hA0 E hr hlocks hP hK hD hA hS ls hl
  have E : CallFix p m c cX3_pull 3 s args wsX3_pull RX3 := E
  have hx := E.1
  have hb := E.2.1
  have hml := E.2.2.1
  have hown := E.2.2.2.1
  have hts := E.2.2.2.2
  have hl : lv_has ls 3 [(0, .ref (A 42)), (1, .int p0), (2, .int p1)] := hl
  have hinX3 : ∀ w ∈ u_ws RX3 TX3 6, w ∈ wsX3_pull := fun _ h => List.mem_cons_of_mem _ (List.mem_append_left _ (List.mem_append_left _ (List.mem_append_right _ h)))
  refine lv_aload_n hx hb dX3_pull_0 rfl (lv_at hl 0 rfl) ?_
  refine va_get (D := G.1) (ci := 3) (v := .ref (A (6 * 0))) (C := RX3) (T := TX3) (N := 6) hx hb hts hinX3 hown hK.1 hP 42 (wX_42 G A S (rot S)) rfl 0 (by decide) (hts (.fieldLink RX3 10 "WireLoops" "chip" "LWireLoops$Chip;") (List.mem_of_getElem? (i := 1) rfl)) (fun _ h9 => h9) rfl dX3_pull_1 ?_
  refine lv_iload_n hx hb dX3_pull_4 rfl (lv_at hl 1 rfl) ?_
  refine cpV (rest := []) (As := [.int p0]) E (c_X0_hasWire l G A S (rot S) p0) (cwV 1 hts gX3_pull_X0_hasWire rfl rfl rfl (by decide +kernel) ⟨Nat.le_of_ble_eq_true rfl, Nat.le_of_ble_eq_true rfl⟩) hK hP (6 * 0) (wX_o G A S (rot S) 0 (by decide)) rfl rfl hl.1 rfl (Nat.le_of_ble_eq_true rfl) dX3_pull_5 ⟨Nat.zero_le _, Nat.zero_le _⟩ ?_
  refine lv_if_ne (tgt := 13) hx hb dX3_pull_8 (by decide) (fun c1 => ?_) (fun c1 => ?_)
  · skip
    refine lv_iload_n hx hb dX3_pull_13 rfl (lv_at hl 2 rfl) ?_
    refine lv_iconst (v := 1) hx hb dX3_pull_14 (by decide) ?_
    refine lv_bipush (v := 100) hx hb dX3_pull_15 (by decide) ?_
    refine cpS (rest := []) (As := [.int p1, .int 1, .int 100]) E (c_X3_isWithin l G A S (rot S) p1 1 100) (va_cwS 3 hts gX3_pull_X3_isWithin rfl rfl rfl (by decide +kernel) ⟨Nat.le_of_ble_eq_true rfl, Nat.le_of_ble_eq_true rfl⟩) hK hP rfl hl.1 rfl (Nat.le_of_ble_eq_true rfl) dX3_pull_17 ⟨Nat.zero_le _, Nat.zero_le _⟩ ?_
    refine lv_if_ne (tgt := 26) hx hb dX3_pull_20 (by decide) (fun c2 => ?_) (fun c2 => ?_)
    · skip
      refine lv_aload_n hx hb dX3_pull_26 rfl (lv_at hl 0 rfl) ?_
      refine va_get (D := G.1) (ci := 3) (v := .ref (A 43)) (C := RX3) (T := TX3) (N := 6) hx hb hts hinX3 hown hK.1 hP 42 (wX_42 G A S (rot S)) rfl 4 (by decide) (hts (.fieldLink RX3 29 "WireLoops" "history" "LWireLoops$History;") (List.mem_of_getElem? (i := 2) rfl)) (fun _ h9 => h9) rfl dX3_pull_27 ?_
      refine lv_aload_n hx hb dX3_pull_30 rfl (lv_at hl 0 rfl) ?_
      refine va_get (D := G.1) (ci := 3) (v := .ref (A (6 * 0))) (C := RX3) (T := TX3) (N := 6) hx hb hts hinX3 hown hK.1 hP 42 (wX_42 G A S (rot S)) rfl 0 (by decide) (hts (.fieldLink RX3 10 "WireLoops" "chip" "LWireLoops$Chip;") (List.mem_of_getElem? (i := 1) rfl)) (fun _ h9 => h9) rfl dX3_pull_31 ?_
      refine czV (rest := []) (As := [.ref (A (6 * 0))]) E (c_X1_record_0 l G A S q hq hq4 (hbs 0 (by decide))) (cwV 1 hts gX3_pull_X1_record rfl rfl rfl (by decide +kernel) ⟨Nat.le_of_ble_eq_true rfl, Nat.le_of_ble_eq_true rfl⟩) hK hP hD hS hA 43 (wX_43 G A S (rot S)) rfl rfl hl.1 rfl (Nat.le_of_ble_eq_true rfl) dX3_pull_34 ⟨Nat.zero_le _, Nat.zero_le _⟩ (fun H locs hP hD hS => ?_)
      have hres1 : f_X3_pull_k1 (recS S 0) S p0 p1 = (f_X3_pull S p0 p1) := Eq.symm (Eq.trans (e_X3_pull S p0 p1) (Eq.trans (if_neg c1) ((if_neg c2))))
      generalize hz1 : (recS S 0) = z1 at hres1 hP hD ⊢
      refine lv_aload_n hx hb dX3_pull_37 rfl (lv_at hl 0 rfl) ?_
      refine va_get (D := G.1) (ci := 3) (v := .ref (A (6 * 0))) (C := RX3) (T := TX3) (N := 6) hx hb hts hinX3 hown hK.1 hP 42 (wX_42 G A z1 (rot z1)) rfl 0 (by decide) (hts (.fieldLink RX3 10 "WireLoops" "chip" "LWireLoops$Chip;") (List.mem_of_getElem? (i := 1) rfl)) (fun _ h9 => h9) rfl dX3_pull_38 ?_
      refine lv_iload_n hx hb dX3_pull_41 rfl (lv_at hl 1 rfl) ?_
      refine lv_iload_n hx hb dX3_pull_42 rfl (lv_at hl 2 rfl) ?_
      refine cmV (rest := []) (As := [.int p0, .int p1]) E (c_X0_breaksUnder l G A z1 (rot z1) p0 p1) (cwV 2 hts gX3_pull_X0_breaksUnder rfl rfl rfl (by decide +kernel) ⟨Nat.le_of_ble_eq_true rfl, Nat.le_of_ble_eq_true rfl⟩) hK hP hD hS hA (6 * 0) (wX_o G A z1 (rot z1) 0 (by decide)) rfl rfl hl.1 rfl (Nat.le_of_ble_eq_true rfl) dX3_pull_43 ⟨Nat.zero_le _, Nat.zero_le _⟩ (fun H locs hP hD hS => ?_)
      have hP : va_P G.1 vwCl (wX G A (f_X0_breaksUnder z1 p0 p1).2 (rot (f_X0_breaksUnder z1 p0 p1).2)) H := by rw [rot_X0_breaksUnder]; exact hP
      have hD : va_D A0 (wX G A (f_X0_breaksUnder z1 p0 p1).2 (rot (f_X0_breaksUnder z1 p0 p1).2)) := by rw [rot_X0_breaksUnder]; exact hD
      have hres2 : f_X3_pull_k2 (f_X0_breaksUnder z1 p0 p1) z1 S p0 p1 = (f_X3_pull S p0 p1) := Eq.trans (Eq.symm ((e_X3_pull_k1 z1 S p0 p1))) hres1
      generalize hz2 : (f_X0_breaksUnder z1 p0 p1) = z2 at hres2 hP hD ⊢
      refine lv_if_eq (tgt := 55) hx hb dX3_pull_46 (by decide) (fun c3 => ?_) (fun c3 => ?_)
      · skip
        refine lv_aload_n hx hb dX3_pull_55 rfl (lv_at hl 0 rfl) ?_
        refine va_get (D := G.1) (ci := 3) (v := .ref (A (6 * 0))) (C := RX3) (T := TX3) (N := 6) hx hb hts hinX3 hown hK.1 hP 42 (wX_42 G A z2.2 (rot z2.2)) rfl 0 (by decide) (hts (.fieldLink RX3 10 "WireLoops" "chip" "LWireLoops$Chip;") (List.mem_of_getElem? (i := 1) rfl)) (fun _ h9 => h9) rfl dX3_pull_56 ?_
        refine lv_iload_n hx hb dX3_pull_59 rfl (lv_at hl 1 rfl) ?_
        refine cpV (rest := []) (As := [.int p0]) E (c_X0_strengthOf l G A z2.2 (rot z2.2) p0) (cwV 1 hts gX3_pull_X0_strengthOf rfl rfl rfl (by decide +kernel) ⟨Nat.le_of_ble_eq_true rfl, Nat.le_of_ble_eq_true rfl⟩) hK hP (6 * 0) (wX_o G A z2.2 (rot z2.2) 0 (by decide)) rfl rfl hl.1 rfl (Nat.le_of_ble_eq_true rfl) dX3_pull_60 ⟨Nat.zero_le _, Nat.zero_le _⟩ ?_
        have hfin : ((f_X0_strengthOf z2.2 p0), z2.2) = (f_X3_pull S p0 p1) := Eq.trans (Eq.symm (Eq.trans (e_X3_pull_k2 z2 z1 S p0 p1) ((if_pos c3)))) hres2
        exact endM hx hb hr hlocks rfl hP hD hS ⟨@congrArg (Int32 × XS) Int32 ((f_X0_strengthOf z2.2 p0), z2.2) (f_X3_pull S p0 p1) Prod.fst hfin, @congrArg (Int32 × XS) va_W ((f_X0_strengthOf z2.2 p0), z2.2) (f_X3_pull S p0 p1) (fun z => wX G A z.2 (rot z.2)) hfin⟩ dX3_pull_63
      · skip
        refine lv_sipush (v := 1000) hx hb dX3_pull_49 (by decide) ?_
        refine lv_goto (tgt := 63) hx hb dX3_pull_52 (by decide) ?_
        have hfin : (1000, z2.2) = (f_X3_pull S p0 p1) := Eq.trans (Eq.symm (Eq.trans (e_X3_pull_k2 z2 z1 S p0 p1) ((if_neg c3)))) hres2
        exact endM hx hb hr hlocks rfl hP hD hS ⟨@congrArg (Int32 × XS) Int32 (1000, z2.2) (f_X3_pull S p0 p1) Prod.fst hfin, @congrArg (Int32 × XS) va_W (1000, z2.2) (f_X3_pull S p0 p1) (fun z => wX G A z.2 (rot z.2)) hfin⟩ dX3_pull_63
    · skip
      refine lv_bipush (v := (-2)) hx hb dX3_pull_23 (by decide) ?_
      have hfin : ((-2), S) = (f_X3_pull S p0 p1) := Eq.symm (Eq.trans (e_X3_pull S p0 p1) (Eq.trans (if_neg c1) ((if_pos c2))))
      exact endM hx hb hr hlocks rfl hP hD hS ⟨@congrArg (Int32 × XS) Int32 ((-2), S) (f_X3_pull S p0 p1) Prod.fst hfin, @congrArg (Int32 × XS) va_W ((-2), S) (f_X3_pull S p0 p1) (fun z => wX G A z.2 (rot z.2)) hfin⟩ dX3_pull_25
  · skip
    refine lv_iconst (v := (-1)) hx hb dX3_pull_11 (by decide) ?_
    have hfin : ((-1), S) = (f_X3_pull S p0 p1) := Eq.symm (Eq.trans (e_X3_pull S p0 p1) ((if_pos c1)))
    exact endM hx hb hr hlocks rfl hP hD hS ⟨@congrArg (Int32 × XS) Int32 ((-1), S) (f_X3_pull S p0 p1) Prod.fst hfin, @congrArg (Int32 × XS) va_W ((-1), S) (f_X3_pull S p0 p1) (fun z => wX G A z.2 (rot z.2)) hfin⟩ dX3_pull_12
noncomputable def f_X3_sample_k2 (z2 : Int32 × XS) (z1 : XS) (S : XS) (p0 p1 : Int32) : Int32 × XS := opq (z2.1, z2.2)
theorem e_X3_sample_k2 (z2 : Int32 × XS) (z1 : XS) (S : XS) (p0 p1 : Int32) : f_X3_sample_k2 z2 z1 S p0 p1 = (z2.1, z2.2) := opq_eq _
noncomputable def f_X3_sample_k1 (z1 : XS) (S : XS) (p0 p1 : Int32) : Int32 × XS := opq (f_X3_sample_k2 (f_X0_breakingOfSample z1 p0 p1) z1 S p0 p1)
theorem e_X3_sample_k1 (z1 : XS) (S : XS) (p0 p1 : Int32) : f_X3_sample_k1 z1 S p0 p1 = (f_X3_sample_k2 (f_X0_breakingOfSample z1 p0 p1) z1 S p0 p1) := opq_eq _
noncomputable def f_X3_sample (S : XS) (p0 p1 : Int32) : Int32 × XS := opq (if (f_X3_isWithin p0 1 12) = 0 then ((-2), S) else (if (f_X3_isWithin p1 1 100) = 0 then ((-2), S) else (if (f_X0_wires S) = 0 then ((-5), S) else (f_X3_sample_k1 (recS S 0) S p0 p1))))
theorem e_X3_sample (S : XS) (p0 p1 : Int32) : f_X3_sample S p0 p1 = (if (f_X3_isWithin p0 1 12) = 0 then ((-2), S) else (if (f_X3_isWithin p1 1 100) = 0 then ((-2), S) else (if (f_X0_wires S) = 0 then ((-5), S) else (f_X3_sample_k1 (recS S 0) S p0 p1)))) := opq_eq _
set_option maxHeartbeats 4000000 in
set_option maxRecDepth 100000 in
theorem c_X3_sample (l : Launch) (G : GG) (A : Nat → Nat) (S : XS) (p0 p1 : Int32) (q : Nat) (hq : S 7 0 1 = nI q) (hq4 : q ≤ 4) (hbs : ∀ b, b < 7 → S b 0 4 = 0 ∨ S b 0 4 = 1) : Mm l yX3_sample wsX3_sample ({ frames := 4, cells := 0, slots := 0, locals := 88 } : Room) G [.ref (A 42), .int p0, .int p1] (wX G A S (rot S)) (f_X3_sample S p0 p1).1 (wX G A (f_X3_sample S p0 p1).2 (rot (f_X3_sample S p0 p1).2)) := by
  refine Mm.of (cc := cX3_sample) (maxL := 3) (ret := (some .int)) (by decide) rfl (Nat.le_of_ble_eq_true rfl) ?_
  intro p e s m args below meth c A0 hA0 E hr hlocks hP hK hD hA hS ls hl
  have E : CallFix p m c cX3_sample 3 s args wsX3_sample RX3 := E
  have hx := E.1
  have hb := E.2.1
  have hml := E.2.2.1
  have hown := E.2.2.2.1
  have hts := E.2.2.2.2
  have hl : lv_has ls 3 [(0, .ref (A 42)), (1, .int p0), (2, .int p1)] := hl
  have hinX3 : ∀ w ∈ u_ws RX3 TX3 6, w ∈ wsX3_sample := fun _ h => List.mem_cons_of_mem _ (List.mem_append_left _ (List.mem_append_left _ (List.mem_append_right _ h)))
  refine lv_iload_n hx hb dX3_sample_0 rfl (lv_at hl 1 rfl) ?_
  refine lv_iconst (v := 1) hx hb dX3_sample_1 (by decide) ?_
  refine lv_bipush (v := 12) hx hb dX3_sample_2 (by decide) ?_
  refine cpS (rest := []) (As := [.int p0, .int 1, .int 12]) E (c_X3_isWithin l G A S (rot S) p0 1 12) (va_cwS 3 hts gX3_sample_X3_isWithin rfl rfl rfl (by decide +kernel) ⟨Nat.le_of_ble_eq_true rfl, Nat.le_of_ble_eq_true rfl⟩) hK hP rfl hl.1 rfl (Nat.le_of_ble_eq_true rfl) dX3_sample_4 ⟨Nat.zero_le _, Nat.zero_le _⟩ ?_
  refine lv_if_eq (tgt := 20) hx hb dX3_sample_7 (by decide) (fun c1 => ?_) (fun c1 => ?_)
  · skip
    refine lv_bipush (v := (-2)) hx hb dX3_sample_20 (by decide) ?_
    have hfin : ((-2), S) = (f_X3_sample S p0 p1) := Eq.symm (Eq.trans (e_X3_sample S p0 p1) ((if_pos c1)))
    exact endM hx hb hr hlocks rfl hP hD hS ⟨@congrArg (Int32 × XS) Int32 ((-2), S) (f_X3_sample S p0 p1) Prod.fst hfin, @congrArg (Int32 × XS) va_W ((-2), S) (f_X3_sample S p0 p1) (fun z => wX G A z.2 (rot z.2)) hfin⟩ dX3_sample_22
  · skip
    refine lv_iload_n hx hb dX3_sample_10 rfl (lv_at hl 2 rfl) ?_
    refine lv_iconst (v := 1) hx hb dX3_sample_11 (by decide) ?_
    refine lv_bipush (v := 100) hx hb dX3_sample_12 (by decide) ?_
    refine cpS (rest := []) (As := [.int p1, .int 1, .int 100]) E (c_X3_isWithin l G A S (rot S) p1 1 100) (va_cwS 3 hts gX3_sample_X3_isWithin rfl rfl rfl (by decide +kernel) ⟨Nat.le_of_ble_eq_true rfl, Nat.le_of_ble_eq_true rfl⟩) hK hP rfl hl.1 rfl (Nat.le_of_ble_eq_true rfl) dX3_sample_14 ⟨Nat.zero_le _, Nat.zero_le _⟩ ?_
    refine lv_if_ne (tgt := 23) hx hb dX3_sample_17 (by decide) (fun c2 => ?_) (fun c2 => ?_)
    · skip
      refine lv_aload_n hx hb dX3_sample_23 rfl (lv_at hl 0 rfl) ?_
      refine va_get (D := G.1) (ci := 3) (v := .ref (A (6 * 0))) (C := RX3) (T := TX3) (N := 6) hx hb hts hinX3 hown hK.1 hP 42 (wX_42 G A S (rot S)) rfl 0 (by decide) (hts (.fieldLink RX3 10 "WireLoops" "chip" "LWireLoops$Chip;") (List.mem_of_getElem? (i := 1) rfl)) (fun _ h9 => h9) rfl dX3_sample_24 ?_
      refine cpV (rest := []) (As := []) E (c_X0_wires l G A S (rot S)) (cwV 0 hts gX3_sample_X0_wires rfl rfl rfl (by decide +kernel) ⟨Nat.le_of_ble_eq_true rfl, Nat.le_of_ble_eq_true rfl⟩) hK hP (6 * 0) (wX_o G A S (rot S) 0 (by decide)) rfl rfl hl.1 rfl (Nat.le_of_ble_eq_true rfl) dX3_sample_27 ⟨Nat.zero_le _, Nat.zero_le _⟩ ?_
      refine lv_if_ne (tgt := 36) hx hb dX3_sample_30 (by decide) (fun c3 => ?_) (fun c3 => ?_)
      · skip
        refine lv_aload_n hx hb dX3_sample_36 rfl (lv_at hl 0 rfl) ?_
        refine va_get (D := G.1) (ci := 3) (v := .ref (A 43)) (C := RX3) (T := TX3) (N := 6) hx hb hts hinX3 hown hK.1 hP 42 (wX_42 G A S (rot S)) rfl 4 (by decide) (hts (.fieldLink RX3 29 "WireLoops" "history" "LWireLoops$History;") (List.mem_of_getElem? (i := 2) rfl)) (fun _ h9 => h9) rfl dX3_sample_37 ?_
        refine lv_aload_n hx hb dX3_sample_40 rfl (lv_at hl 0 rfl) ?_
        refine va_get (D := G.1) (ci := 3) (v := .ref (A (6 * 0))) (C := RX3) (T := TX3) (N := 6) hx hb hts hinX3 hown hK.1 hP 42 (wX_42 G A S (rot S)) rfl 0 (by decide) (hts (.fieldLink RX3 10 "WireLoops" "chip" "LWireLoops$Chip;") (List.mem_of_getElem? (i := 1) rfl)) (fun _ h9 => h9) rfl dX3_sample_41 ?_
        refine czV (rest := []) (As := [.ref (A (6 * 0))]) E (c_X1_record_0 l G A S q hq hq4 (hbs 0 (by decide))) (cwV 1 hts gX3_sample_X1_record rfl rfl rfl (by decide +kernel) ⟨Nat.le_of_ble_eq_true rfl, Nat.le_of_ble_eq_true rfl⟩) hK hP hD hS hA 43 (wX_43 G A S (rot S)) rfl rfl hl.1 rfl (Nat.le_of_ble_eq_true rfl) dX3_sample_44 ⟨Nat.zero_le _, Nat.zero_le _⟩ (fun H locs hP hD hS => ?_)
        have hres1 : f_X3_sample_k1 (recS S 0) S p0 p1 = (f_X3_sample S p0 p1) := Eq.symm (Eq.trans (e_X3_sample S p0 p1) (Eq.trans (if_neg c1) (Eq.trans (if_neg c2) ((if_neg c3)))))
        generalize hz1 : (recS S 0) = z1 at hres1 hP hD ⊢
        refine lv_aload_n hx hb dX3_sample_47 rfl (lv_at hl 0 rfl) ?_
        refine va_get (D := G.1) (ci := 3) (v := .ref (A (6 * 0))) (C := RX3) (T := TX3) (N := 6) hx hb hts hinX3 hown hK.1 hP 42 (wX_42 G A z1 (rot z1)) rfl 0 (by decide) (hts (.fieldLink RX3 10 "WireLoops" "chip" "LWireLoops$Chip;") (List.mem_of_getElem? (i := 1) rfl)) (fun _ h9 => h9) rfl dX3_sample_48 ?_
        refine lv_iload_n hx hb dX3_sample_51 rfl (lv_at hl 1 rfl) ?_
        refine lv_iload_n hx hb dX3_sample_52 rfl (lv_at hl 2 rfl) ?_
        refine cmV (rest := []) (As := [.int p0, .int p1]) E (c_X0_breakingOfSample l G A z1 (rot z1) p0 p1) (cwV 2 hts gX3_sample_X0_breakingOfSample rfl rfl rfl (by decide +kernel) ⟨Nat.le_of_ble_eq_true rfl, Nat.le_of_ble_eq_true rfl⟩) hK hP hD hS hA (6 * 0) (wX_o G A z1 (rot z1) 0 (by decide)) rfl rfl hl.1 rfl (Nat.le_of_ble_eq_true rfl) dX3_sample_53 ⟨Nat.zero_le _, Nat.zero_le _⟩ (fun H locs hP hD hS => ?_)
        have hP : va_P G.1 vwCl (wX G A (f_X0_breakingOfSample z1 p0 p1).2 (rot (f_X0_breakingOfSample z1 p0 p1).2)) H := by rw [rot_X0_breakingOfSample]; exact hP
        have hD : va_D A0 (wX G A (f_X0_breakingOfSample z1 p0 p1).2 (rot (f_X0_breakingOfSample z1 p0 p1).2)) := by rw [rot_X0_breakingOfSample]; exact hD
        have hres2 : f_X3_sample_k2 (f_X0_breakingOfSample z1 p0 p1) z1 S p0 p1 = (f_X3_sample S p0 p1) := Eq.trans (Eq.symm ((e_X3_sample_k1 z1 S p0 p1))) hres1
        generalize hz2 : (f_X0_breakingOfSample z1 p0 p1) = z2 at hres2 hP hD ⊢
        have hfin : (z2.1, z2.2) = (f_X3_sample S p0 p1) := Eq.trans (Eq.symm ((e_X3_sample_k2 z2 z1 S p0 p1))) hres2
        exact endM hx hb hr hlocks rfl hP hD hS ⟨@congrArg (Int32 × XS) Int32 (z2.1, z2.2) (f_X3_sample S p0 p1) Prod.fst hfin, @congrArg (Int32 × XS) va_W (z2.1, z2.2) (f_X3_sample S p0 p1) (fun z => wX G A z.2 (rot z.2)) hfin⟩ dX3_sample_56
      · skip
        refine lv_bipush (v := (-5)) hx hb dX3_sample_33 (by decide) ?_
        have hfin : ((-5), S) = (f_X3_sample S p0 p1) := Eq.symm (Eq.trans (e_X3_sample S p0 p1) (Eq.trans (if_neg c1) (Eq.trans (if_neg c2) ((if_pos c3)))))
        exact endM hx hb hr hlocks rfl hP hD hS ⟨@congrArg (Int32 × XS) Int32 ((-5), S) (f_X3_sample S p0 p1) Prod.fst hfin, @congrArg (Int32 × XS) va_W ((-5), S) (f_X3_sample S p0 p1) (fun z => wX G A z.2 (rot z.2)) hfin⟩ dX3_sample_35
    · skip
      refine lv_bipush (v := (-2)) hx hb dX3_sample_20 (by decide) ?_
      have hfin : ((-2), S) = (f_X3_sample S p0 p1) := Eq.symm (Eq.trans (e_X3_sample S p0 p1) (Eq.trans (if_neg c1) ((if_pos c2))))
      exact endM hx hb hr hlocks rfl hP hD hS ⟨@congrArg (Int32 × XS) Int32 ((-2), S) (f_X3_sample S p0 p1) Prod.fst hfin, @congrArg (Int32 × XS) va_W ((-2), S) (f_X3_sample S p0 p1) (fun z => wX G A z.2 (rot z.2)) hfin⟩ dX3_sample_22
noncomputable def f_X3_type_k1 (z1 : Int32 × XS) (S : XS) (p0 : Int32) : Int32 × XS := opq (if z1.1 = 0 then ((-3), z1.2) else ((f_X2_length z1.2), z1.2))
theorem e_X3_type_k1 (z1 : Int32 × XS) (S : XS) (p0 : Int32) : f_X3_type_k1 z1 S p0 = (if z1.1 = 0 then ((-3), z1.2) else ((f_X2_length z1.2), z1.2)) := opq_eq _
noncomputable def f_X3_type (S : XS) (p0 : Int32) : Int32 × XS := opq (f_X3_type_k1 (f_X2_append S p0) S p0)
theorem e_X3_type (S : XS) (p0 : Int32) : f_X3_type S p0 = (f_X3_type_k1 (f_X2_append S p0) S p0) := opq_eq _
set_option maxHeartbeats 4000000 in
set_option maxRecDepth 100000 in
theorem c_X3_type (l : Launch) (G : GG) (A : Nat → Nat) (S : XS) (p0 : Int32) (h : ¬ S 7 0 2 < 0) : Mm l yX3_type wsX3_type ({ frames := 1, cells := 0, slots := 0, locals := 21 } : Room) G [.ref (A 42), .int p0] (wX G A S (rot S)) (f_X3_type S p0).1 (wX G A (f_X3_type S p0).2 (rot (f_X3_type S p0).2)) := by
  refine Mm.of (cc := cX3_type) (maxL := 2) (ret := (some .int)) (by decide) rfl (Nat.le_of_ble_eq_true rfl) ?_
  intro p e s m args below meth c A0 hA0 E hr hlocks hP hK hD hA hS ls hl
  have E : CallFix p m c cX3_type 2 s args wsX3_type RX3 := E
  have hx := E.1
  have hb := E.2.1
  have hml := E.2.2.1
  have hown := E.2.2.2.1
  have hts := E.2.2.2.2
  have hl : lv_has ls 2 [(0, .ref (A 42)), (1, .int p0)] := hl
  have hinX3 : ∀ w ∈ u_ws RX3 TX3 6, w ∈ wsX3_type := fun _ h => List.mem_cons_of_mem _ (List.mem_append_left _ (List.mem_append_right _ h))
  refine lv_aload_n hx hb dX3_type_0 rfl (lv_at hl 0 rfl) ?_
  refine va_get (D := G.1) (ci := 3) (v := .ref (A 45)) (C := RX3) (T := TX3) (N := 6) hx hb hts hinX3 hown hK.1 hP 42 (wX_42 G A S (rot S)) rfl 5 (by decide) (hts (.fieldLink RX3 36 "WireLoops" "text" "LWireLoops$WireList;") (List.mem_of_getElem? (i := 1) rfl)) (fun _ h9 => h9) rfl dX3_type_1 ?_
  refine lv_iload_n hx hb dX3_type_4 rfl (lv_at hl 1 rfl) ?_
  refine cmV (rest := []) (As := [.int p0]) E (c_X2_append l G A S (rot S) p0 h) (cwV 1 hts gX3_type_X2_append rfl rfl rfl (by decide +kernel) ⟨Nat.le_of_ble_eq_true rfl, Nat.le_of_ble_eq_true rfl⟩) hK hP hD hS hA 45 (wX_45 G A S (rot S)) rfl rfl hl.1 rfl (Nat.le_of_ble_eq_true rfl) dX3_type_5 ⟨Nat.zero_le _, Nat.zero_le _⟩ (fun H locs hP hD hS => ?_)
  have hP : va_P G.1 vwCl (wX G A (f_X2_append S p0).2 (rot (f_X2_append S p0).2)) H := by rw [rot_X2_append]; exact hP
  have hD : va_D A0 (wX G A (f_X2_append S p0).2 (rot (f_X2_append S p0).2)) := by rw [rot_X2_append]; exact hD
  have hres1 : f_X3_type_k1 (f_X2_append S p0) S p0 = (f_X3_type S p0) := Eq.symm ((e_X3_type S p0))
  generalize hz1 : (f_X2_append S p0) = z1 at hres1 hP hD ⊢
  refine lv_if_ne (tgt := 14) hx hb dX3_type_8 (by decide) (fun c1 => ?_) (fun c1 => ?_)
  · skip
    refine lv_aload_n hx hb dX3_type_14 rfl (lv_at hl 0 rfl) ?_
    refine va_get (D := G.1) (ci := 3) (v := .ref (A 45)) (C := RX3) (T := TX3) (N := 6) hx hb hts hinX3 hown hK.1 hP 42 (wX_42 G A z1.2 (rot z1.2)) rfl 5 (by decide) (hts (.fieldLink RX3 36 "WireLoops" "text" "LWireLoops$WireList;") (List.mem_of_getElem? (i := 1) rfl)) (fun _ h9 => h9) rfl dX3_type_15 ?_
    refine cpV (rest := []) (As := []) E (c_X2_length l G A z1.2 (rot z1.2)) (cwV 0 hts gX3_type_X2_length rfl rfl rfl (by decide +kernel) ⟨Nat.le_of_ble_eq_true rfl, Nat.le_of_ble_eq_true rfl⟩) hK hP 45 (wX_45 G A z1.2 (rot z1.2)) rfl rfl hl.1 rfl (Nat.le_of_ble_eq_true rfl) dX3_type_18 ⟨Nat.zero_le _, Nat.zero_le _⟩ ?_
    have hfin : ((f_X2_length z1.2), z1.2) = (f_X3_type S p0) := Eq.trans (Eq.symm (Eq.trans (e_X3_type_k1 z1 S p0) ((if_neg c1)))) hres1
    exact endM hx hb hr hlocks rfl hP hD hS ⟨@congrArg (Int32 × XS) Int32 ((f_X2_length z1.2), z1.2) (f_X3_type S p0) Prod.fst hfin, @congrArg (Int32 × XS) va_W ((f_X2_length z1.2), z1.2) (f_X3_type S p0) (fun z => wX G A z.2 (rot z.2)) hfin⟩ dX3_type_21
  · skip
    refine lv_bipush (v := (-3)) hx hb dX3_type_11 (by decide) ?_
    have hfin : ((-3), z1.2) = (f_X3_type S p0) := Eq.trans (Eq.symm (Eq.trans (e_X3_type_k1 z1 S p0) ((if_pos c1)))) hres1
    exact endM hx hb hr hlocks rfl hP hD hS ⟨@congrArg (Int32 × XS) Int32 ((-3), z1.2) (f_X3_type S p0) Prod.fst hfin, @congrArg (Int32 × XS) va_W ((-3), z1.2) (f_X3_type S p0) (fun z => wX G A z.2 (rot z.2)) hfin⟩ dX3_type_13
noncomputable def f_X3_clearText_k1 (z1 : XS) (S : XS) : Int32 × XS := opq ((f_X2_length S), z1)
theorem e_X3_clearText_k1 (z1 : XS) (S : XS) : f_X3_clearText_k1 z1 S = ((f_X2_length S), z1) := opq_eq _
noncomputable def f_X3_clearText (S : XS) : Int32 × XS := opq (f_X3_clearText_k1 (f_X2_empty S) S)
theorem e_X3_clearText (S : XS) : f_X3_clearText S = (f_X3_clearText_k1 (f_X2_empty S) S) := opq_eq _
set_option maxHeartbeats 4000000 in
set_option maxRecDepth 100000 in
theorem c_X3_clearText (l : Launch) (G : GG) (A : Nat → Nat) (S : XS)  : Mm l yX3_clearText wsX3_clearText ({ frames := 1, cells := 0, slots := 0, locals := 20 } : Room) G [.ref (A 42)] (wX G A S (rot S)) (f_X3_clearText S).1 (wX G A (f_X3_clearText S).2 (rot (f_X3_clearText S).2)) := by
  refine Mm.of (cc := cX3_clearText) (maxL := 2) (ret := (some .int)) (by decide) rfl (Nat.le_of_ble_eq_true rfl) ?_
  intro p e s m args below meth c A0 hA0 E hr hlocks hP hK hD hA hS ls hl
  have E : CallFix p m c cX3_clearText 2 s args wsX3_clearText RX3 := E
  have hx := E.1
  have hb := E.2.1
  have hml := E.2.2.1
  have hown := E.2.2.2.1
  have hts := E.2.2.2.2
  have hl : lv_has ls 2 [(0, .ref (A 42))] := hl
  have hinX3 : ∀ w ∈ u_ws RX3 TX3 6, w ∈ wsX3_clearText := fun _ h => List.mem_cons_of_mem _ (List.mem_append_left _ (List.mem_append_right _ h))
  refine lv_aload_n hx hb dX3_clearText_0 rfl (lv_at hl 0 rfl) ?_
  refine va_get (D := G.1) (ci := 3) (v := .ref (A 45)) (C := RX3) (T := TX3) (N := 6) hx hb hts hinX3 hown hK.1 hP 42 (wX_42 G A S (rot S)) rfl 5 (by decide) (hts (.fieldLink RX3 36 "WireLoops" "text" "LWireLoops$WireList;") (List.mem_of_getElem? (i := 1) rfl)) (fun _ h9 => h9) rfl dX3_clearText_1 ?_
  refine cpV (rest := []) (As := []) E (c_X2_length l G A S (rot S)) (cwV 0 hts gX3_clearText_X2_length rfl rfl rfl (by decide +kernel) ⟨Nat.le_of_ble_eq_true rfl, Nat.le_of_ble_eq_true rfl⟩) hK hP 45 (wX_45 G A S (rot S)) rfl rfl hl.1 rfl (Nat.le_of_ble_eq_true rfl) dX3_clearText_4 ⟨Nat.zero_le _, Nat.zero_le _⟩ ?_
  refine lv_istore_n (lv' := [(1, .int (f_X2_length S)), (0, .ref (A 42))]) hx hb dX3_clearText_7 rfl hl (by decide) rfl (fun ls hl => ?_)
  refine lv_aload_n hx hb dX3_clearText_8 rfl (lv_at hl 1 rfl) ?_
  refine va_get (D := G.1) (ci := 3) (v := .ref (A 45)) (C := RX3) (T := TX3) (N := 6) hx hb hts hinX3 hown hK.1 hP 42 (wX_42 G A S (rot S)) rfl 5 (by decide) (hts (.fieldLink RX3 36 "WireLoops" "text" "LWireLoops$WireList;") (List.mem_of_getElem? (i := 1) rfl)) (fun _ h9 => h9) rfl dX3_clearText_9 ?_
  refine czV (rest := []) (As := []) E (c_X2_empty l G A S (rot S)) (cwV 0 hts gX3_clearText_X2_empty rfl rfl rfl (by decide +kernel) ⟨Nat.le_of_ble_eq_true rfl, Nat.le_of_ble_eq_true rfl⟩) hK hP hD hS hA 45 (wX_45 G A S (rot S)) rfl rfl hl.1 rfl (Nat.le_of_ble_eq_true rfl) dX3_clearText_12 ⟨Nat.zero_le _, Nat.zero_le _⟩ (fun H locs hP hD hS => ?_)
  have hP : va_P G.1 vwCl (wX G A (f_X2_empty S) (rot (f_X2_empty S))) H := by rw [rot_X2_empty]; exact hP
  have hD : va_D A0 (wX G A (f_X2_empty S) (rot (f_X2_empty S))) := by rw [rot_X2_empty]; exact hD
  have hres1 : f_X3_clearText_k1 (f_X2_empty S) S = (f_X3_clearText S) := Eq.symm ((e_X3_clearText S))
  generalize hz1 : (f_X2_empty S) = z1 at hres1 hP hD ⊢
  refine lv_iload_n hx hb dX3_clearText_15 rfl (lv_at hl 0 rfl) ?_
  have hfin : ((f_X2_length S), z1) = (f_X3_clearText S) := Eq.trans (Eq.symm ((e_X3_clearText_k1 z1 S))) hres1
  exact endM hx hb hr hlocks rfl hP hD hS ⟨@congrArg (Int32 × XS) Int32 ((f_X2_length S), z1) (f_X3_clearText S) Prod.fst hfin, @congrArg (Int32 × XS) va_W ((f_X2_length S), z1) (f_X3_clearText S) (fun z => wX G A z.2 (rot z.2)) hfin⟩ dX3_clearText_16
noncomputable def f_X3_undo_k1 (z1 : XS) (S : XS) : Int32 × XS := opq ((f_X1_states z1), z1)
theorem e_X3_undo_k1 (z1 : XS) (S : XS) : f_X3_undo_k1 z1 S = ((f_X1_states z1), z1) := opq_eq _
noncomputable def f_X3_undo (S : XS) : Int32 × XS := opq (if (f_X1_states S) = 0 then ((-5), S) else (f_X3_undo_k1 (tkS S) S))
theorem e_X3_undo (S : XS) : f_X3_undo S = (if (f_X1_states S) = 0 then ((-5), S) else (f_X3_undo_k1 (tkS S) S)) := opq_eq _
set_option maxHeartbeats 4000000 in
set_option maxRecDepth 100000 in
theorem c_X3_undo (l : Launch) (G : GG) (A : Nat → Nat) (S : XS)  (q : Nat) (hq : S 7 0 1 = nI q) (hq4 : q ≤ 4) (hbs : ∀ b, b < 7 → S b 0 4 = 0 ∨ S b 0 4 = 1) : Mm l yX3_undo wsX3_undo ({ frames := 3, cells := 0, slots := 0, locals := 69 } : Room) G [.ref (A 42)] (wX G A S (rot S)) (f_X3_undo S).1 (wX G A (f_X3_undo S).2 (rot (f_X3_undo S).2)) := by
  refine Mm.of (cc := cX3_undo) (maxL := 1) (ret := (some .int)) (by decide) rfl (Nat.le_of_ble_eq_true rfl) ?_
  intro p e s m args below meth c A0 hA0 E hr hlocks hP hK hD hA hS ls hl
  have E : CallFix p m c cX3_undo 1 s args wsX3_undo RX3 := E
  have hx := E.1
  have hb := E.2.1
  have hml := E.2.2.1
  have hown := E.2.2.2.1
  have hts := E.2.2.2.2
  have hl : lv_has ls 1 [(0, .ref (A 42))] := hl
  have hinX3 : ∀ w ∈ u_ws RX3 TX3 6, w ∈ wsX3_undo := fun _ h => List.mem_cons_of_mem _ (List.mem_append_left _ (List.mem_append_left _ (List.mem_append_right _ h)))
  refine lv_aload_n hx hb dX3_undo_0 rfl (lv_at hl 0 rfl) ?_
  refine va_get (D := G.1) (ci := 3) (v := .ref (A 43)) (C := RX3) (T := TX3) (N := 6) hx hb hts hinX3 hown hK.1 hP 42 (wX_42 G A S (rot S)) rfl 4 (by decide) (hts (.fieldLink RX3 29 "WireLoops" "history" "LWireLoops$History;") (List.mem_of_getElem? (i := 1) rfl)) (fun _ h9 => h9) rfl dX3_undo_1 ?_
  refine cpV (rest := []) (As := []) E (c_X1_states l G A S (rot S)) (cwV 0 hts gX3_undo_X1_states rfl rfl rfl (by decide +kernel) ⟨Nat.le_of_ble_eq_true rfl, Nat.le_of_ble_eq_true rfl⟩) hK hP 43 (wX_43 G A S (rot S)) rfl rfl hl.1 rfl (Nat.le_of_ble_eq_true rfl) dX3_undo_4 ⟨Nat.zero_le _, Nat.zero_le _⟩ ?_
  refine lv_if_ne (tgt := 13) hx hb dX3_undo_7 (by decide) (fun c1 => ?_) (fun c1 => ?_)
  · skip
    refine lv_aload_n hx hb dX3_undo_13 rfl (lv_at hl 0 rfl) ?_
    refine va_get (D := G.1) (ci := 3) (v := .ref (A 43)) (C := RX3) (T := TX3) (N := 6) hx hb hts hinX3 hown hK.1 hP 42 (wX_42 G A S (rot S)) rfl 4 (by decide) (hts (.fieldLink RX3 29 "WireLoops" "history" "LWireLoops$History;") (List.mem_of_getElem? (i := 1) rfl)) (fun _ h9 => h9) rfl dX3_undo_14 ?_
    refine lv_aload_n hx hb dX3_undo_17 rfl (lv_at hl 0 rfl) ?_
    refine va_get (D := G.1) (ci := 3) (v := .ref (A (6 * 0))) (C := RX3) (T := TX3) (N := 6) hx hb hts hinX3 hown hK.1 hP 42 (wX_42 G A S (rot S)) rfl 0 (by decide) (hts (.fieldLink RX3 10 "WireLoops" "chip" "LWireLoops$Chip;") (List.mem_of_getElem? (i := 2) rfl)) (fun _ h9 => h9) rfl dX3_undo_18 ?_
    refine czV (rest := []) (As := [.ref (A (6 * 0))]) E (c_X1_takeLatest_v l G A S q hq (q1_of hq c1) hq4 hbs) (cwV 1 hts gX3_undo_X1_takeLatest rfl rfl rfl (by decide +kernel) ⟨Nat.le_of_ble_eq_true rfl, Nat.le_of_ble_eq_true rfl⟩) hK hP hD hS hA 43 (wX_43 G A S (rot S)) rfl rfl hl.1 rfl (Nat.le_of_ble_eq_true rfl) dX3_undo_21 ⟨Nat.zero_le _, Nat.zero_le _⟩ (fun H locs hP hD hS => ?_)
    have hres1 : f_X3_undo_k1 (tkS S) S = (f_X3_undo S) := Eq.symm (Eq.trans (e_X3_undo S) ((if_neg c1)))
    generalize hz1 : (tkS S) = z1 at hres1 hP hD ⊢
    refine lv_aload_n hx hb dX3_undo_24 rfl (lv_at hl 0 rfl) ?_
    refine va_get (D := G.1) (ci := 3) (v := .ref (A 43)) (C := RX3) (T := TX3) (N := 6) hx hb hts hinX3 hown hK.1 hP 42 (wX_42 G A z1 (rot z1)) rfl 4 (by decide) (hts (.fieldLink RX3 29 "WireLoops" "history" "LWireLoops$History;") (List.mem_of_getElem? (i := 1) rfl)) (fun _ h9 => h9) rfl dX3_undo_25 ?_
    refine cpV (rest := []) (As := []) E (c_X1_states l G A z1 (rot z1)) (cwV 0 hts gX3_undo_X1_states rfl rfl rfl (by decide +kernel) ⟨Nat.le_of_ble_eq_true rfl, Nat.le_of_ble_eq_true rfl⟩) hK hP 43 (wX_43 G A z1 (rot z1)) rfl rfl hl.1 rfl (Nat.le_of_ble_eq_true rfl) dX3_undo_28 ⟨Nat.zero_le _, Nat.zero_le _⟩ ?_
    have hfin : ((f_X1_states z1), z1) = (f_X3_undo S) := Eq.trans (Eq.symm ((e_X3_undo_k1 z1 S))) hres1
    exact endM hx hb hr hlocks rfl hP hD hS ⟨@congrArg (Int32 × XS) Int32 ((f_X1_states z1), z1) (f_X3_undo S) Prod.fst hfin, @congrArg (Int32 × XS) va_W ((f_X1_states z1), z1) (f_X3_undo S) (fun z => wX G A z.2 (rot z.2)) hfin⟩ dX3_undo_31
  · skip
    refine lv_bipush (v := (-5)) hx hb dX3_undo_10 (by decide) ?_
    have hfin : ((-5), S) = (f_X3_undo S) := Eq.symm (Eq.trans (e_X3_undo S) ((if_pos c1)))
    exact endM hx hb hr hlocks rfl hP hD hS ⟨@congrArg (Int32 × XS) Int32 ((-5), S) (f_X3_undo S) Prod.fst hfin, @congrArg (Int32 × XS) va_W ((-5), S) (f_X3_undo S) (fun z => wX G A z.2 (rot z.2)) hfin⟩ dX3_undo_12
noncomputable def f_X3_keep_k1 (z1 : XS) (S : XS) : Int32 × XS := opq ((f_X0_wires (su z1 7 0 (upd (z1 7 0) 0 1))), (su z1 7 0 (upd (z1 7 0) 0 1)))
theorem e_X3_keep_k1 (z1 : XS) (S : XS) : f_X3_keep_k1 z1 S = ((f_X0_wires (su z1 7 0 (upd (z1 7 0) 0 1))), (su z1 7 0 (upd (z1 7 0) 0 1))) := opq_eq _
noncomputable def f_X3_keep (S : XS) : Int32 × XS := opq (f_X3_keep_k1 (f_X0_copyFrom_2_0 S) S)
theorem e_X3_keep (S : XS) : f_X3_keep S = (f_X3_keep_k1 (f_X0_copyFrom_2_0 S) S) := opq_eq _
set_option maxHeartbeats 4000000 in
set_option maxRecDepth 100000 in
theorem c_X3_keep (l : Launch) (G : GG) (A : Nat → Nat) (S : XS)  (q : Nat) (hq : S 7 0 1 = nI q) (hq4 : q ≤ 4) (hbs : ∀ b, b < 7 → S b 0 4 = 0 ∨ S b 0 4 = 1) : Mm l yX3_keep wsX3_keep ({ frames := 3, cells := 0, slots := 0, locals := 63 } : Room) G [.ref (A 42)] (wX G A S (rot S)) (f_X3_keep S).1 (wX G A (f_X3_keep S).2 (rot (f_X3_keep S).2)) := by
  refine Mm.of (cc := cX3_keep) (maxL := 1) (ret := (some .int)) (by decide) rfl (Nat.le_of_ble_eq_true rfl) ?_
  intro p e s m args below meth c A0 hA0 E hr hlocks hP hK hD hA hS ls hl
  have E : CallFix p m c cX3_keep 1 s args wsX3_keep RX3 := E
  have hx := E.1
  have hb := E.2.1
  have hml := E.2.2.1
  have hown := E.2.2.2.1
  have hts := E.2.2.2.2
  have hl : lv_has ls 1 [(0, .ref (A 42))] := hl
  have hinX3 : ∀ w ∈ u_ws RX3 TX3 6, w ∈ wsX3_keep := fun _ h => List.mem_cons_of_mem _ (List.mem_append_left _ (List.mem_append_right _ h))
  refine lv_aload_n hx hb dX3_keep_0 rfl (lv_at hl 0 rfl) ?_
  refine va_get (D := G.1) (ci := 3) (v := .ref (A (6 * 2))) (C := RX3) (T := TX3) (N := 6) hx hb hts hinX3 hown hK.1 hP 42 (wX_42 G A S (rot S)) rfl 2 (by decide) (hts (.fieldLink RX3 19 "WireLoops" "snapshot" "LWireLoops$Chip;") (List.mem_of_getElem? (i := 1) rfl)) (fun _ h9 => h9) rfl dX3_keep_1 ?_
  refine lv_aload_n hx hb dX3_keep_4 rfl (lv_at hl 0 rfl) ?_
  refine va_get (D := G.1) (ci := 3) (v := .ref (A (6 * 0))) (C := RX3) (T := TX3) (N := 6) hx hb hts hinX3 hown hK.1 hP 42 (wX_42 G A S (rot S)) rfl 0 (by decide) (hts (.fieldLink RX3 10 "WireLoops" "chip" "LWireLoops$Chip;") (List.mem_of_getElem? (i := 2) rfl)) (fun _ h9 => h9) rfl dX3_keep_5 ?_
  refine czV (rest := []) (As := [.ref (A (6 * 0))]) E (c_X0_copyFrom_2_0 l G A S (rot S) (hbs 0 (by decide))) (cwV 1 hts gX3_keep_X0_copyFrom rfl rfl rfl (by decide +kernel) ⟨Nat.le_of_ble_eq_true rfl, Nat.le_of_ble_eq_true rfl⟩) hK hP hD hS hA (6 * 2) (wX_o G A S (rot S) 2 (by decide)) rfl rfl hl.1 rfl (Nat.le_of_ble_eq_true rfl) dX3_keep_8 ⟨Nat.zero_le _, Nat.zero_le _⟩ (fun H locs hP hD hS => ?_)
  have hP : va_P G.1 vwCl (wX G A (f_X0_copyFrom_2_0 S) (rot (f_X0_copyFrom_2_0 S))) H := by rw [rot_X0_copyFrom_2_0]; exact hP
  have hD : va_D A0 (wX G A (f_X0_copyFrom_2_0 S) (rot (f_X0_copyFrom_2_0 S))) := by rw [rot_X0_copyFrom_2_0]; exact hD
  have hres1 : f_X3_keep_k1 (f_X0_copyFrom_2_0 S) S = (f_X3_keep S) := Eq.symm ((e_X3_keep S))
  generalize hz1 : (f_X0_copyFrom_2_0 S) = z1 at hres1 hP hD ⊢
  refine lv_aload_n hx hb dX3_keep_11 rfl (lv_at hl 0 rfl) ?_
  refine lv_iconst (v := 1) hx hb dX3_keep_12 (by decide) ?_
  refine va_put (D := G.1) (ci := 3) (v := .int 1) (ty := .boolean) (C := RX3) (T := TX3) (N := 6) hx hb hts hinX3 tyX3 tyX3_ok nmX3 hown hK.1 hP hD hS 42 (wX_42 G A z1 (rot z1)) rfl 3 (by decide) (hts (.fieldLink RX3 22 "WireLoops" "hasSnapshot" "Z") (List.mem_of_getElem? (i := 3) rfl)) (fun _ h9 => h9) rfl (by decide +kernel) rfl rfl (Nat.le_of_ble_eq_true rfl) dX3_keep_13 (fun H locs hP hD hS => ?_)
  rw [wX_s42 G A z1 (rot z1) _] at hP hD
  have hP : va_P G.1 vwCl (wX G A (su z1 7 0 (upd (z1 7 0) 0 1)) (rot (su z1 7 0 (upd (z1 7 0) 0 1)))) H := hP
  have hD : va_D A0 (wX G A (su z1 7 0 (upd (z1 7 0) 0 1)) (rot (su z1 7 0 (upd (z1 7 0) 0 1)))) := hD
  refine lv_aload_n hx hb dX3_keep_16 rfl (lv_at hl 0 rfl) ?_
  refine va_get (D := G.1) (ci := 3) (v := .ref (A (6 * 0))) (C := RX3) (T := TX3) (N := 6) hx hb hts hinX3 hown hK.1 hP 42 (wX_42 G A (su z1 7 0 (upd (z1 7 0) 0 1)) (rot (su z1 7 0 (upd (z1 7 0) 0 1)))) rfl 0 (by decide) (hts (.fieldLink RX3 10 "WireLoops" "chip" "LWireLoops$Chip;") (List.mem_of_getElem? (i := 2) rfl)) (fun _ h9 => h9) rfl dX3_keep_17 ?_
  refine cpV (rest := []) (As := []) E (c_X0_wires l G A (su z1 7 0 (upd (z1 7 0) 0 1)) (rot (su z1 7 0 (upd (z1 7 0) 0 1)))) (cwV 0 hts gX3_keep_X0_wires rfl rfl rfl (by decide +kernel) ⟨Nat.le_of_ble_eq_true rfl, Nat.le_of_ble_eq_true rfl⟩) hK hP (6 * 0) (wX_o G A (su z1 7 0 (upd (z1 7 0) 0 1)) (rot (su z1 7 0 (upd (z1 7 0) 0 1))) 0 (by decide)) rfl rfl hl.1 rfl (Nat.le_of_ble_eq_true rfl) dX3_keep_20 ⟨Nat.zero_le _, Nat.zero_le _⟩ ?_
  have hfin : ((f_X0_wires (su z1 7 0 (upd (z1 7 0) 0 1))), (su z1 7 0 (upd (z1 7 0) 0 1))) = (f_X3_keep S) := Eq.trans (Eq.symm ((e_X3_keep_k1 z1 S))) hres1
  exact endM hx hb hr hlocks rfl hP hD hS ⟨@congrArg (Int32 × XS) Int32 ((f_X0_wires (su z1 7 0 (upd (z1 7 0) 0 1))), (su z1 7 0 (upd (z1 7 0) 0 1))) (f_X3_keep S) Prod.fst hfin, @congrArg (Int32 × XS) va_W ((f_X0_wires (su z1 7 0 (upd (z1 7 0) 0 1))), (su z1 7 0 (upd (z1 7 0) 0 1))) (f_X3_keep S) (fun z => wX G A z.2 (rot z.2)) hfin⟩ dX3_keep_23
noncomputable def f_X3_restore_k2 (z2 : XS) (z1 : XS) (S : XS) : Int32 × XS := opq ((f_X0_wires z2), z2)
theorem e_X3_restore_k2 (z2 : XS) (z1 : XS) (S : XS) : f_X3_restore_k2 z2 z1 S = ((f_X0_wires z2), z2) := opq_eq _
noncomputable def f_X3_restore_k1 (z1 : XS) (S : XS) : Int32 × XS := opq (f_X3_restore_k2 (f_X0_copyFrom_0_2 z1) z1 S)
theorem e_X3_restore_k1 (z1 : XS) (S : XS) : f_X3_restore_k1 z1 S = (f_X3_restore_k2 (f_X0_copyFrom_0_2 z1) z1 S) := opq_eq _
noncomputable def f_X3_restore (S : XS) : Int32 × XS := opq (if (S 7 0 0) = 0 then ((-5), S) else (f_X3_restore_k1 (recS S 0) S))
theorem e_X3_restore (S : XS) : f_X3_restore S = (if (S 7 0 0) = 0 then ((-5), S) else (f_X3_restore_k1 (recS S 0) S)) := opq_eq _
set_option maxHeartbeats 4000000 in
set_option maxRecDepth 100000 in
theorem c_X3_restore (l : Launch) (G : GG) (A : Nat → Nat) (S : XS)  (q : Nat) (hq : S 7 0 1 = nI q) (hq4 : q ≤ 4) (hbs : ∀ b, b < 7 → S b 0 4 = 0 ∨ S b 0 4 = 1) : Mm l yX3_restore wsX3_restore ({ frames := 3, cells := 0, slots := 0, locals := 69 } : Room) G [.ref (A 42)] (wX G A S (rot S)) (f_X3_restore S).1 (wX G A (f_X3_restore S).2 (rot (f_X3_restore S).2)) := by
  refine Mm.of (cc := cX3_restore) (maxL := 1) (ret := (some .int)) (by decide) rfl (Nat.le_of_ble_eq_true rfl) ?_
  intro p e s m args below meth c A0 hA0 E hr hlocks hP hK hD hA hS ls hl
  have E : CallFix p m c cX3_restore 1 s args wsX3_restore RX3 := E
  have hx := E.1
  have hb := E.2.1
  have hml := E.2.2.1
  have hown := E.2.2.2.1
  have hts := E.2.2.2.2
  have hl : lv_has ls 1 [(0, .ref (A 42))] := hl
  have hinX3 : ∀ w ∈ u_ws RX3 TX3 6, w ∈ wsX3_restore := fun _ h => List.mem_cons_of_mem _ (List.mem_append_left _ (List.mem_append_left _ (List.mem_append_right _ h)))
  refine lv_aload_n hx hb dX3_restore_0 rfl (lv_at hl 0 rfl) ?_
  refine va_get (D := G.1) (ci := 3) (v := .int (S 7 0 0)) (C := RX3) (T := TX3) (N := 6) hx hb hts hinX3 hown hK.1 hP 42 (wX_42 G A S (rot S)) rfl 3 (by decide) (hts (.fieldLink RX3 22 "WireLoops" "hasSnapshot" "Z") (List.mem_of_getElem? (i := 1) rfl)) (fun _ h9 => h9) rfl dX3_restore_1 ?_
  refine lv_if_ne (tgt := 10) hx hb dX3_restore_4 (by decide) (fun c1 => ?_) (fun c1 => ?_)
  · skip
    refine lv_aload_n hx hb dX3_restore_10 rfl (lv_at hl 0 rfl) ?_
    refine va_get (D := G.1) (ci := 3) (v := .ref (A 43)) (C := RX3) (T := TX3) (N := 6) hx hb hts hinX3 hown hK.1 hP 42 (wX_42 G A S (rot S)) rfl 4 (by decide) (hts (.fieldLink RX3 29 "WireLoops" "history" "LWireLoops$History;") (List.mem_of_getElem? (i := 2) rfl)) (fun _ h9 => h9) rfl dX3_restore_11 ?_
    refine lv_aload_n hx hb dX3_restore_14 rfl (lv_at hl 0 rfl) ?_
    refine va_get (D := G.1) (ci := 3) (v := .ref (A (6 * 0))) (C := RX3) (T := TX3) (N := 6) hx hb hts hinX3 hown hK.1 hP 42 (wX_42 G A S (rot S)) rfl 0 (by decide) (hts (.fieldLink RX3 10 "WireLoops" "chip" "LWireLoops$Chip;") (List.mem_of_getElem? (i := 3) rfl)) (fun _ h9 => h9) rfl dX3_restore_15 ?_
    refine czV (rest := []) (As := [.ref (A (6 * 0))]) E (c_X1_record_0 l G A S q hq hq4 (hbs 0 (by decide))) (cwV 1 hts gX3_restore_X1_record rfl rfl rfl (by decide +kernel) ⟨Nat.le_of_ble_eq_true rfl, Nat.le_of_ble_eq_true rfl⟩) hK hP hD hS hA 43 (wX_43 G A S (rot S)) rfl rfl hl.1 rfl (Nat.le_of_ble_eq_true rfl) dX3_restore_18 ⟨Nat.zero_le _, Nat.zero_le _⟩ (fun H locs hP hD hS => ?_)
    have hres1 : f_X3_restore_k1 (recS S 0) S = (f_X3_restore S) := Eq.symm (Eq.trans (e_X3_restore S) ((if_neg c1)))
    generalize hz1 : (recS S 0) = z1 at hres1 hP hD ⊢
    refine lv_aload_n hx hb dX3_restore_21 rfl (lv_at hl 0 rfl) ?_
    refine va_get (D := G.1) (ci := 3) (v := .ref (A (6 * 0))) (C := RX3) (T := TX3) (N := 6) hx hb hts hinX3 hown hK.1 hP 42 (wX_42 G A z1 (rot z1)) rfl 0 (by decide) (hts (.fieldLink RX3 10 "WireLoops" "chip" "LWireLoops$Chip;") (List.mem_of_getElem? (i := 3) rfl)) (fun _ h9 => h9) rfl dX3_restore_22 ?_
    refine lv_aload_n hx hb dX3_restore_25 rfl (lv_at hl 0 rfl) ?_
    refine va_get (D := G.1) (ci := 3) (v := .ref (A (6 * 2))) (C := RX3) (T := TX3) (N := 6) hx hb hts hinX3 hown hK.1 hP 42 (wX_42 G A z1 (rot z1)) rfl 2 (by decide) (hts (.fieldLink RX3 19 "WireLoops" "snapshot" "LWireLoops$Chip;") (List.mem_of_getElem? (i := 4) rfl)) (fun _ h9 => h9) rfl dX3_restore_26 ?_
    refine czV (rest := []) (As := [.ref (A (6 * 2))]) E (c_X0_copyFrom_0_2 l G A z1 (rot z1) (by rw [← hz1, recS_lo _ _ 2 (by decide)]; exact hbs 2 (by decide))) (cwV 1 hts gX3_restore_X0_copyFrom rfl rfl rfl (by decide +kernel) ⟨Nat.le_of_ble_eq_true rfl, Nat.le_of_ble_eq_true rfl⟩) hK hP hD hS hA (6 * 0) (wX_o G A z1 (rot z1) 0 (by decide)) rfl rfl hl.1 rfl (Nat.le_of_ble_eq_true rfl) dX3_restore_29 ⟨Nat.zero_le _, Nat.zero_le _⟩ (fun H locs hP hD hS => ?_)
    have hP : va_P G.1 vwCl (wX G A (f_X0_copyFrom_0_2 z1) (rot (f_X0_copyFrom_0_2 z1))) H := by rw [rot_X0_copyFrom_0_2]; exact hP
    have hD : va_D A0 (wX G A (f_X0_copyFrom_0_2 z1) (rot (f_X0_copyFrom_0_2 z1))) := by rw [rot_X0_copyFrom_0_2]; exact hD
    have hres2 : f_X3_restore_k2 (f_X0_copyFrom_0_2 z1) z1 S = (f_X3_restore S) := Eq.trans (Eq.symm ((e_X3_restore_k1 z1 S))) hres1
    generalize hz2 : (f_X0_copyFrom_0_2 z1) = z2 at hres2 hP hD ⊢
    refine lv_aload_n hx hb dX3_restore_32 rfl (lv_at hl 0 rfl) ?_
    refine va_get (D := G.1) (ci := 3) (v := .ref (A (6 * 0))) (C := RX3) (T := TX3) (N := 6) hx hb hts hinX3 hown hK.1 hP 42 (wX_42 G A z2 (rot z2)) rfl 0 (by decide) (hts (.fieldLink RX3 10 "WireLoops" "chip" "LWireLoops$Chip;") (List.mem_of_getElem? (i := 3) rfl)) (fun _ h9 => h9) rfl dX3_restore_33 ?_
    refine cpV (rest := []) (As := []) E (c_X0_wires l G A z2 (rot z2)) (cwV 0 hts gX3_restore_X0_wires rfl rfl rfl (by decide +kernel) ⟨Nat.le_of_ble_eq_true rfl, Nat.le_of_ble_eq_true rfl⟩) hK hP (6 * 0) (wX_o G A z2 (rot z2) 0 (by decide)) rfl rfl hl.1 rfl (Nat.le_of_ble_eq_true rfl) dX3_restore_36 ⟨Nat.zero_le _, Nat.zero_le _⟩ ?_
    have hfin : ((f_X0_wires z2), z2) = (f_X3_restore S) := Eq.trans (Eq.symm ((e_X3_restore_k2 z2 z1 S))) hres2
    exact endM hx hb hr hlocks rfl hP hD hS ⟨@congrArg (Int32 × XS) Int32 ((f_X0_wires z2), z2) (f_X3_restore S) Prod.fst hfin, @congrArg (Int32 × XS) va_W ((f_X0_wires z2), z2) (f_X3_restore S) (fun z => wX G A z.2 (rot z.2)) hfin⟩ dX3_restore_39
  · skip
    refine lv_bipush (v := (-5)) hx hb dX3_restore_7 (by decide) ?_
    have hfin : ((-5), S) = (f_X3_restore S) := Eq.symm (Eq.trans (e_X3_restore S) ((if_pos c1)))
    exact endM hx hb hr hlocks rfl hP hD hS ⟨@congrArg (Int32 × XS) Int32 ((-5), S) (f_X3_restore S) Prod.fst hfin, @congrArg (Int32 × XS) va_W ((-5), S) (f_X3_restore S) (fun z => wX G A z.2 (rot z.2)) hfin⟩ dX3_restore_9
noncomputable def f_X3_layAll_k4 (z4 : XS) (z1 : Int32 × XS) (z2 : XS) (z3 : Int32 × XS) (S : XS) : Int32 × XS := opq ((f_X0_wires z4), z4)
theorem e_X3_layAll_k4 (z4 : XS) (z1 : Int32 × XS) (z2 : XS) (z3 : Int32 × XS) (S : XS) : f_X3_layAll_k4 z4 z1 z2 z3 S = ((f_X0_wires z4), z4) := opq_eq _
noncomputable def f_X3_layAll_k5 (z5 : XS) (z1 : Int32 × XS) (z2 : XS) (z3 : Int32 × XS) (S : XS) : Int32 × XS := opq (z3.1, z5)
theorem e_X3_layAll_k5 (z5 : XS) (z1 : Int32 × XS) (z2 : XS) (z3 : Int32 × XS) (S : XS) : f_X3_layAll_k5 z5 z1 z2 z3 S = (z3.1, z5) := opq_eq _
noncomputable def f_X3_layAll_k3 (z3 : Int32 × XS) (z1 : Int32 × XS) (z2 : XS) (S : XS) : Int32 × XS := opq (if z3.1 = 0 then (f_X3_layAll_k4 (recS z3.2 1) z1 z2 z3 S) else (f_X3_layAll_k5 (f_X0_copyFrom_0_1 z3.2) z1 z2 z3 S))
theorem e_X3_layAll_k3 (z3 : Int32 × XS) (z1 : Int32 × XS) (z2 : XS) (S : XS) : f_X3_layAll_k3 z3 z1 z2 S = (if z3.1 = 0 then (f_X3_layAll_k4 (recS z3.2 1) z1 z2 z3 S) else (f_X3_layAll_k5 (f_X0_copyFrom_0_1 z3.2) z1 z2 z3 S)) := opq_eq _
noncomputable def f_X3_layAll_k2 (z2 : XS) (z1 : Int32 × XS) (S : XS) : Int32 × XS := opq (f_X3_layAll_k3 (f_X0_addListed z2) z1 z2 S)
theorem e_X3_layAll_k2 (z2 : XS) (z1 : Int32 × XS) (S : XS) : f_X3_layAll_k2 z2 z1 S = (f_X3_layAll_k3 (f_X0_addListed z2) z1 z2 S) := opq_eq _
noncomputable def f_X3_layAll_k1 (z1 : Int32 × XS) (S : XS) : Int32 × XS := opq (if z1.1 = (-1) then (f_X3_layAll_k2 (f_X0_copyFrom_1_0 z1.2) z1 S) else (((-100) - z1.1), z1.2))
theorem e_X3_layAll_k1 (z1 : Int32 × XS) (S : XS) : f_X3_layAll_k1 z1 S = (if z1.1 = (-1) then (f_X3_layAll_k2 (f_X0_copyFrom_1_0 z1.2) z1 S) else (((-100) - z1.1), z1.2)) := opq_eq _
noncomputable def f_X3_layAll (S : XS) : Int32 × XS := opq (f_X3_layAll_k1 (f_X2_read S) S)
theorem e_X3_layAll (S : XS) : f_X3_layAll S = (f_X3_layAll_k1 (f_X2_read S) S) := opq_eq _
set_option maxHeartbeats 4000000 in
set_option maxRecDepth 100000 in
theorem c_X3_layAll (l : Launch) (G : GG) (A : Nat → Nat) (S : XS)  (q : Nat) (hq : S 7 0 1 = nI q) (hq4 : q ≤ 4) (hbs : ∀ b, b < 7 → S b 0 4 = 0 ∨ S b 0 4 = 1) : Mm l yX3_layAll wsX3_layAll ({ frames := 6, cells := 0, slots := 0, locals := 132 } : Room) G [.ref (A 42)] (wX G A S (rot S)) (f_X3_layAll S).1 (wX G A (f_X3_layAll S).2 (rot (f_X3_layAll S).2)) := by
  refine Mm.of (cc := cX3_layAll) (maxL := 3) (ret := (some .int)) (by decide) rfl (Nat.le_of_ble_eq_true rfl) ?_
  intro p e s m args below meth c A0 hA0 E hr hlocks hP hK hD hA hS ls hl
  have E : CallFix p m c cX3_layAll 3 s args wsX3_layAll RX3 := E
  have hx := E.1
  have hb := E.2.1
  have hml := E.2.2.1
  have hown := E.2.2.2.1
  have hts := E.2.2.2.2
  have hl : lv_has ls 3 [(0, .ref (A 42))] := hl
  have hinX3 : ∀ w ∈ u_ws RX3 TX3 6, w ∈ wsX3_layAll := fun _ h => List.mem_cons_of_mem _ (List.mem_append_left _ (List.mem_append_left _ (List.mem_append_left _ (List.mem_append_right _ h))))
  refine lv_aload_n hx hb dX3_layAll_0 rfl (lv_at hl 0 rfl) ?_
  refine va_get (D := G.1) (ci := 3) (v := .ref (A 45)) (C := RX3) (T := TX3) (N := 6) hx hb hts hinX3 hown hK.1 hP 42 (wX_42 G A S (rot S)) rfl 5 (by decide) (hts (.fieldLink RX3 36 "WireLoops" "text" "LWireLoops$WireList;") (List.mem_of_getElem? (i := 1) rfl)) (fun _ h9 => h9) rfl dX3_layAll_1 ?_
  refine cmV (rest := []) (As := []) E (c_X2_read l G A S (rot S)) (cwV 0 hts gX3_layAll_X2_read rfl rfl rfl (by decide +kernel) ⟨Nat.le_of_ble_eq_true rfl, Nat.le_of_ble_eq_true rfl⟩) hK hP hD hS hA 45 (wX_45 G A S (rot S)) rfl rfl hl.1 rfl (Nat.le_of_ble_eq_true rfl) dX3_layAll_4 ⟨Nat.zero_le _, Nat.zero_le _⟩ (fun H locs hP hD hS => ?_)
  have hP : va_P G.1 vwCl (wX G A (f_X2_read S).2 (rot (f_X2_read S).2)) H := by rw [rot_X2_read]; exact hP
  have hD : va_D A0 (wX G A (f_X2_read S).2 (rot (f_X2_read S).2)) := by rw [rot_X2_read]; exact hD
  have hres1 : f_X3_layAll_k1 (f_X2_read S) S = (f_X3_layAll S) := Eq.symm ((e_X3_layAll S))
  generalize hz1 : (f_X2_read S) = z1 at hres1 hP hD ⊢
  have hqz : z1.2 7 0 1 = nI q := by rw [← hz1, l1_read]; exact hq
  have hbz : z1.2 0 0 4 = 0 ∨ z1.2 0 0 4 = 1 := by rw [← hz1, lo_read S (i := 0) (by decide)]; exact hbs 0 (by decide)
  obtain ⟨t, ht20, htz⟩ : ∃ t : Nat, t ≤ 20 ∧ z1.2 7 0 4 = nI t := by rw [← hz1]; exact t_read S
  refine lv_istore_n (lv' := [(1, .int z1.1), (0, .ref (A 42))]) hx hb dX3_layAll_7 rfl hl (by decide) rfl (fun ls hl => ?_)
  refine lv_iload_n hx hb dX3_layAll_8 rfl (lv_at hl 0 rfl) ?_
  refine lv_iconst (v := (-1)) hx hb dX3_layAll_9 (by decide) ?_
  refine lv_icmp_eq (tgt := 18) hx hb dX3_layAll_10 (by decide) (fun c1 => ?_) (fun c1 => ?_)
  · skip
    refine lv_aload_n hx hb dX3_layAll_18 rfl (lv_at hl 1 rfl) ?_
    refine va_get (D := G.1) (ci := 3) (v := .ref (A (6 * 1))) (C := RX3) (T := TX3) (N := 6) hx hb hts hinX3 hown hK.1 hP 42 (wX_42 G A z1.2 (rot z1.2)) rfl 1 (by decide) (hts (.fieldLink RX3 16 "WireLoops" "beforeList" "LWireLoops$Chip;") (List.mem_of_getElem? (i := 2) rfl)) (fun _ h9 => h9) rfl dX3_layAll_19 ?_
    refine lv_aload_n hx hb dX3_layAll_22 rfl (lv_at hl 1 rfl) ?_
    refine va_get (D := G.1) (ci := 3) (v := .ref (A (6 * 0))) (C := RX3) (T := TX3) (N := 6) hx hb hts hinX3 hown hK.1 hP 42 (wX_42 G A z1.2 (rot z1.2)) rfl 0 (by decide) (hts (.fieldLink RX3 10 "WireLoops" "chip" "LWireLoops$Chip;") (List.mem_of_getElem? (i := 3) rfl)) (fun _ h9 => h9) rfl dX3_layAll_23 ?_
    refine czV (rest := []) (As := [.ref (A (6 * 0))]) E (c_X0_copyFrom_1_0 l G A z1.2 (rot z1.2) hbz) (cwV 1 hts gX3_layAll_X0_copyFrom rfl rfl rfl (by decide +kernel) ⟨Nat.le_of_ble_eq_true rfl, Nat.le_of_ble_eq_true rfl⟩) hK hP hD hS hA (6 * 1) (wX_o G A z1.2 (rot z1.2) 1 (by decide)) rfl rfl hl.1 rfl (Nat.le_of_ble_eq_true rfl) dX3_layAll_26 ⟨Nat.zero_le _, Nat.zero_le _⟩ (fun H locs hP hD hS => ?_)
    have hP : va_P G.1 vwCl (wX G A (f_X0_copyFrom_1_0 z1.2) (rot (f_X0_copyFrom_1_0 z1.2))) H := by rw [rot_X0_copyFrom_1_0]; exact hP
    have hD : va_D A0 (wX G A (f_X0_copyFrom_1_0 z1.2) (rot (f_X0_copyFrom_1_0 z1.2))) := by rw [rot_X0_copyFrom_1_0]; exact hD
    have hres2 : f_X3_layAll_k2 (f_X0_copyFrom_1_0 z1.2) z1 S = (f_X3_layAll S) := Eq.trans (Eq.symm (Eq.trans (e_X3_layAll_k1 z1 S) ((if_pos c1)))) hres1
    generalize hz2 : (f_X0_copyFrom_1_0 z1.2) = z2 at hres2 hP hD ⊢
    refine lv_aload_n hx hb dX3_layAll_29 rfl (lv_at hl 1 rfl) ?_
    refine va_get (D := G.1) (ci := 3) (v := .ref (A (6 * 0))) (C := RX3) (T := TX3) (N := 6) hx hb hts hinX3 hown hK.1 hP 42 (wX_42 G A z2 (rot z2)) rfl 0 (by decide) (hts (.fieldLink RX3 10 "WireLoops" "chip" "LWireLoops$Chip;") (List.mem_of_getElem? (i := 3) rfl)) (fun _ h9 => h9) rfl dX3_layAll_30 ?_
    refine lv_aload_n hx hb dX3_layAll_33 rfl (lv_at hl 1 rfl) ?_
    refine va_get (D := G.1) (ci := 3) (v := .ref (A 45)) (C := RX3) (T := TX3) (N := 6) hx hb hts hinX3 hown hK.1 hP 42 (wX_42 G A z2 (rot z2)) rfl 5 (by decide) (hts (.fieldLink RX3 36 "WireLoops" "text" "LWireLoops$WireList;") (List.mem_of_getElem? (i := 1) rfl)) (fun _ h9 => h9) rfl dX3_layAll_34 ?_
    refine cmV (rest := []) (As := [.ref (A 45)]) E (c_X0_addListed l G A z2 (rot z2) t (by rw [← hz2]; exact htz) ht20) (cwV 1 hts gX3_layAll_X0_addListed rfl rfl rfl (by decide +kernel) ⟨Nat.le_of_ble_eq_true rfl, Nat.le_of_ble_eq_true rfl⟩) hK hP hD hS hA (6 * 0) (wX_o G A z2 (rot z2) 0 (by decide)) rfl rfl hl.1 rfl (Nat.le_of_ble_eq_true rfl) dX3_layAll_37 ⟨Nat.zero_le _, Nat.zero_le _⟩ (fun H locs hP hD hS => ?_)
    have hP : va_P G.1 vwCl (wX G A (f_X0_addListed z2).2 (rot (f_X0_addListed z2).2)) H := by rw [rot_X0_addListed]; exact hP
    have hD : va_D A0 (wX G A (f_X0_addListed z2).2 (rot (f_X0_addListed z2).2)) := by rw [rot_X0_addListed]; exact hD
    have hres3 : f_X3_layAll_k3 (f_X0_addListed z2) z1 z2 S = (f_X3_layAll S) := Eq.trans (Eq.symm ((e_X3_layAll_k2 z2 z1 S))) hres2
    generalize hz3 : (f_X0_addListed z2) = z3 at hres3 hP hD ⊢
    refine lv_istore_n (lv' := [(2, .int z3.1), (1, .int z1.1), (0, .ref (A 42))]) hx hb dX3_layAll_40 rfl hl (by decide) rfl (fun ls hl => ?_)
    refine lv_iload_n hx hb dX3_layAll_41 rfl (lv_at hl 0 rfl) ?_
    refine lv_if_eq (tgt := 58) hx hb dX3_layAll_42 (by decide) (fun c2 => ?_) (fun c2 => ?_)
    · skip
      refine lv_aload_n hx hb dX3_layAll_58 rfl (lv_at hl 2 rfl) ?_
      refine va_get (D := G.1) (ci := 3) (v := .ref (A 43)) (C := RX3) (T := TX3) (N := 6) hx hb hts hinX3 hown hK.1 hP 42 (wX_42 G A z3.2 (rot z3.2)) rfl 4 (by decide) (hts (.fieldLink RX3 29 "WireLoops" "history" "LWireLoops$History;") (List.mem_of_getElem? (i := 4) rfl)) (fun _ h9 => h9) rfl dX3_layAll_59 ?_
      refine lv_aload_n hx hb dX3_layAll_62 rfl (lv_at hl 2 rfl) ?_
      refine va_get (D := G.1) (ci := 3) (v := .ref (A (6 * 1))) (C := RX3) (T := TX3) (N := 6) hx hb hts hinX3 hown hK.1 hP 42 (wX_42 G A z3.2 (rot z3.2)) rfl 1 (by decide) (hts (.fieldLink RX3 16 "WireLoops" "beforeList" "LWireLoops$Chip;") (List.mem_of_getElem? (i := 2) rfl)) (fun _ h9 => h9) rfl dX3_layAll_63 ?_
      refine czV (rest := []) (As := [.ref (A (6 * 1))]) E (c_X1_record_1 l G A z3.2 q (by rw [← hz3, l7_addListed, ← hz2]; exact hqz) hq4 (by rw [← hz3, c1_addListed, ← hz2]; exact hbz)) (cwV 1 hts gX3_layAll_X1_record rfl rfl rfl (by decide +kernel) ⟨Nat.le_of_ble_eq_true rfl, Nat.le_of_ble_eq_true rfl⟩) hK hP hD hS hA 43 (wX_43 G A z3.2 (rot z3.2)) rfl rfl hl.1 rfl (Nat.le_of_ble_eq_true rfl) dX3_layAll_66 ⟨Nat.zero_le _, Nat.zero_le _⟩ (fun H locs hP hD hS => ?_)
      have hres4 : f_X3_layAll_k4 (recS z3.2 1) z1 z2 z3 S = (f_X3_layAll S) := Eq.trans (Eq.symm (Eq.trans (e_X3_layAll_k3 z3 z1 z2 S) ((if_pos c2)))) hres3
      generalize hz4 : (recS z3.2 1) = z4 at hres4 hP hD ⊢
      refine lv_aload_n hx hb dX3_layAll_69 rfl (lv_at hl 2 rfl) ?_
      refine va_get (D := G.1) (ci := 3) (v := .ref (A (6 * 0))) (C := RX3) (T := TX3) (N := 6) hx hb hts hinX3 hown hK.1 hP 42 (wX_42 G A z4 (rot z4)) rfl 0 (by decide) (hts (.fieldLink RX3 10 "WireLoops" "chip" "LWireLoops$Chip;") (List.mem_of_getElem? (i := 3) rfl)) (fun _ h9 => h9) rfl dX3_layAll_70 ?_
      refine cpV (rest := []) (As := []) E (c_X0_wires l G A z4 (rot z4)) (cwV 0 hts gX3_layAll_X0_wires rfl rfl rfl (by decide +kernel) ⟨Nat.le_of_ble_eq_true rfl, Nat.le_of_ble_eq_true rfl⟩) hK hP (6 * 0) (wX_o G A z4 (rot z4) 0 (by decide)) rfl rfl hl.1 rfl (Nat.le_of_ble_eq_true rfl) dX3_layAll_73 ⟨Nat.zero_le _, Nat.zero_le _⟩ ?_
      have hfin : ((f_X0_wires z4), z4) = (f_X3_layAll S) := Eq.trans (Eq.symm ((e_X3_layAll_k4 z4 z1 z2 z3 S))) hres4
      refine W.eq (g2 := F0 m 76 ls [.int (f_X0_wires z4)]) rfl ?_
      generalize ((f_X0_wires z4) : Int32) = v9 at hfin ⊢
      exact endM hx hb hr hlocks rfl hP hD hS ⟨@congrArg (Int32 × XS) Int32 (v9, z4) (f_X3_layAll S) Prod.fst hfin, @congrArg (Int32 × XS) va_W (v9, z4) (f_X3_layAll S) (fun z => wX G A z.2 (rot z.2)) hfin⟩ dX3_layAll_76
    · skip
      refine lv_aload_n hx hb dX3_layAll_45 rfl (lv_at hl 2 rfl) ?_
      refine va_get (D := G.1) (ci := 3) (v := .ref (A (6 * 0))) (C := RX3) (T := TX3) (N := 6) hx hb hts hinX3 hown hK.1 hP 42 (wX_42 G A z3.2 (rot z3.2)) rfl 0 (by decide) (hts (.fieldLink RX3 10 "WireLoops" "chip" "LWireLoops$Chip;") (List.mem_of_getElem? (i := 3) rfl)) (fun _ h9 => h9) rfl dX3_layAll_46 ?_
      refine lv_aload_n hx hb dX3_layAll_49 rfl (lv_at hl 2 rfl) ?_
      refine va_get (D := G.1) (ci := 3) (v := .ref (A (6 * 1))) (C := RX3) (T := TX3) (N := 6) hx hb hts hinX3 hown hK.1 hP 42 (wX_42 G A z3.2 (rot z3.2)) rfl 1 (by decide) (hts (.fieldLink RX3 16 "WireLoops" "beforeList" "LWireLoops$Chip;") (List.mem_of_getElem? (i := 2) rfl)) (fun _ h9 => h9) rfl dX3_layAll_50 ?_
      refine czV (rest := []) (As := [.ref (A (6 * 1))]) E (c_X0_copyFrom_0_1 l G A z3.2 (rot z3.2) (by rw [← hz3, c1_addListed, ← hz2]; exact hbz)) (cwV 1 hts gX3_layAll_X0_copyFrom rfl rfl rfl (by decide +kernel) ⟨Nat.le_of_ble_eq_true rfl, Nat.le_of_ble_eq_true rfl⟩) hK hP hD hS hA (6 * 0) (wX_o G A z3.2 (rot z3.2) 0 (by decide)) rfl rfl hl.1 rfl (Nat.le_of_ble_eq_true rfl) dX3_layAll_53 ⟨Nat.zero_le _, Nat.zero_le _⟩ (fun H locs hP hD hS => ?_)
      have hP : va_P G.1 vwCl (wX G A (f_X0_copyFrom_0_1 z3.2) (rot (f_X0_copyFrom_0_1 z3.2))) H := by rw [rot_X0_copyFrom_0_1]; exact hP
      have hD : va_D A0 (wX G A (f_X0_copyFrom_0_1 z3.2) (rot (f_X0_copyFrom_0_1 z3.2))) := by rw [rot_X0_copyFrom_0_1]; exact hD
      have hres5 : f_X3_layAll_k5 (f_X0_copyFrom_0_1 z3.2) z1 z2 z3 S = (f_X3_layAll S) := Eq.trans (Eq.symm (Eq.trans (e_X3_layAll_k3 z3 z1 z2 S) ((if_neg c2)))) hres3
      generalize hz5 : (f_X0_copyFrom_0_1 z3.2) = z5 at hres5 hP hD ⊢
      refine lv_iload_n hx hb dX3_layAll_56 rfl (lv_at hl 0 rfl) ?_
      have hfin : (z3.1, z5) = (f_X3_layAll S) := Eq.trans (Eq.symm ((e_X3_layAll_k5 z5 z1 z2 z3 S))) hres5
      exact endM hx hb hr hlocks rfl hP hD hS ⟨@congrArg (Int32 × XS) Int32 (z3.1, z5) (f_X3_layAll S) Prod.fst hfin, @congrArg (Int32 × XS) va_W (z3.1, z5) (f_X3_layAll S) (fun z => wX G A z.2 (rot z.2)) hfin⟩ dX3_layAll_57
  · skip
    refine lv_bipush (v := (-100)) hx hb dX3_layAll_13 (by decide) ?_
    refine lv_iload_n hx hb dX3_layAll_15 rfl (lv_at hl 0 rfl) ?_
    refine lv_isub hx hb dX3_layAll_16 ?_
    have hfin : (((-100) - z1.1), z1.2) = (f_X3_layAll S) := Eq.trans (Eq.symm (Eq.trans (e_X3_layAll_k1 z1 S) ((if_neg c1)))) hres1
    refine W.eq (g2 := F0 m 17 ls [.int ((-100) - z1.1)]) rfl ?_
    generalize (((-100) - z1.1) : Int32) = v9 at hfin ⊢
    exact endM hx hb hr hlocks rfl hP hD hS ⟨@congrArg (Int32 × XS) Int32 (v9, z1.2) (f_X3_layAll S) Prod.fst hfin, @congrArg (Int32 × XS) va_W (v9, z1.2) (f_X3_layAll S) (fun z => wX G A z.2 (rot z.2)) hfin⟩ dX3_layAll_17
noncomputable def f_X3_wire (S : XS) (p0 p1 : Int32) : Int32 := opq (if (f_X0_hasWire S p0) = 0 then (-1) else (if p1 = 0 then (f_X0_leadAtPad S p0) else (if p1 = 1 then (f_X0_heightOf S p0) else (if p1 = 2 then (f_X0_strengthOf S p0) else (if p1 = 3 then (f_X0_crossingsOf S p0) else (if p1 = 4 then (f_X0_shortOnes S p0 (f_X0_heightOf S p0)) else (if p1 = 5 then (f_X0_leastGap S p0) else (if p1 = 6 then (f_X0_numberOf S p0) else (-2)))))))))
theorem e_X3_wire (S : XS) (p0 p1 : Int32) : f_X3_wire S p0 p1 = (if (f_X0_hasWire S p0) = 0 then (-1) else (if p1 = 0 then (f_X0_leadAtPad S p0) else (if p1 = 1 then (f_X0_heightOf S p0) else (if p1 = 2 then (f_X0_strengthOf S p0) else (if p1 = 3 then (f_X0_crossingsOf S p0) else (if p1 = 4 then (f_X0_shortOnes S p0 (f_X0_heightOf S p0)) else (if p1 = 5 then (f_X0_leastGap S p0) else (if p1 = 6 then (f_X0_numberOf S p0) else (-2))))))))) := opq_eq _
set_option maxHeartbeats 4000000 in
set_option maxRecDepth 100000 in
theorem c_X3_wire (l : Launch) (G : GG) (A : Nat → Nat) (S : XS) (r : Nat) (p0 p1 : Int32) : Mp l yX3_wire wsX3_wire ({ frames := 5, cells := 0, slots := 0, locals := 118 } : Room) G [.ref (A 42), .int p0, .int p1] (wX G A S r) (f_X3_wire S p0 p1) := by
  refine Mp.of (cc := cX3_wire) (maxL := 3) (ret := (some .int)) (by decide) rfl (Nat.le_of_ble_eq_true rfl) ?_
  intro p e s m args below meth c E hr hlocks hP hK ls hl
  have E : CallFix p m c cX3_wire 3 s args wsX3_wire RX3 := E
  have hx := E.1
  have hb := E.2.1
  have hml := E.2.2.1
  have hown := E.2.2.2.1
  have hts := E.2.2.2.2
  have hl : lv_has ls 3 [(0, .ref (A 42)), (1, .int p0), (2, .int p1)] := hl
  have hinX3 : ∀ w ∈ u_ws RX3 TX3 6, w ∈ wsX3_wire := fun _ h => List.mem_cons_of_mem _ (List.mem_append_left _ (List.mem_append_right _ h))
  refine lv_aload_n hx hb dX3_wire_0 rfl (lv_at hl 0 rfl) ?_
  refine va_get (D := G.1) (ci := 3) (v := .ref (A (6 * 0))) (C := RX3) (T := TX3) (N := 6) hx hb hts hinX3 hown hK.1 hP 42 (wX_42 G A S r) rfl 0 (by decide) (hts (.fieldLink RX3 10 "WireLoops" "chip" "LWireLoops$Chip;") (List.mem_of_getElem? (i := 1) rfl)) (fun _ h9 => h9) rfl dX3_wire_1 ?_
  refine lv_iload_n hx hb dX3_wire_4 rfl (lv_at hl 1 rfl) ?_
  refine cpV (rest := []) (As := [.int p0]) E (c_X0_hasWire l G A S r p0) (cwV 1 hts gX3_wire_X0_hasWire rfl rfl rfl (by decide +kernel) ⟨Nat.le_of_ble_eq_true rfl, Nat.le_of_ble_eq_true rfl⟩) hK hP (6 * 0) (wX_o G A S r 0 (by decide)) rfl rfl hl.1 rfl (Nat.le_of_ble_eq_true rfl) dX3_wire_5 ⟨Nat.zero_le _, Nat.zero_le _⟩ ?_
  refine lv_if_ne (tgt := 13) hx hb dX3_wire_8 (by decide) (fun c1 => ?_) (fun c1 => ?_)
  · skip
    refine lv_iload_n hx hb dX3_wire_13 rfl (lv_at hl 2 rfl) ?_
    by_cases c2 : p1 = 0
    · skip
      refine lv_tableIn (tgt := 56) hx hb dX3_wire_14 (by rw [c2]; decide) (by rw [c2]; decide) (by rw [c2]; rfl) (by decide) ?_
      refine lv_aload_n hx hb dX3_wire_56 rfl (lv_at hl 0 rfl) ?_
      refine va_get (D := G.1) (ci := 3) (v := .ref (A (6 * 0))) (C := RX3) (T := TX3) (N := 6) hx hb hts hinX3 hown hK.1 hP 42 (wX_42 G A S r) rfl 0 (by decide) (hts (.fieldLink RX3 10 "WireLoops" "chip" "LWireLoops$Chip;") (List.mem_of_getElem? (i := 1) rfl)) (fun _ h9 => h9) rfl dX3_wire_57 ?_
      refine lv_iload_n hx hb dX3_wire_60 rfl (lv_at hl 1 rfl) ?_
      refine cpV (rest := []) (As := [.int p0]) E (c_X0_leadAtPad l G A S r p0) (cwV 1 hts gX3_wire_X0_leadAtPad rfl rfl rfl (by decide +kernel) ⟨Nat.le_of_ble_eq_true rfl, Nat.le_of_ble_eq_true rfl⟩) hK hP (6 * 0) (wX_o G A S r 0 (by decide)) rfl rfl hl.1 rfl (Nat.le_of_ble_eq_true rfl) dX3_wire_61 ⟨Nat.zero_le _, Nat.zero_le _⟩ ?_
      exact endP hx hb hr hlocks rfl (Eq.symm (Eq.trans (e_X3_wire S p0 p1) (Eq.trans (if_neg c1) ((if_pos c2))))) dX3_wire_64
    by_cases c3 : p1 = 1
    · skip
      refine lv_tableIn (tgt := 65) hx hb dX3_wire_14 (by rw [c3]; decide) (by rw [c3]; decide) (by rw [c3]; rfl) (by decide) ?_
      refine lv_aload_n hx hb dX3_wire_65 rfl (lv_at hl 0 rfl) ?_
      refine va_get (D := G.1) (ci := 3) (v := .ref (A (6 * 0))) (C := RX3) (T := TX3) (N := 6) hx hb hts hinX3 hown hK.1 hP 42 (wX_42 G A S r) rfl 0 (by decide) (hts (.fieldLink RX3 10 "WireLoops" "chip" "LWireLoops$Chip;") (List.mem_of_getElem? (i := 1) rfl)) (fun _ h9 => h9) rfl dX3_wire_66 ?_
      refine lv_iload_n hx hb dX3_wire_69 rfl (lv_at hl 1 rfl) ?_
      refine cpV (rest := []) (As := [.int p0]) E (c_X0_heightOf l G A S r p0) (cwV 1 hts gX3_wire_X0_heightOf rfl rfl rfl (by decide +kernel) ⟨Nat.le_of_ble_eq_true rfl, Nat.le_of_ble_eq_true rfl⟩) hK hP (6 * 0) (wX_o G A S r 0 (by decide)) rfl rfl hl.1 rfl (Nat.le_of_ble_eq_true rfl) dX3_wire_70 ⟨Nat.zero_le _, Nat.zero_le _⟩ ?_
      exact endP hx hb hr hlocks rfl (Eq.symm (Eq.trans (e_X3_wire S p0 p1) (Eq.trans (if_neg c1) (Eq.trans (if_neg c2) ((if_pos c3)))))) dX3_wire_73
    by_cases c4 : p1 = 2
    · skip
      refine lv_tableIn (tgt := 74) hx hb dX3_wire_14 (by rw [c4]; decide) (by rw [c4]; decide) (by rw [c4]; rfl) (by decide) ?_
      refine lv_aload_n hx hb dX3_wire_74 rfl (lv_at hl 0 rfl) ?_
      refine va_get (D := G.1) (ci := 3) (v := .ref (A (6 * 0))) (C := RX3) (T := TX3) (N := 6) hx hb hts hinX3 hown hK.1 hP 42 (wX_42 G A S r) rfl 0 (by decide) (hts (.fieldLink RX3 10 "WireLoops" "chip" "LWireLoops$Chip;") (List.mem_of_getElem? (i := 1) rfl)) (fun _ h9 => h9) rfl dX3_wire_75 ?_
      refine lv_iload_n hx hb dX3_wire_78 rfl (lv_at hl 1 rfl) ?_
      refine cpV (rest := []) (As := [.int p0]) E (c_X0_strengthOf l G A S r p0) (cwV 1 hts gX3_wire_X0_strengthOf rfl rfl rfl (by decide +kernel) ⟨Nat.le_of_ble_eq_true rfl, Nat.le_of_ble_eq_true rfl⟩) hK hP (6 * 0) (wX_o G A S r 0 (by decide)) rfl rfl hl.1 rfl (Nat.le_of_ble_eq_true rfl) dX3_wire_79 ⟨Nat.zero_le _, Nat.zero_le _⟩ ?_
      exact endP hx hb hr hlocks rfl (Eq.symm (Eq.trans (e_X3_wire S p0 p1) (Eq.trans (if_neg c1) (Eq.trans (if_neg c2) (Eq.trans (if_neg c3) ((if_pos c4))))))) dX3_wire_82
    by_cases c5 : p1 = 3
    · skip
      refine lv_tableIn (tgt := 83) hx hb dX3_wire_14 (by rw [c5]; decide) (by rw [c5]; decide) (by rw [c5]; rfl) (by decide) ?_
      refine lv_aload_n hx hb dX3_wire_83 rfl (lv_at hl 0 rfl) ?_
      refine va_get (D := G.1) (ci := 3) (v := .ref (A (6 * 0))) (C := RX3) (T := TX3) (N := 6) hx hb hts hinX3 hown hK.1 hP 42 (wX_42 G A S r) rfl 0 (by decide) (hts (.fieldLink RX3 10 "WireLoops" "chip" "LWireLoops$Chip;") (List.mem_of_getElem? (i := 1) rfl)) (fun _ h9 => h9) rfl dX3_wire_84 ?_
      refine lv_iload_n hx hb dX3_wire_87 rfl (lv_at hl 1 rfl) ?_
      refine cpV (rest := []) (As := [.int p0]) E (c_X0_crossingsOf l G A S r p0) (cwV 1 hts gX3_wire_X0_crossingsOf rfl rfl rfl (by decide +kernel) ⟨Nat.le_of_ble_eq_true rfl, Nat.le_of_ble_eq_true rfl⟩) hK hP (6 * 0) (wX_o G A S r 0 (by decide)) rfl rfl hl.1 rfl (Nat.le_of_ble_eq_true rfl) dX3_wire_88 ⟨Nat.zero_le _, Nat.zero_le _⟩ ?_
      exact endP hx hb hr hlocks rfl (Eq.symm (Eq.trans (e_X3_wire S p0 p1) (Eq.trans (if_neg c1) (Eq.trans (if_neg c2) (Eq.trans (if_neg c3) (Eq.trans (if_neg c4) ((if_pos c5)))))))) dX3_wire_91
    by_cases c6 : p1 = 4
    · skip
      refine lv_tableIn (tgt := 92) hx hb dX3_wire_14 (by rw [c6]; decide) (by rw [c6]; decide) (by rw [c6]; rfl) (by decide) ?_
      refine lv_aload_n hx hb dX3_wire_92 rfl (lv_at hl 0 rfl) ?_
      refine va_get (D := G.1) (ci := 3) (v := .ref (A (6 * 0))) (C := RX3) (T := TX3) (N := 6) hx hb hts hinX3 hown hK.1 hP 42 (wX_42 G A S r) rfl 0 (by decide) (hts (.fieldLink RX3 10 "WireLoops" "chip" "LWireLoops$Chip;") (List.mem_of_getElem? (i := 1) rfl)) (fun _ h9 => h9) rfl dX3_wire_93 ?_
      refine lv_iload_n hx hb dX3_wire_96 rfl (lv_at hl 1 rfl) ?_
      refine lv_aload_n hx hb dX3_wire_97 rfl (lv_at hl 0 rfl) ?_
      refine va_get (D := G.1) (ci := 3) (v := .ref (A (6 * 0))) (C := RX3) (T := TX3) (N := 6) hx hb hts hinX3 hown hK.1 hP 42 (wX_42 G A S r) rfl 0 (by decide) (hts (.fieldLink RX3 10 "WireLoops" "chip" "LWireLoops$Chip;") (List.mem_of_getElem? (i := 1) rfl)) (fun _ h9 => h9) rfl dX3_wire_98 ?_
      refine lv_iload_n hx hb dX3_wire_101 rfl (lv_at hl 1 rfl) ?_
      refine cpV (rest := [.int p0, .ref (A (6 * 0))]) (As := [.int p0]) E (c_X0_heightOf l G A S r p0) (cwV 1 hts gX3_wire_X0_heightOf rfl rfl rfl (by decide +kernel) ⟨Nat.le_of_ble_eq_true rfl, Nat.le_of_ble_eq_true rfl⟩) hK hP (6 * 0) (wX_o G A S r 0 (by decide)) rfl rfl hl.1 rfl (Nat.le_of_ble_eq_true rfl) dX3_wire_102 ⟨Nat.zero_le _, Nat.zero_le _⟩ ?_
      refine cpV (rest := []) (As := [.int p0, .int (f_X0_heightOf S p0)]) E (c_X0_shortOnes l G A S r p0 (f_X0_heightOf S p0)) (cwV 2 hts gX3_wire_X0_shortOnes rfl rfl rfl (by decide +kernel) ⟨Nat.le_of_ble_eq_true rfl, Nat.le_of_ble_eq_true rfl⟩) hK hP (6 * 0) (wX_o G A S r 0 (by decide)) rfl rfl hl.1 rfl (Nat.le_of_ble_eq_true rfl) dX3_wire_105 ⟨Nat.zero_le _, Nat.zero_le _⟩ ?_
      exact endP hx hb hr hlocks rfl (Eq.symm (Eq.trans (e_X3_wire S p0 p1) (Eq.trans (if_neg c1) (Eq.trans (if_neg c2) (Eq.trans (if_neg c3) (Eq.trans (if_neg c4) (Eq.trans (if_neg c5) ((if_pos c6))))))))) dX3_wire_108
    by_cases c7 : p1 = 5
    · skip
      refine lv_tableIn (tgt := 109) hx hb dX3_wire_14 (by rw [c7]; decide) (by rw [c7]; decide) (by rw [c7]; rfl) (by decide) ?_
      refine lv_aload_n hx hb dX3_wire_109 rfl (lv_at hl 0 rfl) ?_
      refine va_get (D := G.1) (ci := 3) (v := .ref (A (6 * 0))) (C := RX3) (T := TX3) (N := 6) hx hb hts hinX3 hown hK.1 hP 42 (wX_42 G A S r) rfl 0 (by decide) (hts (.fieldLink RX3 10 "WireLoops" "chip" "LWireLoops$Chip;") (List.mem_of_getElem? (i := 1) rfl)) (fun _ h9 => h9) rfl dX3_wire_110 ?_
      refine lv_iload_n hx hb dX3_wire_113 rfl (lv_at hl 1 rfl) ?_
      refine cpV (rest := []) (As := [.int p0]) E (c_X0_leastGap l G A S r p0) (cwV 1 hts gX3_wire_X0_leastGap rfl rfl rfl (by decide +kernel) ⟨Nat.le_of_ble_eq_true rfl, Nat.le_of_ble_eq_true rfl⟩) hK hP (6 * 0) (wX_o G A S r 0 (by decide)) rfl rfl hl.1 rfl (Nat.le_of_ble_eq_true rfl) dX3_wire_114 ⟨Nat.zero_le _, Nat.zero_le _⟩ ?_
      exact endP hx hb hr hlocks rfl (Eq.symm (Eq.trans (e_X3_wire S p0 p1) (Eq.trans (if_neg c1) (Eq.trans (if_neg c2) (Eq.trans (if_neg c3) (Eq.trans (if_neg c4) (Eq.trans (if_neg c5) (Eq.trans (if_neg c6) ((if_pos c7)))))))))) dX3_wire_117
    by_cases c8 : p1 = 6
    · skip
      refine lv_tableIn (tgt := 118) hx hb dX3_wire_14 (by rw [c8]; decide) (by rw [c8]; decide) (by rw [c8]; rfl) (by decide) ?_
      refine lv_aload_n hx hb dX3_wire_118 rfl (lv_at hl 0 rfl) ?_
      refine va_get (D := G.1) (ci := 3) (v := .ref (A (6 * 0))) (C := RX3) (T := TX3) (N := 6) hx hb hts hinX3 hown hK.1 hP 42 (wX_42 G A S r) rfl 0 (by decide) (hts (.fieldLink RX3 10 "WireLoops" "chip" "LWireLoops$Chip;") (List.mem_of_getElem? (i := 1) rfl)) (fun _ h9 => h9) rfl dX3_wire_119 ?_
      refine lv_iload_n hx hb dX3_wire_122 rfl (lv_at hl 1 rfl) ?_
      refine cpV (rest := []) (As := [.int p0]) E (c_X0_numberOf l G A S r p0) (cwV 1 hts gX3_wire_X0_numberOf rfl rfl rfl (by decide +kernel) ⟨Nat.le_of_ble_eq_true rfl, Nat.le_of_ble_eq_true rfl⟩) hK hP (6 * 0) (wX_o G A S r 0 (by decide)) rfl rfl hl.1 rfl (Nat.le_of_ble_eq_true rfl) dX3_wire_123 ⟨Nat.zero_le _, Nat.zero_le _⟩ ?_
      exact endP hx hb hr hlocks rfl (Eq.symm (Eq.trans (e_X3_wire S p0 p1) (Eq.trans (if_neg c1) (Eq.trans (if_neg c2) (Eq.trans (if_neg c3) (Eq.trans (if_neg c4) (Eq.trans (if_neg c5) (Eq.trans (if_neg c6) (Eq.trans (if_neg c7) ((if_pos c8))))))))))) dX3_wire_126
    refine lv_tableOut (tgt := 127) hx hb dX3_wire_14 (sw_out 0 6 p1 (by decide) (by intro j h1 h2; rcases (show j = 0 ∨ j = 1 ∨ j = 2 ∨ j = 3 ∨ j = 4 ∨ j = 5 ∨ j = 6 by omega) with rfl | rfl | rfl | rfl | rfl | rfl | rfl <;> assumption)) (by decide) ?_
    refine lv_bipush (v := (-2)) hx hb dX3_wire_127 (by decide) ?_
    exact endP hx hb hr hlocks rfl (Eq.symm (Eq.trans (e_X3_wire S p0 p1) (Eq.trans (if_neg c1) (Eq.trans (if_neg c2) (Eq.trans (if_neg c3) (Eq.trans (if_neg c4) (Eq.trans (if_neg c5) (Eq.trans (if_neg c6) (Eq.trans (if_neg c7) ((if_neg c8))))))))))) dX3_wire_129
  · skip
    refine lv_iconst (v := (-1)) hx hb dX3_wire_11 (by decide) ?_
    exact endP hx hb hr hlocks rfl (Eq.symm (Eq.trans (e_X3_wire S p0 p1) ((if_pos c1)))) dX3_wire_12
noncomputable def f_X3_heightAt (S : XS) (p0 p1 : Int32) : Int32 := opq (if (f_X0_hasWire S p0) = 0 then (-1) else (if (f_X3_isWithin p1 0 200) = 0 then (-2) else (f_X3_loopAt (f_X0_heightOf S p0) p1)))
theorem e_X3_heightAt (S : XS) (p0 p1 : Int32) : f_X3_heightAt S p0 p1 = (if (f_X0_hasWire S p0) = 0 then (-1) else (if (f_X3_isWithin p1 0 200) = 0 then (-2) else (f_X3_loopAt (f_X0_heightOf S p0) p1))) := opq_eq _
set_option maxHeartbeats 4000000 in
set_option maxRecDepth 100000 in
theorem c_X3_heightAt (l : Launch) (G : GG) (A : Nat → Nat) (S : XS) (r : Nat) (p0 p1 : Int32) : Mp l yX3_heightAt wsX3_heightAt ({ frames := 2, cells := 0, slots := 0, locals := 41 } : Room) G [.ref (A 42), .int p0, .int p1] (wX G A S r) (f_X3_heightAt S p0 p1) := by
  refine Mp.of (cc := cX3_heightAt) (maxL := 3) (ret := (some .int)) (by decide) rfl (Nat.le_of_ble_eq_true rfl) ?_
  intro p e s m args below meth c E hr hlocks hP hK ls hl
  have E : CallFix p m c cX3_heightAt 3 s args wsX3_heightAt RX3 := E
  have hx := E.1
  have hb := E.2.1
  have hml := E.2.2.1
  have hown := E.2.2.2.1
  have hts := E.2.2.2.2
  have hl : lv_has ls 3 [(0, .ref (A 42)), (1, .int p0), (2, .int p1)] := hl
  have hinX3 : ∀ w ∈ u_ws RX3 TX3 6, w ∈ wsX3_heightAt := fun _ h => List.mem_cons_of_mem _ (List.mem_append_left _ (List.mem_append_right _ h))
  refine lv_aload_n hx hb dX3_heightAt_0 rfl (lv_at hl 0 rfl) ?_
  refine va_get (D := G.1) (ci := 3) (v := .ref (A (6 * 0))) (C := RX3) (T := TX3) (N := 6) hx hb hts hinX3 hown hK.1 hP 42 (wX_42 G A S r) rfl 0 (by decide) (hts (.fieldLink RX3 10 "WireLoops" "chip" "LWireLoops$Chip;") (List.mem_of_getElem? (i := 1) rfl)) (fun _ h9 => h9) rfl dX3_heightAt_1 ?_
  refine lv_iload_n hx hb dX3_heightAt_4 rfl (lv_at hl 1 rfl) ?_
  refine cpV (rest := []) (As := [.int p0]) E (c_X0_hasWire l G A S r p0) (cwV 1 hts gX3_heightAt_X0_hasWire rfl rfl rfl (by decide +kernel) ⟨Nat.le_of_ble_eq_true rfl, Nat.le_of_ble_eq_true rfl⟩) hK hP (6 * 0) (wX_o G A S r 0 (by decide)) rfl rfl hl.1 rfl (Nat.le_of_ble_eq_true rfl) dX3_heightAt_5 ⟨Nat.zero_le _, Nat.zero_le _⟩ ?_
  refine lv_if_ne (tgt := 13) hx hb dX3_heightAt_8 (by decide) (fun c1 => ?_) (fun c1 => ?_)
  · skip
    refine lv_iload_n hx hb dX3_heightAt_13 rfl (lv_at hl 2 rfl) ?_
    refine lv_iconst (v := 0) hx hb dX3_heightAt_14 (by decide) ?_
    refine lv_sipush (v := 200) hx hb dX3_heightAt_15 (by decide) ?_
    refine cpS (rest := []) (As := [.int p1, .int 0, .int 200]) E (c_X3_isWithin l G A S r p1 0 200) (va_cwS 3 hts gX3_heightAt_X3_isWithin rfl rfl rfl (by decide +kernel) ⟨Nat.le_of_ble_eq_true rfl, Nat.le_of_ble_eq_true rfl⟩) hK hP rfl hl.1 rfl (Nat.le_of_ble_eq_true rfl) dX3_heightAt_18 ⟨Nat.zero_le _, Nat.zero_le _⟩ ?_
    refine lv_if_ne (tgt := 27) hx hb dX3_heightAt_21 (by decide) (fun c2 => ?_) (fun c2 => ?_)
    · skip
      refine lv_aload_n hx hb dX3_heightAt_27 rfl (lv_at hl 0 rfl) ?_
      refine va_get (D := G.1) (ci := 3) (v := .ref (A (6 * 0))) (C := RX3) (T := TX3) (N := 6) hx hb hts hinX3 hown hK.1 hP 42 (wX_42 G A S r) rfl 0 (by decide) (hts (.fieldLink RX3 10 "WireLoops" "chip" "LWireLoops$Chip;") (List.mem_of_getElem? (i := 1) rfl)) (fun _ h9 => h9) rfl dX3_heightAt_28 ?_
      refine lv_iload_n hx hb dX3_heightAt_31 rfl (lv_at hl 1 rfl) ?_
      refine cpV (rest := []) (As := [.int p0]) E (c_X0_heightOf l G A S r p0) (cwV 1 hts gX3_heightAt_X0_heightOf rfl rfl rfl (by decide +kernel) ⟨Nat.le_of_ble_eq_true rfl, Nat.le_of_ble_eq_true rfl⟩) hK hP (6 * 0) (wX_o G A S r 0 (by decide)) rfl rfl hl.1 rfl (Nat.le_of_ble_eq_true rfl) dX3_heightAt_32 ⟨Nat.zero_le _, Nat.zero_le _⟩ ?_
      refine lv_iload_n hx hb dX3_heightAt_35 rfl (lv_at hl 2 rfl) ?_
      refine cpS (rest := []) (As := [.int (f_X0_heightOf S p0), .int p1]) E (c_X3_loopAt l G A S r (f_X0_heightOf S p0) p1) (va_cwS 2 hts gX3_heightAt_X3_loopAt rfl rfl rfl (by decide +kernel) ⟨Nat.le_of_ble_eq_true rfl, Nat.le_of_ble_eq_true rfl⟩) hK hP rfl hl.1 rfl (Nat.le_of_ble_eq_true rfl) dX3_heightAt_36 ⟨Nat.zero_le _, Nat.zero_le _⟩ ?_
      exact endP hx hb hr hlocks rfl (Eq.symm (Eq.trans (e_X3_heightAt S p0 p1) (Eq.trans (if_neg c1) ((if_neg c2))))) dX3_heightAt_39
    · skip
      refine lv_bipush (v := (-2)) hx hb dX3_heightAt_24 (by decide) ?_
      exact endP hx hb hr hlocks rfl (Eq.symm (Eq.trans (e_X3_heightAt S p0 p1) (Eq.trans (if_neg c1) ((if_pos c2))))) dX3_heightAt_26
  · skip
    refine lv_iconst (v := (-1)) hx hb dX3_heightAt_11 (by decide) ?_
    exact endP hx hb hr hlocks rfl (Eq.symm (Eq.trans (e_X3_heightAt S p0 p1) ((if_pos c1)))) dX3_heightAt_12
noncomputable def f_X3_crossing (S : XS) (p0 p1 p2 : Int32) : Int32 := opq (if (f_X0_hasWire S p0) = 0 then (-1) else (if (f_X0_hasWire S p1) = 0 then (-1) else (if (f_X3_isWithin p2 0 2) = 0 then (-2) else (if (f_X0_cross S p0 p1) = 0 then (-5) else (if p2 = 0 then (f_X0_crossingY S p0 p1) else (if p2 = 1 then (f_X0_gap S p0 (f_X0_heightOf S p0) p1) else (if (f_X0_isShort S p0 (f_X0_heightOf S p0) p1) = 0 then 0 else 1)))))))
theorem e_X3_crossing (S : XS) (p0 p1 p2 : Int32) : f_X3_crossing S p0 p1 p2 = (if (f_X0_hasWire S p0) = 0 then (-1) else (if (f_X0_hasWire S p1) = 0 then (-1) else (if (f_X3_isWithin p2 0 2) = 0 then (-2) else (if (f_X0_cross S p0 p1) = 0 then (-5) else (if p2 = 0 then (f_X0_crossingY S p0 p1) else (if p2 = 1 then (f_X0_gap S p0 (f_X0_heightOf S p0) p1) else (if (f_X0_isShort S p0 (f_X0_heightOf S p0) p1) = 0 then 0 else 1))))))) := opq_eq _
set_option maxHeartbeats 4000000 in
set_option maxRecDepth 100000 in
theorem c_X3_crossing (l : Launch) (G : GG) (A : Nat → Nat) (S : XS) (r : Nat) (p0 p1 p2 : Int32) : Mp l yX3_crossing wsX3_crossing ({ frames := 4, cells := 0, slots := 0, locals := 94 } : Room) G [.ref (A 42), .int p0, .int p1, .int p2] (wX G A S r) (f_X3_crossing S p0 p1 p2) := by
  refine Mp.of (cc := cX3_crossing) (maxL := 4) (ret := (some .int)) (by decide) rfl (Nat.le_of_ble_eq_true rfl) ?_
  intro p e s m args below meth c E hr hlocks hP hK ls hl
  have E : CallFix p m c cX3_crossing 4 s args wsX3_crossing RX3 := E
  have hx := E.1
  have hb := E.2.1
  have hml := E.2.2.1
  have hown := E.2.2.2.1
  have hts := E.2.2.2.2
  have hl : lv_has ls 4 [(0, .ref (A 42)), (1, .int p0), (2, .int p1), (3, .int p2)] := hl
  have hinX3 : ∀ w ∈ u_ws RX3 TX3 6, w ∈ wsX3_crossing := fun _ h => List.mem_cons_of_mem _ (List.mem_append_left _ (List.mem_append_right _ h))
  refine lv_aload_n hx hb dX3_crossing_0 rfl (lv_at hl 0 rfl) ?_
  refine va_get (D := G.1) (ci := 3) (v := .ref (A (6 * 0))) (C := RX3) (T := TX3) (N := 6) hx hb hts hinX3 hown hK.1 hP 42 (wX_42 G A S r) rfl 0 (by decide) (hts (.fieldLink RX3 10 "WireLoops" "chip" "LWireLoops$Chip;") (List.mem_of_getElem? (i := 1) rfl)) (fun _ h9 => h9) rfl dX3_crossing_1 ?_
  refine lv_iload_n hx hb dX3_crossing_4 rfl (lv_at hl 1 rfl) ?_
  refine cpV (rest := []) (As := [.int p0]) E (c_X0_hasWire l G A S r p0) (cwV 1 hts gX3_crossing_X0_hasWire rfl rfl rfl (by decide +kernel) ⟨Nat.le_of_ble_eq_true rfl, Nat.le_of_ble_eq_true rfl⟩) hK hP (6 * 0) (wX_o G A S r 0 (by decide)) rfl rfl hl.1 rfl (Nat.le_of_ble_eq_true rfl) dX3_crossing_5 ⟨Nat.zero_le _, Nat.zero_le _⟩ ?_
  refine lv_if_eq (tgt := 22) hx hb dX3_crossing_8 (by decide) (fun c1 => ?_) (fun c1 => ?_)
  · skip
    refine lv_iconst (v := (-1)) hx hb dX3_crossing_22 (by decide) ?_
    exact endP hx hb hr hlocks rfl (Eq.symm (Eq.trans (e_X3_crossing S p0 p1 p2) ((if_pos c1)))) dX3_crossing_23
  · skip
    refine lv_aload_n hx hb dX3_crossing_11 rfl (lv_at hl 0 rfl) ?_
    refine va_get (D := G.1) (ci := 3) (v := .ref (A (6 * 0))) (C := RX3) (T := TX3) (N := 6) hx hb hts hinX3 hown hK.1 hP 42 (wX_42 G A S r) rfl 0 (by decide) (hts (.fieldLink RX3 10 "WireLoops" "chip" "LWireLoops$Chip;") (List.mem_of_getElem? (i := 1) rfl)) (fun _ h9 => h9) rfl dX3_crossing_12 ?_
    refine lv_iload_n hx hb dX3_crossing_15 rfl (lv_at hl 2 rfl) ?_
    refine cpV (rest := []) (As := [.int p1]) E (c_X0_hasWire l G A S r p1) (cwV 1 hts gX3_crossing_X0_hasWire rfl rfl rfl (by decide +kernel) ⟨Nat.le_of_ble_eq_true rfl, Nat.le_of_ble_eq_true rfl⟩) hK hP (6 * 0) (wX_o G A S r 0 (by decide)) rfl rfl hl.1 rfl (Nat.le_of_ble_eq_true rfl) dX3_crossing_16 ⟨Nat.zero_le _, Nat.zero_le _⟩ ?_
    refine lv_if_ne (tgt := 24) hx hb dX3_crossing_19 (by decide) (fun c2 => ?_) (fun c2 => ?_)
    · skip
      refine lv_iload_n hx hb dX3_crossing_24 rfl (lv_at hl 3 rfl) ?_
      refine lv_iconst (v := 0) hx hb dX3_crossing_25 (by decide) ?_
      refine lv_iconst (v := 2) hx hb dX3_crossing_26 (by decide) ?_
      refine cpS (rest := []) (As := [.int p2, .int 0, .int 2]) E (c_X3_isWithin l G A S r p2 0 2) (va_cwS 3 hts gX3_crossing_X3_isWithin rfl rfl rfl (by decide +kernel) ⟨Nat.le_of_ble_eq_true rfl, Nat.le_of_ble_eq_true rfl⟩) hK hP rfl hl.1 rfl (Nat.le_of_ble_eq_true rfl) dX3_crossing_27 ⟨Nat.zero_le _, Nat.zero_le _⟩ ?_
      refine lv_if_ne (tgt := 36) hx hb dX3_crossing_30 (by decide) (fun c3 => ?_) (fun c3 => ?_)
      · skip
        refine lv_aload_n hx hb dX3_crossing_36 rfl (lv_at hl 0 rfl) ?_
        refine va_get (D := G.1) (ci := 3) (v := .ref (A (6 * 0))) (C := RX3) (T := TX3) (N := 6) hx hb hts hinX3 hown hK.1 hP 42 (wX_42 G A S r) rfl 0 (by decide) (hts (.fieldLink RX3 10 "WireLoops" "chip" "LWireLoops$Chip;") (List.mem_of_getElem? (i := 1) rfl)) (fun _ h9 => h9) rfl dX3_crossing_37 ?_
        refine lv_iload_n hx hb dX3_crossing_40 rfl (lv_at hl 1 rfl) ?_
        refine lv_iload_n hx hb dX3_crossing_41 rfl (lv_at hl 2 rfl) ?_
        refine cpV (rest := []) (As := [.int p0, .int p1]) E (c_X0_cross l G A S r p0 p1) (cwV 2 hts gX3_crossing_X0_cross rfl rfl rfl (by decide +kernel) ⟨Nat.le_of_ble_eq_true rfl, Nat.le_of_ble_eq_true rfl⟩) hK hP (6 * 0) (wX_o G A S r 0 (by decide)) rfl rfl hl.1 rfl (Nat.le_of_ble_eq_true rfl) dX3_crossing_42 ⟨Nat.zero_le _, Nat.zero_le _⟩ ?_
        refine lv_if_ne (tgt := 51) hx hb dX3_crossing_45 (by decide) (fun c4 => ?_) (fun c4 => ?_)
        · skip
          refine lv_iload_n hx hb dX3_crossing_51 rfl (lv_at hl 3 rfl) ?_
          by_cases c5 : p2 = 0
          · skip
            refine lv_lookup (tgt := 80) hx hb dX3_crossing_52 (by decide) (by rw [c5] <;> rfl) (by decide) ?_
            refine lv_aload_n hx hb dX3_crossing_80 rfl (lv_at hl 0 rfl) ?_
            refine va_get (D := G.1) (ci := 3) (v := .ref (A (6 * 0))) (C := RX3) (T := TX3) (N := 6) hx hb hts hinX3 hown hK.1 hP 42 (wX_42 G A S r) rfl 0 (by decide) (hts (.fieldLink RX3 10 "WireLoops" "chip" "LWireLoops$Chip;") (List.mem_of_getElem? (i := 1) rfl)) (fun _ h9 => h9) rfl dX3_crossing_81 ?_
            refine lv_iload_n hx hb dX3_crossing_84 rfl (lv_at hl 1 rfl) ?_
            refine lv_iload_n hx hb dX3_crossing_85 rfl (lv_at hl 2 rfl) ?_
            refine cpV (rest := []) (As := [.int p0, .int p1]) E (c_X0_crossingY l G A S r p0 p1) (cwV 2 hts gX3_crossing_X0_crossingY rfl rfl rfl (by decide +kernel) ⟨Nat.le_of_ble_eq_true rfl, Nat.le_of_ble_eq_true rfl⟩) hK hP (6 * 0) (wX_o G A S r 0 (by decide)) rfl rfl hl.1 rfl (Nat.le_of_ble_eq_true rfl) dX3_crossing_86 ⟨Nat.zero_le _, Nat.zero_le _⟩ ?_
            exact endP hx hb hr hlocks rfl (Eq.symm (Eq.trans (e_X3_crossing S p0 p1 p2) (Eq.trans (if_neg c1) (Eq.trans (if_neg c2) (Eq.trans (if_neg c3) (Eq.trans (if_neg c4) ((if_pos c5)))))))) dX3_crossing_89
          by_cases c6 : p2 = 1
          · skip
            refine lv_lookup (tgt := 90) hx hb dX3_crossing_52 (by decide) (by rw [c6] <;> rfl) (by decide) ?_
            refine lv_aload_n hx hb dX3_crossing_90 rfl (lv_at hl 0 rfl) ?_
            refine va_get (D := G.1) (ci := 3) (v := .ref (A (6 * 0))) (C := RX3) (T := TX3) (N := 6) hx hb hts hinX3 hown hK.1 hP 42 (wX_42 G A S r) rfl 0 (by decide) (hts (.fieldLink RX3 10 "WireLoops" "chip" "LWireLoops$Chip;") (List.mem_of_getElem? (i := 1) rfl)) (fun _ h9 => h9) rfl dX3_crossing_91 ?_
            refine lv_iload_n hx hb dX3_crossing_94 rfl (lv_at hl 1 rfl) ?_
            refine lv_aload_n hx hb dX3_crossing_95 rfl (lv_at hl 0 rfl) ?_
            refine va_get (D := G.1) (ci := 3) (v := .ref (A (6 * 0))) (C := RX3) (T := TX3) (N := 6) hx hb hts hinX3 hown hK.1 hP 42 (wX_42 G A S r) rfl 0 (by decide) (hts (.fieldLink RX3 10 "WireLoops" "chip" "LWireLoops$Chip;") (List.mem_of_getElem? (i := 1) rfl)) (fun _ h9 => h9) rfl dX3_crossing_96 ?_
            refine lv_iload_n hx hb dX3_crossing_99 rfl (lv_at hl 1 rfl) ?_
            refine cpV (rest := [.int p0, .ref (A (6 * 0))]) (As := [.int p0]) E (c_X0_heightOf l G A S r p0) (cwV 1 hts gX3_crossing_X0_heightOf rfl rfl rfl (by decide +kernel) ⟨Nat.le_of_ble_eq_true rfl, Nat.le_of_ble_eq_true rfl⟩) hK hP (6 * 0) (wX_o G A S r 0 (by decide)) rfl rfl hl.1 rfl (Nat.le_of_ble_eq_true rfl) dX3_crossing_100 ⟨Nat.zero_le _, Nat.zero_le _⟩ ?_
            refine lv_iload_n hx hb dX3_crossing_103 rfl (lv_at hl 2 rfl) ?_
            refine cpV (rest := []) (As := [.int p0, .int (f_X0_heightOf S p0), .int p1]) E (c_X0_gap l G A S r p0 (f_X0_heightOf S p0) p1) (cwV 3 hts gX3_crossing_X0_gap rfl rfl rfl (by decide +kernel) ⟨Nat.le_of_ble_eq_true rfl, Nat.le_of_ble_eq_true rfl⟩) hK hP (6 * 0) (wX_o G A S r 0 (by decide)) rfl rfl hl.1 rfl (Nat.le_of_ble_eq_true rfl) dX3_crossing_104 ⟨Nat.zero_le _, Nat.zero_le _⟩ ?_
            exact endP hx hb hr hlocks rfl (Eq.symm (Eq.trans (e_X3_crossing S p0 p1 p2) (Eq.trans (if_neg c1) (Eq.trans (if_neg c2) (Eq.trans (if_neg c3) (Eq.trans (if_neg c4) (Eq.trans (if_neg c5) ((if_pos c6))))))))) dX3_crossing_107
          refine lv_lookup (off := 56) (tgt := 108) hx hb dX3_crossing_52 (by decide) ((lv_osw c5 rfl).trans ((lv_osw c6 rfl).trans rfl)) (by decide) ?_
          refine lv_aload_n hx hb dX3_crossing_108 rfl (lv_at hl 0 rfl) ?_
          refine va_get (D := G.1) (ci := 3) (v := .ref (A (6 * 0))) (C := RX3) (T := TX3) (N := 6) hx hb hts hinX3 hown hK.1 hP 42 (wX_42 G A S r) rfl 0 (by decide) (hts (.fieldLink RX3 10 "WireLoops" "chip" "LWireLoops$Chip;") (List.mem_of_getElem? (i := 1) rfl)) (fun _ h9 => h9) rfl dX3_crossing_109 ?_
          refine lv_iload_n hx hb dX3_crossing_112 rfl (lv_at hl 1 rfl) ?_
          refine lv_aload_n hx hb dX3_crossing_113 rfl (lv_at hl 0 rfl) ?_
          refine va_get (D := G.1) (ci := 3) (v := .ref (A (6 * 0))) (C := RX3) (T := TX3) (N := 6) hx hb hts hinX3 hown hK.1 hP 42 (wX_42 G A S r) rfl 0 (by decide) (hts (.fieldLink RX3 10 "WireLoops" "chip" "LWireLoops$Chip;") (List.mem_of_getElem? (i := 1) rfl)) (fun _ h9 => h9) rfl dX3_crossing_114 ?_
          refine lv_iload_n hx hb dX3_crossing_117 rfl (lv_at hl 1 rfl) ?_
          refine cpV (rest := [.int p0, .ref (A (6 * 0))]) (As := [.int p0]) E (c_X0_heightOf l G A S r p0) (cwV 1 hts gX3_crossing_X0_heightOf rfl rfl rfl (by decide +kernel) ⟨Nat.le_of_ble_eq_true rfl, Nat.le_of_ble_eq_true rfl⟩) hK hP (6 * 0) (wX_o G A S r 0 (by decide)) rfl rfl hl.1 rfl (Nat.le_of_ble_eq_true rfl) dX3_crossing_118 ⟨Nat.zero_le _, Nat.zero_le _⟩ ?_
          refine lv_iload_n hx hb dX3_crossing_121 rfl (lv_at hl 2 rfl) ?_
          refine cpV (rest := []) (As := [.int p0, .int (f_X0_heightOf S p0), .int p1]) E (c_X0_isShort l G A S r p0 (f_X0_heightOf S p0) p1) (cwV 3 hts gX3_crossing_X0_isShort rfl rfl rfl (by decide +kernel) ⟨Nat.le_of_ble_eq_true rfl, Nat.le_of_ble_eq_true rfl⟩) hK hP (6 * 0) (wX_o G A S r 0 (by decide)) rfl rfl hl.1 rfl (Nat.le_of_ble_eq_true rfl) dX3_crossing_122 ⟨Nat.zero_le _, Nat.zero_le _⟩ ?_
          refine lv_if_eq (tgt := 132) hx hb dX3_crossing_125 (by decide) (fun c7 => ?_) (fun c7 => ?_)
          · skip
            refine lv_iconst (v := 0) hx hb dX3_crossing_132 (by decide) ?_
            exact endP hx hb hr hlocks rfl (Eq.symm (Eq.trans (e_X3_crossing S p0 p1 p2) (Eq.trans (if_neg c1) (Eq.trans (if_neg c2) (Eq.trans (if_neg c3) (Eq.trans (if_neg c4) (Eq.trans (if_neg c5) (Eq.trans (if_neg c6) ((if_pos c7)))))))))) dX3_crossing_133
          · skip
            refine lv_iconst (v := 1) hx hb dX3_crossing_128 (by decide) ?_
            refine lv_goto (tgt := 133) hx hb dX3_crossing_129 (by decide) ?_
            exact endP hx hb hr hlocks rfl (Eq.symm (Eq.trans (e_X3_crossing S p0 p1 p2) (Eq.trans (if_neg c1) (Eq.trans (if_neg c2) (Eq.trans (if_neg c3) (Eq.trans (if_neg c4) (Eq.trans (if_neg c5) (Eq.trans (if_neg c6) ((if_neg c7)))))))))) dX3_crossing_133
        · skip
          refine lv_bipush (v := (-5)) hx hb dX3_crossing_48 (by decide) ?_
          exact endP hx hb hr hlocks rfl (Eq.symm (Eq.trans (e_X3_crossing S p0 p1 p2) (Eq.trans (if_neg c1) (Eq.trans (if_neg c2) (Eq.trans (if_neg c3) ((if_pos c4))))))) dX3_crossing_50
      · skip
        refine lv_bipush (v := (-2)) hx hb dX3_crossing_33 (by decide) ?_
        exact endP hx hb hr hlocks rfl (Eq.symm (Eq.trans (e_X3_crossing S p0 p1 p2) (Eq.trans (if_neg c1) (Eq.trans (if_neg c2) ((if_pos c3)))))) dX3_crossing_35
    · skip
      refine lv_iconst (v := (-1)) hx hb dX3_crossing_22 (by decide) ?_
      exact endP hx hb hr hlocks rfl (Eq.symm (Eq.trans (e_X3_crossing S p0 p1 p2) (Eq.trans (if_neg c1) ((if_pos c2))))) dX3_crossing_23
noncomputable def f_X3_lead (S : XS) (p0 p1 : Int32) : Int32 := opq (if (f_X3_isLead p0) = 0 then (-1) else (if p1 = 0 then (f_X0_xOfLead S p0) else (if p1 = 1 then (f_X0_padAtLead S p0) else (-2))))
theorem e_X3_lead (S : XS) (p0 p1 : Int32) : f_X3_lead S p0 p1 = (if (f_X3_isLead p0) = 0 then (-1) else (if p1 = 0 then (f_X0_xOfLead S p0) else (if p1 = 1 then (f_X0_padAtLead S p0) else (-2)))) := opq_eq _
set_option maxHeartbeats 4000000 in
set_option maxRecDepth 100000 in
theorem c_X3_lead (l : Launch) (G : GG) (A : Nat → Nat) (S : XS) (r : Nat) (p0 p1 : Int32) : Mp l yX3_lead wsX3_lead ({ frames := 3, cells := 0, slots := 0, locals := 63 } : Room) G [.ref (A 42), .int p0, .int p1] (wX G A S r) (f_X3_lead S p0 p1) := by
  refine Mp.of (cc := cX3_lead) (maxL := 3) (ret := (some .int)) (by decide) rfl (Nat.le_of_ble_eq_true rfl) ?_
  intro p e s m args below meth c E hr hlocks hP hK ls hl
  have E : CallFix p m c cX3_lead 3 s args wsX3_lead RX3 := E
  have hx := E.1
  have hb := E.2.1
  have hml := E.2.2.1
  have hown := E.2.2.2.1
  have hts := E.2.2.2.2
  have hl : lv_has ls 3 [(0, .ref (A 42)), (1, .int p0), (2, .int p1)] := hl
  have hinX3 : ∀ w ∈ u_ws RX3 TX3 6, w ∈ wsX3_lead := fun _ h => List.mem_cons_of_mem _ (List.mem_append_left _ (List.mem_append_right _ h))
  refine lv_iload_n hx hb dX3_lead_0 rfl (lv_at hl 1 rfl) ?_
  refine cpS (rest := []) (As := [.int p0]) E (c_X3_isLead l G A S r p0) (va_cwS 1 hts gX3_lead_X3_isLead rfl rfl rfl (by decide +kernel) ⟨Nat.le_of_ble_eq_true rfl, Nat.le_of_ble_eq_true rfl⟩) hK hP rfl hl.1 rfl (Nat.le_of_ble_eq_true rfl) dX3_lead_1 ⟨Nat.zero_le _, Nat.zero_le _⟩ ?_
  refine lv_if_ne (tgt := 9) hx hb dX3_lead_4 (by decide) (fun c1 => ?_) (fun c1 => ?_)
  · skip
    refine lv_iload_n hx hb dX3_lead_9 rfl (lv_at hl 2 rfl) ?_
    by_cases c2 : p1 = 0
    · skip
      refine lv_lookup (tgt := 36) hx hb dX3_lead_10 (by decide) (by rw [c2] <;> rfl) (by decide) ?_
      refine lv_aload_n hx hb dX3_lead_36 rfl (lv_at hl 0 rfl) ?_
      refine va_get (D := G.1) (ci := 3) (v := .ref (A (6 * 0))) (C := RX3) (T := TX3) (N := 6) hx hb hts hinX3 hown hK.1 hP 42 (wX_42 G A S r) rfl 0 (by decide) (hts (.fieldLink RX3 10 "WireLoops" "chip" "LWireLoops$Chip;") (List.mem_of_getElem? (i := 1) rfl)) (fun _ h9 => h9) rfl dX3_lead_37 ?_
      refine lv_iload_n hx hb dX3_lead_40 rfl (lv_at hl 1 rfl) ?_
      refine cpV (rest := []) (As := [.int p0]) E (c_X0_xOfLead l G A S r p0) (cwV 1 hts gX3_lead_X0_xOfLead rfl rfl rfl (by decide +kernel) ⟨Nat.le_of_ble_eq_true rfl, Nat.le_of_ble_eq_true rfl⟩) hK hP (6 * 0) (wX_o G A S r 0 (by decide)) rfl rfl hl.1 rfl (Nat.le_of_ble_eq_true rfl) dX3_lead_41 ⟨Nat.zero_le _, Nat.zero_le _⟩ ?_
      exact endP hx hb hr hlocks rfl (Eq.symm (Eq.trans (e_X3_lead S p0 p1) (Eq.trans (if_neg c1) ((if_pos c2))))) dX3_lead_44
    by_cases c3 : p1 = 1
    · skip
      refine lv_lookup (tgt := 45) hx hb dX3_lead_10 (by decide) (by rw [c3] <;> rfl) (by decide) ?_
      refine lv_aload_n hx hb dX3_lead_45 rfl (lv_at hl 0 rfl) ?_
      refine va_get (D := G.1) (ci := 3) (v := .ref (A (6 * 0))) (C := RX3) (T := TX3) (N := 6) hx hb hts hinX3 hown hK.1 hP 42 (wX_42 G A S r) rfl 0 (by decide) (hts (.fieldLink RX3 10 "WireLoops" "chip" "LWireLoops$Chip;") (List.mem_of_getElem? (i := 1) rfl)) (fun _ h9 => h9) rfl dX3_lead_46 ?_
      refine lv_iload_n hx hb dX3_lead_49 rfl (lv_at hl 1 rfl) ?_
      refine cpV (rest := []) (As := [.int p0]) E (c_X0_padAtLead l G A S r p0) (cwV 1 hts gX3_lead_X0_padAtLead rfl rfl rfl (by decide +kernel) ⟨Nat.le_of_ble_eq_true rfl, Nat.le_of_ble_eq_true rfl⟩) hK hP (6 * 0) (wX_o G A S r 0 (by decide)) rfl rfl hl.1 rfl (Nat.le_of_ble_eq_true rfl) dX3_lead_50 ⟨Nat.zero_le _, Nat.zero_le _⟩ ?_
      exact endP hx hb hr hlocks rfl (Eq.symm (Eq.trans (e_X3_lead S p0 p1) (Eq.trans (if_neg c1) (Eq.trans (if_neg c2) ((if_pos c3)))))) dX3_lead_53
    refine lv_lookup (off := 44) (tgt := 54) hx hb dX3_lead_10 (by decide) ((lv_osw c2 rfl).trans ((lv_osw c3 rfl).trans rfl)) (by decide) ?_
    refine lv_bipush (v := (-2)) hx hb dX3_lead_54 (by decide) ?_
    exact endP hx hb hr hlocks rfl (Eq.symm (Eq.trans (e_X3_lead S p0 p1) (Eq.trans (if_neg c1) (Eq.trans (if_neg c2) ((if_neg c3)))))) dX3_lead_56
  · skip
    refine lv_iconst (v := (-1)) hx hb dX3_lead_7 (by decide) ?_
    exact endP hx hb hr hlocks rfl (Eq.symm (Eq.trans (e_X3_lead S p0 p1) ((if_pos c1)))) dX3_lead_8
noncomputable def f_X3_bestHeight (S : XS) (p0 p1 : Int32) : Int32 := opq (if (f_X0_hasWire S p0) = 0 then (-1) else (if (f_X3_isWithin p1 0 1) = 0 then (-2) else (if p1 = 0 then (f_X0_clearestHeight S p0) else (f_X0_shortOnes S p0 (f_X0_clearestHeight S p0)))))
theorem e_X3_bestHeight (S : XS) (p0 p1 : Int32) : f_X3_bestHeight S p0 p1 = (if (f_X0_hasWire S p0) = 0 then (-1) else (if (f_X3_isWithin p1 0 1) = 0 then (-2) else (if p1 = 0 then (f_X0_clearestHeight S p0) else (f_X0_shortOnes S p0 (f_X0_clearestHeight S p0))))) := opq_eq _
set_option maxHeartbeats 4000000 in
set_option maxRecDepth 100000 in
theorem c_X3_bestHeight (l : Launch) (G : GG) (A : Nat → Nat) (S : XS) (r : Nat) (p0 p1 : Int32) : Mp l yX3_bestHeight wsX3_bestHeight ({ frames := 6, cells := 0, slots := 0, locals := 143 } : Room) G [.ref (A 42), .int p0, .int p1] (wX G A S r) (f_X3_bestHeight S p0 p1) := by
  refine Mp.of (cc := cX3_bestHeight) (maxL := 4) (ret := (some .int)) (by decide) rfl (Nat.le_of_ble_eq_true rfl) ?_
  intro p e s m args below meth c E hr hlocks hP hK ls hl
  have E : CallFix p m c cX3_bestHeight 4 s args wsX3_bestHeight RX3 := E
  have hx := E.1
  have hb := E.2.1
  have hml := E.2.2.1
  have hown := E.2.2.2.1
  have hts := E.2.2.2.2
  have hl : lv_has ls 4 [(0, .ref (A 42)), (1, .int p0), (2, .int p1)] := hl
  have hinX3 : ∀ w ∈ u_ws RX3 TX3 6, w ∈ wsX3_bestHeight := fun _ h => List.mem_cons_of_mem _ (List.mem_append_left _ (List.mem_append_right _ h))
  refine lv_aload_n hx hb dX3_bestHeight_0 rfl (lv_at hl 0 rfl) ?_
  refine va_get (D := G.1) (ci := 3) (v := .ref (A (6 * 0))) (C := RX3) (T := TX3) (N := 6) hx hb hts hinX3 hown hK.1 hP 42 (wX_42 G A S r) rfl 0 (by decide) (hts (.fieldLink RX3 10 "WireLoops" "chip" "LWireLoops$Chip;") (List.mem_of_getElem? (i := 1) rfl)) (fun _ h9 => h9) rfl dX3_bestHeight_1 ?_
  refine lv_iload_n hx hb dX3_bestHeight_4 rfl (lv_at hl 1 rfl) ?_
  refine cpV (rest := []) (As := [.int p0]) E (c_X0_hasWire l G A S r p0) (cwV 1 hts gX3_bestHeight_X0_hasWire rfl rfl rfl (by decide +kernel) ⟨Nat.le_of_ble_eq_true rfl, Nat.le_of_ble_eq_true rfl⟩) hK hP (6 * 0) (wX_o G A S r 0 (by decide)) rfl rfl hl.1 rfl (Nat.le_of_ble_eq_true rfl) dX3_bestHeight_5 ⟨Nat.zero_le _, Nat.zero_le _⟩ ?_
  refine lv_if_ne (tgt := 13) hx hb dX3_bestHeight_8 (by decide) (fun c1 => ?_) (fun c1 => ?_)
  · skip
    refine lv_iload_n hx hb dX3_bestHeight_13 rfl (lv_at hl 2 rfl) ?_
    refine lv_iconst (v := 0) hx hb dX3_bestHeight_14 (by decide) ?_
    refine lv_iconst (v := 1) hx hb dX3_bestHeight_15 (by decide) ?_
    refine cpS (rest := []) (As := [.int p1, .int 0, .int 1]) E (c_X3_isWithin l G A S r p1 0 1) (va_cwS 3 hts gX3_bestHeight_X3_isWithin rfl rfl rfl (by decide +kernel) ⟨Nat.le_of_ble_eq_true rfl, Nat.le_of_ble_eq_true rfl⟩) hK hP rfl hl.1 rfl (Nat.le_of_ble_eq_true rfl) dX3_bestHeight_16 ⟨Nat.zero_le _, Nat.zero_le _⟩ ?_
    refine lv_if_ne (tgt := 25) hx hb dX3_bestHeight_19 (by decide) (fun c2 => ?_) (fun c2 => ?_)
    · skip
      refine lv_aload_n hx hb dX3_bestHeight_25 rfl (lv_at hl 0 rfl) ?_
      refine va_get (D := G.1) (ci := 3) (v := .ref (A (6 * 0))) (C := RX3) (T := TX3) (N := 6) hx hb hts hinX3 hown hK.1 hP 42 (wX_42 G A S r) rfl 0 (by decide) (hts (.fieldLink RX3 10 "WireLoops" "chip" "LWireLoops$Chip;") (List.mem_of_getElem? (i := 1) rfl)) (fun _ h9 => h9) rfl dX3_bestHeight_26 ?_
      refine lv_iload_n hx hb dX3_bestHeight_29 rfl (lv_at hl 1 rfl) ?_
      refine cpV (rest := []) (As := [.int p0]) E (c_X0_clearestHeight l G A S r p0) (cwV 1 hts gX3_bestHeight_X0_clearestHeight rfl rfl rfl (by decide +kernel) ⟨Nat.le_of_ble_eq_true rfl, Nat.le_of_ble_eq_true rfl⟩) hK hP (6 * 0) (wX_o G A S r 0 (by decide)) rfl rfl hl.1 rfl (Nat.le_of_ble_eq_true rfl) dX3_bestHeight_30 ⟨Nat.zero_le _, Nat.zero_le _⟩ ?_
      refine lv_istore_n (lv' := [(3, .int (f_X0_clearestHeight S p0)), (0, .ref (A 42)), (1, .int p0), (2, .int p1)]) hx hb dX3_bestHeight_33 rfl hl (by decide) rfl (fun ls hl => ?_)
      refine lv_iload_n hx hb dX3_bestHeight_34 rfl (lv_at hl 3 rfl) ?_
      refine lv_if_ne (tgt := 42) hx hb dX3_bestHeight_35 (by decide) (fun c3 => ?_) (fun c3 => ?_)
      · skip
        refine lv_aload_n hx hb dX3_bestHeight_42 rfl (lv_at hl 1 rfl) ?_
        refine va_get (D := G.1) (ci := 3) (v := .ref (A (6 * 0))) (C := RX3) (T := TX3) (N := 6) hx hb hts hinX3 hown hK.1 hP 42 (wX_42 G A S r) rfl 0 (by decide) (hts (.fieldLink RX3 10 "WireLoops" "chip" "LWireLoops$Chip;") (List.mem_of_getElem? (i := 1) rfl)) (fun _ h9 => h9) rfl dX3_bestHeight_43 ?_
        refine lv_iload_n hx hb dX3_bestHeight_46 rfl (lv_at hl 2 rfl) ?_
        refine lv_iload_n hx hb dX3_bestHeight_47 rfl (lv_at hl 0 rfl) ?_
        refine cpV (rest := []) (As := [.int p0, .int (f_X0_clearestHeight S p0)]) E (c_X0_shortOnes l G A S r p0 (f_X0_clearestHeight S p0)) (cwV 2 hts gX3_bestHeight_X0_shortOnes rfl rfl rfl (by decide +kernel) ⟨Nat.le_of_ble_eq_true rfl, Nat.le_of_ble_eq_true rfl⟩) hK hP (6 * 0) (wX_o G A S r 0 (by decide)) rfl rfl hl.1 rfl (Nat.le_of_ble_eq_true rfl) dX3_bestHeight_48 ⟨Nat.zero_le _, Nat.zero_le _⟩ ?_
        exact endP hx hb hr hlocks rfl (Eq.symm (Eq.trans (e_X3_bestHeight S p0 p1) (Eq.trans (if_neg c1) (Eq.trans (if_neg c2) ((if_neg c3)))))) dX3_bestHeight_51
      · skip
        refine lv_iload_n hx hb dX3_bestHeight_38 rfl (lv_at hl 0 rfl) ?_
        refine lv_goto (tgt := 51) hx hb dX3_bestHeight_39 (by decide) ?_
        exact endP hx hb hr hlocks rfl (Eq.symm (Eq.trans (e_X3_bestHeight S p0 p1) (Eq.trans (if_neg c1) (Eq.trans (if_neg c2) ((if_pos c3)))))) dX3_bestHeight_51
    · skip
      refine lv_bipush (v := (-2)) hx hb dX3_bestHeight_22 (by decide) ?_
      exact endP hx hb hr hlocks rfl (Eq.symm (Eq.trans (e_X3_bestHeight S p0 p1) (Eq.trans (if_neg c1) ((if_pos c2))))) dX3_bestHeight_24
  · skip
    refine lv_iconst (v := (-1)) hx hb dX3_bestHeight_11 (by decide) ?_
    exact endP hx hb hr hlocks rfl (Eq.symm (Eq.trans (e_X3_bestHeight S p0 p1) ((if_pos c1)))) dX3_bestHeight_12
noncomputable def f_X3_laysLeft (S : XS) (p0 : Int32) : Int32 := opq (if (f_X3_isHeight p0) = 0 then (-2) else (f_X0_laysUntilStop S p0))
theorem e_X3_laysLeft (S : XS) (p0 : Int32) : f_X3_laysLeft S p0 = (if (f_X3_isHeight p0) = 0 then (-2) else (f_X0_laysUntilStop S p0)) := opq_eq _
set_option maxHeartbeats 4000000 in
set_option maxRecDepth 100000 in
theorem c_X3_laysLeft (l : Launch) (G : GG) (A : Nat → Nat) (S : XS) (r : Nat) (p0 : Int32) : Mp l yX3_laysLeft wsX3_laysLeft ({ frames := 2, cells := 0, slots := 0, locals := 44 } : Room) G [.ref (A 42), .int p0] (wX G A S r) (f_X3_laysLeft S p0) := by
  refine Mp.of (cc := cX3_laysLeft) (maxL := 2) (ret := (some .int)) (by decide) rfl (Nat.le_of_ble_eq_true rfl) ?_
  intro p e s m args below meth c E hr hlocks hP hK ls hl
  have E : CallFix p m c cX3_laysLeft 2 s args wsX3_laysLeft RX3 := E
  have hx := E.1
  have hb := E.2.1
  have hml := E.2.2.1
  have hown := E.2.2.2.1
  have hts := E.2.2.2.2
  have hl : lv_has ls 2 [(0, .ref (A 42)), (1, .int p0)] := hl
  have hinX3 : ∀ w ∈ u_ws RX3 TX3 6, w ∈ wsX3_laysLeft := fun _ h => List.mem_cons_of_mem _ (List.mem_append_left _ (List.mem_append_right _ h))
  refine lv_iload_n hx hb dX3_laysLeft_0 rfl (lv_at hl 1 rfl) ?_
  refine cpS (rest := []) (As := [.int p0]) E (c_X3_isHeight l G A S r p0) (va_cwS 1 hts gX3_laysLeft_X3_isHeight rfl rfl rfl (by decide +kernel) ⟨Nat.le_of_ble_eq_true rfl, Nat.le_of_ble_eq_true rfl⟩) hK hP rfl hl.1 rfl (Nat.le_of_ble_eq_true rfl) dX3_laysLeft_1 ⟨Nat.zero_le _, Nat.zero_le _⟩ ?_
  refine lv_if_ne (tgt := 10) hx hb dX3_laysLeft_4 (by decide) (fun c1 => ?_) (fun c1 => ?_)
  · skip
    refine lv_aload_n hx hb dX3_laysLeft_10 rfl (lv_at hl 0 rfl) ?_
    refine va_get (D := G.1) (ci := 3) (v := .ref (A (6 * 0))) (C := RX3) (T := TX3) (N := 6) hx hb hts hinX3 hown hK.1 hP 42 (wX_42 G A S r) rfl 0 (by decide) (hts (.fieldLink RX3 10 "WireLoops" "chip" "LWireLoops$Chip;") (List.mem_of_getElem? (i := 1) rfl)) (fun _ h9 => h9) rfl dX3_laysLeft_11 ?_
    refine lv_iload_n hx hb dX3_laysLeft_14 rfl (lv_at hl 1 rfl) ?_
    refine cpV (rest := []) (As := [.int p0]) E (c_X0_laysUntilStop l G A S r p0) (cwV 1 hts gX3_laysLeft_X0_laysUntilStop rfl rfl rfl (by decide +kernel) ⟨Nat.le_of_ble_eq_true rfl, Nat.le_of_ble_eq_true rfl⟩) hK hP (6 * 0) (wX_o G A S r 0 (by decide)) rfl rfl hl.1 rfl (Nat.le_of_ble_eq_true rfl) dX3_laysLeft_15 ⟨Nat.zero_le _, Nat.zero_le _⟩ ?_
    exact endP hx hb hr hlocks rfl (Eq.symm (Eq.trans (e_X3_laysLeft S p0) ((if_neg c1)))) dX3_laysLeft_18
  · skip
    refine lv_bipush (v := (-2)) hx hb dX3_laysLeft_7 (by decide) ?_
    exact endP hx hb hr hlocks rfl (Eq.symm (Eq.trans (e_X3_laysLeft S p0) ((if_pos c1)))) dX3_laysLeft_9
noncomputable def f_X3_count (S : XS) (p0 : Int32) : Int32 := opq (if p0 = 0 then (f_X0_wires S) else (if p0 = 1 then (S 0 0 0) else (if p0 = 2 then (f_X0_allCrossings S) else (if p0 = 3 then (f_X0_allShortOnes S) else (if p0 = 4 then (S 0 0 2) else (if p0 = 5 then (if (S 0 0 4) = 0 then 0 else 1) else (if p0 = 6 then (S 0 0 5) else (if p0 = 7 then (S 0 0 1) else (if p0 = 8 then (S 0 0 6) else (if p0 = 9 then (f_X0_weakestPad S) else (if p0 = 10 then (f_X0_allStrengths S) else (if p0 = 11 then (S 0 0 3) else (if p0 = 12 then (f_X1_states S) else (if p0 = 13 then (f_X2_length S) else (-2)))))))))))))))
theorem e_X3_count (S : XS) (p0 : Int32) : f_X3_count S p0 = (if p0 = 0 then (f_X0_wires S) else (if p0 = 1 then (S 0 0 0) else (if p0 = 2 then (f_X0_allCrossings S) else (if p0 = 3 then (f_X0_allShortOnes S) else (if p0 = 4 then (S 0 0 2) else (if p0 = 5 then (if (S 0 0 4) = 0 then 0 else 1) else (if p0 = 6 then (S 0 0 5) else (if p0 = 7 then (S 0 0 1) else (if p0 = 8 then (S 0 0 6) else (if p0 = 9 then (f_X0_weakestPad S) else (if p0 = 10 then (f_X0_allStrengths S) else (if p0 = 11 then (S 0 0 3) else (if p0 = 12 then (f_X1_states S) else (if p0 = 13 then (f_X2_length S) else (-2))))))))))))))) := opq_eq _
set_option maxHeartbeats 4000000 in
set_option maxRecDepth 100000 in
theorem c_X3_count (l : Launch) (G : GG) (A : Nat → Nat) (S : XS) (r : Nat) (p0 : Int32) : Mp l yX3_count wsX3_count ({ frames := 5, cells := 0, slots := 0, locals := 117 } : Room) G [.ref (A 42), .int p0] (wX G A S r) (f_X3_count S p0) := by
  refine Mp.of (cc := cX3_count) (maxL := 2) (ret := (some .int)) (by decide) rfl (Nat.le_of_ble_eq_true rfl) ?_
  intro p e s m args below meth c E hr hlocks hP hK ls hl
  have E : CallFix p m c cX3_count 2 s args wsX3_count RX3 := E
  have hx := E.1
  have hb := E.2.1
  have hml := E.2.2.1
  have hown := E.2.2.2.1
  have hts := E.2.2.2.2
  have hl : lv_has ls 2 [(0, .ref (A 42)), (1, .int p0)] := hl
  have hinX0 : ∀ w ∈ u_ws RX0 TX0 12, w ∈ wsX3_count := fun _ h => List.mem_cons_of_mem _ (List.mem_append_left _ (List.mem_append_left _ (List.mem_append_right _ h)))
  have hinX3 : ∀ w ∈ u_ws RX3 TX3 6, w ∈ wsX3_count := fun _ h => List.mem_cons_of_mem _ (List.mem_append_left _ (List.mem_append_left _ (List.mem_append_left _ (List.mem_append_right _ h))))
  refine lv_iload_n hx hb dX3_count_0 rfl (lv_at hl 1 rfl) ?_
  by_cases c1 : p0 = 0
  · skip
    refine lv_tableIn (tgt := 72) hx hb dX3_count_1 (by rw [c1]; decide) (by rw [c1]; decide) (by rw [c1]; rfl) (by decide) ?_
    refine lv_aload_n hx hb dX3_count_72 rfl (lv_at hl 0 rfl) ?_
    refine va_get (D := G.1) (ci := 3) (v := .ref (A (6 * 0))) (C := RX3) (T := TX3) (N := 6) hx hb hts hinX3 hown hK.1 hP 42 (wX_42 G A S r) rfl 0 (by decide) (hts (.fieldLink RX3 10 "WireLoops" "chip" "LWireLoops$Chip;") (List.mem_of_getElem? (i := 1) rfl)) (fun _ h9 => h9) rfl dX3_count_73 ?_
    refine cpV (rest := []) (As := []) E (c_X0_wires l G A S r) (cwV 0 hts gX3_count_X0_wires rfl rfl rfl (by decide +kernel) ⟨Nat.le_of_ble_eq_true rfl, Nat.le_of_ble_eq_true rfl⟩) hK hP (6 * 0) (wX_o G A S r 0 (by decide)) rfl rfl hl.1 rfl (Nat.le_of_ble_eq_true rfl) dX3_count_76 ⟨Nat.zero_le _, Nat.zero_le _⟩ ?_
    exact endP hx hb hr hlocks rfl (Eq.symm (Eq.trans (e_X3_count S p0) ((if_pos c1)))) dX3_count_79
  by_cases c2 : p0 = 1
  · skip
    refine lv_tableIn (tgt := 80) hx hb dX3_count_1 (by rw [c2]; decide) (by rw [c2]; decide) (by rw [c2]; rfl) (by decide) ?_
    refine lv_aload_n hx hb dX3_count_80 rfl (lv_at hl 0 rfl) ?_
    refine va_get (D := G.1) (ci := 3) (v := .ref (A (6 * 0))) (C := RX3) (T := TX3) (N := 6) hx hb hts hinX3 hown hK.1 hP 42 (wX_42 G A S r) rfl 0 (by decide) (hts (.fieldLink RX3 10 "WireLoops" "chip" "LWireLoops$Chip;") (List.mem_of_getElem? (i := 1) rfl)) (fun _ h9 => h9) rfl dX3_count_81 ?_
    refine va_getN (D := G.1) (ci := 0) (v := .int (S 0 0 0)) (C := RX0) (T := TX0) (N := 12) (own := RX3) (ref := RX0) (host := RX3) hx hb hts hinX0 hown hK.1 hP (6 * 0) (wX_o G A S r 0 (by decide)) rfl 5 (by decide) (va_Nw.use rfl (hK.2 (.fieldLinkNest "WireLoops" 183 "WireLoops$Chip" "laid" "I" "WireLoops") (by decide +kernel))) (fun _ h9 => h9) rfl dX3_count_84 ?_
    exact endP hx hb hr hlocks rfl (Eq.symm (Eq.trans (e_X3_count S p0) (Eq.trans (if_neg c1) ((if_pos c2))))) dX3_count_87
  by_cases c3 : p0 = 2
  · skip
    refine lv_tableIn (tgt := 88) hx hb dX3_count_1 (by rw [c3]; decide) (by rw [c3]; decide) (by rw [c3]; rfl) (by decide) ?_
    refine lv_aload_n hx hb dX3_count_88 rfl (lv_at hl 0 rfl) ?_
    refine va_get (D := G.1) (ci := 3) (v := .ref (A (6 * 0))) (C := RX3) (T := TX3) (N := 6) hx hb hts hinX3 hown hK.1 hP 42 (wX_42 G A S r) rfl 0 (by decide) (hts (.fieldLink RX3 10 "WireLoops" "chip" "LWireLoops$Chip;") (List.mem_of_getElem? (i := 1) rfl)) (fun _ h9 => h9) rfl dX3_count_89 ?_
    refine cpV (rest := []) (As := []) E (c_X0_allCrossings l G A S r) (cwV 0 hts gX3_count_X0_allCrossings rfl rfl rfl (by decide +kernel) ⟨Nat.le_of_ble_eq_true rfl, Nat.le_of_ble_eq_true rfl⟩) hK hP (6 * 0) (wX_o G A S r 0 (by decide)) rfl rfl hl.1 rfl (Nat.le_of_ble_eq_true rfl) dX3_count_92 ⟨Nat.zero_le _, Nat.zero_le _⟩ ?_
    exact endP hx hb hr hlocks rfl (Eq.symm (Eq.trans (e_X3_count S p0) (Eq.trans (if_neg c1) (Eq.trans (if_neg c2) ((if_pos c3)))))) dX3_count_95
  by_cases c4 : p0 = 3
  · skip
    refine lv_tableIn (tgt := 96) hx hb dX3_count_1 (by rw [c4]; decide) (by rw [c4]; decide) (by rw [c4]; rfl) (by decide) ?_
    refine lv_aload_n hx hb dX3_count_96 rfl (lv_at hl 0 rfl) ?_
    refine va_get (D := G.1) (ci := 3) (v := .ref (A (6 * 0))) (C := RX3) (T := TX3) (N := 6) hx hb hts hinX3 hown hK.1 hP 42 (wX_42 G A S r) rfl 0 (by decide) (hts (.fieldLink RX3 10 "WireLoops" "chip" "LWireLoops$Chip;") (List.mem_of_getElem? (i := 1) rfl)) (fun _ h9 => h9) rfl dX3_count_97 ?_
    refine cpV (rest := []) (As := []) E (c_X0_allShortOnes l G A S r) (cwV 0 hts gX3_count_X0_allShortOnes rfl rfl rfl (by decide +kernel) ⟨Nat.le_of_ble_eq_true rfl, Nat.le_of_ble_eq_true rfl⟩) hK hP (6 * 0) (wX_o G A S r 0 (by decide)) rfl rfl hl.1 rfl (Nat.le_of_ble_eq_true rfl) dX3_count_100 ⟨Nat.zero_le _, Nat.zero_le _⟩ ?_
    exact endP hx hb hr hlocks rfl (Eq.symm (Eq.trans (e_X3_count S p0) (Eq.trans (if_neg c1) (Eq.trans (if_neg c2) (Eq.trans (if_neg c3) ((if_pos c4))))))) dX3_count_103
  by_cases c5 : p0 = 4
  · skip
    refine lv_tableIn (tgt := 104) hx hb dX3_count_1 (by rw [c5]; decide) (by rw [c5]; decide) (by rw [c5]; rfl) (by decide) ?_
    refine lv_aload_n hx hb dX3_count_104 rfl (lv_at hl 0 rfl) ?_
    refine va_get (D := G.1) (ci := 3) (v := .ref (A (6 * 0))) (C := RX3) (T := TX3) (N := 6) hx hb hts hinX3 hown hK.1 hP 42 (wX_42 G A S r) rfl 0 (by decide) (hts (.fieldLink RX3 10 "WireLoops" "chip" "LWireLoops$Chip;") (List.mem_of_getElem? (i := 1) rfl)) (fun _ h9 => h9) rfl dX3_count_105 ?_
    refine va_getN (D := G.1) (ci := 0) (v := .int (S 0 0 2)) (C := RX0) (T := TX0) (N := 12) (own := RX3) (ref := RX0) (host := RX3) hx hb hts hinX0 hown hK.1 hP (6 * 0) (wX_o G A S r 0 (by decide)) rfl 7 (by decide) (va_Nw.use rfl (hK.2 (.fieldLinkNest "WireLoops" 111 "WireLoops$Chip" "wear" "I" "WireLoops") (by decide +kernel))) (fun _ h9 => h9) rfl dX3_count_108 ?_
    exact endP hx hb hr hlocks rfl (Eq.symm (Eq.trans (e_X3_count S p0) (Eq.trans (if_neg c1) (Eq.trans (if_neg c2) (Eq.trans (if_neg c3) (Eq.trans (if_neg c4) ((if_pos c5)))))))) dX3_count_111
  by_cases c6 : p0 = 5
  · skip
    refine lv_tableIn (tgt := 112) hx hb dX3_count_1 (by rw [c6]; decide) (by rw [c6]; decide) (by rw [c6]; rfl) (by decide) ?_
    refine lv_aload_n hx hb dX3_count_112 rfl (lv_at hl 0 rfl) ?_
    refine va_get (D := G.1) (ci := 3) (v := .ref (A (6 * 0))) (C := RX3) (T := TX3) (N := 6) hx hb hts hinX3 hown hK.1 hP 42 (wX_42 G A S r) rfl 0 (by decide) (hts (.fieldLink RX3 10 "WireLoops" "chip" "LWireLoops$Chip;") (List.mem_of_getElem? (i := 1) rfl)) (fun _ h9 => h9) rfl dX3_count_113 ?_
    refine va_getN (D := G.1) (ci := 0) (v := .int (S 0 0 4)) (C := RX0) (T := TX0) (N := 12) (own := RX3) (ref := RX0) (host := RX3) hx hb hts hinX0 hown hK.1 hP (6 * 0) (wX_o G A S r 0 (by decide)) rfl 9 (by decide) (va_Nw.use rfl (hK.2 (.fieldLinkNest "WireLoops" 117 "WireLoops$Chip" "tailLost" "Z" "WireLoops") (by decide +kernel))) (fun _ h9 => h9) rfl dX3_count_116 ?_
    refine lv_if_eq (tgt := 126) hx hb dX3_count_119 (by decide) (fun c7 => ?_) (fun c7 => ?_)
    · skip
      refine lv_iconst (v := 0) hx hb dX3_count_126 (by decide) ?_
      exact endP hx hb hr hlocks rfl (Eq.symm (Eq.trans (e_X3_count S p0) (Eq.trans (if_neg c1) (Eq.trans (if_neg c2) (Eq.trans (if_neg c3) (Eq.trans (if_neg c4) (Eq.trans (if_neg c5) (Eq.trans (if_pos c6) ((if_pos c7)))))))))) dX3_count_127
    · skip
      refine lv_iconst (v := 1) hx hb dX3_count_122 (by decide) ?_
      refine lv_goto (tgt := 127) hx hb dX3_count_123 (by decide) ?_
      exact endP hx hb hr hlocks rfl (Eq.symm (Eq.trans (e_X3_count S p0) (Eq.trans (if_neg c1) (Eq.trans (if_neg c2) (Eq.trans (if_neg c3) (Eq.trans (if_neg c4) (Eq.trans (if_neg c5) (Eq.trans (if_pos c6) ((if_neg c7)))))))))) dX3_count_127
  by_cases c8 : p0 = 6
  · skip
    refine lv_tableIn (tgt := 128) hx hb dX3_count_1 (by rw [c8]; decide) (by rw [c8]; decide) (by rw [c8]; rfl) (by decide) ?_
    refine lv_aload_n hx hb dX3_count_128 rfl (lv_at hl 0 rfl) ?_
    refine va_get (D := G.1) (ci := 3) (v := .ref (A (6 * 0))) (C := RX3) (T := TX3) (N := 6) hx hb hts hinX3 hown hK.1 hP 42 (wX_42 G A S r) rfl 0 (by decide) (hts (.fieldLink RX3 10 "WireLoops" "chip" "LWireLoops$Chip;") (List.mem_of_getElem? (i := 1) rfl)) (fun _ h9 => h9) rfl dX3_count_129 ?_
    refine va_getN (D := G.1) (ci := 0) (v := .int (S 0 0 5)) (C := RX0) (T := TX0) (N := 12) (own := RX3) (ref := RX0) (host := RX3) hx hb hts hinX0 hown hK.1 hP (6 * 0) (wX_o G A S r 0 (by decide)) rfl 10 (by decide) (va_Nw.use rfl (hK.2 (.fieldLinkNest "WireLoops" 120 "WireLoops$Chip" "tailsLost" "I" "WireLoops") (by decide +kernel))) (fun _ h9 => h9) rfl dX3_count_132 ?_
    exact endP hx hb hr hlocks rfl (Eq.symm (Eq.trans (e_X3_count S p0) (Eq.trans (if_neg c1) (Eq.trans (if_neg c2) (Eq.trans (if_neg c3) (Eq.trans (if_neg c4) (Eq.trans (if_neg c5) (Eq.trans (if_neg c6) ((if_pos c8)))))))))) dX3_count_135
  by_cases c9 : p0 = 7
  · skip
    refine lv_tableIn (tgt := 136) hx hb dX3_count_1 (by rw [c9]; decide) (by rw [c9]; decide) (by rw [c9]; rfl) (by decide) ?_
    refine lv_aload_n hx hb dX3_count_136 rfl (lv_at hl 0 rfl) ?_
    refine va_get (D := G.1) (ci := 3) (v := .ref (A (6 * 0))) (C := RX3) (T := TX3) (N := 6) hx hb hts hinX3 hown hK.1 hP 42 (wX_42 G A S r) rfl 0 (by decide) (hts (.fieldLink RX3 10 "WireLoops" "chip" "LWireLoops$Chip;") (List.mem_of_getElem? (i := 1) rfl)) (fun _ h9 => h9) rfl dX3_count_137 ?_
    refine va_getN (D := G.1) (ci := 0) (v := .int (S 0 0 1)) (C := RX0) (T := TX0) (N := 12) (own := RX3) (ref := RX0) (host := RX3) hx hb hts hinX0 hown hK.1 hP (6 * 0) (wX_o G A S r 0 (by decide)) rfl 6 (by decide) (va_Nw.use rfl (hK.2 (.fieldLinkNest "WireLoops" 107 "WireLoops$Chip" "width" "I" "WireLoops") (by decide +kernel))) (fun _ h9 => h9) rfl dX3_count_140 ?_
    exact endP hx hb hr hlocks rfl (Eq.symm (Eq.trans (e_X3_count S p0) (Eq.trans (if_neg c1) (Eq.trans (if_neg c2) (Eq.trans (if_neg c3) (Eq.trans (if_neg c4) (Eq.trans (if_neg c5) (Eq.trans (if_neg c6) (Eq.trans (if_neg c8) ((if_pos c9))))))))))) dX3_count_143
  by_cases c10 : p0 = 8
  · skip
    refine lv_tableIn (tgt := 144) hx hb dX3_count_1 (by rw [c10]; decide) (by rw [c10]; decide) (by rw [c10]; rfl) (by decide) ?_
    refine lv_aload_n hx hb dX3_count_144 rfl (lv_at hl 0 rfl) ?_
    refine va_get (D := G.1) (ci := 3) (v := .ref (A (6 * 0))) (C := RX3) (T := TX3) (N := 6) hx hb hts hinX3 hown hK.1 hP 42 (wX_42 G A S r) rfl 0 (by decide) (hts (.fieldLink RX3 10 "WireLoops" "chip" "LWireLoops$Chip;") (List.mem_of_getElem? (i := 1) rfl)) (fun _ h9 => h9) rfl dX3_count_145 ?_
    refine va_getN (D := G.1) (ci := 0) (v := .int (S 0 0 6)) (C := RX0) (T := TX0) (N := 12) (own := RX3) (ref := RX0) (host := RX3) hx hb hts hinX0 hown hK.1 hP (6 * 0) (wX_o G A S r 0 (by decide)) rfl 11 (by decide) (va_Nw.use rfl (hK.2 (.fieldLinkNest "WireLoops" 192 "WireLoops$Chip" "broken" "I" "WireLoops") (by decide +kernel))) (fun _ h9 => h9) rfl dX3_count_148 ?_
    exact endP hx hb hr hlocks rfl (Eq.symm (Eq.trans (e_X3_count S p0) (Eq.trans (if_neg c1) (Eq.trans (if_neg c2) (Eq.trans (if_neg c3) (Eq.trans (if_neg c4) (Eq.trans (if_neg c5) (Eq.trans (if_neg c6) (Eq.trans (if_neg c8) (Eq.trans (if_neg c9) ((if_pos c10)))))))))))) dX3_count_151
  by_cases c11 : p0 = 9
  · skip
    refine lv_tableIn (tgt := 152) hx hb dX3_count_1 (by rw [c11]; decide) (by rw [c11]; decide) (by rw [c11]; rfl) (by decide) ?_
    refine lv_aload_n hx hb dX3_count_152 rfl (lv_at hl 0 rfl) ?_
    refine va_get (D := G.1) (ci := 3) (v := .ref (A (6 * 0))) (C := RX3) (T := TX3) (N := 6) hx hb hts hinX3 hown hK.1 hP 42 (wX_42 G A S r) rfl 0 (by decide) (hts (.fieldLink RX3 10 "WireLoops" "chip" "LWireLoops$Chip;") (List.mem_of_getElem? (i := 1) rfl)) (fun _ h9 => h9) rfl dX3_count_153 ?_
    refine cpV (rest := []) (As := []) E (c_X0_weakestPad l G A S r) (cwV 0 hts gX3_count_X0_weakestPad rfl rfl rfl (by decide +kernel) ⟨Nat.le_of_ble_eq_true rfl, Nat.le_of_ble_eq_true rfl⟩) hK hP (6 * 0) (wX_o G A S r 0 (by decide)) rfl rfl hl.1 rfl (Nat.le_of_ble_eq_true rfl) dX3_count_156 ⟨Nat.zero_le _, Nat.zero_le _⟩ ?_
    exact endP hx hb hr hlocks rfl (Eq.symm (Eq.trans (e_X3_count S p0) (Eq.trans (if_neg c1) (Eq.trans (if_neg c2) (Eq.trans (if_neg c3) (Eq.trans (if_neg c4) (Eq.trans (if_neg c5) (Eq.trans (if_neg c6) (Eq.trans (if_neg c8) (Eq.trans (if_neg c9) (Eq.trans (if_neg c10) ((if_pos c11))))))))))))) dX3_count_159
  by_cases c12 : p0 = 10
  · skip
    refine lv_tableIn (tgt := 160) hx hb dX3_count_1 (by rw [c12]; decide) (by rw [c12]; decide) (by rw [c12]; rfl) (by decide) ?_
    refine lv_aload_n hx hb dX3_count_160 rfl (lv_at hl 0 rfl) ?_
    refine va_get (D := G.1) (ci := 3) (v := .ref (A (6 * 0))) (C := RX3) (T := TX3) (N := 6) hx hb hts hinX3 hown hK.1 hP 42 (wX_42 G A S r) rfl 0 (by decide) (hts (.fieldLink RX3 10 "WireLoops" "chip" "LWireLoops$Chip;") (List.mem_of_getElem? (i := 1) rfl)) (fun _ h9 => h9) rfl dX3_count_161 ?_
    refine cpV (rest := []) (As := []) E (c_X0_allStrengths l G A S r) (cwV 0 hts gX3_count_X0_allStrengths rfl rfl rfl (by decide +kernel) ⟨Nat.le_of_ble_eq_true rfl, Nat.le_of_ble_eq_true rfl⟩) hK hP (6 * 0) (wX_o G A S r 0 (by decide)) rfl rfl hl.1 rfl (Nat.le_of_ble_eq_true rfl) dX3_count_164 ⟨Nat.zero_le _, Nat.zero_le _⟩ ?_
    exact endP hx hb hr hlocks rfl (Eq.symm (Eq.trans (e_X3_count S p0) (Eq.trans (if_neg c1) (Eq.trans (if_neg c2) (Eq.trans (if_neg c3) (Eq.trans (if_neg c4) (Eq.trans (if_neg c5) (Eq.trans (if_neg c6) (Eq.trans (if_neg c8) (Eq.trans (if_neg c9) (Eq.trans (if_neg c10) (Eq.trans (if_neg c11) ((if_pos c12)))))))))))))) dX3_count_167
  by_cases c13 : p0 = 11
  · skip
    refine lv_tableIn (tgt := 168) hx hb dX3_count_1 (by rw [c13]; decide) (by rw [c13]; decide) (by rw [c13]; rfl) (by decide) ?_
    refine lv_aload_n hx hb dX3_count_168 rfl (lv_at hl 0 rfl) ?_
    refine va_get (D := G.1) (ci := 3) (v := .ref (A (6 * 0))) (C := RX3) (T := TX3) (N := 6) hx hb hts hinX3 hown hK.1 hP 42 (wX_42 G A S r) rfl 0 (by decide) (hts (.fieldLink RX3 10 "WireLoops" "chip" "LWireLoops$Chip;") (List.mem_of_getElem? (i := 1) rfl)) (fun _ h9 => h9) rfl dX3_count_169 ?_
    refine va_getN (D := G.1) (ci := 0) (v := .int (S 0 0 3)) (C := RX0) (T := TX0) (N := 12) (own := RX3) (ref := RX0) (host := RX3) hx hb hts hinX0 hown hK.1 hP (6 * 0) (wX_o G A S r 0 (by decide)) rfl 8 (by decide) (va_Nw.use rfl (hK.2 (.fieldLinkNest "WireLoops" 114 "WireLoops$Chip" "toolsChanged" "I" "WireLoops") (by decide +kernel))) (fun _ h9 => h9) rfl dX3_count_172 ?_
    exact endP hx hb hr hlocks rfl (Eq.symm (Eq.trans (e_X3_count S p0) (Eq.trans (if_neg c1) (Eq.trans (if_neg c2) (Eq.trans (if_neg c3) (Eq.trans (if_neg c4) (Eq.trans (if_neg c5) (Eq.trans (if_neg c6) (Eq.trans (if_neg c8) (Eq.trans (if_neg c9) (Eq.trans (if_neg c10) (Eq.trans (if_neg c11) (Eq.trans (if_neg c12) ((if_pos c13))))))))))))))) dX3_count_175
  by_cases c14 : p0 = 12
  · skip
    refine lv_tableIn (tgt := 176) hx hb dX3_count_1 (by rw [c14]; decide) (by rw [c14]; decide) (by rw [c14]; rfl) (by decide) ?_
    refine lv_aload_n hx hb dX3_count_176 rfl (lv_at hl 0 rfl) ?_
    refine va_get (D := G.1) (ci := 3) (v := .ref (A 43)) (C := RX3) (T := TX3) (N := 6) hx hb hts hinX3 hown hK.1 hP 42 (wX_42 G A S r) rfl 4 (by decide) (hts (.fieldLink RX3 29 "WireLoops" "history" "LWireLoops$History;") (List.mem_of_getElem? (i := 2) rfl)) (fun _ h9 => h9) rfl dX3_count_177 ?_
    refine cpV (rest := []) (As := []) E (c_X1_states l G A S r) (cwV 0 hts gX3_count_X1_states rfl rfl rfl (by decide +kernel) ⟨Nat.le_of_ble_eq_true rfl, Nat.le_of_ble_eq_true rfl⟩) hK hP 43 (wX_43 G A S r) rfl rfl hl.1 rfl (Nat.le_of_ble_eq_true rfl) dX3_count_180 ⟨Nat.zero_le _, Nat.zero_le _⟩ ?_
    exact endP hx hb hr hlocks rfl (Eq.symm (Eq.trans (e_X3_count S p0) (Eq.trans (if_neg c1) (Eq.trans (if_neg c2) (Eq.trans (if_neg c3) (Eq.trans (if_neg c4) (Eq.trans (if_neg c5) (Eq.trans (if_neg c6) (Eq.trans (if_neg c8) (Eq.trans (if_neg c9) (Eq.trans (if_neg c10) (Eq.trans (if_neg c11) (Eq.trans (if_neg c12) (Eq.trans (if_neg c13) ((if_pos c14)))))))))))))))) dX3_count_183
  by_cases c15 : p0 = 13
  · skip
    refine lv_tableIn (tgt := 184) hx hb dX3_count_1 (by rw [c15]; decide) (by rw [c15]; decide) (by rw [c15]; rfl) (by decide) ?_
    refine lv_aload_n hx hb dX3_count_184 rfl (lv_at hl 0 rfl) ?_
    refine va_get (D := G.1) (ci := 3) (v := .ref (A 45)) (C := RX3) (T := TX3) (N := 6) hx hb hts hinX3 hown hK.1 hP 42 (wX_42 G A S r) rfl 5 (by decide) (hts (.fieldLink RX3 36 "WireLoops" "text" "LWireLoops$WireList;") (List.mem_of_getElem? (i := 3) rfl)) (fun _ h9 => h9) rfl dX3_count_185 ?_
    refine cpV (rest := []) (As := []) E (c_X2_length l G A S r) (cwV 0 hts gX3_count_X2_length rfl rfl rfl (by decide +kernel) ⟨Nat.le_of_ble_eq_true rfl, Nat.le_of_ble_eq_true rfl⟩) hK hP 45 (wX_45 G A S r) rfl rfl hl.1 rfl (Nat.le_of_ble_eq_true rfl) dX3_count_188 ⟨Nat.zero_le _, Nat.zero_le _⟩ ?_
    exact endP hx hb hr hlocks rfl (Eq.symm (Eq.trans (e_X3_count S p0) (Eq.trans (if_neg c1) (Eq.trans (if_neg c2) (Eq.trans (if_neg c3) (Eq.trans (if_neg c4) (Eq.trans (if_neg c5) (Eq.trans (if_neg c6) (Eq.trans (if_neg c8) (Eq.trans (if_neg c9) (Eq.trans (if_neg c10) (Eq.trans (if_neg c11) (Eq.trans (if_neg c12) (Eq.trans (if_neg c13) (Eq.trans (if_neg c14) ((if_pos c15))))))))))))))))) dX3_count_191
  refine lv_tableOut (tgt := 192) hx hb dX3_count_1 (sw_out 0 13 p0 (by decide) (by intro j h1 h2; rcases (show j = 0 ∨ j = 1 ∨ j = 2 ∨ j = 3 ∨ j = 4 ∨ j = 5 ∨ j = 6 ∨ j = 7 ∨ j = 8 ∨ j = 9 ∨ j = 10 ∨ j = 11 ∨ j = 12 ∨ j = 13 by omega) with rfl | rfl | rfl | rfl | rfl | rfl | rfl | rfl | rfl | rfl | rfl | rfl | rfl | rfl <;> assumption)) (by decide) ?_
  refine lv_bipush (v := (-2)) hx hb dX3_count_192 (by decide) ?_
  exact endP hx hb hr hlocks rfl (Eq.symm (Eq.trans (e_X3_count S p0) (Eq.trans (if_neg c1) (Eq.trans (if_neg c2) (Eq.trans (if_neg c3) (Eq.trans (if_neg c4) (Eq.trans (if_neg c5) (Eq.trans (if_neg c6) (Eq.trans (if_neg c8) (Eq.trans (if_neg c9) (Eq.trans (if_neg c10) (Eq.trans (if_neg c11) (Eq.trans (if_neg c12) (Eq.trans (if_neg c13) (Eq.trans (if_neg c14) ((if_neg c15))))))))))))))))) dX3_count_194
