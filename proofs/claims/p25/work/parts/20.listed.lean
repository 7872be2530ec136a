theorem l7_addWire (S : XS) (x y z : Int32) : f_X0_addWire S x y z 7 = S 7 := by
  rw [e_X0_addWire]
  repeat' split
  all_goals rfl
noncomputable def g_X0_addListed_2 : Nat → Nat → XS → Int32 × XS
  | 0, k, S1 => (0, S1)
  | n + 1, k, S1 => opq (if (f_X2_listed S1) ≤ (nI k) then (0, S1) else (if (f_X0_errorOfLaying S1 (f_X2_listedPad S1 (nI k)) (f_X2_listedLead S1 (nI k))) = 0 then (g_X0_addListed_2 n (k + 1) (f_X0_addWire S1 (f_X2_listedPad S1 (nI k)) (f_X2_listedLead S1 (nI k)) (f_X2_listedHeight S1 (nI k)))) else ((f_X0_errorOfLaying S1 (f_X2_listedPad S1 (nI k)) (f_X2_listedLead S1 (nI k))), S1)))
theorem ge_X0_addListed_2 (n : Nat) (k : Nat) (S1 : XS) : g_X0_addListed_2 (n + 1) k S1 = (if (f_X2_listed S1) ≤ (nI k) then (0, S1) else (if (f_X0_errorOfLaying S1 (f_X2_listedPad S1 (nI k)) (f_X2_listedLead S1 (nI k))) = 0 then (g_X0_addListed_2 n (k + 1) (f_X0_addWire S1 (f_X2_listedPad S1 (nI k)) (f_X2_listedLead S1 (nI k)) (f_X2_listedHeight S1 (nI k)))) else ((f_X0_errorOfLaying S1 (f_X2_listedPad S1 (nI k)) (f_X2_listedLead S1 (nI k))), S1))) := opq_eq _
noncomputable def f_X0_addListed (S : XS) : Int32 × XS := opq (g_X0_addListed_2 21 0 S)
theorem e_X0_addListed (S : XS) : f_X0_addListed S = (g_X0_addListed_2 21 0 S) := opq_eq _
set_option maxHeartbeats 4000000 in
set_option maxRecDepth 100000 in
theorem c_X0_addListed (l : Launch) (G : GG) (A : Nat → Nat) (S : XS) (r : Nat)  (t : Nat) (ht0 : S 7 0 4 = nI t) (ht20 : t ≤ 20) : Mm l yX0_addListed wsX0_addListed ({ frames := 4, cells := 0, slots := 0, locals := 88 } : Room) G [.ref (A (6 * 0)), .ref (A 45)] (wX G A S r) (f_X0_addListed S).1 (wX G A (f_X0_addListed S).2 r) := by
  refine Mm.of (cc := cX0_addListed) (maxL := 6) (ret := (some .int)) (by decide) rfl (Nat.le_of_ble_eq_true rfl) ?_
  intro p e s m args below meth c A0 hA0 E hr hlocks hP hK hD hA hS ls hl
  have E : CallFix p m c cX0_addListed 6 s args wsX0_addListed RX0 := E
  have hx := E.1
  have hb := E.2.1
  have hml := E.2.2.1
  have hown := E.2.2.2.1
  have hts := E.2.2.2.2
  have hl : lv_has ls 6 [(0, .ref (A (6 * 0))), (1, .ref (A 45))] := hl
  have LOOP2 : ∀ (n : Nat) (k : Nat) (S1 : XS), (k ≤ t) → (S1 7 0 4 = nI t) → (t < k + n) → g_X0_addListed_2 n k S1 = (f_X0_addListed S) → ∀ (H : Heap) (locs : List Loc), va_P G.1 vwCl (wX G A S1 r) H → va_D A0 (wX G A S1 r) → va_S A0 s.heap H locs → ∀ ls : Array Slot, lv_has ls 6 [(0, .ref (A (6 * 0))), (1, .ref (A 45)), (2, .int (nI k))] → W p l e ({ frames := 4, cells := 0, slots := 0, locals := 88 } : Room) s m args below meth c H locs 0 0 (MQ below (va_Qi (fun (r : Int32) (_ : Unit) => r = (f_X0_addListed S).1) (fun _ t => va_P G.1 vwCl (wX G A (f_X0_addListed S).2 r) t.heap ∧ va_D A0 (wX G A (f_X0_addListed S).2 r)) A0) args s 0 0 A0) (F0 m 2 ls []) := by
    intro n
    induction n with
    | zero =>
      intro k S1 hk ht hn
      exact absurd hn (by omega)
    | succ n ih =>
      intro k S1 hk ht hn hres H locs hP hD hS ls hl
      have hl : lv_has ls 6 [(0, .ref (A (6 * 0))), (1, .ref (A 45)), (2, .int (nI k))] := hl
      refine lv_iload_n hx hb dX0_addListed_2 rfl (lv_at hl 2 rfl) ?_
      refine lv_aload_n hx hb dX0_addListed_3 rfl (lv_at hl 1 rfl) ?_
      refine cpV (rest := [.int (nI k)]) (As := []) E (c_X2_listed l G A S1 r) (cwV 0 hts gX0_addListed_X2_listed rfl rfl rfl (by decide +kernel) ⟨Nat.le_of_ble_eq_true rfl, Nat.le_of_ble_eq_true rfl⟩) hK hP 45 (wX_45 G A S1 r) rfl rfl hl.1 rfl (Nat.le_of_ble_eq_true rfl) dX0_addListed_4 ⟨Nat.zero_le _, Nat.zero_le _⟩ ?_
      refine lv_icmp_ge (tgt := 58) hx hb dX0_addListed_7 (by decide) (fun c1 => ?_) (fun c1 => ?_)
      · skip
        refine lv_iconst (v := 0) hx hb dX0_addListed_58 (by decide) ?_
        have hfin : (0, S1) = (f_X0_addListed S) := Eq.trans (Eq.symm (Eq.trans (ge_X0_addListed_2 n k S1) ((if_pos c1)))) hres
        exact endM hx hb hr hlocks rfl hP hD hS ⟨@congrArg (Int32 × XS) Int32 (0, S1) (f_X0_addListed S) Prod.fst hfin, @congrArg (Int32 × XS) va_W (0, S1) (f_X0_addListed S) (fun z => wX G A z.2 r) hfin⟩ dX0_addListed_59
      · skip
        have hk2 : k < t := lt_of_nle (N := t) ((e_X2_listed S1).trans ht) hk c1 (by omega)
        refine lv_aload_n hx hb dX0_addListed_10 rfl (lv_at hl 1 rfl) ?_
        refine lv_iload_n hx hb dX0_addListed_11 rfl (lv_at hl 2 rfl) ?_
        refine cpV (rest := []) (As := [.int (nI k)]) E (c_X2_listedPad l G A S1 r (nI k)) (cwV 1 hts gX0_addListed_X2_listedPad rfl rfl rfl (by decide +kernel) ⟨Nat.le_of_ble_eq_true rfl, Nat.le_of_ble_eq_true rfl⟩) hK hP 45 (wX_45 G A S1 r) rfl rfl hl.1 rfl (Nat.le_of_ble_eq_true rfl) dX0_addListed_12 ⟨Nat.zero_le _, Nat.zero_le _⟩ ?_
        refine lv_istore_n (lv' := [(3, .int (f_X2_listedPad S1 (nI k))), (0, .ref (A (6 * 0))), (1, .ref (A 45)), (2, .int (nI k))]) hx hb dX0_addListed_15 rfl hl (by decide) rfl (fun ls hl => ?_)
        refine lv_aload_n hx hb dX0_addListed_16 rfl (lv_at hl 2 rfl) ?_
        refine lv_iload_n hx hb dX0_addListed_17 rfl (lv_at hl 3 rfl) ?_
        refine cpV (rest := []) (As := [.int (nI k)]) E (c_X2_listedLead l G A S1 r (nI k)) (cwV 1 hts gX0_addListed_X2_listedLead rfl rfl rfl (by decide +kernel) ⟨Nat.le_of_ble_eq_true rfl, Nat.le_of_ble_eq_true rfl⟩) hK hP 45 (wX_45 G A S1 r) rfl rfl hl.1 rfl (Nat.le_of_ble_eq_true rfl) dX0_addListed_18 ⟨Nat.zero_le _, Nat.zero_le _⟩ ?_
        refine lv_istore (lv' := [(4, .int (f_X2_listedLead S1 (nI k))), (3, .int (f_X2_listedPad S1 (nI k))), (0, .ref (A (6 * 0))), (1, .ref (A 45)), (2, .int (nI k))]) hx hb dX0_addListed_21 hl (by decide) rfl (fun ls hl => ?_)
        refine lv_aload_n hx hb dX0_addListed_23 rfl (lv_at hl 2 rfl) ?_
        refine lv_iload_n hx hb dX0_addListed_24 rfl (lv_at hl 1 rfl) ?_
        refine lv_iload hx hb dX0_addListed_25 (lv_at hl 0 rfl) ?_
        refine cpV (rest := []) (As := [.int (f_X2_listedPad S1 (nI k)), .int (f_X2_listedLead S1 (nI k))]) E (c_X0_errorOfLaying l G A S1 r (f_X2_listedPad S1 (nI k)) (f_X2_listedLead S1 (nI k))) (cwV 2 hts gX0_addListed_X0_errorOfLaying rfl rfl rfl (by decide +kernel) ⟨Nat.le_of_ble_eq_true rfl, Nat.le_of_ble_eq_true rfl⟩) hK hP (6 * 0) (wX_o G A S1 r 0 (by decide)) rfl rfl hl.1 rfl (Nat.le_of_ble_eq_true rfl) dX0_addListed_27 ⟨Nat.zero_le _, Nat.zero_le _⟩ ?_
        refine lv_istore (lv' := [(5, .int (f_X0_errorOfLaying S1 (f_X2_listedPad S1 (nI k)) (f_X2_listedLead S1 (nI k)))), (4, .int (f_X2_listedLead S1 (nI k))), (3, .int (f_X2_listedPad S1 (nI k))), (0, .ref (A (6 * 0))), (1, .ref (A 45)), (2, .int (nI k))]) hx hb dX0_addListed_30 hl (by decide) rfl (fun ls hl => ?_)
        refine lv_iload hx hb dX0_addListed_32 (lv_at hl 0 rfl) ?_
        refine lv_if_eq (tgt := 40) hx hb dX0_addListed_34 (by decide) (fun c2 => ?_) (fun c2 => ?_)
        · skip
          refine lv_aload_n hx hb dX0_addListed_40 rfl (lv_at hl 3 rfl) ?_
          refine lv_iload_n hx hb dX0_addListed_41 rfl (lv_at hl 2 rfl) ?_
          refine lv_iload hx hb dX0_addListed_42 (lv_at hl 1 rfl) ?_
          refine lv_aload_n hx hb dX0_addListed_44 rfl (lv_at hl 4 rfl) ?_
          refine lv_iload_n hx hb dX0_addListed_45 rfl (lv_at hl 5 rfl) ?_
          refine cpV (rest := [.int (f_X2_listedLead S1 (nI k)), .int (f_X2_listedPad S1 (nI k)), .ref (A (6 * 0))]) (As := [.int (nI k)]) E (c_X2_listedHeight l G A S1 r (nI k)) (cwV 1 hts gX0_addListed_X2_listedHeight rfl rfl rfl (by decide +kernel) ⟨Nat.le_of_ble_eq_true rfl, Nat.le_of_ble_eq_true rfl⟩) hK hP 45 (wX_45 G A S1 r) rfl rfl hl.1 rfl (Nat.le_of_ble_eq_true rfl) dX0_addListed_46 ⟨Nat.zero_le _, Nat.zero_le _⟩ ?_
          refine czV (rest := []) (As := [.int (f_X2_listedPad S1 (nI k)), .int (f_X2_listedLead S1 (nI k)), .int (f_X2_listedHeight S1 (nI k))]) E (c_X0_addWire l G A S1 r (f_X2_listedPad S1 (nI k)) (f_X2_listedLead S1 (nI k)) (f_X2_listedHeight S1 (nI k))) (cwV 3 hts gX0_addListed_X0_addWire rfl rfl rfl (by decide +kernel) ⟨Nat.le_of_ble_eq_true rfl, Nat.le_of_ble_eq_true rfl⟩) hK hP hD hS hA (6 * 0) (wX_o G A S1 r 0 (by decide)) rfl rfl hl.1 rfl (Nat.le_of_ble_eq_true rfl) dX0_addListed_49 ⟨Nat.zero_le _, Nat.zero_le _⟩ (fun H locs hP hD hS => ?_)
          refine lv_iinc (v := (nI (k + 1))) (lv' := [(2, .int (nI (k + 1))), (5, .int (f_X0_errorOfLaying S1 (f_X2_listedPad S1 (nI k)) (f_X2_listedLead S1 (nI k)))), (4, .int (f_X2_listedLead S1 (nI k))), (3, .int (f_X2_listedPad S1 (nI k))), (0, .ref (A (6 * 0))), (1, .ref (A 45))]) hx hb dX0_addListed_52 hl (k := 5) rfl (nI_1 k) (by decide) rfl (fun ls hl => ?_)
          refine lv_goto (tgt := 2) hx hb dX0_addListed_55 (by decide) ?_
          exact ih (k + 1) (f_X0_addWire S1 (f_X2_listedPad S1 (nI k)) (f_X2_listedLead S1 (nI k)) (f_X2_listedHeight S1 (nI k))) (by omega) (by rw [l7_addWire]; exact ht) (by omega) (Eq.trans (Eq.symm (Eq.trans (ge_X0_addListed_2 n k S1) (Eq.trans (if_neg c1) ((if_pos c2))))) hres) _ _ hP hD hS _ (lv_sub hl [4, 5, 0] rfl)
        · skip
          refine lv_iload hx hb dX0_addListed_37 (lv_at hl 0 rfl) ?_
          have hfin : ((f_X0_errorOfLaying S1 (f_X2_listedPad S1 (nI k)) (f_X2_listedLead S1 (nI k))), S1) = (f_X0_addListed S) := Eq.trans (Eq.symm (Eq.trans (ge_X0_addListed_2 n k S1) (Eq.trans (if_neg c1) ((if_neg c2))))) hres
          exact endM hx hb hr hlocks rfl hP hD hS ⟨@congrArg (Int32 × XS) Int32 ((f_X0_errorOfLaying S1 (f_X2_listedPad S1 (nI k)) (f_X2_listedLead S1 (nI k))), S1) (f_X0_addListed S) Prod.fst hfin, @congrArg (Int32 × XS) va_W ((f_X0_errorOfLaying S1 (f_X2_listedPad S1 (nI k)) (f_X2_listedLead S1 (nI k))), S1) (f_X0_addListed S) (fun z => wX G A z.2 r) hfin⟩ dX0_addListed_39
  refine lv_iconst (v := 0) hx hb dX0_addListed_0 (by decide) ?_
  refine lv_istore_n (lv' := [(2, .int 0), (0, .ref (A (6 * 0))), (1, .ref (A 45))]) hx hb dX0_addListed_1 rfl hl (by decide) rfl (fun ls hl => ?_)
  exact LOOP2 21 0 S (by omega) ht0 (by omega) (Eq.symm ((e_X0_addListed S))) _ _ hP hD hS _ (lv_sub hl [1, 2, 0] rfl)
theorem rot_X0_addWire (S : XS) (x y z : Int32) : rot (f_X0_addWire S x y z) = rot S := by
  unfold rot; rw [e_X0_addWire]
  repeat' split
  all_goals rfl
theorem rot_X0_removeWire (S : XS) (x : Int32) : rot (f_X0_removeWire S x) = rot S := by
  unfold rot; rw [e_X0_removeWire]
  repeat' split
  all_goals rfl
theorem rot_X0_changeHeight (S : XS) (x y : Int32) : rot (f_X0_changeHeight S x y) = rot S := by
  unfold rot; rw [e_X0_changeHeight]
  repeat' split
  all_goals rfl
theorem rot_X0_placeLead (S : XS) (x y : Int32) : rot (f_X0_placeLead S x y) = rot S := by
  unfold rot; rw [e_X0_placeLead]
  repeat' split
  all_goals rfl
theorem s8_X0_removeWire (S : XS) (x : Int32) : f_X0_removeWire S x 8 = S 8 := by
  rw [e_X0_removeWire]
  repeat' split
  all_goals rfl
theorem rot_X0_breaksUnder (S : XS) (x y : Int32) : rot (f_X0_breaksUnder S x y).2 = rot S := by
  unfold rot; rw [e_X0_breaksUnder]
  repeat' split
  all_goals first | rfl | (show ((f_X0_removeWire S x) 8 0 0).toNatClampNeg % 4 = _; rw [s8_X0_removeWire])
theorem rot_g_sample (p0 p1 : Int32) : ∀ (n k : Nat) (v u : Int32) (S1 : XS), rot (g_X0_breakingOfSample_8 p0 p1 n k v u S1).2 = rot S1 := by
  intro n
  induction n with
  | zero => intro k v u S1; rfl
  | succ n ih =>
    intro k v u S1
    rw [ge_X0_breakingOfSample_8]
    repeat' split
    all_goals first | rfl | exact ih _ _ _ _ | exact (ih _ _ _ _).trans (rot_X0_breaksUnder _ _ _)
theorem rot_X0_breakingOfSample (S : XS) (x y : Int32) : rot (f_X0_breakingOfSample S x y).2 = rot S := by
  rw [e_X0_breakingOfSample]
  exact rot_g_sample _ _ _ _ _ _ _
theorem rot_X2_append (S : XS) (x : Int32) : rot (f_X2_append S x).2 = rot S := by
  unfold rot; rw [e_X2_append]
  repeat' split
  all_goals rfl
theorem rot_X2_empty (S : XS) : rot (f_X2_empty S) = rot S := by
  unfold rot; rw [e_X2_empty]; rfl
theorem rot_X2_passBy (S : XS) (x : Int32) : rot (f_X2_passBy S x).2 = rot S := by
  unfold rot; rw [e_X2_passBy]
  repeat' split
  all_goals rfl
theorem rot_X2_withDigit (S : XS) (x y : Int32) : rot (f_X2_withDigit S x y).2 = rot S := by
  unfold rot; rw [e_X2_withDigit]
  repeat' split
  all_goals rfl
theorem rot_X2_readNumber (S : XS) (x : Int32) : rot (f_X2_readNumber S x).2 = rot S := by
  rw [e_X2_readNumber]
  repeat' split
  all_goals first | rfl | (rw [e_X2_readNumber_k1]; exact rot_X2_withDigit _ _ _)
theorem rot_X2_readHeight (S : XS) : rot (f_X2_readHeight S).2 = rot S := by
  rw [e_X2_readHeight]
  repeat' split
  all_goals first | rfl | (rw [e_X2_readHeight_k1]; exact rot_X2_withDigit _ _ _)
theorem rot_g_listed (S0 : XS) : ∀ (n k : Nat) (S1 : XS), rot (g_X0_addListed_2 n k S1).2 = rot S1 := by
  intro n
  induction n with
  | zero => intro k S1; rfl
  | succ n ih =>
    intro k S1
    rw [ge_X0_addListed_2]
    repeat' split
    all_goals first | rfl | exact (ih _ _).trans (rot_X0_addWire _ _ _ _)
theorem rot_X0_addListed (S : XS) : rot (f_X0_addListed S).2 = rot S := by
  rw [e_X0_addListed]
  exact rot_g_listed S _ _ _
