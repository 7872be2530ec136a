/-! the text read by the model, wire after wire -/
theorem wire_go {T : MS} {L q t : Nat} (hL : T 0 2 = nI L) (h8 : L ≤ 80) (hq : T 0 3 = nI q) (hqL : q ≤ L) (ht : T 0 4 = nI t) (ht2 : t ≤ 20) (c : ¬ (f_X4_isWire T).1 = 0) : ∃ (p l h q' : Nat) (f : Nat → Int32), wireP (T 5) L q = (some (p, l, h), q') ∧ (∀ k, k < 3 * t → f k = T 6 k) ∧ f (3 * t) = nI p ∧ f (3 * t + 1) = nI l ∧ f (3 * t + 2) = nI h ∧ f_X4_isWire T = (1, tq T q' f) := by
  obtain ⟨f, hf, hw, e⟩ := isWire_eq hL h8 hq hqL ht ht2
  rw [e] at c
  cases hp : wireP (T 5) L q with
  | mk o q' =>
    rw [hp] at e c hw
    cases o with
    | none => exact absurd rfl c
    | some w =>
      obtain ⟨p, l, h⟩ := w
      obtain ⟨a, b, d⟩ := hw p l h q' rfl
      exact ⟨p, l, h, q', f, rfl, hf, a, b, d, e⟩
/-- the loop's head: four characters for each wire told -/
def txf (T : MS) (u : Int32) : Prop := ∃ L q t : Nat, T 0 2 = nI L ∧ L ≤ 80 ∧ T 0 3 = nI q ∧ q ≤ L ∧ T 0 4 = nI t ∧ t ≤ 20 ∧ (¬ u = 0 → 4 * t ≤ q)
theorem txf_tx {T : MS} {u : Int32} (h : txf T u) : tx T := by
  obtain ⟨L, q, t, a, b, c, d, e, f, _⟩ := h
  exact ⟨L, q, t, a, b, c, d, e, f⟩
theorem txf_q {T : MS} {u : Int32} (h : txf T u) : (T 0 3).toNatClampNeg ≤ 80 := tx_q (txf_tx h)
theorem txf_0 {T : MS} {L : Nat} (u : Int32) (hL : T 0 2 = nI L) (h8 : L ≤ 80) : txf (tu (tu T 0 (upd (T 0) 3 0)) 0 (upd (upd (T 0) 3 0) 4 0)) u :=
  ⟨L, 0, 0, hL, h8, rfl, Nat.zero_le _, rfl, Nat.zero_le _, fun _ => Nat.le_refl _⟩
/-- the state with one wire more -/
def tn (T : MS) (q t : Nat) (f : Nat → Int32) : MS := tu (tq T q f) 0 (upd (tq T q f 0) 4 (nI (t + 1)))
theorem flt_go {T : MS} {u : Int32} (h : txf T u) (c1 : ¬ u = 0) (c2 : ¬ (f_X4_isWire T).1 = 0) : ∃ (L q t p l w q' : Nat) (f : Nat → Int32), T 0 2 = nI L ∧ L ≤ 80 ∧ T 0 3 = nI q ∧ T 0 4 = nI t ∧ 4 * t ≤ q ∧ q + 3 ≤ q' ∧ q' ≤ L ∧ p ≤ 11 ∧ l ≤ 15 ∧ 10 ≤ w ∧ w ≤ 200 ∧ wireP (T 5) L q = (some (p, l, w), q') ∧ (∀ k, k < 3 * t → f k = T 6 k) ∧ f (3 * t) = nI p ∧ f (3 * t + 1) = nI l ∧ f (3 * t + 2) = nI w ∧ f_X4_isWire T = (1, tq T q' f) ∧ tu (f_X4_isWire T).2 0 (upd ((f_X4_isWire T).2 0) 4 (((f_X4_isWire T).2 0) 4 + 1)) = tn T q' t f ∧ f_X4_takes (tn T q' t f) 44 = if q' < L ∧ T 5 q' = 44 then (1, stq (tn T q' t f) (q' + 1)) else (0, tn T q' t f) := by
  obtain ⟨L, q, t, hL, h8, hq, hqL, ht, ht2, h4⟩ := h
  obtain ⟨p, l, w, q', f, hw, hf, f0, f1, f2, e⟩ := wire_go hL h8 hq hqL ht ht2 c2
  have hs := wireP_spec hw
  refine ⟨L, q, t, p, l, w, q', f, hL, h8, hq, ht, h4 c1, hs.2.2.2.2.1, hs.2.2.2.2.2, hs.1, hs.2.1, hs.2.2.1, hs.2.2.2.1, hw, hf, f0, f1, f2, e, ?_, takes_eq (T := tn T q' t f) hL h8 rfl hs.2.2.2.2.2 44⟩
  rw [e]
  show tu (tq T q' f) 0 (upd (tq T q' f 0) 4 (T 0 4 + 1)) = _
  rw [ht, nI_1]
  rfl
theorem flt_tx {T : MS} {u : Int32} (h : txf T u) (c1 : ¬ u = 0) (c2 : ¬ (f_X4_isWire T).1 = 0) : tx (tu (f_X4_isWire T).2 0 (upd ((f_X4_isWire T).2 0) 4 (((f_X4_isWire T).2 0) 4 + 1))) := by
  obtain ⟨L, q, t, p, l, w, q', f, hL, h8, hq, ht, h4, hq1, hq2, -, -, -, -, -, -, -, -, -, -, e2, -⟩ := flt_go h c1 c2
  rw [e2]
  exact ⟨L, q', t + 1, hL, h8, rfl, hq2, rfl, by omega⟩
theorem flt_step {T : MS} {u : Int32} (h : txf T u) (c1 : ¬ u = 0) (c2 : ¬ (f_X4_isWire T).1 = 0) : txf (f_X4_takes (tu (f_X4_isWire T).2 0 (upd ((f_X4_isWire T).2 0) 4 (((f_X4_isWire T).2 0) 4 + 1))) 44).2 (f_X4_takes (tu (f_X4_isWire T).2 0 (upd ((f_X4_isWire T).2 0) 4 (((f_X4_isWire T).2 0) 4 + 1))) 44).1 := by
  obtain ⟨L, q, t, p, l, w, q', f, hL, h8, hq, ht, h4, hq1, hq2, -, -, -, -, -, -, -, -, -, -, e2, e3⟩ := flt_go h c1 c2
  rw [e2, e3]
  by_cases d : q' < L ∧ T 5 q' = 44
  · rw [if_pos d]
    exact ⟨L, q' + 1, t + 1, hL, h8, rfl, d.1, rfl, by omega, fun _ => by omega⟩
  · rw [if_neg d]
    exact ⟨L, q', t + 1, hL, h8, rfl, hq2, rfl, by omega, fun a => absurd rfl a⟩
theorem flt_mes {T : MS} {u : Int32} {n : Nat} (h : txf T u) (c1 : ¬ u = 0) (c2 : ¬ (f_X4_isWire T).1 = 0) (hn : 80 < (T 0 3).toNatClampNeg + (n + 1)) : 80 < ((f_X4_takes (tu (f_X4_isWire T).2 0 (upd ((f_X4_isWire T).2 0) 4 (((f_X4_isWire T).2 0) 4 + 1))) 44).2 0 3).toNatClampNeg + n := by
  obtain ⟨L, q, t, p, l, w, q', f, hL, h8, hq, ht, h4, hq1, hq2, -, -, -, -, -, -, -, -, -, -, e2, e3⟩ := flt_go h c1 c2
  rw [hq, nI_cl (by omega)] at hn
  rw [e2, e3]
  by_cases d : q' < L ∧ T 5 q' = 44
  · rw [if_pos d]
    show 80 < (nI (q' + 1)).toNatClampNeg + n
    rw [nI_cl (by omega)]; omega
  · rw [if_neg d]
    show 80 < (nI q').toNatClampNeg + n
    rw [nI_cl (by omega)]; omega
noncomputable def g_X4_fault_12 : Nat → Int32 → MS → Int32 × MS
  | 0, u, T1 => (0, T1)
  | n + 1, u, T1 => opq (if u = 0 then (if (T1 0 3) = (T1 0 2) then ((-5), T1) else ((T1 0 3), T1)) else (if ((f_X4_isWire T1).1) = 0 then ((((f_X4_isWire T1).2 0) 3), (f_X4_isWire T1).2) else (g_X4_fault_12 n ((f_X4_takes (tu (f_X4_isWire T1).2 0 (upd ((f_X4_isWire T1).2 0) 4 ((((f_X4_isWire T1).2 0) 4) + 1))) 44).1) ((f_X4_takes (tu (f_X4_isWire T1).2 0 (upd ((f_X4_isWire T1).2 0) 4 ((((f_X4_isWire T1).2 0) 4) + 1))) 44).2))))
theorem ge_X4_fault_12 (n : Nat) (u : Int32) (T1 : MS) : g_X4_fault_12 (n + 1) u T1 = (if u = 0 then (if (T1 0 3) = (T1 0 2) then ((-5), T1) else ((T1 0 3), T1)) else (if ((f_X4_isWire T1).1) = 0 then ((((f_X4_isWire T1).2 0) 3), (f_X4_isWire T1).2) else (g_X4_fault_12 n ((f_X4_takes (tu (f_X4_isWire T1).2 0 (upd ((f_X4_isWire T1).2 0) 4 ((((f_X4_isWire T1).2 0) 4) + 1))) 44).1) ((f_X4_takes (tu (f_X4_isWire T1).2 0 (upd ((f_X4_isWire T1).2 0) 4 ((((f_X4_isWire T1).2 0) 4) + 1))) 44).2)))) := opq_eq _
noncomputable def f_X4_fault (T : MS) : Int32 × MS := opq (g_X4_fault_12 81 1 (tu (tu T 0 (upd (T 0) 3 0)) 0 (upd (upd (T 0) 3 0) 4 0)))
theorem e_X4_fault (T : MS) : f_X4_fault T = (g_X4_fault_12 81 1 (tu (tu T 0 (upd (T 0) 3 0)) 0 (upd (upd (T 0) 3 0) 4 0))) := opq_eq _
set_option maxHeartbeats 4000000 in
set_option maxRecDepth 100000 in
theorem c_X4_fault (l : Launch) (G : GG) (B : Nat → Nat) (T : MS)  (L : Nat) (hL : T 0 2 = nI L) (hL8 : L ≤ 80) : Mm l yX4_fault wsX4_fault ({ frames := 4, cells := 0, slots := 0, locals := 89 } : Room) G [.ref (B 0)] (wM G B T) (f_X4_fault T).1 (wM G B (f_X4_fault T).2) := by
  refine Mm.of (cc := cX4_fault) (maxL := 2) (ret := (some .int)) (by decide) rfl (Nat.le_of_ble_eq_true rfl) ?_
  intro p e s m args below meth c A0 hA0 E hr hlocks hP hK hD hA hS ls hl
  have E : CallFix p m c cX4_fault 2 s args wsX4_fault RX4 := E
  have hx := E.1
  have hb := E.2.1
  have hml := E.2.2.1
  have hown := E.2.2.2.1
  have hts := E.2.2.2.2
  have hl : lv_has ls 2 [(0, .ref (B 0))] := hl
  have hinX4 : ∀ w ∈ u_ws RX4 TX4 11, w ∈ wsX4_fault := fun _ h => List.mem_cons_of_mem _ (List.mem_append_right _ h)
  have LOOP12 : ∀ (n : Nat) (u : Int32) (T1 : MS), (txf T1 u) → (80 < (T1 0 3).toNatClampNeg + n) → g_X4_fault_12 n u T1 = (f_X4_fault T) → ∀ (H : Heap) (locs : List Loc), va_P G.1 vwCl (wM G B T1) H → va_D A0 (wM G B T1) → va_S A0 s.heap H locs → ∀ ls : Array Slot, lv_has ls 2 [(0, .ref (B 0)), (1, .int u)] → W p l e ({ frames := 4, cells := 0, slots := 0, locals := 89 } : Room) s m args below meth c H locs 0 0 (MQ below (va_Qi (fun (r : Int32) (_ : Unit) => r = (f_X4_fault T).1) (fun _ t => va_P G.1 vwCl (wM G B (f_X4_fault T).2) t.heap ∧ va_D A0 (wM G B (f_X4_fault T).2)) A0) args s 0 0 A0) (F0 m 12 ls []) := by
    intro n
    induction n with
    | zero =>
      intro u T1 ht hn
      exact absurd (txf_q ht) (by omega)
    | succ n ih =>
      intro u T1 ht hn hres H locs hP hD hS ls hl
      have hl : lv_has ls 2 [(0, .ref (B 0)), (1, .int u)] := hl
      refine lv_iload_n hx hb dX4_fault_12 rfl (lv_at hl 1 rfl) ?_
      refine lv_if_eq (tgt := 48) hx hb dX4_fault_13 (by decide) (fun c1 => ?_) (fun c1 => ?_)
      · skip
        refine lv_aload_n hx hb dX4_fault_48 rfl (lv_at hl 0 rfl) ?_
        refine va_get (D := G.1) (ci := 4) (v := .int (T1 0 3)) (C := RX4) (T := TX4) (N := 11) hx hb hts hinX4 hown hK.1 hP 0 (wM_o G B T1) rfl 8 (by decide) (hts (.fieldLink RX4 121 "WireLoopsModel" "spot" "I") (List.mem_of_getElem? (i := 1) rfl)) (fun _ h9 => h9) rfl dX4_fault_49 ?_
        refine lv_aload_n hx hb dX4_fault_52 rfl (lv_at hl 0 rfl) ?_
        refine va_get (D := G.1) (ci := 4) (v := .int (T1 0 2)) (C := RX4) (T := TX4) (N := 11) hx hb hts hinX4 hown hK.1 hP 0 (wM_o G B T1) rfl 7 (by decide) (hts (.fieldLink RX4 118 "WireLoopsModel" "length" "I") (List.mem_of_getElem? (i := 3) rfl)) (fun _ h9 => h9) rfl dX4_fault_53 ?_
        refine lv_icmp_ne (tgt := 64) hx hb dX4_fault_56 (by decide) (fun c2 => ?_) (fun c2 => ?_)
        · skip
          refine lv_aload_n hx hb dX4_fault_64 rfl (lv_at hl 0 rfl) ?_
          refine va_get (D := G.1) (ci := 4) (v := .int (T1 0 3)) (C := RX4) (T := TX4) (N := 11) hx hb hts hinX4 hown hK.1 hP 0 (wM_o G B T1) rfl 8 (by decide) (hts (.fieldLink RX4 121 "WireLoopsModel" "spot" "I") (List.mem_of_getElem? (i := 1) rfl)) (fun _ h9 => h9) rfl dX4_fault_65 ?_
          have hfin : ((T1 0 3), T1) = (f_X4_fault T) := Eq.trans (Eq.symm (Eq.trans (ge_X4_fault_12 n u T1) (Eq.trans (if_pos c1) ((if_neg c2))))) hres
          exact endM hx hb hr hlocks rfl hP hD hS ⟨@congrArg (Int32 × MS) Int32 ((T1 0 3), T1) (f_X4_fault T) Prod.fst hfin, @congrArg (Int32 × MS) va_W ((T1 0 3), T1) (f_X4_fault T) (fun z => wM G B z.2) hfin⟩ dX4_fault_68
        · skip
          refine lv_bipush (v := (-5)) hx hb dX4_fault_59 (by decide) ?_
          refine lv_goto (tgt := 68) hx hb dX4_fault_61 (by decide) ?_
          have hfin : ((-5), T1) = (f_X4_fault T) := Eq.trans (Eq.symm (Eq.trans (ge_X4_fault_12 n u T1) (Eq.trans (if_pos c1) ((if_pos c2))))) hres
          exact endM hx hb hr hlocks rfl hP hD hS ⟨@congrArg (Int32 × MS) Int32 ((-5), T1) (f_X4_fault T) Prod.fst hfin, @congrArg (Int32 × MS) va_W ((-5), T1) (f_X4_fault T) (fun z => wM G B z.2) hfin⟩ dX4_fault_68
      · skip
        refine lv_aload_n hx hb dX4_fault_16 rfl (lv_at hl 0 rfl) ?_
        refine cmV (rest := []) (As := []) E (c_X4_isWire l G B T1 (txf_tx ht)) (cwV 0 hts gX4_fault_X4_isWire rfl rfl rfl (by decide +kernel) ⟨Nat.le_of_ble_eq_true rfl, Nat.le_of_ble_eq_true rfl⟩) hK hP hD hS hA 0 (wM_o G B T1) rfl rfl hl.1 rfl (Nat.le_of_ble_eq_true rfl) dX4_fault_17 ⟨Nat.zero_le _, Nat.zero_le _⟩ (fun H locs hP hD hS => ?_)
        refine lv_if_ne (tgt := 28) hx hb dX4_fault_20 (by decide) (fun c3 => ?_) (fun c3 => ?_)
        · skip
          refine lv_aload_n hx hb dX4_fault_28 rfl (lv_at hl 0 rfl) ?_
          refine lv_dup hx hb dX4_fault_29 rfl ?_
          refine va_get (D := G.1) (ci := 4) (v := .int (((f_X4_isWire T1).2 0) 4)) (C := RX4) (T := TX4) (N := 11) hx hb hts hinX4 hown hK.1 hP 0 (wM_o G B (f_X4_isWire T1).2) rfl 10 (by decide) (hts (.fieldLink RX4 87 "WireLoopsModel" "toldMany" "I") (List.mem_of_getElem? (i := 2) rfl)) (fun _ h9 => h9) rfl dX4_fault_30 ?_
          refine lv_iconst (v := 1) hx hb dX4_fault_33 (by decide) ?_
          refine lv_iadd hx hb dX4_fault_34 ?_
          refine va_put (D := G.1) (ci := 4) (v := .int ((((f_X4_isWire T1).2 0) 4) + 1)) (ty := .int) (C := RX4) (T := TX4) (N := 11) hx hb hts hinX4 tyX4 tyX4_ok nmX4 hown hK.1 hP hD hS 0 (wM_o G B (f_X4_isWire T1).2) rfl 10 (by decide) (hts (.fieldLink RX4 87 "WireLoopsModel" "toldMany" "I") (List.mem_of_getElem? (i := 2) rfl)) (fun _ h9 => h9) rfl (by decide +kernel) rfl rfl (Nat.le_of_ble_eq_true rfl) dX4_fault_35 (fun H locs hP hD hS => ?_)
          rw [wM_so10 G B (f_X4_isWire T1).2 _] at hP hD
          have hP : va_P G.1 vwCl (wM G B (tu (f_X4_isWire T1).2 0 (upd ((f_X4_isWire T1).2 0) 4 ((((f_X4_isWire T1).2 0) 4) + 1)))) H := hP
          have hD : va_D A0 (wM G B (tu (f_X4_isWire T1).2 0 (upd ((f_X4_isWire T1).2 0) 4 ((((f_X4_isWire T1).2 0) 4) + 1)))) := hD
          refine lv_aload_n hx hb dX4_fault_38 rfl (lv_at hl 0 rfl) ?_
          refine lv_bipush (v := 44) hx hb dX4_fault_39 (by decide) ?_
          refine cmV (rest := []) (As := [.int 44]) E (c_X4_takes l G B (tu (f_X4_isWire T1).2 0 (upd ((f_X4_isWire T1).2 0) 4 ((((f_X4_isWire T1).2 0) 4) + 1))) 44 (flt_tx ht c1 c3)) (cwV 1 hts gX4_fault_X4_takes rfl rfl rfl (by decide +kernel) ⟨Nat.le_of_ble_eq_true rfl, Nat.le_of_ble_eq_true rfl⟩) hK hP hD hS hA 0 (wM_o G B (tu (f_X4_isWire T1).2 0 (upd ((f_X4_isWire T1).2 0) 4 ((((f_X4_isWire T1).2 0) 4) + 1)))) rfl rfl hl.1 rfl (Nat.le_of_ble_eq_true rfl) dX4_fault_41 ⟨Nat.zero_le _, Nat.zero_le _⟩ (fun H locs hP hD hS => ?_)
          refine lv_istore_n (lv' := [(1, .int ((f_X4_takes (tu (f_X4_isWire T1).2 0 (upd ((f_X4_isWire T1).2 0) 4 ((((f_X4_isWire T1).2 0) 4) + 1))) 44).1)), (0, .ref (B 0))]) hx hb dX4_fault_44 rfl hl (by decide) rfl (fun ls hl => ?_)
          refine lv_goto (tgt := 12) hx hb dX4_fault_45 (by decide) ?_
          exact ih ((f_X4_takes (tu (f_X4_isWire T1).2 0 (upd ((f_X4_isWire T1).2 0) 4 ((((f_X4_isWire T1).2 0) 4) + 1))) 44).1) ((f_X4_takes (tu (f_X4_isWire T1).2 0 (upd ((f_X4_isWire T1).2 0) 4 ((((f_X4_isWire T1).2 0) 4) + 1))) 44).2) (flt_step ht c1 c3) (flt_mes ht c1 c3 hn) (Eq.trans (Eq.symm (Eq.trans (ge_X4_fault_12 n u T1) (Eq.trans (if_neg c1) ((if_neg c3))))) hres) _ _ hP hD hS _ (lv_sub hl [1, 0] rfl)
        · skip
          refine lv_aload_n hx hb dX4_fault_23 rfl (lv_at hl 0 rfl) ?_
          refine va_get (D := G.1) (ci := 4) (v := .int (((f_X4_isWire T1).2 0) 3)) (C := RX4) (T := TX4) (N := 11) hx hb hts hinX4 hown hK.1 hP 0 (wM_o G B (f_X4_isWire T1).2) rfl 8 (by decide) (hts (.fieldLink RX4 121 "WireLoopsModel" "spot" "I") (List.mem_of_getElem? (i := 1) rfl)) (fun _ h9 => h9) rfl dX4_fault_24 ?_
          have hfin : ((((f_X4_isWire T1).2 0) 3), (f_X4_isWire T1).2) = (f_X4_fault T) := Eq.trans (Eq.symm (Eq.trans (ge_X4_fault_12 n u T1) (Eq.trans (if_neg c1) ((if_pos c3))))) hres
          exact endM hx hb hr hlocks rfl hP hD hS ⟨@congrArg (Int32 × MS) Int32 ((((f_X4_isWire T1).2 0) 3), (f_X4_isWire T1).2) (f_X4_fault T) Prod.fst hfin, @congrArg (Int32 × MS) va_W ((((f_X4_isWire T1).2 0) 3), (f_X4_isWire T1).2) (f_X4_fault T) (fun z => wM G B z.2) hfin⟩ dX4_fault_27
  refine lv_aload_n hx hb dX4_fault_0 rfl (lv_at hl 0 rfl) ?_
  refine lv_iconst (v := 0) hx hb dX4_fault_1 (by decide) ?_
  refine va_put (D := G.1) (ci := 4) (v := .int 0) (ty := .int) (C := RX4) (T := TX4) (N := 11) hx hb hts hinX4 tyX4 tyX4_ok nmX4 hown hK.1 hP hD hS 0 (wM_o G B T) rfl 8 (by decide) (hts (.fieldLink RX4 121 "WireLoopsModel" "spot" "I") (List.mem_of_getElem? (i := 1) rfl)) (fun _ h9 => h9) rfl (by decide +kernel) rfl rfl (Nat.le_of_ble_eq_true rfl) dX4_fault_2 (fun H locs hP hD hS => ?_)
  rw [wM_so8 G B T _] at hP hD
  have hP : va_P G.1 vwCl (wM G B (tu T 0 (upd (T 0) 3 0))) H := hP
  have hD : va_D A0 (wM G B (tu T 0 (upd (T 0) 3 0))) := hD
  refine lv_aload_n hx hb dX4_fault_5 rfl (lv_at hl 0 rfl) ?_
  refine lv_iconst (v := 0) hx hb dX4_fault_6 (by decide) ?_
  refine va_put (D := G.1) (ci := 4) (v := .int 0) (ty := .int) (C := RX4) (T := TX4) (N := 11) hx hb hts hinX4 tyX4 tyX4_ok nmX4 hown hK.1 hP hD hS 0 (wM_o G B (tu T 0 (upd (T 0) 3 0))) rfl 10 (by decide) (hts (.fieldLink RX4 87 "WireLoopsModel" "toldMany" "I") (List.mem_of_getElem? (i := 2) rfl)) (fun _ h9 => h9) rfl (by decide +kernel) rfl rfl (Nat.le_of_ble_eq_true rfl) dX4_fault_7 (fun H locs hP hD hS => ?_)
  rw [wM_so10 G B (tu T 0 (upd (T 0) 3 0)) _] at hP hD
  have hP : va_P G.1 vwCl (wM G B (tu (tu T 0 (upd (T 0) 3 0)) 0 (upd (upd (T 0) 3 0) 4 0))) H := hP
  have hD : va_D A0 (wM G B (tu (tu T 0 (upd (T 0) 3 0)) 0 (upd (upd (T 0) 3 0) 4 0))) := hD
  refine lv_iconst (v := 1) hx hb dX4_fault_10 (by decide) ?_
  refine lv_istore_n (lv' := [(1, .int 1), (0, .ref (B 0))]) hx hb dX4_fault_11 rfl hl (by decide) rfl (fun ls hl => ?_)
  exact LOOP12 81 1 (tu (tu T 0 (upd (T 0) 3 0)) 0 (upd (upd (T 0) 3 0) 4 0)) (txf_0 1 hL hL8) (by omega) (Eq.symm ((e_X4_fault T))) _ _ hP hD hS _ (lv_sub hl [1, 0] rfl)
/-- what is told: each wire's pad, lead and height -/
def txe (T : MS) : Prop := ∃ t : Nat, T 0 4 = nI t ∧ t ≤ 20 ∧ ∀ j, j < t → ∃ p l w : Nat, p ≤ 11 ∧ l ≤ 15 ∧ 10 ≤ w ∧ w ≤ 200 ∧ T 6 (3 * j) = nI p ∧ T 6 (3 * j + 1) = nI l ∧ T 6 (3 * j + 2) = nI w
theorem txe_of {T U : MS} (h0 : T 0 4 = U 0 4) (h6 : T 6 = U 6) (h : txe U) : txe T := by
  unfold txe at h ⊢
  rw [h0, h6]; exact h
theorem flt_txe {T : MS} {u : Int32} (h : txf T u) (he : txe T) (c1 : ¬ u = 0) (c2 : ¬ (f_X4_isWire T).1 = 0) : txe (f_X4_takes (tu (f_X4_isWire T).2 0 (upd ((f_X4_isWire T).2 0) 4 (((f_X4_isWire T).2 0) 4 + 1))) 44).2 := by
  obtain ⟨L, q, t, p, l, w, q', f, hL, h8, hq, ht, h4, hq1, hq2, s1, s2, s3, s4, -, hf, f0, f1, f2, -, e2, e3⟩ := flt_go h c1 c2
  have hx : txe (tn T q' t f) := by
    obtain ⟨t2, ht2, h20, hall⟩ := he
    have htt : t2 = t := (nI_eq (by omega) (by omega)).mp (ht2.symm.trans ht)
    subst htt
    refine ⟨t2 + 1, rfl, by omega, fun j hj => ?_⟩
    show ∃ p l w : Nat, p ≤ 11 ∧ l ≤ 15 ∧ 10 ≤ w ∧ w ≤ 200 ∧ f (3 * j) = nI p ∧ f (3 * j + 1) = nI l ∧ f (3 * j + 2) = nI w
    rcases Nat.lt_succ_iff_lt_or_eq.mp hj with hj | hj
    · rw [hf _ (by omega), hf _ (by omega), hf _ (by omega)]
      exact hall j hj
    · subst hj
      exact ⟨p, l, w, s1, s2, s3, s4, f0, f1, f2⟩
  rw [e2, e3]
  by_cases d : q' < L ∧ T 5 q' = 44
  · rw [if_pos d]; exact txe_of rfl rfl hx
  · rw [if_neg d]; exact hx
theorem isWire_o {T : MS} (h : tx T) {j : Nat} (h6 : j ≠ 6) (h0 : j ≠ 0) : (f_X4_isWire T).2 j = T j := by
  obtain ⟨L, q, t, hL, h8, hq, hqL, ht, ht2⟩ := h
  obtain ⟨f, hf, hw, e⟩ := isWire_eq hL h8 hq hqL ht ht2
  rw [e]
  show tu (tu T 0 _) 6 f j = T j
  unfold tu
  rw [if_neg h6, if_neg h0]
theorem isWire_0 {T : MS} (h : tx T) {k : Nat} (h3 : k ≠ 3) : (f_X4_isWire T).2 0 k = T 0 k := by
  obtain ⟨L, q, t, hL, h8, hq, hqL, ht, ht2⟩ := h
  obtain ⟨f, hf, hw, e⟩ := isWire_eq hL h8 hq hqL ht ht2
  rw [e]
  exact pk_un h3
theorem isWire_e {T : MS} (h : tx T) (he : txe T) : txe (f_X4_isWire T).2 := by
  obtain ⟨L, q, t, hL, h8, hq, hqL, ht, ht2⟩ := h
  obtain ⟨f, hf, hw, e⟩ := isWire_eq hL h8 hq hqL ht ht2
  obtain ⟨t2, ht2, h20, hall⟩ := he
  have htt : t2 = t := (nI_eq (by omega) (by omega)).mp (ht2.symm.trans ht)
  subst htt
  rw [e]
  refine ⟨t2, ht, by omega, fun j hj => ?_⟩
  show ∃ p l w : Nat, p ≤ 11 ∧ l ≤ 15 ∧ 10 ≤ w ∧ w ≤ 200 ∧ f (3 * j) = nI p ∧ f (3 * j + 1) = nI l ∧ f (3 * j + 2) = nI w
  rw [hf _ (by omega), hf _ (by omega), hf _ (by omega)]
  exact hall j hj
theorem takes_o (T : MS) (x : Int32) {j : Nat} (h0 : j ≠ 0) : (f_X4_takes T x).2 j = T j := by
  rw [e_X4_takes]
  split <;> exact if_neg h0
theorem takes_0 (T : MS) (x : Int32) {k : Nat} (h3 : k ≠ 3) : (f_X4_takes T x).2 0 k = T 0 k := by
  rw [e_X4_takes]
  split <;> exact pk_un h3
theorem flt_g : ∀ (n : Nat) (u : Int32) (T : MS), txf T u → txe T → txe (g_X4_fault_12 n u T).2 ∧ (∀ j, j ≠ 0 → j ≠ 6 → (g_X4_fault_12 n u T).2 j = T j) ∧ (∀ k, k ≠ 3 → k ≠ 4 → (g_X4_fault_12 n u T).2 0 k = T 0 k) := by
  intro n
  induction n with
  | zero => intro u T _ he; exact ⟨he, fun _ _ _ => rfl, fun _ _ _ => rfl⟩
  | succ n ih =>
    intro u T h he
    rw [ge_X4_fault_12]
    by_cases c1 : u = 0
    · rw [if_pos c1]
      split <;> exact ⟨he, fun _ _ _ => rfl, fun _ _ _ => rfl⟩
    · rw [if_neg c1]
      by_cases c2 : (f_X4_isWire T).1 = 0
      · rw [if_pos c2]
        exact ⟨isWire_e (txf_tx h) he, fun j h0 h6 => isWire_o (txf_tx h) h6 h0, fun k h3 _ => isWire_0 (txf_tx h) h3⟩
      · rw [if_neg c2]
        obtain ⟨a, b, c⟩ := ih _ _ (flt_step h c1 c2) (flt_txe h he c1 c2)
        refine ⟨a, fun j h0 h6 => (b j h0 h6).trans ((takes_o _ _ h0).trans ((if_neg h0).trans (isWire_o (txf_tx h) h6 h0))), fun k h3 h4 => (c k h3 h4).trans ((takes_0 _ _ h3).trans ((pk_un h4).trans (isWire_0 (txf_tx h) h3)))⟩
theorem flt_all {T : MS} {L : Nat} (hL : T 0 2 = nI L) (h8 : L ≤ 80) : txe (f_X4_fault T).2 ∧ (∀ j, j ≠ 0 → j ≠ 6 → (f_X4_fault T).2 j = T j) ∧ (∀ k, k ≠ 3 → k ≠ 4 → (f_X4_fault T).2 0 k = T 0 k) := by
  rw [e_X4_fault]
  obtain ⟨a, b, c⟩ := flt_g 81 1 _ (txf_0 1 hL h8) ⟨0, rfl, Nat.zero_le _, fun j hj => absurd hj (Nat.not_lt_zero _)⟩
  exact ⟨a, fun j h0 h6 => (b j h0 h6).trans ((if_neg h0).trans (if_neg h0)), fun k h3 h4 => (c k h3 h4).trans ((pk_un h4).trans (pk_un h3))⟩
theorem lays_o (T : MS) (i j : Nat) (a b : Int32) {j' : Nat} (h : j' ≠ j) : f_X4_lays T i j a b j' = T j' := by
  rw [e_X4_lays]
  have : ∀ (n k : Nat) (T : MS), g_X4_lays_3 i j a b n k T j' = T j' := by
    intro n
    induction n with
    | zero => intro k T; rfl
    | succ n ih =>
      intro k T
      rw [ge_X4_lays_3]
      split
      · rfl
      · exact (ih _ _).trans (if_neg h)
  exact this _ _ _
theorem laid2_o (T : MS) (x y z : Int32) {j : Nat} (h : j ≠ 2) : (f_X4_laid_2 T x y z).2 j = T j := by
  have hh : ∀ (U : MS) (f : Nat → Int32), tu U 2 f j = U j := fun U f => if_neg h
  rw [e_X4_laid_2, e_X4_laid_2_k1, e_X4_laid_2_k2]
  split
  · rw [e_X4_laid_2_k3, e_X4_laid_2_k4]
    split <;> simp only [hh]
  · rw [e_X4_laid_2_k5, e_X4_laid_2_k6]
    split <;> simp only [hh]
/-- the loop over what is told -/
def txl (T : MS) (q k : Nat) : Prop := T 0 0 = nI q ∧ txe T ∧ k ≤ (T 0 4).toNatClampNeg
theorem txl_0 {T : MS} {q L : Nat} (hq : T 0 0 = nI q) (hL : T 0 2 = nI L) (h8 : L ≤ 80) : txl (f_X4_lays (f_X4_fault T).2 1 2 0 0) q 0 := by
  obtain ⟨a, b, c⟩ := flt_all hL h8
  refine ⟨?_, txe_of ?_ ?_ a, Nat.zero_le _⟩
  · rw [lays_o _ _ _ _ _ (by decide), c 0 (by decide) (by decide)]; exact hq
  · rw [lays_o _ _ _ _ _ (by decide)]
  · rw [lays_o _ _ _ _ _ (by decide)]
theorem txl_k {T : MS} {q k : Nat} (h : txl T q k) (c : ¬ T 0 4 ≤ nI k) : k < 20 ∧ k < (T 0 4).toNatClampNeg ∧ ∃ p l w : Nat, p ≤ 11 ∧ l ≤ 15 ∧ 10 ≤ w ∧ w ≤ 200 ∧ T 6 (3 * k) = nI p ∧ T 6 (3 * k + 1) = nI l ∧ T 6 (3 * k + 2) = nI w := by
  obtain ⟨-, ⟨t, ht, h20, hall⟩, hk⟩ := h
  rw [ht, nI_cl (by omega)] at hk ⊢
  rw [ht, nI_leI (by omega) (by omega)] at c
  exact ⟨by omega, by omega, hall k (by omega)⟩
theorem txl_p {T : MS} {q k : Nat} (h : txl T q k) (c : ¬ T 0 4 ≤ nI k) : vp_in (T 6 (3 * nI k).toNatClampNeg) 12 := by
  obtain ⟨h20, -, p, l, w, s1, s2, s3, s4, e0, e1, e2⟩ := txl_k h c
  rw [show (3 : Int32) * nI k = nI (3 * k) from pk_mul 3 k, nI_cl (by omega), e0]
  exact vp_in_nI (by omega) (by decide)
theorem txl_l {T : MS} {q k : Nat} (h : txl T q k) (c : ¬ T 0 4 ≤ nI k) : vp_in (T 6 ((3 * nI k) + 1).toNatClampNeg) 16 := by
  obtain ⟨h20, -, p, l, w, s1, s2, s3, s4, e0, e1, e2⟩ := txl_k h c
  rw [show (3 : Int32) * nI k = nI (3 * k) from pk_mul 3 k, nI_1, nI_cl (by omega), e1]
  exact vp_in_nI (by omega) (by decide)
theorem txl_s {T : MS} {q k : Nat} (h : txl T q k) (c : ¬ T 0 4 ≤ nI k) (x y z : Int32) : txl (f_X4_laid_2 T x y z).2 q (k + 1) := by
  have hk := (txl_k h c).2.1
  obtain ⟨h0, he, -⟩ := h
  refine ⟨?_, txe_of ?_ ?_ he, ?_⟩
  · rw [laid2_o _ _ _ _ (by decide)]; exact h0
  · rw [laid2_o _ _ _ _ (by decide)]
  · rw [laid2_o _ _ _ _ (by decide)]
  · rw [laid2_o _ _ _ _ (by decide)]; exact hk
theorem txl_in {T : MS} {q k : Nat} (h : txl T q k) (c : ¬ T 0 4 ≤ nI k) {x : Nat} (hx : x < 3) {z : Int32} (hz : z = nI (3 * k + x)) : vp_in z 63 := by
  have := (txl_k h c).1
  rw [hz]; exact vp_in_nI (by omega) (by decide)
theorem txl_m {T : MS} {q k : Nat} (h : txl T q k) : k ≤ 20 := by
  obtain ⟨-, ⟨t, ht, h20, hall⟩, hk⟩ := h
  rw [ht, nI_cl (by omega)] at hk
  omega
noncomputable def g_X4_layAll_31 : Nat → Nat → MS → Int32 × MS
  | 0, k, T1 => (0, T1)
  | n + 1, k, T1 => opq (if (T1 0 4) ≤ (nI k) then ((f_X4_wires (f_X4_lays (f_X4_records T1) 2 1 0 0)), (f_X4_lays (f_X4_records T1) 2 1 0 0)) else (if (f_X4_mayLay T1 2 ((T1 6) (3 * (nI k)).toNatClampNeg) ((T1 6) ((3 * (nI k)) + 1).toNatClampNeg)) < 0 then ((f_X4_mayLay T1 2 ((T1 6) (3 * (nI k)).toNatClampNeg) ((T1 6) ((3 * (nI k)) + 1).toNatClampNeg)), T1) else (if 0 ≤ ((f_X4_laid_2 T1 ((T1 6) (3 * (nI k)).toNatClampNeg) ((T1 6) ((3 * (nI k)) + 1).toNatClampNeg) ((T1 6) ((3 * (nI k)) + 2).toNatClampNeg)).1) then (g_X4_layAll_31 n (k + 1) ((f_X4_laid_2 T1 ((T1 6) (3 * (nI k)).toNatClampNeg) ((T1 6) ((3 * (nI k)) + 1).toNatClampNeg) ((T1 6) ((3 * (nI k)) + 2).toNatClampNeg)).2)) else ((f_X4_mayLay T1 2 ((T1 6) (3 * (nI k)).toNatClampNeg) ((T1 6) ((3 * (nI k)) + 1).toNatClampNeg)), (f_X4_laid_2 T1 ((T1 6) (3 * (nI k)).toNatClampNeg) ((T1 6) ((3 * (nI k)) + 1).toNatClampNeg) ((T1 6) ((3 * (nI k)) + 2).toNatClampNeg)).2))))
theorem ge_X4_layAll_31 (n : Nat) (k : Nat) (T1 : MS) : g_X4_layAll_31 (n + 1) k T1 = (if (T1 0 4) ≤ (nI k) then ((f_X4_wires (f_X4_lays (f_X4_records T1) 2 1 0 0)), (f_X4_lays (f_X4_records T1) 2 1 0 0)) else (if (f_X4_mayLay T1 2 ((T1 6) (3 * (nI k)).toNatClampNeg) ((T1 6) ((3 * (nI k)) + 1).toNatClampNeg)) < 0 then ((f_X4_mayLay T1 2 ((T1 6) (3 * (nI k)).toNatClampNeg) ((T1 6) ((3 * (nI k)) + 1).toNatClampNeg)), T1) else (if 0 ≤ ((f_X4_laid_2 T1 ((T1 6) (3 * (nI k)).toNatClampNeg) ((T1 6) ((3 * (nI k)) + 1).toNatClampNeg) ((T1 6) ((3 * (nI k)) + 2).toNatClampNeg)).1) then (g_X4_layAll_31 n (k + 1) ((f_X4_laid_2 T1 ((T1 6) (3 * (nI k)).toNatClampNeg) ((T1 6) ((3 * (nI k)) + 1).toNatClampNeg) ((T1 6) ((3 * (nI k)) + 2).toNatClampNeg)).2)) else ((f_X4_mayLay T1 2 ((T1 6) (3 * (nI k)).toNatClampNeg) ((T1 6) ((3 * (nI k)) + 1).toNatClampNeg)), (f_X4_laid_2 T1 ((T1 6) (3 * (nI k)).toNatClampNeg) ((T1 6) ((3 * (nI k)) + 1).toNatClampNeg) ((T1 6) ((3 * (nI k)) + 2).toNatClampNeg)).2)))) := opq_eq _
noncomputable def f_X4_layAll_k2 (z2 : MS) (z1 : Int32 × MS) (T : MS) : Int32 × MS := opq (g_X4_layAll_31 21 0 z2)
theorem e_X4_layAll_k2 (z2 : MS) (z1 : Int32 × MS) (T : MS) : f_X4_layAll_k2 z2 z1 T = (g_X4_layAll_31 21 0 z2) := opq_eq _
noncomputable def f_X4_layAll_k1 (z1 : Int32 × MS) (T : MS) : Int32 × MS := opq (if z1.1 = (-5) then (f_X4_layAll_k2 (f_X4_lays z1.2 1 2 0 0) z1 T) else (((-100) - z1.1), z1.2))
theorem e_X4_layAll_k1 (z1 : Int32 × MS) (T : MS) : f_X4_layAll_k1 z1 T = (if z1.1 = (-5) then (f_X4_layAll_k2 (f_X4_lays z1.2 1 2 0 0) z1 T) else (((-100) - z1.1), z1.2)) := opq_eq _
noncomputable def f_X4_layAll (T : MS) : Int32 × MS := opq (f_X4_layAll_k1 (f_X4_fault T) T)
theorem e_X4_layAll (T : MS) : f_X4_layAll T = (f_X4_layAll_k1 (f_X4_fault T) T) := opq_eq _
set_option maxHeartbeats 4000000 in
set_option maxRecDepth 100000 in
theorem c_X4_layAll (l : Launch) (G : GG) (B : Nat → Nat) (T : MS)  (q : Nat) (hq : T 0 0 = nI q) (hq4 : q ≤ 4) (L : Nat) (hL : T 0 2 = nI L) (hL8 : L ≤ 80) : Mm l yX4_layAll wsX4_layAll ({ frames := 5, cells := 0, slots := 0, locals := 110 } : Room) G [.ref (B 0)] (wM G B T) (f_X4_layAll T).1 (wM G B (f_X4_layAll T).2) := by
  refine Mm.of (cc := cX4_layAll) (maxL := 4) (ret := (some .int)) (by decide) rfl (Nat.le_of_ble_eq_true rfl) ?_
  intro p e s m args below meth c A0 hA0 E hr hlocks hP hK hD hA hS ls hl
  have E : CallFix p m c cX4_layAll 4 s args wsX4_layAll RX4 := E
  have hx := E.1
  have hb := E.2.1
  have hml := E.2.2.1
  have hown := E.2.2.2.1
  have hts := E.2.2.2.2
  have hl : lv_has ls 4 [(0, .ref (B 0))] := hl
  have hinX4 : ∀ w ∈ u_ws RX4 TX4 11, w ∈ wsX4_layAll := fun _ h => List.mem_cons_of_mem _ (List.mem_append_right _ h)
  have LOOP31 : ∀ (n : Nat) (k : Nat) (T1 : MS), (txl T1 q k) → (20 < k + n) → g_X4_layAll_31 n k T1 = (f_X4_layAll T) → ∀ (H : Heap) (locs : List Loc), va_P G.1 vwCl (wM G B T1) H → va_D A0 (wM G B T1) → va_S A0 s.heap H locs → ∀ ls : Array Slot, lv_has ls 4 [(0, .ref (B 0)), (2, .int (nI k))] → W p l e ({ frames := 5, cells := 0, slots := 0, locals := 110 } : Room) s m args below meth c H locs 0 0 (MQ below (va_Qi (fun (r : Int32) (_ : Unit) => r = (f_X4_layAll T).1) (fun _ t => va_P G.1 vwCl (wM G B (f_X4_layAll T).2) t.heap ∧ va_D A0 (wM G B (f_X4_layAll T).2)) A0) args s 0 0 A0) (F0 m 31 ls []) := by
    intro n
    induction n with
    | zero =>
      intro k T1 ht hn
      exact absurd (txl_m ht) (by omega)
    | succ n ih =>
      intro k T1 ht hn hres H locs hP hD hS ls hl
      have hl : lv_has ls 4 [(0, .ref (B 0)), (2, .int (nI k))] := hl
      refine lv_iload_n hx hb dX4_layAll_31 rfl (lv_at hl 1 rfl) ?_
      refine lv_aload_n hx hb dX4_layAll_32 rfl (lv_at hl 0 rfl) ?_
      refine va_get (D := G.1) (ci := 4) (v := .int (T1 0 4)) (C := RX4) (T := TX4) (N := 11) hx hb hts hinX4 hown hK.1 hP 0 (wM_o G B T1) rfl 10 (by decide) (hts (.fieldLink RX4 87 "WireLoopsModel" "toldMany" "I") (List.mem_of_getElem? (i := 3) rfl)) (fun _ h9 => h9) rfl dX4_layAll_33 ?_
      refine lv_icmp_ge (tgt := 115) hx hb dX4_layAll_36 (by decide) (fun c1 => ?_) (fun c1 => ?_)
      · skip
        refine lv_aload_n hx hb dX4_layAll_115 rfl (lv_at hl 0 rfl) ?_
        refine czV (rest := []) (As := []) E (c_X4_records l G B T1 q ht.1 hq4) (cwV 0 hts gX4_layAll_X4_records rfl rfl rfl (by decide +kernel) ⟨Nat.le_of_ble_eq_true rfl, Nat.le_of_ble_eq_true rfl⟩) hK hP hD hS hA 0 (wM_o G B T1) rfl rfl hl.1 rfl (Nat.le_of_ble_eq_true rfl) dX4_layAll_116 ⟨Nat.zero_le _, Nat.zero_le _⟩ (fun H locs hP hD hS => ?_)
        refine lv_aload_n hx hb dX4_layAll_119 rfl (lv_at hl 0 rfl) ?_
        refine va_get (D := G.1) (ci := 4) (v := .ref (B 2)) (C := RX4) (T := TX4) (N := 11) hx hb hts hinX4 hown hK.1 hP 0 (wM_o G B (f_X4_records T1)) rfl 1 (by decide) (hts (.fieldLink RX4 13 "WireLoopsModel" "then" "[I") (List.mem_of_getElem? (i := 2) rfl)) (fun _ h9 => h9) rfl dX4_layAll_120 ?_
        refine lv_iconst (v := 0) hx hb dX4_layAll_123 (by decide) ?_
        refine lv_aload_n hx hb dX4_layAll_124 rfl (lv_at hl 0 rfl) ?_
        refine va_get (D := G.1) (ci := 4) (v := .ref (B 1)) (C := RX4) (T := TX4) (N := 11) hx hb hts hinX4 hown hK.1 hP 0 (wM_o G B (f_X4_records T1)) rfl 0 (by decide) (hts (.fieldLink RX4 7 "WireLoopsModel" "now" "[I") (List.mem_of_getElem? (i := 1) rfl)) (fun _ h9 => h9) rfl dX4_layAll_125 ?_
        refine lv_iconst (v := 0) hx hb dX4_layAll_128 (by decide) ?_
        refine czS (rest := []) (As := [.ref (B 2), .int 0, .ref (B 1), .int 0]) E (c_X4_lays l G B (f_X4_records T1) 2 1 0 0 (by decide) (by decide) (by decide) (by decide) 0 0 rfl rfl (by decide) (by decide)) (va_cwS 4 hts gX4_layAll_X4_lays rfl rfl rfl (by decide +kernel) ⟨Nat.le_of_ble_eq_true rfl, Nat.le_of_ble_eq_true rfl⟩) hK hP hD hS hA rfl hl.1 rfl (Nat.le_of_ble_eq_true rfl) dX4_layAll_129 ⟨Nat.zero_le _, Nat.zero_le _⟩ (fun H locs hP hD hS => ?_)
        refine lv_aload_n hx hb dX4_layAll_132 rfl (lv_at hl 0 rfl) ?_
        refine cpV (rest := []) (As := []) E (c_X4_wires l G B (f_X4_lays (f_X4_records T1) 2 1 0 0)) (cwV 0 hts gX4_layAll_X4_wires rfl rfl rfl (by decide +kernel) ⟨Nat.le_of_ble_eq_true rfl, Nat.le_of_ble_eq_true rfl⟩) hK hP 0 (wM_o G B (f_X4_lays (f_X4_records T1) 2 1 0 0)) rfl rfl hl.1 rfl (Nat.le_of_ble_eq_true rfl) dX4_layAll_133 ⟨Nat.zero_le _, Nat.zero_le _⟩ ?_
        have hfin : ((f_X4_wires (f_X4_lays (f_X4_records T1) 2 1 0 0)), (f_X4_lays (f_X4_records T1) 2 1 0 0)) = (f_X4_layAll T) := Eq.trans (Eq.symm (Eq.trans (ge_X4_layAll_31 n k T1) ((if_pos c1)))) hres
        refine W.eq (g2 := F0 m 136 ls [.int (f_X4_wires (f_X4_lays (f_X4_records T1) 2 1 0 0))]) rfl ?_
        generalize ((f_X4_wires (f_X4_lays (f_X4_records T1) 2 1 0 0)) : Int32) = v9 at hfin ⊢
        exact endM hx hb hr hlocks rfl hP hD hS ⟨@congrArg (Int32 × MS) Int32 (v9, (f_X4_lays (f_X4_records T1) 2 1 0 0)) (f_X4_layAll T) Prod.fst hfin, @congrArg (Int32 × MS) va_W (v9, (f_X4_lays (f_X4_records T1) 2 1 0 0)) (f_X4_layAll T) (fun z => wM G B z.2) hfin⟩ dX4_layAll_136
      · skip
        refine lv_aload_n hx hb dX4_layAll_39 rfl (lv_at hl 0 rfl) ?_
        refine va_get (D := G.1) (ci := 4) (v := .ref (B 2)) (C := RX4) (T := TX4) (N := 11) hx hb hts hinX4 hown hK.1 hP 0 (wM_o G B T1) rfl 1 (by decide) (hts (.fieldLink RX4 13 "WireLoopsModel" "then" "[I") (List.mem_of_getElem? (i := 2) rfl)) (fun _ h9 => h9) rfl dX4_layAll_40 ?_
        refine lv_aload_n hx hb dX4_layAll_43 rfl (lv_at hl 0 rfl) ?_
        refine va_get (D := G.1) (ci := 4) (v := .ref (B 6)) (C := RX4) (T := TX4) (N := 11) hx hb hts hinX4 hown hK.1 hP 0 (wM_o G B T1) rfl 9 (by decide) (hts (.fieldLink RX4 26 "WireLoopsModel" "told" "[I") (List.mem_of_getElem? (i := 4) rfl)) (fun _ h9 => h9) rfl dX4_layAll_44 ?_
        refine lv_iconst (v := 3) hx hb dX4_layAll_47 (by decide) ?_
        refine lv_iload_n hx hb dX4_layAll_48 rfl (lv_at hl 1 rfl) ?_
        refine lv_imul hx hb dX4_layAll_49 ?_
        refine va_iald (D := G.1) hx hb hK.1 hP 6 0 (wM_6 G B T1) rfl (txl_in ht c1 (x := 0) (by decide) (pk_mul 3 k)) dX4_layAll_50 ?_
        refine lv_aload_n hx hb dX4_layAll_51 rfl (lv_at hl 0 rfl) ?_
        refine va_get (D := G.1) (ci := 4) (v := .ref (B 6)) (C := RX4) (T := TX4) (N := 11) hx hb hts hinX4 hown hK.1 hP 0 (wM_o G B T1) rfl 9 (by decide) (hts (.fieldLink RX4 26 "WireLoopsModel" "told" "[I") (List.mem_of_getElem? (i := 4) rfl)) (fun _ h9 => h9) rfl dX4_layAll_52 ?_
        refine lv_iconst (v := 3) hx hb dX4_layAll_55 (by decide) ?_
        refine lv_iload_n hx hb dX4_layAll_56 rfl (lv_at hl 1 rfl) ?_
        refine lv_imul hx hb dX4_layAll_57 ?_
        refine lv_iconst (v := 1) hx hb dX4_layAll_58 (by decide) ?_
        refine lv_iadd hx hb dX4_layAll_59 ?_
        refine va_iald (D := G.1) hx hb hK.1 hP 6 0 (wM_6 G B T1) rfl (txl_in ht c1 (x := 1) (by decide) (show (3 * nI k) + 1 = nI (3 * k + 1) from tpl k 1)) dX4_layAll_60 ?_
        refine cpS (rest := []) (As := [.ref (B 2), .int ((T1 6) (3 * (nI k)).toNatClampNeg), .int ((T1 6) ((3 * (nI k)) + 1).toNatClampNeg)]) E (c_X4_mayLay l G B T1 2 ((T1 6) (3 * (nI k)).toNatClampNeg) ((T1 6) ((3 * (nI k)) + 1).toNatClampNeg) (by decide) (by decide) (txl_p ht c1)) (va_cwS 3 hts gX4_layAll_X4_mayLay rfl rfl rfl (by decide +kernel) ⟨Nat.le_of_ble_eq_true rfl, Nat.le_of_ble_eq_true rfl⟩) hK hP rfl hl.1 rfl (Nat.le_of_ble_eq_true rfl) dX4_layAll_61 ⟨Nat.zero_le _, Nat.zero_le _⟩ ?_
        refine lv_istore_n (lv' := [(3, .int (f_X4_mayLay T1 2 ((T1 6) (3 * (nI k)).toNatClampNeg) ((T1 6) ((3 * (nI k)) + 1).toNatClampNeg))), (0, .ref (B 0)), (2, .int (nI k))]) hx hb dX4_layAll_64 rfl hl (by decide) rfl (fun ls hl => ?_)
        refine lv_iload_n hx hb dX4_layAll_65 rfl (lv_at hl 0 rfl) ?_
        refine lv_if_lt (tgt := 107) hx hb dX4_layAll_66 (by decide) (fun c2 => ?_) (fun c2 => ?_)
        · skip
          refine lv_iload_n hx hb dX4_layAll_107 rfl (lv_at hl 0 rfl) ?_
          have hfin : ((f_X4_mayLay T1 2 ((T1 6) (3 * (nI k)).toNatClampNeg) ((T1 6) ((3 * (nI k)) + 1).toNatClampNeg)), T1) = (f_X4_layAll T) := Eq.trans (Eq.symm (Eq.trans (ge_X4_layAll_31 n k T1) (Eq.trans (if_neg c1) ((if_pos c2))))) hres
          refine W.eq (g2 := F0 m 108 ls [.int (f_X4_mayLay T1 2 ((T1 6) (3 * (nI k)).toNatClampNeg) ((T1 6) ((3 * (nI k)) + 1).toNatClampNeg))]) rfl ?_
          generalize ((f_X4_mayLay T1 2 ((T1 6) (3 * (nI k)).toNatClampNeg) ((T1 6) ((3 * (nI k)) + 1).toNatClampNeg)) : Int32) = v9 at hfin ⊢
          exact endM hx hb hr hlocks rfl hP hD hS ⟨@congrArg (Int32 × MS) Int32 (v9, T1) (f_X4_layAll T) Prod.fst hfin, @congrArg (Int32 × MS) va_W (v9, T1) (f_X4_layAll T) (fun z => wM G B z.2) hfin⟩ dX4_layAll_108
        · skip
          refine lv_aload_n hx hb dX4_layAll_69 rfl (lv_at hl 1 rfl) ?_
          refine va_get (D := G.1) (ci := 4) (v := .ref (B 2)) (C := RX4) (T := TX4) (N := 11) hx hb hts hinX4 hown hK.1 hP 0 (wM_o G B T1) rfl 1 (by decide) (hts (.fieldLink RX4 13 "WireLoopsModel" "then" "[I") (List.mem_of_getElem? (i := 2) rfl)) (fun _ h9 => h9) rfl dX4_layAll_70 ?_
          refine lv_aload_n hx hb dX4_layAll_73 rfl (lv_at hl 1 rfl) ?_
          refine va_get (D := G.1) (ci := 4) (v := .ref (B 6)) (C := RX4) (T := TX4) (N := 11) hx hb hts hinX4 hown hK.1 hP 0 (wM_o G B T1) rfl 9 (by decide) (hts (.fieldLink RX4 26 "WireLoopsModel" "told" "[I") (List.mem_of_getElem? (i := 4) rfl)) (fun _ h9 => h9) rfl dX4_layAll_74 ?_
          refine lv_iconst (v := 3) hx hb dX4_layAll_77 (by decide) ?_
          refine lv_iload_n hx hb dX4_layAll_78 rfl (lv_at hl 2 rfl) ?_
          refine lv_imul hx hb dX4_layAll_79 ?_
          refine va_iald (D := G.1) hx hb hK.1 hP 6 0 (wM_6 G B T1) rfl (txl_in ht c1 (x := 0) (by decide) (pk_mul 3 k)) dX4_layAll_80 ?_
          refine lv_aload_n hx hb dX4_layAll_81 rfl (lv_at hl 1 rfl) ?_
          refine va_get (D := G.1) (ci := 4) (v := .ref (B 6)) (C := RX4) (T := TX4) (N := 11) hx hb hts hinX4 hown hK.1 hP 0 (wM_o G B T1) rfl 9 (by decide) (hts (.fieldLink RX4 26 "WireLoopsModel" "told" "[I") (List.mem_of_getElem? (i := 4) rfl)) (fun _ h9 => h9) rfl dX4_layAll_82 ?_
          refine lv_iconst (v := 3) hx hb dX4_layAll_85 (by decide) ?_
          refine lv_iload_n hx hb dX4_layAll_86 rfl (lv_at hl 2 rfl) ?_
          refine lv_imul hx hb dX4_layAll_87 ?_
          refine lv_iconst (v := 1) hx hb dX4_layAll_88 (by decide) ?_
          refine lv_iadd hx hb dX4_layAll_89 ?_
          refine va_iald (D := G.1) hx hb hK.1 hP 6 0 (wM_6 G B T1) rfl (txl_in ht c1 (x := 1) (by decide) (show (3 * nI k) + 1 = nI (3 * k + 1) from tpl k 1)) dX4_layAll_90 ?_
          refine lv_aload_n hx hb dX4_layAll_91 rfl (lv_at hl 1 rfl) ?_
          refine va_get (D := G.1) (ci := 4) (v := .ref (B 6)) (C := RX4) (T := TX4) (N := 11) hx hb hts hinX4 hown hK.1 hP 0 (wM_o G B T1) rfl 9 (by decide) (hts (.fieldLink RX4 26 "WireLoopsModel" "told" "[I") (List.mem_of_getElem? (i := 4) rfl)) (fun _ h9 => h9) rfl dX4_layAll_92 ?_
          refine lv_iconst (v := 3) hx hb dX4_layAll_95 (by decide) ?_
          refine lv_iload_n hx hb dX4_layAll_96 rfl (lv_at hl 2 rfl) ?_
          refine lv_imul hx hb dX4_layAll_97 ?_
          refine lv_iconst (v := 2) hx hb dX4_layAll_98 (by decide) ?_
          refine lv_iadd hx hb dX4_layAll_99 ?_
          refine va_iald (D := G.1) hx hb hK.1 hP 6 0 (wM_6 G B T1) rfl (txl_in ht c1 (x := 2) (by decide) (show (3 * nI k) + 2 = nI (3 * k + 2) from tpl k 2)) dX4_layAll_100 ?_
          refine cmS (rest := []) (As := [.ref (B 2), .int ((T1 6) (3 * (nI k)).toNatClampNeg), .int ((T1 6) ((3 * (nI k)) + 1).toNatClampNeg), .int ((T1 6) ((3 * (nI k)) + 2).toNatClampNeg)]) E (c_X4_laid_2 l G B T1 ((T1 6) (3 * (nI k)).toNatClampNeg) ((T1 6) ((3 * (nI k)) + 1).toNatClampNeg) ((T1 6) ((3 * (nI k)) + 2).toNatClampNeg) (txl_p ht c1) (txl_l ht c1)) (va_cwS 4 hts gX4_layAll_X4_laid rfl rfl rfl (by decide +kernel) ⟨Nat.le_of_ble_eq_true rfl, Nat.le_of_ble_eq_true rfl⟩) hK hP hD hS hA rfl hl.1 rfl (Nat.le_of_ble_eq_true rfl) dX4_layAll_101 ⟨Nat.zero_le _, Nat.zero_le _⟩ (fun H locs hP hD hS => ?_)
          refine lv_if_ge (tgt := 109) hx hb dX4_layAll_104 (by decide) (fun c3 => ?_) (fun c3 => ?_)
          · skip
            refine lv_iinc (v := (nI (k + 1))) (lv' := [(2, .int (nI (k + 1))), (3, .int (f_X4_mayLay T1 2 ((T1 6) (3 * (nI k)).toNatClampNeg) ((T1 6) ((3 * (nI k)) + 1).toNatClampNeg))), (0, .ref (B 0))]) hx hb dX4_layAll_109 hl (k := 2) rfl (nI_1 k) (by decide) rfl (fun ls hl => ?_)
            refine lv_goto (tgt := 31) hx hb dX4_layAll_112 (by decide) ?_
            exact ih (k + 1) ((f_X4_laid_2 T1 ((T1 6) (3 * (nI k)).toNatClampNeg) ((T1 6) ((3 * (nI k)) + 1).toNatClampNeg) ((T1 6) ((3 * (nI k)) + 2).toNatClampNeg)).2) (txl_s ht c1 _ _ _) (by omega) (Eq.trans (Eq.symm (Eq.trans (ge_X4_layAll_31 n k T1) (Eq.trans (if_neg c1) (Eq.trans (if_neg c2) ((if_pos c3)))))) hres) _ _ hP hD hS _ (lv_sub hl [2, 0] rfl)
          · skip
            refine lv_iload_n hx hb dX4_layAll_107 rfl (lv_at hl 0 rfl) ?_
            have hfin : ((f_X4_mayLay T1 2 ((T1 6) (3 * (nI k)).toNatClampNeg) ((T1 6) ((3 * (nI k)) + 1).toNatClampNeg)), (f_X4_laid_2 T1 ((T1 6) (3 * (nI k)).toNatClampNeg) ((T1 6) ((3 * (nI k)) + 1).toNatClampNeg) ((T1 6) ((3 * (nI k)) + 2).toNatClampNeg)).2) = (f_X4_layAll T) := Eq.trans (Eq.symm (Eq.trans (ge_X4_layAll_31 n k T1) (Eq.trans (if_neg c1) (Eq.trans (if_neg c2) ((if_neg c3)))))) hres
            refine W.eq (g2 := F0 m 108 ls [.int (f_X4_mayLay T1 2 ((T1 6) (3 * (nI k)).toNatClampNeg) ((T1 6) ((3 * (nI k)) + 1).toNatClampNeg))]) rfl ?_
            generalize ((f_X4_mayLay T1 2 ((T1 6) (3 * (nI k)).toNatClampNeg) ((T1 6) ((3 * (nI k)) + 1).toNatClampNeg)) : Int32) = v9 at hfin ⊢
            exact endM hx hb hr hlocks rfl hP hD hS ⟨@congrArg (Int32 × MS) Int32 (v9, (f_X4_laid_2 T1 ((T1 6) (3 * (nI k)).toNatClampNeg) ((T1 6) ((3 * (nI k)) + 1).toNatClampNeg) ((T1 6) ((3 * (nI k)) + 2).toNatClampNeg)).2) (f_X4_layAll T) Prod.fst hfin, @congrArg (Int32 × MS) va_W (v9, (f_X4_laid_2 T1 ((T1 6) (3 * (nI k)).toNatClampNeg) ((T1 6) ((3 * (nI k)) + 1).toNatClampNeg) ((T1 6) ((3 * (nI k)) + 2).toNatClampNeg)).2) (f_X4_layAll T) (fun z => wM G B z.2) hfin⟩ dX4_layAll_108
  refine lv_aload_n hx hb dX4_layAll_0 rfl (lv_at hl 0 rfl) ?_
  refine cmV (rest := []) (As := []) E (c_X4_fault l G B T L hL hL8) (cwV 0 hts gX4_layAll_X4_fault rfl rfl rfl (by decide +kernel) ⟨Nat.le_of_ble_eq_true rfl, Nat.le_of_ble_eq_true rfl⟩) hK hP hD hS hA 0 (wM_o G B T) rfl rfl hl.1 rfl (Nat.le_of_ble_eq_true rfl) dX4_layAll_1 ⟨Nat.zero_le _, Nat.zero_le _⟩ (fun H locs hP hD hS => ?_)
  have hres1 : f_X4_layAll_k1 (f_X4_fault T) T = (f_X4_layAll T) := Eq.symm ((e_X4_layAll T))
  generalize hz1 : (f_X4_fault T) = z1 at hres1 hP hD ⊢
  refine lv_istore_n (lv' := [(1, .int z1.1), (0, .ref (B 0))]) hx hb dX4_layAll_4 rfl hl (by decide) rfl (fun ls hl => ?_)
  refine lv_iload_n hx hb dX4_layAll_5 rfl (lv_at hl 0 rfl) ?_
  refine lv_bipush (v := (-5)) hx hb dX4_layAll_6 (by decide) ?_
  refine lv_icmp_eq (tgt := 16) hx hb dX4_layAll_8 (by decide) (fun c4 => ?_) (fun c4 => ?_)
  · skip
    refine lv_aload_n hx hb dX4_layAll_16 rfl (lv_at hl 1 rfl) ?_
    refine va_get (D := G.1) (ci := 4) (v := .ref (B 1)) (C := RX4) (T := TX4) (N := 11) hx hb hts hinX4 hown hK.1 hP 0 (wM_o G B z1.2) rfl 0 (by decide) (hts (.fieldLink RX4 7 "WireLoopsModel" "now" "[I") (List.mem_of_getElem? (i := 1) rfl)) (fun _ h9 => h9) rfl dX4_layAll_17 ?_
    refine lv_iconst (v := 0) hx hb dX4_layAll_20 (by decide) ?_
    refine lv_aload_n hx hb dX4_layAll_21 rfl (lv_at hl 1 rfl) ?_
    refine va_get (D := G.1) (ci := 4) (v := .ref (B 2)) (C := RX4) (T := TX4) (N := 11) hx hb hts hinX4 hown hK.1 hP 0 (wM_o G B z1.2) rfl 1 (by decide) (hts (.fieldLink RX4 13 "WireLoopsModel" "then" "[I") (List.mem_of_getElem? (i := 2) rfl)) (fun _ h9 => h9) rfl dX4_layAll_22 ?_
    refine lv_iconst (v := 0) hx hb dX4_layAll_25 (by decide) ?_
    refine czS (rest := []) (As := [.ref (B 1), .int 0, .ref (B 2), .int 0]) E (c_X4_lays l G B z1.2 1 2 0 0 (by decide) (by decide) (by decide) (by decide) 0 0 rfl rfl (by decide) (by decide)) (va_cwS 4 hts gX4_layAll_X4_lays rfl rfl rfl (by decide +kernel) ⟨Nat.le_of_ble_eq_true rfl, Nat.le_of_ble_eq_true rfl⟩) hK hP hD hS hA rfl hl.1 rfl (Nat.le_of_ble_eq_true rfl) dX4_layAll_26 ⟨Nat.zero_le _, Nat.zero_le _⟩ (fun H locs hP hD hS => ?_)
    have hres2 : f_X4_layAll_k2 (f_X4_lays z1.2 1 2 0 0) z1 T = (f_X4_layAll T) := Eq.trans (Eq.symm (Eq.trans (e_X4_layAll_k1 z1 T) ((if_pos c4)))) hres1
    generalize hz2 : (f_X4_lays z1.2 1 2 0 0) = z2 at hres2 hP hD ⊢
    refine lv_iconst (v := 0) hx hb dX4_layAll_29 (by decide) ?_
    refine lv_istore_n (lv' := [(2, .int 0), (1, .int z1.1), (0, .ref (B 0))]) hx hb dX4_layAll_30 rfl hl (by decide) rfl (fun ls hl => ?_)
    exact LOOP31 21 0 z2 (by rw [← hz2, ← hz1]; exact txl_0 hq hL hL8) (by omega) (Eq.trans (Eq.symm ((e_X4_layAll_k2 z2 z1 T))) hres2) _ _ hP hD hS _ (lv_sub hl [2, 0] rfl)
  · skip
    refine lv_bipush (v := (-100)) hx hb dX4_layAll_11 (by decide) ?_
    refine lv_iload_n hx hb dX4_layAll_13 rfl (lv_at hl 0 rfl) ?_
    refine lv_isub hx hb dX4_layAll_14 ?_
    have hfin : (((-100) - z1.1), z1.2) = (f_X4_layAll T) := Eq.trans (Eq.symm (Eq.trans (e_X4_layAll_k1 z1 T) ((if_neg c4)))) hres1
    refine W.eq (g2 := F0 m 15 ls [.int ((-100) - z1.1)]) rfl ?_
    generalize (((-100) - z1.1) : Int32) = v9 at hfin ⊢
    exact endM hx hb hr hlocks rfl hP hD hS ⟨@congrArg (Int32 × MS) Int32 (v9, z1.2) (f_X4_layAll T) Prod.fst hfin, @congrArg (Int32 × MS) va_W (v9, z1.2) (f_X4_layAll T) (fun z => wM G B z.2) hfin⟩ dX4_layAll_15
