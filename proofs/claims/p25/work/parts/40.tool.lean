/-! tool, a known run -/
set_option maxHeartbeats 4000000 in
set_option maxRecDepth 100000 in
theorem L_tool (l : Launch) (G : GG) (w u x : Nat → XS) (v0 v1 v2 v3 v4 v5 v6 v7 v8 v9 v10 v11 v12 : XS) (hw0 : w 0 = S0) (hIw : ∀ k, k ≤ 34 → Iv (w k)) (hIu : ∀ k, k < 34 → Iv (u k)) (hIx : ∀ k, k < 34 → Iv (x k)) (a1 : ∀ k, k < 34 → f_X3_laysLeft (w k) 200 = (if 6 - (nI k - nI k / 7 * 7) ≤ 33 - nI k then 7 - (nI k - nI k / 7 * 7) else 34 - nI k)) (a2 : ∀ k, k < 34 → f_X3_lay (w k) 0 0 200 = ((95 - 6 * nI k / 4), u k)) (a3 : ∀ k, k < 34 → f_X3_takeOff (u k) 0 = ((95 - 6 * nI k / 4), x k)) (a4 : ∀ k, k < 34 → nI k - nI k / 7 * 7 = 6 → f_X3_thread (x k) = (nI k / 7 + 1, w (k + 1))) (a5 : ∀ k, k < 34 → ¬ nI k - nI k / 7 * 7 = 6 → x k = w (k + 1)) (hv0 : v0 = w 34) (iv0 : Iv v0) (iv1 : Iv v1) (iv2 : Iv v2) (iv3 : Iv v3) (iv4 : Iv v4) (iv5 : Iv v5) (iv6 : Iv v6) (iv7 : Iv v7) (iv8 : Iv v8) (iv9 : Iv v9) (iv10 : Iv v10) (iv11 : Iv v11) (iv12 : Iv v12) (h0 : f_X3_lay (v0) 0 0 200 = ((-7), v1)) (h1 : f_X3_laysLeft (v1) 10 = 0) (h2 : f_X3_count (v1) 4 = 204) (h3 : f_X3_changeTool (v1) = (204, v2)) (h4 : f_X3_changeTool (v2) = ((-5), v3)) (h5 : f_X3_count (v3) 11 = 1) (h6 : f_X3_laysLeft (v3) 10 = 1) (h7 : f_X3_lay (v3) 11 0 49 = (84, v4)) (h8 : f_X3_count (v4) 4 = 2) (h9 : f_X3_lay (v4) 10 1 50 = ((-6), v5)) (h10 : f_X3_count (v5) 6 = 5) (h11 : f_X3_thread (v5) = (5, v6)) (h12 : f_X3_lay (v6) 0 15 50 = (75, v7)) (h13 : f_X3_keep (v7) = (2, v8)) (h14 : f_X3_takeOff (v8) 0 = (75, v9)) (h15 : f_X3_pull (v9) 11 84 = (76, v10)) (h16 : f_X3_pull (v10) 11 77 = (1000, v11)) (h17 : f_X3_count (v11) 0 = 0) (h18 : f_X3_restore (v11) = (2, v12)) (h19 : f_X3_wire (v12) 11 2 = 84) : Ma l yL_tool wsL_tool ({ frames := 9, cells := 50, slots := 691, locals := 215 } : Room) G [] 1 50 691 := by
  refine Ma.of (cc := cL_tool) (maxL := 2) (ret := some .boolean) (by decide) rfl (Nat.le_of_ble_eq_true rfl) ?_
  intro p e s m args below meth c A0 hA0 E hr hlocks hKA hA hS ls hl
  have E : CallFix p m c cL_tool 2 s args wsL_tool RL := E
  have hK := hKA.1
  have hP := P_nil (G := G) (H := s.heap)
  have hD := D_nil (A := A0)
  have hx := E.1
  have hb := E.2.1
  have hml := E.2.2.1
  have hown := E.2.2.2.1
  have hts := E.2.2.2.2
  have hl : lv_has ls 2 [] := hl
  refine va_new (D := G.1) (ci := 3) (fs := [.null, .null, .null, .int 0, .null, .null]) (C := RX3) (T := TX3) (N := 6) hx hb hts (fun _ h => List.mem_cons_of_mem _ (List.mem_append_left _ (List.mem_append_left _ (List.mem_append_left _ (List.mem_append_right _ h))))) tyX3 tyX3_ok hown (hts (.classLink RL 14 RX3) (by decide +kernel)) (hts (.instantiable RX3 6) (by decide +kernel)) (hts (.initialized RX3) (by decide +kernel)) hK.1 hP hD hS hA rfl (fun j hj => by rcases (show j = 0 ∨ j = 1 ∨ j = 2 ∨ j = 3 ∨ j = 4 ∨ j = 5 by omega) with rfl | rfl | rfl | rfl | rfl | rfl <;> rfl) (Nat.le_of_ble_eq_true rfl) (Nat.le_of_ble_eq_true rfl) dL_tool_0 (fun q0 H hP hD hS => ?_)
  refine W.widen (k := 1) (n := 6) (Nat.le_of_ble_eq_true rfl) (Nat.le_of_ble_eq_true rfl) ?_
  refine lv_dup hx hb dL_tool_3 rfl ?_
  have hP : va_P G.1 vwCl [(q0, .inr (3, [.null, .null, .null, .int 0, .null, .null]))] H := hP
  have hD : va_D A0 [(q0, .inr (3, [.null, .null, .null, .int 0, .null, .null]))] := hD
  refine ciI (rest := [.ref q0]) (wr := []) E (i_X3 l G q0) (cwI 0 hts gL_tool_X3_init rfl rfl rfl (hts (.initialized RX3) (by decide +kernel)) (hts (.methodLink RL 74 yX3_init) (by decide +kernel)) (hts (.instanceMethod yX3_init) (by decide +kernel)) rfl (by decide +kernel) ⟨Nat.le_of_ble_eq_true rfl, Nat.le_of_ble_eq_true rfl⟩) hKA hP hD hS hA [0] [] rfl (by decide) rfl (by decide) (by decide) hl.1 rfl (Nat.le_of_ble_eq_true rfl) dL_tool_4 ⟨Nat.le_of_ble_eq_true rfl, Nat.le_of_ble_eq_true rfl⟩ (fun A H locs hA42 hP hD hS => ?_)
  have hP : va_P G.1 vwCl (wX G A S0 (rot S0)) H := hP
  have hD : va_D A0 (wX G A S0 (rot S0)) := hD
  refine W.widen (k := 50) (n := 691) (Nat.le_of_ble_eq_true rfl) (Nat.le_of_ble_eq_true rfl) ?_
  refine lv_astore_n (lv' := [(0, .ref q0)]) hx hb dL_tool_7 rfl hl (by decide) rfl (fun ls hl => ?_)
  rw [← hA42] at hl
  have hP : va_P G.1 vwCl (wX G A (w 0) (rot (w 0))) H := by rw [hw0]; exact hP
  have hD : va_D A0 (wX G A (w 0) (rot (w 0))) := by rw [hw0]; exact hD
  refine lv_iconst (v := 0) hx hb dL_tool_8 (by decide) ?_
  refine lv_istore_n (lv' := [(1, .int 0), (0, .ref (A 42))]) hx hb dL_tool_9 rfl hl (by decide) rfl (fun ls hl => ?_)
  have LOOP : (∀ (H : Heap) (locs : List Loc), va_P G.1 vwCl (wX G A (w 34) (rot (w 34))) H → va_D A0 (wX G A (w 34) (rot (w 34))) → va_S A0 s.heap H locs → ∀ ls : Array Slot, lv_has ls 2 [(0, .ref (A 42)), (1, .int (nI 34))] → W p l e ({ frames := 9, cells := 50, slots := 691, locals := 215 } : Room) s m args below meth c H locs 50 691 (MQ below (va_Qi (fun (r : Int32) (_ : Unit) => r = 1) (fun _ _ => True) A0) args s 50 691 A0) (F0 m 122 ls [])) → ∀ (n k : Nat), k + n = 34 → ∀ (H : Heap) (locs : List Loc), va_P G.1 vwCl (wX G A (w k) (rot (w k))) H → va_D A0 (wX G A (w k) (rot (w k))) → va_S A0 s.heap H locs → ∀ ls : Array Slot, lv_has ls 2 [(0, .ref (A 42)), (1, .int (nI k))] → W p l e ({ frames := 9, cells := 50, slots := 691, locals := 215 } : Room) s m args below meth c H locs 50 691 (MQ below (va_Qi (fun (r : Int32) (_ : Unit) => r = 1) (fun _ _ => True) A0) args s 50 691 A0) (F0 m 10 ls []) := by
    intro kk n
    induction n with
    | zero =>
      intro k hk H locs hP hD hS ls hl
      have e : k = 34 := by omega
      subst e
      refine lv_iload_n hx hb dL_tool_10 rfl (lv_at hl 1 rfl) ?_
      refine lv_bipush (v := 34) hx hb dL_tool_11 (by decide) ?_
      refine lv_icmp_ge (tgt := 122) hx hb dL_tool_13 (by decide) (fun _ => ?_) (fun c9 => absurd (by decide) c9)
      exact kk H locs hP hD hS ls hl
    | succ n ih =>
      intro k hk H locs hP hD hS ls hl
      have hk3 : k < 34 := by omega
      have REST : ∀ ls : Array Slot, lv_has ls 2 [(0, .ref (A 42)), (1, .int (nI k))] → W p l e ({ frames := 9, cells := 50, slots := 691, locals := 215 } : Room) s m args below meth c H locs 50 691 (MQ below (va_Qi (fun (r : Int32) (_ : Unit) => r = 1) (fun _ _ => True) A0) args s 50 691 A0) (F0 m 54 ls []) := by
        intro ls hl
        refine lv_aload_n hx hb dL_tool_54 rfl (lv_at hl 0 rfl) ?_
        refine lv_iconst (v := 0) hx hb dL_tool_55 (by decide) ?_
        refine lv_iconst (v := 0) hx hb dL_tool_56 (by decide) ?_
        refine lv_sipush (v := 200) hx hb dL_tool_57 (by decide) ?_
        refine cmV (rest := []) (As := [.int 0, .int 0, .int 200]) E (k_X3_lay l G A 0 0 200 (hIw k (by omega)) (a2 k hk3)) (cwV 3 hts gL_tool_X3_lay rfl rfl rfl (by decide +kernel) ⟨Nat.le_of_ble_eq_true rfl, Nat.le_of_ble_eq_true rfl⟩) hK hP hD hS hA 42 rfl rfl rfl hl.1 rfl (Nat.le_of_ble_eq_true rfl) dL_tool_60 ⟨Nat.le_of_ble_eq_true rfl, Nat.le_of_ble_eq_true rfl⟩ (fun H locs hP hD hS => ?_)
        refine lv_bipush (v := 95) hx hb dL_tool_63 (by decide) ?_
        refine lv_bipush (v := 6) hx hb dL_tool_65 (by decide) ?_
        refine lv_iload_n hx hb dL_tool_67 rfl (lv_at hl 1 rfl) ?_
        refine lv_imul hx hb dL_tool_68 ?_
        refine lv_iconst (v := 4) hx hb dL_tool_69 (by decide) ?_
        refine lv_idiv hx hb dL_tool_70 (by decide) ?_
        refine lv_isub hx hb dL_tool_71 ?_
        refine lv_icmp_ne (tgt := 114) hx hb dL_tool_72 (by decide) (fun c9 => absurd rfl c9) (fun _ => ?_)
        refine lv_aload_n hx hb dL_tool_75 rfl (lv_at hl 0 rfl) ?_
        refine lv_iconst (v := 0) hx hb dL_tool_76 (by decide) ?_
        refine cmV (rest := []) (As := [.int 0]) E (k_X3_takeOff l G A 0 (hIu k hk3) (a3 k hk3)) (cwV 1 hts gL_tool_X3_takeOff rfl rfl rfl (by decide +kernel) ⟨Nat.le_of_ble_eq_true rfl, Nat.le_of_ble_eq_true rfl⟩) hK hP hD hS hA 42 rfl rfl rfl hl.1 rfl (Nat.le_of_ble_eq_true rfl) dL_tool_77 ⟨Nat.le_of_ble_eq_true rfl, Nat.le_of_ble_eq_true rfl⟩ (fun H locs hP hD hS => ?_)
        refine lv_bipush (v := 95) hx hb dL_tool_80 (by decide) ?_
        refine lv_bipush (v := 6) hx hb dL_tool_82 (by decide) ?_
        refine lv_iload_n hx hb dL_tool_84 rfl (lv_at hl 1 rfl) ?_
        refine lv_imul hx hb dL_tool_85 ?_
        refine lv_iconst (v := 4) hx hb dL_tool_86 (by decide) ?_
        refine lv_idiv hx hb dL_tool_87 (by decide) ?_
        refine lv_isub hx hb dL_tool_88 ?_
        refine lv_icmp_ne (tgt := 114) hx hb dL_tool_89 (by decide) (fun c9 => absurd rfl c9) (fun _ => ?_)
        refine lv_iload_n hx hb dL_tool_92 rfl (lv_at hl 1 rfl) ?_
        refine lv_bipush (v := 7) hx hb dL_tool_93 (by decide) ?_
        refine lv_irem hx hb dL_tool_95 (by decide) ?_
        refine lv_bipush (v := 6) hx hb dL_tool_96 (by decide) ?_
        refine lv_icmp_ne (tgt := 116) hx hb dL_tool_98 (by decide) (fun c2 => ?_) (fun c2 => ?_)
        · skip
          rw [a5 k hk3 c2] at hP hD
          refine lv_iinc (v := (nI (k + 1))) (lv' := [(1, .int (nI (k + 1))), (0, .ref (A 42))]) hx hb dL_tool_116 hl (k := 1) rfl (nI_1 k) (by decide) rfl (fun ls hl => ?_)
          refine lv_goto (tgt := 10) hx hb dL_tool_119 (by decide) ?_
          exact ih (k + 1) (by omega) _ _ hP hD hS _ (lv_sub hl [1, 0] rfl)
        · skip
          refine lv_aload_n hx hb dL_tool_101 rfl (lv_at hl 0 rfl) ?_
          refine cmV (rest := []) (As := []) E (k_X3_thread l G A (hIx k hk3) (a4 k hk3 c2)) (cwV 0 hts gL_tool_X3_thread rfl rfl rfl (by decide +kernel) ⟨Nat.le_of_ble_eq_true rfl, Nat.le_of_ble_eq_true rfl⟩) hK hP hD hS hA 42 rfl rfl rfl hl.1 rfl (Nat.le_of_ble_eq_true rfl) dL_tool_102 ⟨Nat.le_of_ble_eq_true rfl, Nat.le_of_ble_eq_true rfl⟩ (fun H locs hP hD hS => ?_)
          refine lv_iload_n hx hb dL_tool_105 rfl (lv_at hl 1 rfl) ?_
          refine lv_bipush (v := 7) hx hb dL_tool_106 (by decide) ?_
          refine lv_idiv hx hb dL_tool_108 (by decide) ?_
          refine lv_iconst (v := 1) hx hb dL_tool_109 (by decide) ?_
          refine lv_iadd hx hb dL_tool_110 ?_
          refine lv_icmp_eq (tgt := 116) hx hb dL_tool_111 (by decide) (fun _ => ?_) (fun c9 => absurd rfl c9)
          refine lv_iinc (v := (nI (k + 1))) (lv' := [(1, .int (nI (k + 1))), (0, .ref (A 42))]) hx hb dL_tool_116 hl (k := 1) rfl (nI_1 k) (by decide) rfl (fun ls hl => ?_)
          refine lv_goto (tgt := 10) hx hb dL_tool_119 (by decide) ?_
          exact ih (k + 1) (by omega) _ _ hP hD hS _ (lv_sub hl [1, 0] rfl)
      refine lv_iload_n hx hb dL_tool_10 rfl (lv_at hl 1 rfl) ?_
      refine lv_bipush (v := 34) hx hb dL_tool_11 (by decide) ?_
      refine lv_icmp_ge (tgt := 122) hx hb dL_tool_13 (by decide) (fun c9 => absurd c9 (nI_ge (a := k) (b := 34) hk3 (by omega))) (fun _ => ?_)
      refine lv_aload_n hx hb dL_tool_16 rfl (lv_at hl 0 rfl) ?_
      refine lv_sipush (v := 200) hx hb dL_tool_17 (by decide) ?_
      refine cpV (rest := []) (As := [.int 200]) E (k_X3_laysLeft l G A (w k) 200 (a1 k hk3)) (cwV 1 hts gL_tool_X3_laysLeft rfl rfl rfl (by decide +kernel) ⟨Nat.le_of_ble_eq_true rfl, Nat.le_of_ble_eq_true rfl⟩) hK hP 42 rfl rfl rfl hl.1 rfl (Nat.le_of_ble_eq_true rfl) dL_tool_20 ⟨Nat.le_of_ble_eq_true rfl, Nat.le_of_ble_eq_true rfl⟩ ?_
      refine lv_bipush (v := 33) hx hb dL_tool_23 (by decide) ?_
      refine lv_iload_n hx hb dL_tool_25 rfl (lv_at hl 1 rfl) ?_
      refine lv_isub hx hb dL_tool_26 ?_
      refine lv_bipush (v := 6) hx hb dL_tool_27 (by decide) ?_
      refine lv_iload_n hx hb dL_tool_29 rfl (lv_at hl 1 rfl) ?_
      refine lv_bipush (v := 7) hx hb dL_tool_30 (by decide) ?_
      refine lv_irem hx hb dL_tool_32 (by decide) ?_
      refine lv_isub hx hb dL_tool_33 ?_
      refine lv_icmp_ge (tgt := 44) hx hb dL_tool_34 (by decide) (fun c1 => ?_) (fun c1 => ?_)
      · skip
        refine lv_bipush (v := 7) hx hb dL_tool_44 (by decide) ?_
        refine lv_iload_n hx hb dL_tool_46 rfl (lv_at hl 1 rfl) ?_
        refine lv_bipush (v := 7) hx hb dL_tool_47 (by decide) ?_
        refine lv_irem hx hb dL_tool_49 (by decide) ?_
        refine lv_isub hx hb dL_tool_50 ?_
        refine lv_icmp_ne (tgt := 114) hx hb dL_tool_51 (by decide) (fun c9 => absurd (if_pos c1) c9) (fun _ => ?_)
        exact REST ls hl
      · skip
        refine lv_bipush (v := 34) hx hb dL_tool_37 (by decide) ?_
        refine lv_iload_n hx hb dL_tool_39 rfl (lv_at hl 1 rfl) ?_
        refine lv_isub hx hb dL_tool_40 ?_
        refine lv_goto (tgt := 51) hx hb dL_tool_41 (by decide) ?_
        refine lv_icmp_ne (tgt := 114) hx hb dL_tool_51 (by decide) (fun c9 => absurd (if_neg c1) c9) (fun _ => ?_)
        exact REST ls hl
  refine LOOP (fun H locs hP hD hS ls hl => ?_) 34 0 rfl _ _ hP hD hS _ (lv_sub hl [1, 0] rfl)
  have hP : va_P G.1 vwCl (wX G A (v0) (rot (v0))) H := by rw [hv0]; exact hP
  have hD : va_D A0 (wX G A (v0) (rot (v0))) := by rw [hv0]; exact hD
  refine lv_aload_n hx hb dL_tool_122 rfl (lv_at hl 0 rfl) ?_
  refine lv_iconst (v := 0) hx hb dL_tool_123 (by decide) ?_
  refine lv_iconst (v := 0) hx hb dL_tool_124 (by decide) ?_
  refine lv_sipush (v := 200) hx hb dL_tool_125 (by decide) ?_
  refine cmV (rest := []) (As := [.int 0, .int 0, .int 200]) E (k_X3_lay l G A 0 0 200 iv0 h0) (cwV 3 hts gL_tool_X3_lay rfl rfl rfl (by decide +kernel) ⟨Nat.le_of_ble_eq_true rfl, Nat.le_of_ble_eq_true rfl⟩) hK hP hD hS hA 42 rfl rfl rfl hl.1 rfl (Nat.le_of_ble_eq_true rfl) dL_tool_128 ⟨Nat.le_of_ble_eq_true rfl, Nat.le_of_ble_eq_true rfl⟩ (fun H locs hP hD hS => ?_)
  refine lv_bipush (v := (-7)) hx hb dL_tool_131 (by decide) ?_
  refine lv_icmp_ne (tgt := 242) hx hb dL_tool_133 (by decide) (fun c9 => absurd c9 (by decide)) (fun _ => ?_)
  refine lv_aload_n hx hb dL_tool_136 rfl (lv_at hl 0 rfl) ?_
  refine lv_bipush (v := 10) hx hb dL_tool_137 (by decide) ?_
  refine cpV (rest := []) (As := [.int 10]) E (k_X3_laysLeft l G A (v1) 10 h1) (cwV 1 hts gL_tool_X3_laysLeft rfl rfl rfl (by decide +kernel) ⟨Nat.le_of_ble_eq_true rfl, Nat.le_of_ble_eq_true rfl⟩) hK hP 42 rfl rfl rfl hl.1 rfl (Nat.le_of_ble_eq_true rfl) dL_tool_139 ⟨Nat.le_of_ble_eq_true rfl, Nat.le_of_ble_eq_true rfl⟩ ?_
  refine lv_if_ne (tgt := 242) hx hb dL_tool_142 (by decide) (fun c9 => absurd c9 (by decide)) (fun _ => ?_)
  refine lv_aload_n hx hb dL_tool_145 rfl (lv_at hl 0 rfl) ?_
  refine lv_iconst (v := 4) hx hb dL_tool_146 (by decide) ?_
  refine cpV (rest := []) (As := [.int 4]) E (k_X3_count l G A (v1) 4 h2) (cwV 1 hts gL_tool_X3_count rfl rfl rfl (by decide +kernel) ⟨Nat.le_of_ble_eq_true rfl, Nat.le_of_ble_eq_true rfl⟩) hK hP 42 rfl rfl rfl hl.1 rfl (Nat.le_of_ble_eq_true rfl) dL_tool_147 ⟨Nat.le_of_ble_eq_true rfl, Nat.le_of_ble_eq_true rfl⟩ ?_
  refine lv_sipush (v := 204) hx hb dL_tool_150 (by decide) ?_
  refine lv_icmp_ne (tgt := 242) hx hb dL_tool_153 (by decide) (fun c9 => absurd c9 (by decide)) (fun _ => ?_)
  refine lv_aload_n hx hb dL_tool_156 rfl (lv_at hl 0 rfl) ?_
  refine cmV (rest := []) (As := []) E (k_X3_changeTool l G A iv1 h3) (cwV 0 hts gL_tool_X3_changeTool rfl rfl rfl (by decide +kernel) ⟨Nat.le_of_ble_eq_true rfl, Nat.le_of_ble_eq_true rfl⟩) hK hP hD hS hA 42 rfl rfl rfl hl.1 rfl (Nat.le_of_ble_eq_true rfl) dL_tool_157 ⟨Nat.le_of_ble_eq_true rfl, Nat.le_of_ble_eq_true rfl⟩ (fun H locs hP hD hS => ?_)
  refine lv_sipush (v := 204) hx hb dL_tool_160 (by decide) ?_
  refine lv_icmp_ne (tgt := 242) hx hb dL_tool_163 (by decide) (fun c9 => absurd c9 (by decide)) (fun _ => ?_)
  refine lv_aload_n hx hb dL_tool_166 rfl (lv_at hl 0 rfl) ?_
  refine cmV (rest := []) (As := []) E (k_X3_changeTool l G A iv2 h4) (cwV 0 hts gL_tool_X3_changeTool rfl rfl rfl (by decide +kernel) ⟨Nat.le_of_ble_eq_true rfl, Nat.le_of_ble_eq_true rfl⟩) hK hP hD hS hA 42 rfl rfl rfl hl.1 rfl (Nat.le_of_ble_eq_true rfl) dL_tool_167 ⟨Nat.le_of_ble_eq_true rfl, Nat.le_of_ble_eq_true rfl⟩ (fun H locs hP hD hS => ?_)
  refine lv_bipush (v := (-5)) hx hb dL_tool_170 (by decide) ?_
  refine lv_icmp_ne (tgt := 242) hx hb dL_tool_172 (by decide) (fun c9 => absurd c9 (by decide)) (fun _ => ?_)
  refine lv_aload_n hx hb dL_tool_175 rfl (lv_at hl 0 rfl) ?_
  refine lv_bipush (v := 11) hx hb dL_tool_176 (by decide) ?_
  refine cpV (rest := []) (As := [.int 11]) E (k_X3_count l G A (v3) 11 h5) (cwV 1 hts gL_tool_X3_count rfl rfl rfl (by decide +kernel) ⟨Nat.le_of_ble_eq_true rfl, Nat.le_of_ble_eq_true rfl⟩) hK hP 42 rfl rfl rfl hl.1 rfl (Nat.le_of_ble_eq_true rfl) dL_tool_178 ⟨Nat.le_of_ble_eq_true rfl, Nat.le_of_ble_eq_true rfl⟩ ?_
  refine lv_iconst (v := 1) hx hb dL_tool_181 (by decide) ?_
  refine lv_icmp_ne (tgt := 242) hx hb dL_tool_182 (by decide) (fun c9 => absurd c9 (by decide)) (fun _ => ?_)
  refine lv_aload_n hx hb dL_tool_185 rfl (lv_at hl 0 rfl) ?_
  refine lv_bipush (v := 10) hx hb dL_tool_186 (by decide) ?_
  refine cpV (rest := []) (As := [.int 10]) E (k_X3_laysLeft l G A (v3) 10 h6) (cwV 1 hts gL_tool_X3_laysLeft rfl rfl rfl (by decide +kernel) ⟨Nat.le_of_ble_eq_true rfl, Nat.le_of_ble_eq_true rfl⟩) hK hP 42 rfl rfl rfl hl.1 rfl (Nat.le_of_ble_eq_true rfl) dL_tool_188 ⟨Nat.le_of_ble_eq_true rfl, Nat.le_of_ble_eq_true rfl⟩ ?_
  refine lv_iconst (v := 1) hx hb dL_tool_191 (by decide) ?_
  refine lv_icmp_ne (tgt := 242) hx hb dL_tool_192 (by decide) (fun c9 => absurd c9 (by decide)) (fun _ => ?_)
  refine lv_aload_n hx hb dL_tool_195 rfl (lv_at hl 0 rfl) ?_
  refine lv_bipush (v := 11) hx hb dL_tool_196 (by decide) ?_
  refine lv_iconst (v := 0) hx hb dL_tool_198 (by decide) ?_
  refine lv_bipush (v := 49) hx hb dL_tool_199 (by decide) ?_
  refine cmV (rest := []) (As := [.int 11, .int 0, .int 49]) E (k_X3_lay l G A 11 0 49 iv3 h7) (cwV 3 hts gL_tool_X3_lay rfl rfl rfl (by decide +kernel) ⟨Nat.le_of_ble_eq_true rfl, Nat.le_of_ble_eq_true rfl⟩) hK hP hD hS hA 42 rfl rfl rfl hl.1 rfl (Nat.le_of_ble_eq_true rfl) dL_tool_201 ⟨Nat.le_of_ble_eq_true rfl, Nat.le_of_ble_eq_true rfl⟩ (fun H locs hP hD hS => ?_)
  refine lv_bipush (v := 84) hx hb dL_tool_204 (by decide) ?_
  refine lv_icmp_ne (tgt := 242) hx hb dL_tool_206 (by decide) (fun c9 => absurd c9 (by decide)) (fun _ => ?_)
  refine lv_aload_n hx hb dL_tool_209 rfl (lv_at hl 0 rfl) ?_
  refine lv_iconst (v := 4) hx hb dL_tool_210 (by decide) ?_
  refine cpV (rest := []) (As := [.int 4]) E (k_X3_count l G A (v4) 4 h8) (cwV 1 hts gL_tool_X3_count rfl rfl rfl (by decide +kernel) ⟨Nat.le_of_ble_eq_true rfl, Nat.le_of_ble_eq_true rfl⟩) hK hP 42 rfl rfl rfl hl.1 rfl (Nat.le_of_ble_eq_true rfl) dL_tool_211 ⟨Nat.le_of_ble_eq_true rfl, Nat.le_of_ble_eq_true rfl⟩ ?_
  refine lv_iconst (v := 2) hx hb dL_tool_214 (by decide) ?_
  refine lv_icmp_ne (tgt := 242) hx hb dL_tool_215 (by decide) (fun c9 => absurd c9 (by decide)) (fun _ => ?_)
  refine lv_aload_n hx hb dL_tool_218 rfl (lv_at hl 0 rfl) ?_
  refine lv_bipush (v := 10) hx hb dL_tool_219 (by decide) ?_
  refine lv_iconst (v := 1) hx hb dL_tool_221 (by decide) ?_
  refine lv_bipush (v := 50) hx hb dL_tool_222 (by decide) ?_
  refine cmV (rest := []) (As := [.int 10, .int 1, .int 50]) E (k_X3_lay l G A 10 1 50 iv4 h9) (cwV 3 hts gL_tool_X3_lay rfl rfl rfl (by decide +kernel) ⟨Nat.le_of_ble_eq_true rfl, Nat.le_of_ble_eq_true rfl⟩) hK hP hD hS hA 42 rfl rfl rfl hl.1 rfl (Nat.le_of_ble_eq_true rfl) dL_tool_224 ⟨Nat.le_of_ble_eq_true rfl, Nat.le_of_ble_eq_true rfl⟩ (fun H locs hP hD hS => ?_)
  refine lv_bipush (v := (-6)) hx hb dL_tool_227 (by decide) ?_
  refine lv_icmp_ne (tgt := 242) hx hb dL_tool_229 (by decide) (fun c9 => absurd c9 (by decide)) (fun _ => ?_)
  refine lv_aload_n hx hb dL_tool_232 rfl (lv_at hl 0 rfl) ?_
  refine lv_bipush (v := 6) hx hb dL_tool_233 (by decide) ?_
  refine cpV (rest := []) (As := [.int 6]) E (k_X3_count l G A (v5) 6 h10) (cwV 1 hts gL_tool_X3_count rfl rfl rfl (by decide +kernel) ⟨Nat.le_of_ble_eq_true rfl, Nat.le_of_ble_eq_true rfl⟩) hK hP 42 rfl rfl rfl hl.1 rfl (Nat.le_of_ble_eq_true rfl) dL_tool_235 ⟨Nat.le_of_ble_eq_true rfl, Nat.le_of_ble_eq_true rfl⟩ ?_
  refine lv_iconst (v := 5) hx hb dL_tool_238 (by decide) ?_
  refine lv_icmp_eq (tgt := 244) hx hb dL_tool_239 (by decide) (fun _ => ?_) (fun c9 => absurd c9 (by decide))
  refine lv_aload_n hx hb dL_tool_244 rfl (lv_at hl 0 rfl) ?_
  refine cmV (rest := []) (As := []) E (k_X3_thread l G A iv5 h11) (cwV 0 hts gL_tool_X3_thread rfl rfl rfl (by decide +kernel) ⟨Nat.le_of_ble_eq_true rfl, Nat.le_of_ble_eq_true rfl⟩) hK hP hD hS hA 42 rfl rfl rfl hl.1 rfl (Nat.le_of_ble_eq_true rfl) dL_tool_245 ⟨Nat.le_of_ble_eq_true rfl, Nat.le_of_ble_eq_true rfl⟩ (fun H locs hP hD hS => ?_)
  refine lv_iconst (v := 5) hx hb dL_tool_248 (by decide) ?_
  refine lv_icmp_ne (tgt := 350) hx hb dL_tool_249 (by decide) (fun c9 => absurd c9 (by decide)) (fun _ => ?_)
  refine lv_aload_n hx hb dL_tool_252 rfl (lv_at hl 0 rfl) ?_
  refine lv_iconst (v := 0) hx hb dL_tool_253 (by decide) ?_
  refine lv_bipush (v := 15) hx hb dL_tool_254 (by decide) ?_
  refine lv_bipush (v := 50) hx hb dL_tool_256 (by decide) ?_
  refine cmV (rest := []) (As := [.int 0, .int 15, .int 50]) E (k_X3_lay l G A 0 15 50 iv6 h12) (cwV 3 hts gL_tool_X3_lay rfl rfl rfl (by decide +kernel) ⟨Nat.le_of_ble_eq_true rfl, Nat.le_of_ble_eq_true rfl⟩) hK hP hD hS hA 42 rfl rfl rfl hl.1 rfl (Nat.le_of_ble_eq_true rfl) dL_tool_258 ⟨Nat.le_of_ble_eq_true rfl, Nat.le_of_ble_eq_true rfl⟩ (fun H locs hP hD hS => ?_)
  refine lv_bipush (v := 75) hx hb dL_tool_261 (by decide) ?_
  refine lv_icmp_ne (tgt := 350) hx hb dL_tool_263 (by decide) (fun c9 => absurd c9 (by decide)) (fun _ => ?_)
  refine lv_aload_n hx hb dL_tool_266 rfl (lv_at hl 0 rfl) ?_
  refine cmV (rest := []) (As := []) E (k_X3_keep l G A iv7 h13) (cwV 0 hts gL_tool_X3_keep rfl rfl rfl (by decide +kernel) ⟨Nat.le_of_ble_eq_true rfl, Nat.le_of_ble_eq_true rfl⟩) hK hP hD hS hA 42 rfl rfl rfl hl.1 rfl (Nat.le_of_ble_eq_true rfl) dL_tool_267 ⟨Nat.le_of_ble_eq_true rfl, Nat.le_of_ble_eq_true rfl⟩ (fun H locs hP hD hS => ?_)
  refine lv_iconst (v := 2) hx hb dL_tool_270 (by decide) ?_
  refine lv_icmp_ne (tgt := 350) hx hb dL_tool_271 (by decide) (fun c9 => absurd c9 (by decide)) (fun _ => ?_)
  refine lv_aload_n hx hb dL_tool_274 rfl (lv_at hl 0 rfl) ?_
  refine lv_iconst (v := 0) hx hb dL_tool_275 (by decide) ?_
  refine cmV (rest := []) (As := [.int 0]) E (k_X3_takeOff l G A 0 iv8 h14) (cwV 1 hts gL_tool_X3_takeOff rfl rfl rfl (by decide +kernel) ⟨Nat.le_of_ble_eq_true rfl, Nat.le_of_ble_eq_true rfl⟩) hK hP hD hS hA 42 rfl rfl rfl hl.1 rfl (Nat.le_of_ble_eq_true rfl) dL_tool_276 ⟨Nat.le_of_ble_eq_true rfl, Nat.le_of_ble_eq_true rfl⟩ (fun H locs hP hD hS => ?_)
  refine lv_bipush (v := 75) hx hb dL_tool_279 (by decide) ?_
  refine lv_icmp_ne (tgt := 350) hx hb dL_tool_281 (by decide) (fun c9 => absurd c9 (by decide)) (fun _ => ?_)
  refine lv_aload_n hx hb dL_tool_284 rfl (lv_at hl 0 rfl) ?_
  refine lv_bipush (v := 11) hx hb dL_tool_285 (by decide) ?_
  refine lv_bipush (v := 84) hx hb dL_tool_287 (by decide) ?_
  refine cmV (rest := []) (As := [.int 11, .int 84]) E (k_X3_pull l G A 11 84 iv9 h15) (cwV 2 hts gL_tool_X3_pull rfl rfl rfl (by decide +kernel) ⟨Nat.le_of_ble_eq_true rfl, Nat.le_of_ble_eq_true rfl⟩) hK hP hD hS hA 42 rfl rfl rfl hl.1 rfl (Nat.le_of_ble_eq_true rfl) dL_tool_289 ⟨Nat.le_of_ble_eq_true rfl, Nat.le_of_ble_eq_true rfl⟩ (fun H locs hP hD hS => ?_)
  refine lv_bipush (v := 76) hx hb dL_tool_292 (by decide) ?_
  refine lv_icmp_ne (tgt := 350) hx hb dL_tool_294 (by decide) (fun c9 => absurd c9 (by decide)) (fun _ => ?_)
  refine lv_aload_n hx hb dL_tool_297 rfl (lv_at hl 0 rfl) ?_
  refine lv_bipush (v := 11) hx hb dL_tool_298 (by decide) ?_
  refine lv_bipush (v := 77) hx hb dL_tool_300 (by decide) ?_
  refine cmV (rest := []) (As := [.int 11, .int 77]) E (k_X3_pull l G A 11 77 iv10 h16) (cwV 2 hts gL_tool_X3_pull rfl rfl rfl (by decide +kernel) ⟨Nat.le_of_ble_eq_true rfl, Nat.le_of_ble_eq_true rfl⟩) hK hP hD hS hA 42 rfl rfl rfl hl.1 rfl (Nat.le_of_ble_eq_true rfl) dL_tool_302 ⟨Nat.le_of_ble_eq_true rfl, Nat.le_of_ble_eq_true rfl⟩ (fun H locs hP hD hS => ?_)
  refine lv_sipush (v := 1000) hx hb dL_tool_305 (by decide) ?_
  refine lv_icmp_ne (tgt := 350) hx hb dL_tool_308 (by decide) (fun c9 => absurd c9 (by decide)) (fun _ => ?_)
  refine lv_aload_n hx hb dL_tool_311 rfl (lv_at hl 0 rfl) ?_
  refine lv_iconst (v := 0) hx hb dL_tool_312 (by decide) ?_
  refine cpV (rest := []) (As := [.int 0]) E (k_X3_count l G A (v11) 0 h17) (cwV 1 hts gL_tool_X3_count rfl rfl rfl (by decide +kernel) ⟨Nat.le_of_ble_eq_true rfl, Nat.le_of_ble_eq_true rfl⟩) hK hP 42 rfl rfl rfl hl.1 rfl (Nat.le_of_ble_eq_true rfl) dL_tool_313 ⟨Nat.le_of_ble_eq_true rfl, Nat.le_of_ble_eq_true rfl⟩ ?_
  refine lv_if_ne (tgt := 350) hx hb dL_tool_316 (by decide) (fun c9 => absurd c9 (by decide)) (fun _ => ?_)
  refine lv_aload_n hx hb dL_tool_319 rfl (lv_at hl 0 rfl) ?_
  refine cmV (rest := []) (As := []) E (k_X3_restore l G A iv11 h18) (cwV 0 hts gL_tool_X3_restore rfl rfl rfl (by decide +kernel) ⟨Nat.le_of_ble_eq_true rfl, Nat.le_of_ble_eq_true rfl⟩) hK hP hD hS hA 42 rfl rfl rfl hl.1 rfl (Nat.le_of_ble_eq_true rfl) dL_tool_320 ⟨Nat.le_of_ble_eq_true rfl, Nat.le_of_ble_eq_true rfl⟩ (fun H locs hP hD hS => ?_)
  refine lv_iconst (v := 2) hx hb dL_tool_323 (by decide) ?_
  refine lv_icmp_ne (tgt := 350) hx hb dL_tool_324 (by decide) (fun c9 => absurd c9 (by decide)) (fun _ => ?_)
  refine lv_aload_n hx hb dL_tool_327 rfl (lv_at hl 0 rfl) ?_
  refine lv_bipush (v := 11) hx hb dL_tool_328 (by decide) ?_
  refine lv_iconst (v := 2) hx hb dL_tool_330 (by decide) ?_
  refine cpV (rest := []) (As := [.int 11, .int 2]) E (k_X3_wire l G A (v12) 11 2 h19) (cwV 2 hts gL_tool_X3_wire rfl rfl rfl (by decide +kernel) ⟨Nat.le_of_ble_eq_true rfl, Nat.le_of_ble_eq_true rfl⟩) hK hP 42 rfl rfl rfl hl.1 rfl (Nat.le_of_ble_eq_true rfl) dL_tool_331 ⟨Nat.le_of_ble_eq_true rfl, Nat.le_of_ble_eq_true rfl⟩ ?_
  refine lv_bipush (v := 84) hx hb dL_tool_334 (by decide) ?_
  refine lv_icmp_ne (tgt := 350) hx hb dL_tool_336 (by decide) (fun c9 => absurd c9 (by decide)) (fun _ => ?_)
  refine lv_aload_n hx hb dL_tool_339 rfl (lv_at hl 0 rfl) ?_
  refine cmS (rest := []) (As := [.ref (A 42)]) E (c_L_refused l G A iv12) (va_cwS 1 hts gL_tool_L_refused rfl rfl rfl (by decide +kernel) ⟨Nat.le_of_ble_eq_true rfl, Nat.le_of_ble_eq_true rfl⟩) hK hP hD hS hA rfl hl.1 rfl (Nat.le_of_ble_eq_true rfl) dL_tool_340 ⟨Nat.le_of_ble_eq_true rfl, Nat.le_of_ble_eq_true rfl⟩ (fun H locs hP hD hS => ?_)
  refine lv_if_eq (tgt := 350) hx hb dL_tool_343 (by decide) (fun c9 => absurd c9 (by decide)) (fun _ => ?_)
  refine lv_iconst (v := 1) hx hb dL_tool_346 (by decide) ?_
  refine lv_goto (tgt := 351) hx hb dL_tool_347 (by decide) ?_
  exact endA hx hb hr hlocks rfl hS rfl dL_tool_351
