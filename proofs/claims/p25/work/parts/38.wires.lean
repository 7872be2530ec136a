/-! wires, a known run -/
set_option maxHeartbeats 4000000 in
set_option maxRecDepth 100000 in
theorem L_wires (l : Launch) (G : GG) (w : Nat → XS) (hw0 : w 0 = S0) (hI : ∀ j, j ≤ 35 → Iv (w j)) (h0 : f_X3_undo (w 0) = ((-5), w 1)) (h1 : f_X3_restore (w 1) = ((-5), w 2)) (h2 : f_X3_changeTool (w 2) = ((-5), w 3)) (h3 : f_X3_thread (w 3) = ((-5), w 4)) (h4 : f_X3_sample (w 4) 1 1 = ((-5), w 5)) (h5 : f_X3_count (w 5) 9 = (-5)) (h6 : f_X3_lead (w 5) 15 0 = 600) (h7 : f_X3_laysLeft (w 5) 10 = 7) (h8 : f_X3_lay (w 5) 0 0 60 = (95, w 6)) (h9 : f_X3_count (w 6) 4 = 3) (h10 : f_X3_lay (w 6) 0 1 60 = ((-4), w 7)) (h11 : f_X3_lay (w 7) 1 0 60 = ((-4), w 8)) (h12 : f_X3_lay (w 8) 12 0 5 = ((-1), w 9)) (h13 : f_X3_lay (w 9) 1 1 9 = ((-2), w 10)) (h14 : f_X3_lay (w 10) 1 5 100 = (96, w 11)) (h15 : f_X3_count (w 11) 4 = 7) (h16 : f_X3_crossing (w 11) 0 1 0 = (-5)) (h17 : f_X3_lay (w 11) 2 3 200 = (98, w 12)) (h18 : f_X3_count (w 12) 4 = 13) (h19 : f_X3_crossing (w 12) 1 2 0 = 40) (h20 : f_X3_crossing (w 12) 2 1 1 = 64) (h21 : f_X3_crossing (w 12) 1 2 2 = 0) (h22 : f_X3_count (w 12) 2 = 1) (h23 : f_X3_count (w 12) 3 = 0) (h24 : f_X3_heightAt (w 12) 1 40 = 64) (h25 : f_X3_heightAt (w 12) 1 100 = 100) (h26 : f_X3_heightAt (w 12) 1 200 = 0) (h27 : f_X3_count (w 12) 10 = 289) (h28 : f_X3_count (w 12) 9 = 0) (h29 : f_X3_wire (w 12) 2 6 = 2) (h30 : f_X3_setWidth (w 12) 50 = (10, w 13)) (h31 : f_X3_setWidth (w 13) 50 = ((-5), w 14)) (h32 : f_X3_count (w 14) 3 = 0) (h33 : f_X3_bend (w 14) 2 120 = (200, w 15)) (h34 : f_X3_bend (w 15) 2 120 = ((-5), w 16)) (h35 : f_X3_crossing (w 16) 1 2 1 = 12) (h36 : f_X3_crossing (w 16) 2 1 2 = 1) (h37 : f_X3_count (w 16) 3 = 1) (h38 : f_X3_wire (w 16) 1 4 = 1) (h39 : f_X3_wire (w 16) 1 5 = 12) (h40 : f_X3_wire (w 16) 0 5 = (-5)) (h41 : f_X3_bestHeight (w 16) 1 0 = 10) (h42 : f_X3_bestHeight (w 16) 1 1 = 0) (h43 : f_X3_bestHeight (w 16) 0 0 = 10) (h44 : f_X3_pull (w 16) 0 95 = (86, w 17)) (h45 : f_X3_pull (w 17) 0 87 = (1000, w 18)) (h46 : f_X3_count (w 18) 8 = 1) (h47 : f_X3_wire (w 18) 0 0 = (-1)) (h48 : f_X3_lead (w 18) 0 1 = (-5)) (h49 : f_X3_moveLead (w 18) 3 120 = ((-4), w 19)) (h50 : f_X3_moveLead (w 19) 0 600 = (0, w 20)) (h51 : f_X3_moveLead (w 20) 0 600 = ((-5), w 21)) (h52 : f_X3_count (w 21) 9 = 1) (h53 : f_X3_sample (w 21) 2 97 = (1, w 22)) (h54 : f_X3_wire (w 22) 1 0 = (-1)) (h55 : f_X3_wire (w 22) 2 2 = 98) (h56 : f_X3_sample (w 22) 5 40 = (0, w 23)) (h57 : f_X3_wire (w 23) 2 2 = 94) (h58 : f_X3_laysLeft (w 23) 10 = 4) (h59 : f_X3_lay (w 23) 3 (3 + 3) 10 = (93, w 24)) (h60 : f_X3_lay (w 24) 4 (4 + 3) 10 = (92, w 25)) (h61 : f_X3_lay (w 25) 5 (5 + 3) 10 = (90, w 26)) (h62 : f_X3_lay (w 26) 6 (6 + 3) 10 = (89, w 27)) (h63 : f_X3_count (w 27) 5 = 1) (h64 : f_X3_count (w 27) 6 = 1) (h65 : f_X3_count (w 27) 1 = 7) (h66 : f_X3_wire (w 27) 6 6 = 6) (h67 : f_X3_laysLeft (w 27) 10 = 0) (h68 : f_X3_lay (w 27) 8 12 10 = ((-6), w 28)) (h69 : f_X3_lay (w 28) 6 12 10 = ((-4), w 29)) (h70 : f_X3_thread (w 29) = (1, w 30)) (h71 : f_X3_thread (w 30) = ((-5), w 31)) (h72 : f_X3_laysLeft (w 31) 10 = 7) (h73 : f_X3_takeOff (w 31) 6 = (89, w 32)) (h74 : f_X3_count (w 32) 12 = 4) (h75 : f_X3_undo (w 32) = (3, w 33)) (h76 : f_X3_undo (w 33) = (2, w 34)) (h77 : f_X3_count (w 34) 5 = 1) (h78 : f_X3_undo (w 34) = (1, w 35)) (h79 : f_X3_count (w 35) 5 = 0) (h80 : f_X3_count (w 35) 1 = 6) : Ma l yL_wires wsL_wires ({ frames := 9, cells := 50, slots := 691, locals := 215 } : Room) G [] 1 50 691 := by
  have hI : ∀ j, j ≤ 35 → Iv (w j) := hI
  refine Ma.of (cc := cL_wires) (maxL := 2) (ret := some .boolean) (by decide) rfl (Nat.le_of_ble_eq_true rfl) ?_
  intro p e s m args below meth c A0 hA0 E hr hlocks hKA hA hS ls hl
  have E : CallFix p m c cL_wires 2 s args wsL_wires RL := E
  have hK := hKA.1
  have hP := P_nil (G := G) (H := s.heap)
  have hD := D_nil (A := A0)
  have hx := E.1
  have hb := E.2.1
  have hml := E.2.2.1
  have hown := E.2.2.2.1
  have hts := E.2.2.2.2
  have hl : lv_has ls 2 [] := hl
  refine va_new (D := G.1) (ci := 3) (fs := [.null, .null, .null, .int 0, .null, .null]) (C := RX3) (T := TX3) (N := 6) hx hb hts (fun _ h => List.mem_cons_of_mem _ (List.mem_append_left _ (List.mem_append_left _ (List.mem_append_left _ (List.mem_append_right _ h))))) tyX3 tyX3_ok hown (hts (.classLink RL 14 RX3) (by decide +kernel)) (hts (.instantiable RX3 6) (by decide +kernel)) (hts (.initialized RX3) (by decide +kernel)) hK.1 hP hD hS hA rfl (fun j hj => by rcases (show j = 0 ∨ j = 1 ∨ j = 2 ∨ j = 3 ∨ j = 4 ∨ j = 5 by omega) with rfl | rfl | rfl | rfl | rfl | rfl <;> rfl) (Nat.le_of_ble_eq_true rfl) (Nat.le_of_ble_eq_true rfl) dL_wires_0 (fun q0 H hP hD hS => ?_)
  refine W.widen (k := 1) (n := 6) (Nat.le_of_ble_eq_true rfl) (Nat.le_of_ble_eq_true rfl) ?_
  refine lv_dup hx hb dL_wires_3 rfl ?_
  have hP : va_P G.1 vwCl [(q0, .inr (3, [.null, .null, .null, .int 0, .null, .null]))] H := hP
  have hD : va_D A0 [(q0, .inr (3, [.null, .null, .null, .int 0, .null, .null]))] := hD
  refine ciI (rest := [.ref q0]) (wr := []) E (i_X3 l G q0) (cwI 0 hts gL_wires_X3_init rfl rfl rfl (hts (.initialized RX3) (by decide +kernel)) (hts (.methodLink RL 74 yX3_init) (by decide +kernel)) (hts (.instanceMethod yX3_init) (by decide +kernel)) rfl (by decide +kernel) ⟨Nat.le_of_ble_eq_true rfl, Nat.le_of_ble_eq_true rfl⟩) hKA hP hD hS hA [0] [] rfl (by decide) rfl (by decide) (by decide) hl.1 rfl (Nat.le_of_ble_eq_true rfl) dL_wires_4 ⟨Nat.le_of_ble_eq_true rfl, Nat.le_of_ble_eq_true rfl⟩ (fun A H locs hA42 hP hD hS => ?_)
  have hP : va_P G.1 vwCl (wX G A S0 (rot S0)) H := hP
  have hD : va_D A0 (wX G A S0 (rot S0)) := hD
  refine W.widen (k := 50) (n := 691) (Nat.le_of_ble_eq_true rfl) (Nat.le_of_ble_eq_true rfl) ?_
  refine lv_astore_n (lv' := [(0, .ref q0)]) hx hb dL_wires_7 rfl hl (by decide) rfl (fun ls hl => ?_)
  rw [← hA42] at hl
  have hP : va_P G.1 vwCl (wX G A (w 0) (rot (w 0))) H := by rw [hw0]; exact hP
  have hD : va_D A0 (wX G A (w 0) (rot (w 0))) := by rw [hw0]; exact hD
  refine lv_aload_n hx hb dL_wires_8 rfl (lv_at hl 0 rfl) ?_
  refine cmV (rest := []) (As := []) E (k_X3_undo l G A (hI 0 (by decide)) h0) (cwV 0 hts gL_wires_X3_undo rfl rfl rfl (by decide +kernel) ⟨Nat.le_of_ble_eq_true rfl, Nat.le_of_ble_eq_true rfl⟩) hK hP hD hS hA 42 rfl rfl rfl hl.1 rfl (Nat.le_of_ble_eq_true rfl) dL_wires_9 ⟨Nat.le_of_ble_eq_true rfl, Nat.le_of_ble_eq_true rfl⟩ (fun H locs hP hD hS => ?_)
  refine lv_bipush (v := (-5)) hx hb dL_wires_12 (by decide) ?_
  refine lv_icmp_ne (tgt := 347) hx hb dL_wires_14 (by decide) (fun c9 => absurd c9 (by decide)) (fun _ => ?_)
  refine lv_aload_n hx hb dL_wires_17 rfl (lv_at hl 0 rfl) ?_
  refine cmV (rest := []) (As := []) E (k_X3_restore l G A (hI 1 (by decide)) h1) (cwV 0 hts gL_wires_X3_restore rfl rfl rfl (by decide +kernel) ⟨Nat.le_of_ble_eq_true rfl, Nat.le_of_ble_eq_true rfl⟩) hK hP hD hS hA 42 rfl rfl rfl hl.1 rfl (Nat.le_of_ble_eq_true rfl) dL_wires_18 ⟨Nat.le_of_ble_eq_true rfl, Nat.le_of_ble_eq_true rfl⟩ (fun H locs hP hD hS => ?_)
  refine lv_bipush (v := (-5)) hx hb dL_wires_21 (by decide) ?_
  refine lv_icmp_ne (tgt := 347) hx hb dL_wires_23 (by decide) (fun c9 => absurd c9 (by decide)) (fun _ => ?_)
  refine lv_aload_n hx hb dL_wires_26 rfl (lv_at hl 0 rfl) ?_
  refine cmV (rest := []) (As := []) E (k_X3_changeTool l G A (hI 2 (by decide)) h2) (cwV 0 hts gL_wires_X3_changeTool rfl rfl rfl (by decide +kernel) ⟨Nat.le_of_ble_eq_true rfl, Nat.le_of_ble_eq_true rfl⟩) hK hP hD hS hA 42 rfl rfl rfl hl.1 rfl (Nat.le_of_ble_eq_true rfl) dL_wires_27 ⟨Nat.le_of_ble_eq_true rfl, Nat.le_of_ble_eq_true rfl⟩ (fun H locs hP hD hS => ?_)
  refine lv_bipush (v := (-5)) hx hb dL_wires_30 (by decide) ?_
  refine lv_icmp_ne (tgt := 347) hx hb dL_wires_32 (by decide) (fun c9 => absurd c9 (by decide)) (fun _ => ?_)
  refine lv_aload_n hx hb dL_wires_35 rfl (lv_at hl 0 rfl) ?_
  refine cmV (rest := []) (As := []) E (k_X3_thread l G A (hI 3 (by decide)) h3) (cwV 0 hts gL_wires_X3_thread rfl rfl rfl (by decide +kernel) ⟨Nat.le_of_ble_eq_true rfl, Nat.le_of_ble_eq_true rfl⟩) hK hP hD hS hA 42 rfl rfl rfl hl.1 rfl (Nat.le_of_ble_eq_true rfl) dL_wires_36 ⟨Nat.le_of_ble_eq_true rfl, Nat.le_of_ble_eq_true rfl⟩ (fun H locs hP hD hS => ?_)
  refine lv_bipush (v := (-5)) hx hb dL_wires_39 (by decide) ?_
  refine lv_icmp_ne (tgt := 347) hx hb dL_wires_41 (by decide) (fun c9 => absurd c9 (by decide)) (fun _ => ?_)
  refine lv_aload_n hx hb dL_wires_44 rfl (lv_at hl 0 rfl) ?_
  refine lv_iconst (v := 1) hx hb dL_wires_45 (by decide) ?_
  refine lv_iconst (v := 1) hx hb dL_wires_46 (by decide) ?_
  refine cmV (rest := []) (As := [.int 1, .int 1]) E (k_X3_sample l G A 1 1 (hI 4 (by decide)) h4) (cwV 2 hts gL_wires_X3_sample rfl rfl rfl (by decide +kernel) ⟨Nat.le_of_ble_eq_true rfl, Nat.le_of_ble_eq_true rfl⟩) hK hP hD hS hA 42 rfl rfl rfl hl.1 rfl (Nat.le_of_ble_eq_true rfl) dL_wires_47 ⟨Nat.le_of_ble_eq_true rfl, Nat.le_of_ble_eq_true rfl⟩ (fun H locs hP hD hS => ?_)
  refine lv_bipush (v := (-5)) hx hb dL_wires_50 (by decide) ?_
  refine lv_icmp_ne (tgt := 347) hx hb dL_wires_52 (by decide) (fun c9 => absurd c9 (by decide)) (fun _ => ?_)
  refine lv_aload_n hx hb dL_wires_55 rfl (lv_at hl 0 rfl) ?_
  refine lv_bipush (v := 9) hx hb dL_wires_56 (by decide) ?_
  refine cpV (rest := []) (As := [.int 9]) E (k_X3_count l G A (w 5) 9 h5) (cwV 1 hts gL_wires_X3_count rfl rfl rfl (by decide +kernel) ⟨Nat.le_of_ble_eq_true rfl, Nat.le_of_ble_eq_true rfl⟩) hK hP 42 rfl rfl rfl hl.1 rfl (Nat.le_of_ble_eq_true rfl) dL_wires_58 ⟨Nat.le_of_ble_eq_true rfl, Nat.le_of_ble_eq_true rfl⟩ ?_
  refine lv_bipush (v := (-5)) hx hb dL_wires_61 (by decide) ?_
  refine lv_icmp_ne (tgt := 347) hx hb dL_wires_63 (by decide) (fun c9 => absurd c9 (by decide)) (fun _ => ?_)
  refine lv_aload_n hx hb dL_wires_66 rfl (lv_at hl 0 rfl) ?_
  refine lv_bipush (v := 15) hx hb dL_wires_67 (by decide) ?_
  refine lv_iconst (v := 0) hx hb dL_wires_69 (by decide) ?_
  refine cpV (rest := []) (As := [.int 15, .int 0]) E (k_X3_lead l G A (w 5) 15 0 h6) (cwV 2 hts gL_wires_X3_lead rfl rfl rfl (by decide +kernel) ⟨Nat.le_of_ble_eq_true rfl, Nat.le_of_ble_eq_true rfl⟩) hK hP 42 rfl rfl rfl hl.1 rfl (Nat.le_of_ble_eq_true rfl) dL_wires_70 ⟨Nat.le_of_ble_eq_true rfl, Nat.le_of_ble_eq_true rfl⟩ ?_
  refine lv_sipush (v := 600) hx hb dL_wires_73 (by decide) ?_
  refine lv_icmp_ne (tgt := 347) hx hb dL_wires_76 (by decide) (fun c9 => absurd c9 (by decide)) (fun _ => ?_)
  refine lv_aload_n hx hb dL_wires_79 rfl (lv_at hl 0 rfl) ?_
  refine lv_bipush (v := 10) hx hb dL_wires_80 (by decide) ?_
  refine cpV (rest := []) (As := [.int 10]) E (k_X3_laysLeft l G A (w 5) 10 h7) (cwV 1 hts gL_wires_X3_laysLeft rfl rfl rfl (by decide +kernel) ⟨Nat.le_of_ble_eq_true rfl, Nat.le_of_ble_eq_true rfl⟩) hK hP 42 rfl rfl rfl hl.1 rfl (Nat.le_of_ble_eq_true rfl) dL_wires_82 ⟨Nat.le_of_ble_eq_true rfl, Nat.le_of_ble_eq_true rfl⟩ ?_
  refine lv_bipush (v := 7) hx hb dL_wires_85 (by decide) ?_
  refine lv_icmp_ne (tgt := 347) hx hb dL_wires_87 (by decide) (fun c9 => absurd c9 (by decide)) (fun _ => ?_)
  refine lv_aload_n hx hb dL_wires_90 rfl (lv_at hl 0 rfl) ?_
  refine lv_iconst (v := 0) hx hb dL_wires_91 (by decide) ?_
  refine lv_iconst (v := 0) hx hb dL_wires_92 (by decide) ?_
  refine lv_bipush (v := 60) hx hb dL_wires_93 (by decide) ?_
  refine cmV (rest := []) (As := [.int 0, .int 0, .int 60]) E (k_X3_lay l G A 0 0 60 (hI 5 (by decide)) h8) (cwV 3 hts gL_wires_X3_lay rfl rfl rfl (by decide +kernel) ⟨Nat.le_of_ble_eq_true rfl, Nat.le_of_ble_eq_true rfl⟩) hK hP hD hS hA 42 rfl rfl rfl hl.1 rfl (Nat.le_of_ble_eq_true rfl) dL_wires_95 ⟨Nat.le_of_ble_eq_true rfl, Nat.le_of_ble_eq_true rfl⟩ (fun H locs hP hD hS => ?_)
  refine lv_bipush (v := 95) hx hb dL_wires_98 (by decide) ?_
  refine lv_icmp_ne (tgt := 347) hx hb dL_wires_100 (by decide) (fun c9 => absurd c9 (by decide)) (fun _ => ?_)
  refine lv_aload_n hx hb dL_wires_103 rfl (lv_at hl 0 rfl) ?_
  refine lv_iconst (v := 4) hx hb dL_wires_104 (by decide) ?_
  refine cpV (rest := []) (As := [.int 4]) E (k_X3_count l G A (w 6) 4 h9) (cwV 1 hts gL_wires_X3_count rfl rfl rfl (by decide +kernel) ⟨Nat.le_of_ble_eq_true rfl, Nat.le_of_ble_eq_true rfl⟩) hK hP 42 rfl rfl rfl hl.1 rfl (Nat.le_of_ble_eq_true rfl) dL_wires_105 ⟨Nat.le_of_ble_eq_true rfl, Nat.le_of_ble_eq_true rfl⟩ ?_
  refine lv_iconst (v := 3) hx hb dL_wires_108 (by decide) ?_
  refine lv_icmp_ne (tgt := 347) hx hb dL_wires_109 (by decide) (fun c9 => absurd c9 (by decide)) (fun _ => ?_)
  refine lv_aload_n hx hb dL_wires_112 rfl (lv_at hl 0 rfl) ?_
  refine lv_iconst (v := 0) hx hb dL_wires_113 (by decide) ?_
  refine lv_iconst (v := 1) hx hb dL_wires_114 (by decide) ?_
  refine lv_bipush (v := 60) hx hb dL_wires_115 (by decide) ?_
  refine cmV (rest := []) (As := [.int 0, .int 1, .int 60]) E (k_X3_lay l G A 0 1 60 (hI 6 (by decide)) h10) (cwV 3 hts gL_wires_X3_lay rfl rfl rfl (by decide +kernel) ⟨Nat.le_of_ble_eq_true rfl, Nat.le_of_ble_eq_true rfl⟩) hK hP hD hS hA 42 rfl rfl rfl hl.1 rfl (Nat.le_of_ble_eq_true rfl) dL_wires_117 ⟨Nat.le_of_ble_eq_true rfl, Nat.le_of_ble_eq_true rfl⟩ (fun H locs hP hD hS => ?_)
  refine lv_bipush (v := (-4)) hx hb dL_wires_120 (by decide) ?_
  refine lv_icmp_ne (tgt := 347) hx hb dL_wires_122 (by decide) (fun c9 => absurd c9 (by decide)) (fun _ => ?_)
  refine lv_aload_n hx hb dL_wires_125 rfl (lv_at hl 0 rfl) ?_
  refine lv_iconst (v := 1) hx hb dL_wires_126 (by decide) ?_
  refine lv_iconst (v := 0) hx hb dL_wires_127 (by decide) ?_
  refine lv_bipush (v := 60) hx hb dL_wires_128 (by decide) ?_
  refine cmV (rest := []) (As := [.int 1, .int 0, .int 60]) E (k_X3_lay l G A 1 0 60 (hI 7 (by decide)) h11) (cwV 3 hts gL_wires_X3_lay rfl rfl rfl (by decide +kernel) ⟨Nat.le_of_ble_eq_true rfl, Nat.le_of_ble_eq_true rfl⟩) hK hP hD hS hA 42 rfl rfl rfl hl.1 rfl (Nat.le_of_ble_eq_true rfl) dL_wires_130 ⟨Nat.le_of_ble_eq_true rfl, Nat.le_of_ble_eq_true rfl⟩ (fun H locs hP hD hS => ?_)
  refine lv_bipush (v := (-4)) hx hb dL_wires_133 (by decide) ?_
  refine lv_icmp_ne (tgt := 347) hx hb dL_wires_135 (by decide) (fun c9 => absurd c9 (by decide)) (fun _ => ?_)
  refine lv_aload_n hx hb dL_wires_138 rfl (lv_at hl 0 rfl) ?_
  refine lv_bipush (v := 12) hx hb dL_wires_139 (by decide) ?_
  refine lv_iconst (v := 0) hx hb dL_wires_141 (by decide) ?_
  refine lv_iconst (v := 5) hx hb dL_wires_142 (by decide) ?_
  refine cmV (rest := []) (As := [.int 12, .int 0, .int 5]) E (k_X3_lay l G A 12 0 5 (hI 8 (by decide)) h12) (cwV 3 hts gL_wires_X3_lay rfl rfl rfl (by decide +kernel) ⟨Nat.le_of_ble_eq_true rfl, Nat.le_of_ble_eq_true rfl⟩) hK hP hD hS hA 42 rfl rfl rfl hl.1 rfl (Nat.le_of_ble_eq_true rfl) dL_wires_143 ⟨Nat.le_of_ble_eq_true rfl, Nat.le_of_ble_eq_true rfl⟩ (fun H locs hP hD hS => ?_)
  refine lv_iconst (v := (-1)) hx hb dL_wires_146 (by decide) ?_
  refine lv_icmp_ne (tgt := 347) hx hb dL_wires_147 (by decide) (fun c9 => absurd c9 (by decide)) (fun _ => ?_)
  refine lv_aload_n hx hb dL_wires_150 rfl (lv_at hl 0 rfl) ?_
  refine lv_iconst (v := 1) hx hb dL_wires_151 (by decide) ?_
  refine lv_iconst (v := 1) hx hb dL_wires_152 (by decide) ?_
  refine lv_bipush (v := 9) hx hb dL_wires_153 (by decide) ?_
  refine cmV (rest := []) (As := [.int 1, .int 1, .int 9]) E (k_X3_lay l G A 1 1 9 (hI 9 (by decide)) h13) (cwV 3 hts gL_wires_X3_lay rfl rfl rfl (by decide +kernel) ⟨Nat.le_of_ble_eq_true rfl, Nat.le_of_ble_eq_true rfl⟩) hK hP hD hS hA 42 rfl rfl rfl hl.1 rfl (Nat.le_of_ble_eq_true rfl) dL_wires_155 ⟨Nat.le_of_ble_eq_true rfl, Nat.le_of_ble_eq_true rfl⟩ (fun H locs hP hD hS => ?_)
  refine lv_bipush (v := (-2)) hx hb dL_wires_158 (by decide) ?_
  refine lv_icmp_ne (tgt := 347) hx hb dL_wires_160 (by decide) (fun c9 => absurd c9 (by decide)) (fun _ => ?_)
  refine lv_aload_n hx hb dL_wires_163 rfl (lv_at hl 0 rfl) ?_
  refine lv_iconst (v := 1) hx hb dL_wires_164 (by decide) ?_
  refine lv_iconst (v := 5) hx hb dL_wires_165 (by decide) ?_
  refine lv_bipush (v := 100) hx hb dL_wires_166 (by decide) ?_
  refine cmV (rest := []) (As := [.int 1, .int 5, .int 100]) E (k_X3_lay l G A 1 5 100 (hI 10 (by decide)) h14) (cwV 3 hts gL_wires_X3_lay rfl rfl rfl (by decide +kernel) ⟨Nat.le_of_ble_eq_true rfl, Nat.le_of_ble_eq_true rfl⟩) hK hP hD hS hA 42 rfl rfl rfl hl.1 rfl (Nat.le_of_ble_eq_true rfl) dL_wires_168 ⟨Nat.le_of_ble_eq_true rfl, Nat.le_of_ble_eq_true rfl⟩ (fun H locs hP hD hS => ?_)
  refine lv_bipush (v := 96) hx hb dL_wires_171 (by decide) ?_
  refine lv_icmp_ne (tgt := 347) hx hb dL_wires_173 (by decide) (fun c9 => absurd c9 (by decide)) (fun _ => ?_)
  refine lv_aload_n hx hb dL_wires_176 rfl (lv_at hl 0 rfl) ?_
  refine lv_iconst (v := 4) hx hb dL_wires_177 (by decide) ?_
  refine cpV (rest := []) (As := [.int 4]) E (k_X3_count l G A (w 11) 4 h15) (cwV 1 hts gL_wires_X3_count rfl rfl rfl (by decide +kernel) ⟨Nat.le_of_ble_eq_true rfl, Nat.le_of_ble_eq_true rfl⟩) hK hP 42 rfl rfl rfl hl.1 rfl (Nat.le_of_ble_eq_true rfl) dL_wires_178 ⟨Nat.le_of_ble_eq_true rfl, Nat.le_of_ble_eq_true rfl⟩ ?_
  refine lv_bipush (v := 7) hx hb dL_wires_181 (by decide) ?_
  refine lv_icmp_ne (tgt := 347) hx hb dL_wires_183 (by decide) (fun c9 => absurd c9 (by decide)) (fun _ => ?_)
  refine lv_aload_n hx hb dL_wires_186 rfl (lv_at hl 0 rfl) ?_
  refine lv_iconst (v := 0) hx hb dL_wires_187 (by decide) ?_
  refine lv_iconst (v := 1) hx hb dL_wires_188 (by decide) ?_
  refine lv_iconst (v := 0) hx hb dL_wires_189 (by decide) ?_
  refine cpV (rest := []) (As := [.int 0, .int 1, .int 0]) E (k_X3_crossing l G A (w 11) 0 1 0 h16) (cwV 3 hts gL_wires_X3_crossing rfl rfl rfl (by decide +kernel) ⟨Nat.le_of_ble_eq_true rfl, Nat.le_of_ble_eq_true rfl⟩) hK hP 42 rfl rfl rfl hl.1 rfl (Nat.le_of_ble_eq_true rfl) dL_wires_190 ⟨Nat.le_of_ble_eq_true rfl, Nat.le_of_ble_eq_true rfl⟩ ?_
  refine lv_bipush (v := (-5)) hx hb dL_wires_193 (by decide) ?_
  refine lv_icmp_ne (tgt := 347) hx hb dL_wires_195 (by decide) (fun c9 => absurd c9 (by decide)) (fun _ => ?_)
  refine lv_aload_n hx hb dL_wires_198 rfl (lv_at hl 0 rfl) ?_
  refine lv_iconst (v := 2) hx hb dL_wires_199 (by decide) ?_
  refine lv_iconst (v := 3) hx hb dL_wires_200 (by decide) ?_
  refine lv_sipush (v := 200) hx hb dL_wires_201 (by decide) ?_
  refine cmV (rest := []) (As := [.int 2, .int 3, .int 200]) E (k_X3_lay l G A 2 3 200 (hI 11 (by decide)) h17) (cwV 3 hts gL_wires_X3_lay rfl rfl rfl (by decide +kernel) ⟨Nat.le_of_ble_eq_true rfl, Nat.le_of_ble_eq_true rfl⟩) hK hP hD hS hA 42 rfl rfl rfl hl.1 rfl (Nat.le_of_ble_eq_true rfl) dL_wires_204 ⟨Nat.le_of_ble_eq_true rfl, Nat.le_of_ble_eq_true rfl⟩ (fun H locs hP hD hS => ?_)
  refine lv_bipush (v := 98) hx hb dL_wires_207 (by decide) ?_
  refine lv_icmp_ne (tgt := 347) hx hb dL_wires_209 (by decide) (fun c9 => absurd c9 (by decide)) (fun _ => ?_)
  refine lv_aload_n hx hb dL_wires_212 rfl (lv_at hl 0 rfl) ?_
  refine lv_iconst (v := 4) hx hb dL_wires_213 (by decide) ?_
  refine cpV (rest := []) (As := [.int 4]) E (k_X3_count l G A (w 12) 4 h18) (cwV 1 hts gL_wires_X3_count rfl rfl rfl (by decide +kernel) ⟨Nat.le_of_ble_eq_true rfl, Nat.le_of_ble_eq_true rfl⟩) hK hP 42 rfl rfl rfl hl.1 rfl (Nat.le_of_ble_eq_true rfl) dL_wires_214 ⟨Nat.le_of_ble_eq_true rfl, Nat.le_of_ble_eq_true rfl⟩ ?_
  refine lv_bipush (v := 13) hx hb dL_wires_217 (by decide) ?_
  refine lv_icmp_ne (tgt := 347) hx hb dL_wires_219 (by decide) (fun c9 => absurd c9 (by decide)) (fun _ => ?_)
  refine lv_aload_n hx hb dL_wires_222 rfl (lv_at hl 0 rfl) ?_
  refine lv_iconst (v := 1) hx hb dL_wires_223 (by decide) ?_
  refine lv_iconst (v := 2) hx hb dL_wires_224 (by decide) ?_
  refine lv_iconst (v := 0) hx hb dL_wires_225 (by decide) ?_
  refine cpV (rest := []) (As := [.int 1, .int 2, .int 0]) E (k_X3_crossing l G A (w 12) 1 2 0 h19) (cwV 3 hts gL_wires_X3_crossing rfl rfl rfl (by decide +kernel) ⟨Nat.le_of_ble_eq_true rfl, Nat.le_of_ble_eq_true rfl⟩) hK hP 42 rfl rfl rfl hl.1 rfl (Nat.le_of_ble_eq_true rfl) dL_wires_226 ⟨Nat.le_of_ble_eq_true rfl, Nat.le_of_ble_eq_true rfl⟩ ?_
  refine lv_bipush (v := 40) hx hb dL_wires_229 (by decide) ?_
  refine lv_icmp_ne (tgt := 347) hx hb dL_wires_231 (by decide) (fun c9 => absurd c9 (by decide)) (fun _ => ?_)
  refine lv_aload_n hx hb dL_wires_234 rfl (lv_at hl 0 rfl) ?_
  refine lv_iconst (v := 2) hx hb dL_wires_235 (by decide) ?_
  refine lv_iconst (v := 1) hx hb dL_wires_236 (by decide) ?_
  refine lv_iconst (v := 1) hx hb dL_wires_237 (by decide) ?_
  refine cpV (rest := []) (As := [.int 2, .int 1, .int 1]) E (k_X3_crossing l G A (w 12) 2 1 1 h20) (cwV 3 hts gL_wires_X3_crossing rfl rfl rfl (by decide +kernel) ⟨Nat.le_of_ble_eq_true rfl, Nat.le_of_ble_eq_true rfl⟩) hK hP 42 rfl rfl rfl hl.1 rfl (Nat.le_of_ble_eq_true rfl) dL_wires_238 ⟨Nat.le_of_ble_eq_true rfl, Nat.le_of_ble_eq_true rfl⟩ ?_
  refine lv_bipush (v := 64) hx hb dL_wires_241 (by decide) ?_
  refine lv_icmp_ne (tgt := 347) hx hb dL_wires_243 (by decide) (fun c9 => absurd c9 (by decide)) (fun _ => ?_)
  refine lv_aload_n hx hb dL_wires_246 rfl (lv_at hl 0 rfl) ?_
  refine lv_iconst (v := 1) hx hb dL_wires_247 (by decide) ?_
  refine lv_iconst (v := 2) hx hb dL_wires_248 (by decide) ?_
  refine lv_iconst (v := 2) hx hb dL_wires_249 (by decide) ?_
  refine cpV (rest := []) (As := [.int 1, .int 2, .int 2]) E (k_X3_crossing l G A (w 12) 1 2 2 h21) (cwV 3 hts gL_wires_X3_crossing rfl rfl rfl (by decide +kernel) ⟨Nat.le_of_ble_eq_true rfl, Nat.le_of_ble_eq_true rfl⟩) hK hP 42 rfl rfl rfl hl.1 rfl (Nat.le_of_ble_eq_true rfl) dL_wires_250 ⟨Nat.le_of_ble_eq_true rfl, Nat.le_of_ble_eq_true rfl⟩ ?_
  refine lv_if_ne (tgt := 347) hx hb dL_wires_253 (by decide) (fun c9 => absurd c9 (by decide)) (fun _ => ?_)
  refine lv_aload_n hx hb dL_wires_256 rfl (lv_at hl 0 rfl) ?_
  refine lv_iconst (v := 2) hx hb dL_wires_257 (by decide) ?_
  refine cpV (rest := []) (As := [.int 2]) E (k_X3_count l G A (w 12) 2 h22) (cwV 1 hts gL_wires_X3_count rfl rfl rfl (by decide +kernel) ⟨Nat.le_of_ble_eq_true rfl, Nat.le_of_ble_eq_true rfl⟩) hK hP 42 rfl rfl rfl hl.1 rfl (Nat.le_of_ble_eq_true rfl) dL_wires_258 ⟨Nat.le_of_ble_eq_true rfl, Nat.le_of_ble_eq_true rfl⟩ ?_
  refine lv_iconst (v := 1) hx hb dL_wires_261 (by decide) ?_
  refine lv_icmp_ne (tgt := 347) hx hb dL_wires_262 (by decide) (fun c9 => absurd c9 (by decide)) (fun _ => ?_)
  refine lv_aload_n hx hb dL_wires_265 rfl (lv_at hl 0 rfl) ?_
  refine lv_iconst (v := 3) hx hb dL_wires_266 (by decide) ?_
  refine cpV (rest := []) (As := [.int 3]) E (k_X3_count l G A (w 12) 3 h23) (cwV 1 hts gL_wires_X3_count rfl rfl rfl (by decide +kernel) ⟨Nat.le_of_ble_eq_true rfl, Nat.le_of_ble_eq_true rfl⟩) hK hP 42 rfl rfl rfl hl.1 rfl (Nat.le_of_ble_eq_true rfl) dL_wires_267 ⟨Nat.le_of_ble_eq_true rfl, Nat.le_of_ble_eq_true rfl⟩ ?_
  refine lv_if_ne (tgt := 347) hx hb dL_wires_270 (by decide) (fun c9 => absurd c9 (by decide)) (fun _ => ?_)
  refine lv_aload_n hx hb dL_wires_273 rfl (lv_at hl 0 rfl) ?_
  refine lv_iconst (v := 1) hx hb dL_wires_274 (by decide) ?_
  refine lv_bipush (v := 40) hx hb dL_wires_275 (by decide) ?_
  refine cpV (rest := []) (As := [.int 1, .int 40]) E (k_X3_heightAt l G A (w 12) 1 40 h24) (cwV 2 hts gL_wires_X3_heightAt rfl rfl rfl (by decide +kernel) ⟨Nat.le_of_ble_eq_true rfl, Nat.le_of_ble_eq_true rfl⟩) hK hP 42 rfl rfl rfl hl.1 rfl (Nat.le_of_ble_eq_true rfl) dL_wires_277 ⟨Nat.le_of_ble_eq_true rfl, Nat.le_of_ble_eq_true rfl⟩ ?_
  refine lv_bipush (v := 64) hx hb dL_wires_280 (by decide) ?_
  refine lv_icmp_ne (tgt := 347) hx hb dL_wires_282 (by decide) (fun c9 => absurd c9 (by decide)) (fun _ => ?_)
  refine lv_aload_n hx hb dL_wires_285 rfl (lv_at hl 0 rfl) ?_
  refine lv_iconst (v := 1) hx hb dL_wires_286 (by decide) ?_
  refine lv_bipush (v := 100) hx hb dL_wires_287 (by decide) ?_
  refine cpV (rest := []) (As := [.int 1, .int 100]) E (k_X3_heightAt l G A (w 12) 1 100 h25) (cwV 2 hts gL_wires_X3_heightAt rfl rfl rfl (by decide +kernel) ⟨Nat.le_of_ble_eq_true rfl, Nat.le_of_ble_eq_true rfl⟩) hK hP 42 rfl rfl rfl hl.1 rfl (Nat.le_of_ble_eq_true rfl) dL_wires_289 ⟨Nat.le_of_ble_eq_true rfl, Nat.le_of_ble_eq_true rfl⟩ ?_
  refine lv_bipush (v := 100) hx hb dL_wires_292 (by decide) ?_
  refine lv_icmp_ne (tgt := 347) hx hb dL_wires_294 (by decide) (fun c9 => absurd c9 (by decide)) (fun _ => ?_)
  refine lv_aload_n hx hb dL_wires_297 rfl (lv_at hl 0 rfl) ?_
  refine lv_iconst (v := 1) hx hb dL_wires_298 (by decide) ?_
  refine lv_sipush (v := 200) hx hb dL_wires_299 (by decide) ?_
  refine cpV (rest := []) (As := [.int 1, .int 200]) E (k_X3_heightAt l G A (w 12) 1 200 h26) (cwV 2 hts gL_wires_X3_heightAt rfl rfl rfl (by decide +kernel) ⟨Nat.le_of_ble_eq_true rfl, Nat.le_of_ble_eq_true rfl⟩) hK hP 42 rfl rfl rfl hl.1 rfl (Nat.le_of_ble_eq_true rfl) dL_wires_302 ⟨Nat.le_of_ble_eq_true rfl, Nat.le_of_ble_eq_true rfl⟩ ?_
  refine lv_if_ne (tgt := 347) hx hb dL_wires_305 (by decide) (fun c9 => absurd c9 (by decide)) (fun _ => ?_)
  refine lv_aload_n hx hb dL_wires_308 rfl (lv_at hl 0 rfl) ?_
  refine lv_bipush (v := 10) hx hb dL_wires_309 (by decide) ?_
  refine cpV (rest := []) (As := [.int 10]) E (k_X3_count l G A (w 12) 10 h27) (cwV 1 hts gL_wires_X3_count rfl rfl rfl (by decide +kernel) ⟨Nat.le_of_ble_eq_true rfl, Nat.le_of_ble_eq_true rfl⟩) hK hP 42 rfl rfl rfl hl.1 rfl (Nat.le_of_ble_eq_true rfl) dL_wires_311 ⟨Nat.le_of_ble_eq_true rfl, Nat.le_of_ble_eq_true rfl⟩ ?_
  refine lv_sipush (v := 289) hx hb dL_wires_314 (by decide) ?_
  refine lv_icmp_ne (tgt := 347) hx hb dL_wires_317 (by decide) (fun c9 => absurd c9 (by decide)) (fun _ => ?_)
  refine lv_aload_n hx hb dL_wires_320 rfl (lv_at hl 0 rfl) ?_
  refine lv_bipush (v := 9) hx hb dL_wires_321 (by decide) ?_
  refine cpV (rest := []) (As := [.int 9]) E (k_X3_count l G A (w 12) 9 h28) (cwV 1 hts gL_wires_X3_count rfl rfl rfl (by decide +kernel) ⟨Nat.le_of_ble_eq_true rfl, Nat.le_of_ble_eq_true rfl⟩) hK hP 42 rfl rfl rfl hl.1 rfl (Nat.le_of_ble_eq_true rfl) dL_wires_323 ⟨Nat.le_of_ble_eq_true rfl, Nat.le_of_ble_eq_true rfl⟩ ?_
  refine lv_if_ne (tgt := 347) hx hb dL_wires_326 (by decide) (fun c9 => absurd c9 (by decide)) (fun _ => ?_)
  refine lv_aload_n hx hb dL_wires_329 rfl (lv_at hl 0 rfl) ?_
  refine lv_iconst (v := 2) hx hb dL_wires_330 (by decide) ?_
  refine lv_bipush (v := 6) hx hb dL_wires_331 (by decide) ?_
  refine cpV (rest := []) (As := [.int 2, .int 6]) E (k_X3_wire l G A (w 12) 2 6 h29) (cwV 2 hts gL_wires_X3_wire rfl rfl rfl (by decide +kernel) ⟨Nat.le_of_ble_eq_true rfl, Nat.le_of_ble_eq_true rfl⟩) hK hP 42 rfl rfl rfl hl.1 rfl (Nat.le_of_ble_eq_true rfl) dL_wires_333 ⟨Nat.le_of_ble_eq_true rfl, Nat.le_of_ble_eq_true rfl⟩ ?_
  refine lv_iconst (v := 2) hx hb dL_wires_336 (by decide) ?_
  refine lv_icmp_ne (tgt := 347) hx hb dL_wires_337 (by decide) (fun c9 => absurd c9 (by decide)) (fun _ => ?_)
  refine lv_aload_n hx hb dL_wires_340 rfl (lv_at hl 0 rfl) ?_
  refine cmS (rest := []) (As := [.ref (A 42)]) E (c_L_refused l G A (hI 12 (by decide))) (va_cwS 1 hts gL_wires_L_refused rfl rfl rfl (by decide +kernel) ⟨Nat.le_of_ble_eq_true rfl, Nat.le_of_ble_eq_true rfl⟩) hK hP hD hS hA rfl hl.1 rfl (Nat.le_of_ble_eq_true rfl) dL_wires_341 ⟨Nat.le_of_ble_eq_true rfl, Nat.le_of_ble_eq_true rfl⟩ (fun H locs hP hD hS => ?_)
  refine lv_if_ne (tgt := 349) hx hb dL_wires_344 (by decide) (fun _ => ?_) (fun c9 => absurd c9 (by decide))
  refine lv_aload_n hx hb dL_wires_349 rfl (lv_at hl 0 rfl) ?_
  refine lv_bipush (v := 50) hx hb dL_wires_350 (by decide) ?_
  refine cmV (rest := []) (As := [.int 50]) E (k_X3_setWidth l G A 50 (hI 12 (by decide)) h30) (cwV 1 hts gL_wires_X3_setWidth rfl rfl rfl (by decide +kernel) ⟨Nat.le_of_ble_eq_true rfl, Nat.le_of_ble_eq_true rfl⟩) hK hP hD hS hA 42 rfl rfl rfl hl.1 rfl (Nat.le_of_ble_eq_true rfl) dL_wires_352 ⟨Nat.le_of_ble_eq_true rfl, Nat.le_of_ble_eq_true rfl⟩ (fun H locs hP hD hS => ?_)
  refine lv_bipush (v := 10) hx hb dL_wires_355 (by decide) ?_
  refine lv_icmp_ne (tgt := 664) hx hb dL_wires_357 (by decide) (fun c9 => absurd c9 (by decide)) (fun _ => ?_)
  refine lv_aload_n hx hb dL_wires_360 rfl (lv_at hl 0 rfl) ?_
  refine lv_bipush (v := 50) hx hb dL_wires_361 (by decide) ?_
  refine cmV (rest := []) (As := [.int 50]) E (k_X3_setWidth l G A 50 (hI 13 (by decide)) h31) (cwV 1 hts gL_wires_X3_setWidth rfl rfl rfl (by decide +kernel) ⟨Nat.le_of_ble_eq_true rfl, Nat.le_of_ble_eq_true rfl⟩) hK hP hD hS hA 42 rfl rfl rfl hl.1 rfl (Nat.le_of_ble_eq_true rfl) dL_wires_363 ⟨Nat.le_of_ble_eq_true rfl, Nat.le_of_ble_eq_true rfl⟩ (fun H locs hP hD hS => ?_)
  refine lv_bipush (v := (-5)) hx hb dL_wires_366 (by decide) ?_
  refine lv_icmp_ne (tgt := 664) hx hb dL_wires_368 (by decide) (fun c9 => absurd c9 (by decide)) (fun _ => ?_)
  refine lv_aload_n hx hb dL_wires_371 rfl (lv_at hl 0 rfl) ?_
  refine lv_iconst (v := 3) hx hb dL_wires_372 (by decide) ?_
  refine cpV (rest := []) (As := [.int 3]) E (k_X3_count l G A (w 14) 3 h32) (cwV 1 hts gL_wires_X3_count rfl rfl rfl (by decide +kernel) ⟨Nat.le_of_ble_eq_true rfl, Nat.le_of_ble_eq_true rfl⟩) hK hP 42 rfl rfl rfl hl.1 rfl (Nat.le_of_ble_eq_true rfl) dL_wires_373 ⟨Nat.le_of_ble_eq_true rfl, Nat.le_of_ble_eq_true rfl⟩ ?_
  refine lv_if_ne (tgt := 664) hx hb dL_wires_376 (by decide) (fun c9 => absurd c9 (by decide)) (fun _ => ?_)
  refine lv_aload_n hx hb dL_wires_379 rfl (lv_at hl 0 rfl) ?_
  refine lv_iconst (v := 2) hx hb dL_wires_380 (by decide) ?_
  refine lv_bipush (v := 120) hx hb dL_wires_381 (by decide) ?_
  refine cmV (rest := []) (As := [.int 2, .int 120]) E (k_X3_bend l G A 2 120 (hI 14 (by decide)) h33) (cwV 2 hts gL_wires_X3_bend rfl rfl rfl (by decide +kernel) ⟨Nat.le_of_ble_eq_true rfl, Nat.le_of_ble_eq_true rfl⟩) hK hP hD hS hA 42 rfl rfl rfl hl.1 rfl (Nat.le_of_ble_eq_true rfl) dL_wires_383 ⟨Nat.le_of_ble_eq_true rfl, Nat.le_of_ble_eq_true rfl⟩ (fun H locs hP hD hS => ?_)
  refine lv_sipush (v := 200) hx hb dL_wires_386 (by decide) ?_
  refine lv_icmp_ne (tgt := 664) hx hb dL_wires_389 (by decide) (fun c9 => absurd c9 (by decide)) (fun _ => ?_)
  refine lv_aload_n hx hb dL_wires_392 rfl (lv_at hl 0 rfl) ?_
  refine lv_iconst (v := 2) hx hb dL_wires_393 (by decide) ?_
  refine lv_bipush (v := 120) hx hb dL_wires_394 (by decide) ?_
  refine cmV (rest := []) (As := [.int 2, .int 120]) E (k_X3_bend l G A 2 120 (hI 15 (by decide)) h34) (cwV 2 hts gL_wires_X3_bend rfl rfl rfl (by decide +kernel) ⟨Nat.le_of_ble_eq_true rfl, Nat.le_of_ble_eq_true rfl⟩) hK hP hD hS hA 42 rfl rfl rfl hl.1 rfl (Nat.le_of_ble_eq_true rfl) dL_wires_396 ⟨Nat.le_of_ble_eq_true rfl, Nat.le_of_ble_eq_true rfl⟩ (fun H locs hP hD hS => ?_)
  refine lv_bipush (v := (-5)) hx hb dL_wires_399 (by decide) ?_
  refine lv_icmp_ne (tgt := 664) hx hb dL_wires_401 (by decide) (fun c9 => absurd c9 (by decide)) (fun _ => ?_)
  refine lv_aload_n hx hb dL_wires_404 rfl (lv_at hl 0 rfl) ?_
  refine lv_iconst (v := 1) hx hb dL_wires_405 (by decide) ?_
  refine lv_iconst (v := 2) hx hb dL_wires_406 (by decide) ?_
  refine lv_iconst (v := 1) hx hb dL_wires_407 (by decide) ?_
  refine cpV (rest := []) (As := [.int 1, .int 2, .int 1]) E (k_X3_crossing l G A (w 16) 1 2 1 h35) (cwV 3 hts gL_wires_X3_crossing rfl rfl rfl (by decide +kernel) ⟨Nat.le_of_ble_eq_true rfl, Nat.le_of_ble_eq_true rfl⟩) hK hP 42 rfl rfl rfl hl.1 rfl (Nat.le_of_ble_eq_true rfl) dL_wires_408 ⟨Nat.le_of_ble_eq_true rfl, Nat.le_of_ble_eq_true rfl⟩ ?_
  refine lv_bipush (v := 12) hx hb dL_wires_411 (by decide) ?_
  refine lv_icmp_ne (tgt := 664) hx hb dL_wires_413 (by decide) (fun c9 => absurd c9 (by decide)) (fun _ => ?_)
  refine lv_aload_n hx hb dL_wires_416 rfl (lv_at hl 0 rfl) ?_
  refine lv_iconst (v := 2) hx hb dL_wires_417 (by decide) ?_
  refine lv_iconst (v := 1) hx hb dL_wires_418 (by decide) ?_
  refine lv_iconst (v := 2) hx hb dL_wires_419 (by decide) ?_
  refine cpV (rest := []) (As := [.int 2, .int 1, .int 2]) E (k_X3_crossing l G A (w 16) 2 1 2 h36) (cwV 3 hts gL_wires_X3_crossing rfl rfl rfl (by decide +kernel) ⟨Nat.le_of_ble_eq_true rfl, Nat.le_of_ble_eq_true rfl⟩) hK hP 42 rfl rfl rfl hl.1 rfl (Nat.le_of_ble_eq_true rfl) dL_wires_420 ⟨Nat.le_of_ble_eq_true rfl, Nat.le_of_ble_eq_true rfl⟩ ?_
  refine lv_iconst (v := 1) hx hb dL_wires_423 (by decide) ?_
  refine lv_icmp_ne (tgt := 664) hx hb dL_wires_424 (by decide) (fun c9 => absurd c9 (by decide)) (fun _ => ?_)
  refine lv_aload_n hx hb dL_wires_427 rfl (lv_at hl 0 rfl) ?_
  refine lv_iconst (v := 3) hx hb dL_wires_428 (by decide) ?_
  refine cpV (rest := []) (As := [.int 3]) E (k_X3_count l G A (w 16) 3 h37) (cwV 1 hts gL_wires_X3_count rfl rfl rfl (by decide +kernel) ⟨Nat.le_of_ble_eq_true rfl, Nat.le_of_ble_eq_true rfl⟩) hK hP 42 rfl rfl rfl hl.1 rfl (Nat.le_of_ble_eq_true rfl) dL_wires_429 ⟨Nat.le_of_ble_eq_true rfl, Nat.le_of_ble_eq_true rfl⟩ ?_
  refine lv_iconst (v := 1) hx hb dL_wires_432 (by decide) ?_
  refine lv_icmp_ne (tgt := 664) hx hb dL_wires_433 (by decide) (fun c9 => absurd c9 (by decide)) (fun _ => ?_)
  refine lv_aload_n hx hb dL_wires_436 rfl (lv_at hl 0 rfl) ?_
  refine lv_iconst (v := 1) hx hb dL_wires_437 (by decide) ?_
  refine lv_iconst (v := 4) hx hb dL_wires_438 (by decide) ?_
  refine cpV (rest := []) (As := [.int 1, .int 4]) E (k_X3_wire l G A (w 16) 1 4 h38) (cwV 2 hts gL_wires_X3_wire rfl rfl rfl (by decide +kernel) ⟨Nat.le_of_ble_eq_true rfl, Nat.le_of_ble_eq_true rfl⟩) hK hP 42 rfl rfl rfl hl.1 rfl (Nat.le_of_ble_eq_true rfl) dL_wires_439 ⟨Nat.le_of_ble_eq_true rfl, Nat.le_of_ble_eq_true rfl⟩ ?_
  refine lv_iconst (v := 1) hx hb dL_wires_442 (by decide) ?_
  refine lv_icmp_ne (tgt := 664) hx hb dL_wires_443 (by decide) (fun c9 => absurd c9 (by decide)) (fun _ => ?_)
  refine lv_aload_n hx hb dL_wires_446 rfl (lv_at hl 0 rfl) ?_
  refine lv_iconst (v := 1) hx hb dL_wires_447 (by decide) ?_
  refine lv_iconst (v := 5) hx hb dL_wires_448 (by decide) ?_
  refine cpV (rest := []) (As := [.int 1, .int 5]) E (k_X3_wire l G A (w 16) 1 5 h39) (cwV 2 hts gL_wires_X3_wire rfl rfl rfl (by decide +kernel) ⟨Nat.le_of_ble_eq_true rfl, Nat.le_of_ble_eq_true rfl⟩) hK hP 42 rfl rfl rfl hl.1 rfl (Nat.le_of_ble_eq_true rfl) dL_wires_449 ⟨Nat.le_of_ble_eq_true rfl, Nat.le_of_ble_eq_true rfl⟩ ?_
  refine lv_bipush (v := 12) hx hb dL_wires_452 (by decide) ?_
  refine lv_icmp_ne (tgt := 664) hx hb dL_wires_454 (by decide) (fun c9 => absurd c9 (by decide)) (fun _ => ?_)
  refine lv_aload_n hx hb dL_wires_457 rfl (lv_at hl 0 rfl) ?_
  refine lv_iconst (v := 0) hx hb dL_wires_458 (by decide) ?_
  refine lv_iconst (v := 5) hx hb dL_wires_459 (by decide) ?_
  refine cpV (rest := []) (As := [.int 0, .int 5]) E (k_X3_wire l G A (w 16) 0 5 h40) (cwV 2 hts gL_wires_X3_wire rfl rfl rfl (by decide +kernel) ⟨Nat.le_of_ble_eq_true rfl, Nat.le_of_ble_eq_true rfl⟩) hK hP 42 rfl rfl rfl hl.1 rfl (Nat.le_of_ble_eq_true rfl) dL_wires_460 ⟨Nat.le_of_ble_eq_true rfl, Nat.le_of_ble_eq_true rfl⟩ ?_
  refine lv_bipush (v := (-5)) hx hb dL_wires_463 (by decide) ?_
  refine lv_icmp_ne (tgt := 664) hx hb dL_wires_465 (by decide) (fun c9 => absurd c9 (by decide)) (fun _ => ?_)
  refine lv_aload_n hx hb dL_wires_468 rfl (lv_at hl 0 rfl) ?_
  refine lv_iconst (v := 1) hx hb dL_wires_469 (by decide) ?_
  refine lv_iconst (v := 0) hx hb dL_wires_470 (by decide) ?_
  refine cpV (rest := []) (As := [.int 1, .int 0]) E (k_X3_bestHeight l G A (w 16) 1 0 h41) (cwV 2 hts gL_wires_X3_bestHeight rfl rfl rfl (by decide +kernel) ⟨Nat.le_of_ble_eq_true rfl, Nat.le_of_ble_eq_true rfl⟩) hK hP 42 rfl rfl rfl hl.1 rfl (Nat.le_of_ble_eq_true rfl) dL_wires_471 ⟨Nat.le_of_ble_eq_true rfl, Nat.le_of_ble_eq_true rfl⟩ ?_
  refine lv_bipush (v := 10) hx hb dL_wires_474 (by decide) ?_
  refine lv_icmp_ne (tgt := 664) hx hb dL_wires_476 (by decide) (fun c9 => absurd c9 (by decide)) (fun _ => ?_)
  refine lv_aload_n hx hb dL_wires_479 rfl (lv_at hl 0 rfl) ?_
  refine lv_iconst (v := 1) hx hb dL_wires_480 (by decide) ?_
  refine lv_iconst (v := 1) hx hb dL_wires_481 (by decide) ?_
  refine cpV (rest := []) (As := [.int 1, .int 1]) E (k_X3_bestHeight l G A (w 16) 1 1 h42) (cwV 2 hts gL_wires_X3_bestHeight rfl rfl rfl (by decide +kernel) ⟨Nat.le_of_ble_eq_true rfl, Nat.le_of_ble_eq_true rfl⟩) hK hP 42 rfl rfl rfl hl.1 rfl (Nat.le_of_ble_eq_true rfl) dL_wires_482 ⟨Nat.le_of_ble_eq_true rfl, Nat.le_of_ble_eq_true rfl⟩ ?_
  refine lv_if_ne (tgt := 664) hx hb dL_wires_485 (by decide) (fun c9 => absurd c9 (by decide)) (fun _ => ?_)
  refine lv_aload_n hx hb dL_wires_488 rfl (lv_at hl 0 rfl) ?_
  refine lv_iconst (v := 0) hx hb dL_wires_489 (by decide) ?_
  refine lv_iconst (v := 0) hx hb dL_wires_490 (by decide) ?_
  refine cpV (rest := []) (As := [.int 0, .int 0]) E (k_X3_bestHeight l G A (w 16) 0 0 h43) (cwV 2 hts gL_wires_X3_bestHeight rfl rfl rfl (by decide +kernel) ⟨Nat.le_of_ble_eq_true rfl, Nat.le_of_ble_eq_true rfl⟩) hK hP 42 rfl rfl rfl hl.1 rfl (Nat.le_of_ble_eq_true rfl) dL_wires_491 ⟨Nat.le_of_ble_eq_true rfl, Nat.le_of_ble_eq_true rfl⟩ ?_
  refine lv_bipush (v := 10) hx hb dL_wires_494 (by decide) ?_
  refine lv_icmp_ne (tgt := 664) hx hb dL_wires_496 (by decide) (fun c9 => absurd c9 (by decide)) (fun _ => ?_)
  refine lv_aload_n hx hb dL_wires_499 rfl (lv_at hl 0 rfl) ?_
  refine lv_iconst (v := 0) hx hb dL_wires_500 (by decide) ?_
  refine lv_bipush (v := 95) hx hb dL_wires_501 (by decide) ?_
  refine cmV (rest := []) (As := [.int 0, .int 95]) E (k_X3_pull l G A 0 95 (hI 16 (by decide)) h44) (cwV 2 hts gL_wires_X3_pull rfl rfl rfl (by decide +kernel) ⟨Nat.le_of_ble_eq_true rfl, Nat.le_of_ble_eq_true rfl⟩) hK hP hD hS hA 42 rfl rfl rfl hl.1 rfl (Nat.le_of_ble_eq_true rfl) dL_wires_503 ⟨Nat.le_of_ble_eq_true rfl, Nat.le_of_ble_eq_true rfl⟩ (fun H locs hP hD hS => ?_)
  refine lv_bipush (v := 86) hx hb dL_wires_506 (by decide) ?_
  refine lv_icmp_ne (tgt := 664) hx hb dL_wires_508 (by decide) (fun c9 => absurd c9 (by decide)) (fun _ => ?_)
  refine lv_aload_n hx hb dL_wires_511 rfl (lv_at hl 0 rfl) ?_
  refine lv_iconst (v := 0) hx hb dL_wires_512 (by decide) ?_
  refine lv_bipush (v := 87) hx hb dL_wires_513 (by decide) ?_
  refine cmV (rest := []) (As := [.int 0, .int 87]) E (k_X3_pull l G A 0 87 (hI 17 (by decide)) h45) (cwV 2 hts gL_wires_X3_pull rfl rfl rfl (by decide +kernel) ⟨Nat.le_of_ble_eq_true rfl, Nat.le_of_ble_eq_true rfl⟩) hK hP hD hS hA 42 rfl rfl rfl hl.1 rfl (Nat.le_of_ble_eq_true rfl) dL_wires_515 ⟨Nat.le_of_ble_eq_true rfl, Nat.le_of_ble_eq_true rfl⟩ (fun H locs hP hD hS => ?_)
  refine lv_sipush (v := 1000) hx hb dL_wires_518 (by decide) ?_
  refine lv_icmp_ne (tgt := 664) hx hb dL_wires_521 (by decide) (fun c9 => absurd c9 (by decide)) (fun _ => ?_)
  refine lv_aload_n hx hb dL_wires_524 rfl (lv_at hl 0 rfl) ?_
  refine lv_bipush (v := 8) hx hb dL_wires_525 (by decide) ?_
  refine cpV (rest := []) (As := [.int 8]) E (k_X3_count l G A (w 18) 8 h46) (cwV 1 hts gL_wires_X3_count rfl rfl rfl (by decide +kernel) ⟨Nat.le_of_ble_eq_true rfl, Nat.le_of_ble_eq_true rfl⟩) hK hP 42 rfl rfl rfl hl.1 rfl (Nat.le_of_ble_eq_true rfl) dL_wires_527 ⟨Nat.le_of_ble_eq_true rfl, Nat.le_of_ble_eq_true rfl⟩ ?_
  refine lv_iconst (v := 1) hx hb dL_wires_530 (by decide) ?_
  refine lv_icmp_ne (tgt := 664) hx hb dL_wires_531 (by decide) (fun c9 => absurd c9 (by decide)) (fun _ => ?_)
  refine lv_aload_n hx hb dL_wires_534 rfl (lv_at hl 0 rfl) ?_
  refine lv_iconst (v := 0) hx hb dL_wires_535 (by decide) ?_
  refine lv_iconst (v := 0) hx hb dL_wires_536 (by decide) ?_
  refine cpV (rest := []) (As := [.int 0, .int 0]) E (k_X3_wire l G A (w 18) 0 0 h47) (cwV 2 hts gL_wires_X3_wire rfl rfl rfl (by decide +kernel) ⟨Nat.le_of_ble_eq_true rfl, Nat.le_of_ble_eq_true rfl⟩) hK hP 42 rfl rfl rfl hl.1 rfl (Nat.le_of_ble_eq_true rfl) dL_wires_537 ⟨Nat.le_of_ble_eq_true rfl, Nat.le_of_ble_eq_true rfl⟩ ?_
  refine lv_iconst (v := (-1)) hx hb dL_wires_540 (by decide) ?_
  refine lv_icmp_ne (tgt := 664) hx hb dL_wires_541 (by decide) (fun c9 => absurd c9 (by decide)) (fun _ => ?_)
  refine lv_aload_n hx hb dL_wires_544 rfl (lv_at hl 0 rfl) ?_
  refine lv_iconst (v := 0) hx hb dL_wires_545 (by decide) ?_
  refine lv_iconst (v := 1) hx hb dL_wires_546 (by decide) ?_
  refine cpV (rest := []) (As := [.int 0, .int 1]) E (k_X3_lead l G A (w 18) 0 1 h48) (cwV 2 hts gL_wires_X3_lead rfl rfl rfl (by decide +kernel) ⟨Nat.le_of_ble_eq_true rfl, Nat.le_of_ble_eq_true rfl⟩) hK hP 42 rfl rfl rfl hl.1 rfl (Nat.le_of_ble_eq_true rfl) dL_wires_547 ⟨Nat.le_of_ble_eq_true rfl, Nat.le_of_ble_eq_true rfl⟩ ?_
  refine lv_bipush (v := (-5)) hx hb dL_wires_550 (by decide) ?_
  refine lv_icmp_ne (tgt := 664) hx hb dL_wires_552 (by decide) (fun c9 => absurd c9 (by decide)) (fun _ => ?_)
  refine lv_aload_n hx hb dL_wires_555 rfl (lv_at hl 0 rfl) ?_
  refine lv_iconst (v := 3) hx hb dL_wires_556 (by decide) ?_
  refine lv_bipush (v := 120) hx hb dL_wires_557 (by decide) ?_
  refine cmV (rest := []) (As := [.int 3, .int 120]) E (k_X3_moveLead l G A 3 120 (hI 18 (by decide)) h49) (cwV 2 hts gL_wires_X3_moveLead rfl rfl rfl (by decide +kernel) ⟨Nat.le_of_ble_eq_true rfl, Nat.le_of_ble_eq_true rfl⟩) hK hP hD hS hA 42 rfl rfl rfl hl.1 rfl (Nat.le_of_ble_eq_true rfl) dL_wires_559 ⟨Nat.le_of_ble_eq_true rfl, Nat.le_of_ble_eq_true rfl⟩ (fun H locs hP hD hS => ?_)
  refine lv_bipush (v := (-4)) hx hb dL_wires_562 (by decide) ?_
  refine lv_icmp_ne (tgt := 664) hx hb dL_wires_564 (by decide) (fun c9 => absurd c9 (by decide)) (fun _ => ?_)
  refine lv_aload_n hx hb dL_wires_567 rfl (lv_at hl 0 rfl) ?_
  refine lv_iconst (v := 0) hx hb dL_wires_568 (by decide) ?_
  refine lv_sipush (v := 600) hx hb dL_wires_569 (by decide) ?_
  refine cmV (rest := []) (As := [.int 0, .int 600]) E (k_X3_moveLead l G A 0 600 (hI 19 (by decide)) h50) (cwV 2 hts gL_wires_X3_moveLead rfl rfl rfl (by decide +kernel) ⟨Nat.le_of_ble_eq_true rfl, Nat.le_of_ble_eq_true rfl⟩) hK hP hD hS hA 42 rfl rfl rfl hl.1 rfl (Nat.le_of_ble_eq_true rfl) dL_wires_572 ⟨Nat.le_of_ble_eq_true rfl, Nat.le_of_ble_eq_true rfl⟩ (fun H locs hP hD hS => ?_)
  refine lv_if_ne (tgt := 664) hx hb dL_wires_575 (by decide) (fun c9 => absurd c9 (by decide)) (fun _ => ?_)
  refine lv_aload_n hx hb dL_wires_578 rfl (lv_at hl 0 rfl) ?_
  refine lv_iconst (v := 0) hx hb dL_wires_579 (by decide) ?_
  refine lv_sipush (v := 600) hx hb dL_wires_580 (by decide) ?_
  refine cmV (rest := []) (As := [.int 0, .int 600]) E (k_X3_moveLead l G A 0 600 (hI 20 (by decide)) h51) (cwV 2 hts gL_wires_X3_moveLead rfl rfl rfl (by decide +kernel) ⟨Nat.le_of_ble_eq_true rfl, Nat.le_of_ble_eq_true rfl⟩) hK hP hD hS hA 42 rfl rfl rfl hl.1 rfl (Nat.le_of_ble_eq_true rfl) dL_wires_583 ⟨Nat.le_of_ble_eq_true rfl, Nat.le_of_ble_eq_true rfl⟩ (fun H locs hP hD hS => ?_)
  refine lv_bipush (v := (-5)) hx hb dL_wires_586 (by decide) ?_
  refine lv_icmp_ne (tgt := 664) hx hb dL_wires_588 (by decide) (fun c9 => absurd c9 (by decide)) (fun _ => ?_)
  refine lv_aload_n hx hb dL_wires_591 rfl (lv_at hl 0 rfl) ?_
  refine lv_bipush (v := 9) hx hb dL_wires_592 (by decide) ?_
  refine cpV (rest := []) (As := [.int 9]) E (k_X3_count l G A (w 21) 9 h52) (cwV 1 hts gL_wires_X3_count rfl rfl rfl (by decide +kernel) ⟨Nat.le_of_ble_eq_true rfl, Nat.le_of_ble_eq_true rfl⟩) hK hP 42 rfl rfl rfl hl.1 rfl (Nat.le_of_ble_eq_true rfl) dL_wires_594 ⟨Nat.le_of_ble_eq_true rfl, Nat.le_of_ble_eq_true rfl⟩ ?_
  refine lv_iconst (v := 1) hx hb dL_wires_597 (by decide) ?_
  refine lv_icmp_ne (tgt := 664) hx hb dL_wires_598 (by decide) (fun c9 => absurd c9 (by decide)) (fun _ => ?_)
  refine lv_aload_n hx hb dL_wires_601 rfl (lv_at hl 0 rfl) ?_
  refine lv_iconst (v := 2) hx hb dL_wires_602 (by decide) ?_
  refine lv_bipush (v := 97) hx hb dL_wires_603 (by decide) ?_
  refine cmV (rest := []) (As := [.int 2, .int 97]) E (k_X3_sample l G A 2 97 (hI 21 (by decide)) h53) (cwV 2 hts gL_wires_X3_sample rfl rfl rfl (by decide +kernel) ⟨Nat.le_of_ble_eq_true rfl, Nat.le_of_ble_eq_true rfl⟩) hK hP hD hS hA 42 rfl rfl rfl hl.1 rfl (Nat.le_of_ble_eq_true rfl) dL_wires_605 ⟨Nat.le_of_ble_eq_true rfl, Nat.le_of_ble_eq_true rfl⟩ (fun H locs hP hD hS => ?_)
  refine lv_iconst (v := 1) hx hb dL_wires_608 (by decide) ?_
  refine lv_icmp_ne (tgt := 664) hx hb dL_wires_609 (by decide) (fun c9 => absurd c9 (by decide)) (fun _ => ?_)
  refine lv_aload_n hx hb dL_wires_612 rfl (lv_at hl 0 rfl) ?_
  refine lv_iconst (v := 1) hx hb dL_wires_613 (by decide) ?_
  refine lv_iconst (v := 0) hx hb dL_wires_614 (by decide) ?_
  refine cpV (rest := []) (As := [.int 1, .int 0]) E (k_X3_wire l G A (w 22) 1 0 h54) (cwV 2 hts gL_wires_X3_wire rfl rfl rfl (by decide +kernel) ⟨Nat.le_of_ble_eq_true rfl, Nat.le_of_ble_eq_true rfl⟩) hK hP 42 rfl rfl rfl hl.1 rfl (Nat.le_of_ble_eq_true rfl) dL_wires_615 ⟨Nat.le_of_ble_eq_true rfl, Nat.le_of_ble_eq_true rfl⟩ ?_
  refine lv_iconst (v := (-1)) hx hb dL_wires_618 (by decide) ?_
  refine lv_icmp_ne (tgt := 664) hx hb dL_wires_619 (by decide) (fun c9 => absurd c9 (by decide)) (fun _ => ?_)
  refine lv_aload_n hx hb dL_wires_622 rfl (lv_at hl 0 rfl) ?_
  refine lv_iconst (v := 2) hx hb dL_wires_623 (by decide) ?_
  refine lv_iconst (v := 2) hx hb dL_wires_624 (by decide) ?_
  refine cpV (rest := []) (As := [.int 2, .int 2]) E (k_X3_wire l G A (w 22) 2 2 h55) (cwV 2 hts gL_wires_X3_wire rfl rfl rfl (by decide +kernel) ⟨Nat.le_of_ble_eq_true rfl, Nat.le_of_ble_eq_true rfl⟩) hK hP 42 rfl rfl rfl hl.1 rfl (Nat.le_of_ble_eq_true rfl) dL_wires_625 ⟨Nat.le_of_ble_eq_true rfl, Nat.le_of_ble_eq_true rfl⟩ ?_
  refine lv_bipush (v := 98) hx hb dL_wires_628 (by decide) ?_
  refine lv_icmp_ne (tgt := 664) hx hb dL_wires_630 (by decide) (fun c9 => absurd c9 (by decide)) (fun _ => ?_)
  refine lv_aload_n hx hb dL_wires_633 rfl (lv_at hl 0 rfl) ?_
  refine lv_iconst (v := 5) hx hb dL_wires_634 (by decide) ?_
  refine lv_bipush (v := 40) hx hb dL_wires_635 (by decide) ?_
  refine cmV (rest := []) (As := [.int 5, .int 40]) E (k_X3_sample l G A 5 40 (hI 22 (by decide)) h56) (cwV 2 hts gL_wires_X3_sample rfl rfl rfl (by decide +kernel) ⟨Nat.le_of_ble_eq_true rfl, Nat.le_of_ble_eq_true rfl⟩) hK hP hD hS hA 42 rfl rfl rfl hl.1 rfl (Nat.le_of_ble_eq_true rfl) dL_wires_637 ⟨Nat.le_of_ble_eq_true rfl, Nat.le_of_ble_eq_true rfl⟩ (fun H locs hP hD hS => ?_)
  refine lv_if_ne (tgt := 664) hx hb dL_wires_640 (by decide) (fun c9 => absurd c9 (by decide)) (fun _ => ?_)
  refine lv_aload_n hx hb dL_wires_643 rfl (lv_at hl 0 rfl) ?_
  refine lv_iconst (v := 2) hx hb dL_wires_644 (by decide) ?_
  refine lv_iconst (v := 2) hx hb dL_wires_645 (by decide) ?_
  refine cpV (rest := []) (As := [.int 2, .int 2]) E (k_X3_wire l G A (w 23) 2 2 h57) (cwV 2 hts gL_wires_X3_wire rfl rfl rfl (by decide +kernel) ⟨Nat.le_of_ble_eq_true rfl, Nat.le_of_ble_eq_true rfl⟩) hK hP 42 rfl rfl rfl hl.1 rfl (Nat.le_of_ble_eq_true rfl) dL_wires_646 ⟨Nat.le_of_ble_eq_true rfl, Nat.le_of_ble_eq_true rfl⟩ ?_
  refine lv_bipush (v := 94) hx hb dL_wires_649 (by decide) ?_
  refine lv_icmp_ne (tgt := 664) hx hb dL_wires_651 (by decide) (fun c9 => absurd c9 (by decide)) (fun _ => ?_)
  refine lv_aload_n hx hb dL_wires_654 rfl (lv_at hl 0 rfl) ?_
  refine lv_bipush (v := 10) hx hb dL_wires_655 (by decide) ?_
  refine cpV (rest := []) (As := [.int 10]) E (k_X3_laysLeft l G A (w 23) 10 h58) (cwV 1 hts gL_wires_X3_laysLeft rfl rfl rfl (by decide +kernel) ⟨Nat.le_of_ble_eq_true rfl, Nat.le_of_ble_eq_true rfl⟩) hK hP 42 rfl rfl rfl hl.1 rfl (Nat.le_of_ble_eq_true rfl) dL_wires_657 ⟨Nat.le_of_ble_eq_true rfl, Nat.le_of_ble_eq_true rfl⟩ ?_
  refine lv_iconst (v := 4) hx hb dL_wires_660 (by decide) ?_
  refine lv_icmp_eq (tgt := 666) hx hb dL_wires_661 (by decide) (fun _ => ?_) (fun c9 => absurd c9 (by decide))
  refine lv_iconst (v := 3) hx hb dL_wires_666 (by decide) ?_
  refine lv_istore_n (lv' := [(1, .int 3), (0, .ref (A 42))]) hx hb dL_wires_667 rfl hl (by decide) rfl (fun ls hl => ?_)
  refine lv_iload_n hx hb dL_wires_668 rfl (lv_at hl 0 rfl) ?_
  refine lv_bipush (v := 7) hx hb dL_wires_669 (by decide) ?_
  refine lv_icmp_ge (tgt := 695) hx hb dL_wires_671 (by decide) (fun c9 => absurd c9 (by decide)) (fun _ => ?_)
  refine lv_aload_n hx hb dL_wires_674 rfl (lv_at hl 1 rfl) ?_
  refine lv_iload_n hx hb dL_wires_675 rfl (lv_at hl 0 rfl) ?_
  refine lv_iload_n hx hb dL_wires_676 rfl (lv_at hl 0 rfl) ?_
  refine lv_iconst (v := 3) hx hb dL_wires_677 (by decide) ?_
  refine lv_iadd hx hb dL_wires_678 ?_
  refine lv_bipush (v := 10) hx hb dL_wires_679 (by decide) ?_
  refine cmV (rest := []) (As := [.int 3, .int (3 + 3), .int 10]) E (k_X3_lay l G A 3 (3 + 3) 10 (hI 23 (by decide)) h59) (cwV 3 hts gL_wires_X3_lay rfl rfl rfl (by decide +kernel) ⟨Nat.le_of_ble_eq_true rfl, Nat.le_of_ble_eq_true rfl⟩) hK hP hD hS hA 42 rfl rfl rfl hl.1 rfl (Nat.le_of_ble_eq_true rfl) dL_wires_681 ⟨Nat.le_of_ble_eq_true rfl, Nat.le_of_ble_eq_true rfl⟩ (fun H locs hP hD hS => ?_)
  refine lv_if_ge (tgt := 689) hx hb dL_wires_684 (by decide) (fun _ => ?_) (fun c9 => absurd c9 (by decide))
  refine lv_iinc (v := 4) (lv' := [(1, .int 4), (0, .ref (A 42))]) hx hb dL_wires_689 hl (k := 0) rfl (by decide) (by decide) rfl (fun ls hl => ?_)
  refine lv_goto (tgt := 668) hx hb dL_wires_692 (by decide) ?_
  refine lv_iload_n hx hb dL_wires_668 rfl (lv_at hl 0 rfl) ?_
  refine lv_bipush (v := 7) hx hb dL_wires_669 (by decide) ?_
  refine lv_icmp_ge (tgt := 695) hx hb dL_wires_671 (by decide) (fun c9 => absurd c9 (by decide)) (fun _ => ?_)
  refine lv_aload_n hx hb dL_wires_674 rfl (lv_at hl 1 rfl) ?_
  refine lv_iload_n hx hb dL_wires_675 rfl (lv_at hl 0 rfl) ?_
  refine lv_iload_n hx hb dL_wires_676 rfl (lv_at hl 0 rfl) ?_
  refine lv_iconst (v := 3) hx hb dL_wires_677 (by decide) ?_
  refine lv_iadd hx hb dL_wires_678 ?_
  refine lv_bipush (v := 10) hx hb dL_wires_679 (by decide) ?_
  refine cmV (rest := []) (As := [.int 4, .int (4 + 3), .int 10]) E (k_X3_lay l G A 4 (4 + 3) 10 (hI 24 (by decide)) h60) (cwV 3 hts gL_wires_X3_lay rfl rfl rfl (by decide +kernel) ⟨Nat.le_of_ble_eq_true rfl, Nat.le_of_ble_eq_true rfl⟩) hK hP hD hS hA 42 rfl rfl rfl hl.1 rfl (Nat.le_of_ble_eq_true rfl) dL_wires_681 ⟨Nat.le_of_ble_eq_true rfl, Nat.le_of_ble_eq_true rfl⟩ (fun H locs hP hD hS => ?_)
  refine lv_if_ge (tgt := 689) hx hb dL_wires_684 (by decide) (fun _ => ?_) (fun c9 => absurd c9 (by decide))
  refine lv_iinc (v := 5) (lv' := [(1, .int 5), (0, .ref (A 42))]) hx hb dL_wires_689 hl (k := 0) rfl (by decide) (by decide) rfl (fun ls hl => ?_)
  refine lv_goto (tgt := 668) hx hb dL_wires_692 (by decide) ?_
  refine lv_iload_n hx hb dL_wires_668 rfl (lv_at hl 0 rfl) ?_
  refine lv_bipush (v := 7) hx hb dL_wires_669 (by decide) ?_
  refine lv_icmp_ge (tgt := 695) hx hb dL_wires_671 (by decide) (fun c9 => absurd c9 (by decide)) (fun _ => ?_)
  refine lv_aload_n hx hb dL_wires_674 rfl (lv_at hl 1 rfl) ?_
  refine lv_iload_n hx hb dL_wires_675 rfl (lv_at hl 0 rfl) ?_
  refine lv_iload_n hx hb dL_wires_676 rfl (lv_at hl 0 rfl) ?_
  refine lv_iconst (v := 3) hx hb dL_wires_677 (by decide) ?_
  refine lv_iadd hx hb dL_wires_678 ?_
  refine lv_bipush (v := 10) hx hb dL_wires_679 (by decide) ?_
  refine cmV (rest := []) (As := [.int 5, .int (5 + 3), .int 10]) E (k_X3_lay l G A 5 (5 + 3) 10 (hI 25 (by decide)) h61) (cwV 3 hts gL_wires_X3_lay rfl rfl rfl (by decide +kernel) ⟨Nat.le_of_ble_eq_true rfl, Nat.le_of_ble_eq_true rfl⟩) hK hP hD hS hA 42 rfl rfl rfl hl.1 rfl (Nat.le_of_ble_eq_true rfl) dL_wires_681 ⟨Nat.le_of_ble_eq_true rfl, Nat.le_of_ble_eq_true rfl⟩ (fun H locs hP hD hS => ?_)
  refine lv_if_ge (tgt := 689) hx hb dL_wires_684 (by decide) (fun _ => ?_) (fun c9 => absurd c9 (by decide))
  refine lv_iinc (v := 6) (lv' := [(1, .int 6), (0, .ref (A 42))]) hx hb dL_wires_689 hl (k := 0) rfl (by decide) (by decide) rfl (fun ls hl => ?_)
  refine lv_goto (tgt := 668) hx hb dL_wires_692 (by decide) ?_
  refine lv_iload_n hx hb dL_wires_668 rfl (lv_at hl 0 rfl) ?_
  refine lv_bipush (v := 7) hx hb dL_wires_669 (by decide) ?_
  refine lv_icmp_ge (tgt := 695) hx hb dL_wires_671 (by decide) (fun c9 => absurd c9 (by decide)) (fun _ => ?_)
  refine lv_aload_n hx hb dL_wires_674 rfl (lv_at hl 1 rfl) ?_
  refine lv_iload_n hx hb dL_wires_675 rfl (lv_at hl 0 rfl) ?_
  refine lv_iload_n hx hb dL_wires_676 rfl (lv_at hl 0 rfl) ?_
  refine lv_iconst (v := 3) hx hb dL_wires_677 (by decide) ?_
  refine lv_iadd hx hb dL_wires_678 ?_
  refine lv_bipush (v := 10) hx hb dL_wires_679 (by decide) ?_
  refine cmV (rest := []) (As := [.int 6, .int (6 + 3), .int 10]) E (k_X3_lay l G A 6 (6 + 3) 10 (hI 26 (by decide)) h62) (cwV 3 hts gL_wires_X3_lay rfl rfl rfl (by decide +kernel) ⟨Nat.le_of_ble_eq_true rfl, Nat.le_of_ble_eq_true rfl⟩) hK hP hD hS hA 42 rfl rfl rfl hl.1 rfl (Nat.le_of_ble_eq_true rfl) dL_wires_681 ⟨Nat.le_of_ble_eq_true rfl, Nat.le_of_ble_eq_true rfl⟩ (fun H locs hP hD hS => ?_)
  refine lv_if_ge (tgt := 689) hx hb dL_wires_684 (by decide) (fun _ => ?_) (fun c9 => absurd c9 (by decide))
  refine lv_iinc (v := 7) (lv' := [(1, .int 7), (0, .ref (A 42))]) hx hb dL_wires_689 hl (k := 0) rfl (by decide) (by decide) rfl (fun ls hl => ?_)
  refine lv_goto (tgt := 668) hx hb dL_wires_692 (by decide) ?_
  refine lv_iload_n hx hb dL_wires_668 rfl (lv_at hl 0 rfl) ?_
  refine lv_bipush (v := 7) hx hb dL_wires_669 (by decide) ?_
  refine lv_icmp_ge (tgt := 695) hx hb dL_wires_671 (by decide) (fun _ => ?_) (fun c9 => absurd c9 (by decide))
  refine lv_aload_n hx hb dL_wires_695 rfl (lv_at hl 1 rfl) ?_
  refine lv_iconst (v := 5) hx hb dL_wires_696 (by decide) ?_
  refine cpV (rest := []) (As := [.int 5]) E (k_X3_count l G A (w 27) 5 h63) (cwV 1 hts gL_wires_X3_count rfl rfl rfl (by decide +kernel) ⟨Nat.le_of_ble_eq_true rfl, Nat.le_of_ble_eq_true rfl⟩) hK hP 42 rfl rfl rfl hl.1 rfl (Nat.le_of_ble_eq_true rfl) dL_wires_697 ⟨Nat.le_of_ble_eq_true rfl, Nat.le_of_ble_eq_true rfl⟩ ?_
  refine lv_iconst (v := 1) hx hb dL_wires_700 (by decide) ?_
  refine lv_icmp_ne (tgt := 878) hx hb dL_wires_701 (by decide) (fun c9 => absurd c9 (by decide)) (fun _ => ?_)
  refine lv_aload_n hx hb dL_wires_704 rfl (lv_at hl 1 rfl) ?_
  refine lv_bipush (v := 6) hx hb dL_wires_705 (by decide) ?_
  refine cpV (rest := []) (As := [.int 6]) E (k_X3_count l G A (w 27) 6 h64) (cwV 1 hts gL_wires_X3_count rfl rfl rfl (by decide +kernel) ⟨Nat.le_of_ble_eq_true rfl, Nat.le_of_ble_eq_true rfl⟩) hK hP 42 rfl rfl rfl hl.1 rfl (Nat.le_of_ble_eq_true rfl) dL_wires_707 ⟨Nat.le_of_ble_eq_true rfl, Nat.le_of_ble_eq_true rfl⟩ ?_
  refine lv_iconst (v := 1) hx hb dL_wires_710 (by decide) ?_
  refine lv_icmp_ne (tgt := 878) hx hb dL_wires_711 (by decide) (fun c9 => absurd c9 (by decide)) (fun _ => ?_)
  refine lv_aload_n hx hb dL_wires_714 rfl (lv_at hl 1 rfl) ?_
  refine lv_iconst (v := 1) hx hb dL_wires_715 (by decide) ?_
  refine cpV (rest := []) (As := [.int 1]) E (k_X3_count l G A (w 27) 1 h65) (cwV 1 hts gL_wires_X3_count rfl rfl rfl (by decide +kernel) ⟨Nat.le_of_ble_eq_true rfl, Nat.le_of_ble_eq_true rfl⟩) hK hP 42 rfl rfl rfl hl.1 rfl (Nat.le_of_ble_eq_true rfl) dL_wires_716 ⟨Nat.le_of_ble_eq_true rfl, Nat.le_of_ble_eq_true rfl⟩ ?_
  refine lv_bipush (v := 7) hx hb dL_wires_719 (by decide) ?_
  refine lv_icmp_ne (tgt := 878) hx hb dL_wires_721 (by decide) (fun c9 => absurd c9 (by decide)) (fun _ => ?_)
  refine lv_aload_n hx hb dL_wires_724 rfl (lv_at hl 1 rfl) ?_
  refine lv_bipush (v := 6) hx hb dL_wires_725 (by decide) ?_
  refine lv_bipush (v := 6) hx hb dL_wires_727 (by decide) ?_
  refine cpV (rest := []) (As := [.int 6, .int 6]) E (k_X3_wire l G A (w 27) 6 6 h66) (cwV 2 hts gL_wires_X3_wire rfl rfl rfl (by decide +kernel) ⟨Nat.le_of_ble_eq_true rfl, Nat.le_of_ble_eq_true rfl⟩) hK hP 42 rfl rfl rfl hl.1 rfl (Nat.le_of_ble_eq_true rfl) dL_wires_729 ⟨Nat.le_of_ble_eq_true rfl, Nat.le_of_ble_eq_true rfl⟩ ?_
  refine lv_bipush (v := 6) hx hb dL_wires_732 (by decide) ?_
  refine lv_icmp_ne (tgt := 878) hx hb dL_wires_734 (by decide) (fun c9 => absurd c9 (by decide)) (fun _ => ?_)
  refine lv_aload_n hx hb dL_wires_737 rfl (lv_at hl 1 rfl) ?_
  refine lv_bipush (v := 10) hx hb dL_wires_738 (by decide) ?_
  refine cpV (rest := []) (As := [.int 10]) E (k_X3_laysLeft l G A (w 27) 10 h67) (cwV 1 hts gL_wires_X3_laysLeft rfl rfl rfl (by decide +kernel) ⟨Nat.le_of_ble_eq_true rfl, Nat.le_of_ble_eq_true rfl⟩) hK hP 42 rfl rfl rfl hl.1 rfl (Nat.le_of_ble_eq_true rfl) dL_wires_740 ⟨Nat.le_of_ble_eq_true rfl, Nat.le_of_ble_eq_true rfl⟩ ?_
  refine lv_if_ne (tgt := 878) hx hb dL_wires_743 (by decide) (fun c9 => absurd c9 (by decide)) (fun _ => ?_)
  refine lv_aload_n hx hb dL_wires_746 rfl (lv_at hl 1 rfl) ?_
  refine lv_bipush (v := 8) hx hb dL_wires_747 (by decide) ?_
  refine lv_bipush (v := 12) hx hb dL_wires_749 (by decide) ?_
  refine lv_bipush (v := 10) hx hb dL_wires_751 (by decide) ?_
  refine cmV (rest := []) (As := [.int 8, .int 12, .int 10]) E (k_X3_lay l G A 8 12 10 (hI 27 (by decide)) h68) (cwV 3 hts gL_wires_X3_lay rfl rfl rfl (by decide +kernel) ⟨Nat.le_of_ble_eq_true rfl, Nat.le_of_ble_eq_true rfl⟩) hK hP hD hS hA 42 rfl rfl rfl hl.1 rfl (Nat.le_of_ble_eq_true rfl) dL_wires_753 ⟨Nat.le_of_ble_eq_true rfl, Nat.le_of_ble_eq_true rfl⟩ (fun H locs hP hD hS => ?_)
  refine lv_bipush (v := (-6)) hx hb dL_wires_756 (by decide) ?_
  refine lv_icmp_ne (tgt := 878) hx hb dL_wires_758 (by decide) (fun c9 => absurd c9 (by decide)) (fun _ => ?_)
  refine lv_aload_n hx hb dL_wires_761 rfl (lv_at hl 1 rfl) ?_
  refine lv_bipush (v := 6) hx hb dL_wires_762 (by decide) ?_
  refine lv_bipush (v := 12) hx hb dL_wires_764 (by decide) ?_
  refine lv_bipush (v := 10) hx hb dL_wires_766 (by decide) ?_
  refine cmV (rest := []) (As := [.int 6, .int 12, .int 10]) E (k_X3_lay l G A 6 12 10 (hI 28 (by decide)) h69) (cwV 3 hts gL_wires_X3_lay rfl rfl rfl (by decide +kernel) ⟨Nat.le_of_ble_eq_true rfl, Nat.le_of_ble_eq_true rfl⟩) hK hP hD hS hA 42 rfl rfl rfl hl.1 rfl (Nat.le_of_ble_eq_true rfl) dL_wires_768 ⟨Nat.le_of_ble_eq_true rfl, Nat.le_of_ble_eq_true rfl⟩ (fun H locs hP hD hS => ?_)
  refine lv_bipush (v := (-4)) hx hb dL_wires_771 (by decide) ?_
  refine lv_icmp_ne (tgt := 878) hx hb dL_wires_773 (by decide) (fun c9 => absurd c9 (by decide)) (fun _ => ?_)
  refine lv_aload_n hx hb dL_wires_776 rfl (lv_at hl 1 rfl) ?_
  refine cmV (rest := []) (As := []) E (k_X3_thread l G A (hI 29 (by decide)) h70) (cwV 0 hts gL_wires_X3_thread rfl rfl rfl (by decide +kernel) ⟨Nat.le_of_ble_eq_true rfl, Nat.le_of_ble_eq_true rfl⟩) hK hP hD hS hA 42 rfl rfl rfl hl.1 rfl (Nat.le_of_ble_eq_true rfl) dL_wires_777 ⟨Nat.le_of_ble_eq_true rfl, Nat.le_of_ble_eq_true rfl⟩ (fun H locs hP hD hS => ?_)
  refine lv_iconst (v := 1) hx hb dL_wires_780 (by decide) ?_
  refine lv_icmp_ne (tgt := 878) hx hb dL_wires_781 (by decide) (fun c9 => absurd c9 (by decide)) (fun _ => ?_)
  refine lv_aload_n hx hb dL_wires_784 rfl (lv_at hl 1 rfl) ?_
  refine cmV (rest := []) (As := []) E (k_X3_thread l G A (hI 30 (by decide)) h71) (cwV 0 hts gL_wires_X3_thread rfl rfl rfl (by decide +kernel) ⟨Nat.le_of_ble_eq_true rfl, Nat.le_of_ble_eq_true rfl⟩) hK hP hD hS hA 42 rfl rfl rfl hl.1 rfl (Nat.le_of_ble_eq_true rfl) dL_wires_785 ⟨Nat.le_of_ble_eq_true rfl, Nat.le_of_ble_eq_true rfl⟩ (fun H locs hP hD hS => ?_)
  refine lv_bipush (v := (-5)) hx hb dL_wires_788 (by decide) ?_
  refine lv_icmp_ne (tgt := 878) hx hb dL_wires_790 (by decide) (fun c9 => absurd c9 (by decide)) (fun _ => ?_)
  refine lv_aload_n hx hb dL_wires_793 rfl (lv_at hl 1 rfl) ?_
  refine lv_bipush (v := 10) hx hb dL_wires_794 (by decide) ?_
  refine cpV (rest := []) (As := [.int 10]) E (k_X3_laysLeft l G A (w 31) 10 h72) (cwV 1 hts gL_wires_X3_laysLeft rfl rfl rfl (by decide +kernel) ⟨Nat.le_of_ble_eq_true rfl, Nat.le_of_ble_eq_true rfl⟩) hK hP 42 rfl rfl rfl hl.1 rfl (Nat.le_of_ble_eq_true rfl) dL_wires_796 ⟨Nat.le_of_ble_eq_true rfl, Nat.le_of_ble_eq_true rfl⟩ ?_
  refine lv_bipush (v := 7) hx hb dL_wires_799 (by decide) ?_
  refine lv_icmp_ne (tgt := 878) hx hb dL_wires_801 (by decide) (fun c9 => absurd c9 (by decide)) (fun _ => ?_)
  refine lv_aload_n hx hb dL_wires_804 rfl (lv_at hl 1 rfl) ?_
  refine lv_bipush (v := 6) hx hb dL_wires_805 (by decide) ?_
  refine cmV (rest := []) (As := [.int 6]) E (k_X3_takeOff l G A 6 (hI 31 (by decide)) h73) (cwV 1 hts gL_wires_X3_takeOff rfl rfl rfl (by decide +kernel) ⟨Nat.le_of_ble_eq_true rfl, Nat.le_of_ble_eq_true rfl⟩) hK hP hD hS hA 42 rfl rfl rfl hl.1 rfl (Nat.le_of_ble_eq_true rfl) dL_wires_807 ⟨Nat.le_of_ble_eq_true rfl, Nat.le_of_ble_eq_true rfl⟩ (fun H locs hP hD hS => ?_)
  refine lv_if_lt (tgt := 878) hx hb dL_wires_810 (by decide) (fun c9 => absurd c9 (by decide)) (fun _ => ?_)
  refine lv_aload_n hx hb dL_wires_813 rfl (lv_at hl 1 rfl) ?_
  refine lv_bipush (v := 12) hx hb dL_wires_814 (by decide) ?_
  refine cpV (rest := []) (As := [.int 12]) E (k_X3_count l G A (w 32) 12 h74) (cwV 1 hts gL_wires_X3_count rfl rfl rfl (by decide +kernel) ⟨Nat.le_of_ble_eq_true rfl, Nat.le_of_ble_eq_true rfl⟩) hK hP 42 rfl rfl rfl hl.1 rfl (Nat.le_of_ble_eq_true rfl) dL_wires_816 ⟨Nat.le_of_ble_eq_true rfl, Nat.le_of_ble_eq_true rfl⟩ ?_
  refine lv_iconst (v := 4) hx hb dL_wires_819 (by decide) ?_
  refine lv_icmp_ne (tgt := 878) hx hb dL_wires_820 (by decide) (fun c9 => absurd c9 (by decide)) (fun _ => ?_)
  refine lv_aload_n hx hb dL_wires_823 rfl (lv_at hl 1 rfl) ?_
  refine cmV (rest := []) (As := []) E (k_X3_undo l G A (hI 32 (by decide)) h75) (cwV 0 hts gL_wires_X3_undo rfl rfl rfl (by decide +kernel) ⟨Nat.le_of_ble_eq_true rfl, Nat.le_of_ble_eq_true rfl⟩) hK hP hD hS hA 42 rfl rfl rfl hl.1 rfl (Nat.le_of_ble_eq_true rfl) dL_wires_824 ⟨Nat.le_of_ble_eq_true rfl, Nat.le_of_ble_eq_true rfl⟩ (fun H locs hP hD hS => ?_)
  refine lv_iconst (v := 3) hx hb dL_wires_827 (by decide) ?_
  refine lv_icmp_ne (tgt := 878) hx hb dL_wires_828 (by decide) (fun c9 => absurd c9 (by decide)) (fun _ => ?_)
  refine lv_aload_n hx hb dL_wires_831 rfl (lv_at hl 1 rfl) ?_
  refine cmV (rest := []) (As := []) E (k_X3_undo l G A (hI 33 (by decide)) h76) (cwV 0 hts gL_wires_X3_undo rfl rfl rfl (by decide +kernel) ⟨Nat.le_of_ble_eq_true rfl, Nat.le_of_ble_eq_true rfl⟩) hK hP hD hS hA 42 rfl rfl rfl hl.1 rfl (Nat.le_of_ble_eq_true rfl) dL_wires_832 ⟨Nat.le_of_ble_eq_true rfl, Nat.le_of_ble_eq_true rfl⟩ (fun H locs hP hD hS => ?_)
  refine lv_iconst (v := 2) hx hb dL_wires_835 (by decide) ?_
  refine lv_icmp_ne (tgt := 878) hx hb dL_wires_836 (by decide) (fun c9 => absurd c9 (by decide)) (fun _ => ?_)
  refine lv_aload_n hx hb dL_wires_839 rfl (lv_at hl 1 rfl) ?_
  refine lv_iconst (v := 5) hx hb dL_wires_840 (by decide) ?_
  refine cpV (rest := []) (As := [.int 5]) E (k_X3_count l G A (w 34) 5 h77) (cwV 1 hts gL_wires_X3_count rfl rfl rfl (by decide +kernel) ⟨Nat.le_of_ble_eq_true rfl, Nat.le_of_ble_eq_true rfl⟩) hK hP 42 rfl rfl rfl hl.1 rfl (Nat.le_of_ble_eq_true rfl) dL_wires_841 ⟨Nat.le_of_ble_eq_true rfl, Nat.le_of_ble_eq_true rfl⟩ ?_
  refine lv_iconst (v := 1) hx hb dL_wires_844 (by decide) ?_
  refine lv_icmp_ne (tgt := 878) hx hb dL_wires_845 (by decide) (fun c9 => absurd c9 (by decide)) (fun _ => ?_)
  refine lv_aload_n hx hb dL_wires_848 rfl (lv_at hl 1 rfl) ?_
  refine cmV (rest := []) (As := []) E (k_X3_undo l G A (hI 34 (by decide)) h78) (cwV 0 hts gL_wires_X3_undo rfl rfl rfl (by decide +kernel) ⟨Nat.le_of_ble_eq_true rfl, Nat.le_of_ble_eq_true rfl⟩) hK hP hD hS hA 42 rfl rfl rfl hl.1 rfl (Nat.le_of_ble_eq_true rfl) dL_wires_849 ⟨Nat.le_of_ble_eq_true rfl, Nat.le_of_ble_eq_true rfl⟩ (fun H locs hP hD hS => ?_)
  refine lv_iconst (v := 1) hx hb dL_wires_852 (by decide) ?_
  refine lv_icmp_ne (tgt := 878) hx hb dL_wires_853 (by decide) (fun c9 => absurd c9 (by decide)) (fun _ => ?_)
  refine lv_aload_n hx hb dL_wires_856 rfl (lv_at hl 1 rfl) ?_
  refine lv_iconst (v := 5) hx hb dL_wires_857 (by decide) ?_
  refine cpV (rest := []) (As := [.int 5]) E (k_X3_count l G A (w 35) 5 h79) (cwV 1 hts gL_wires_X3_count rfl rfl rfl (by decide +kernel) ⟨Nat.le_of_ble_eq_true rfl, Nat.le_of_ble_eq_true rfl⟩) hK hP 42 rfl rfl rfl hl.1 rfl (Nat.le_of_ble_eq_true rfl) dL_wires_858 ⟨Nat.le_of_ble_eq_true rfl, Nat.le_of_ble_eq_true rfl⟩ ?_
  refine lv_if_ne (tgt := 878) hx hb dL_wires_861 (by decide) (fun c9 => absurd c9 (by decide)) (fun _ => ?_)
  refine lv_aload_n hx hb dL_wires_864 rfl (lv_at hl 1 rfl) ?_
  refine lv_iconst (v := 1) hx hb dL_wires_865 (by decide) ?_
  refine cpV (rest := []) (As := [.int 1]) E (k_X3_count l G A (w 35) 1 h80) (cwV 1 hts gL_wires_X3_count rfl rfl rfl (by decide +kernel) ⟨Nat.le_of_ble_eq_true rfl, Nat.le_of_ble_eq_true rfl⟩) hK hP 42 rfl rfl rfl hl.1 rfl (Nat.le_of_ble_eq_true rfl) dL_wires_866 ⟨Nat.le_of_ble_eq_true rfl, Nat.le_of_ble_eq_true rfl⟩ ?_
  refine lv_bipush (v := 6) hx hb dL_wires_869 (by decide) ?_
  refine lv_icmp_ne (tgt := 878) hx hb dL_wires_871 (by decide) (fun c9 => absurd c9 (by decide)) (fun _ => ?_)
  refine lv_iconst (v := 1) hx hb dL_wires_874 (by decide) ?_
  refine lv_goto (tgt := 879) hx hb dL_wires_875 (by decide) ?_
  exact endA hx hb hr hlocks rfl hS rfl dL_wires_879
