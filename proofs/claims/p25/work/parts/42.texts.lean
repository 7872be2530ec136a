/-! texts, a known run -/
set_option maxHeartbeats 4000000 in
set_option maxRecDepth 100000 in
theorem L_texts (l : Launch) (G : GG) (d0 : Ma l yL_told wsL_told ({ frames := 7, cells := 50, slots := 691, locals := 154 } : Room) G [.long 825371952, .long 0] (-101) 50 691) (d1 : Ma l yL_told wsL_told ({ frames := 7, cells := 50, slots := 691, locals := 154 } : Room) G [.long 808268086, .long 0] (-103) 50 691) (d2 : Ma l yL_told wsL_told ({ frames := 7, cells := 50, slots := 691, locals := 154 } : Room) G [.long 206916565561, .long 0] (-105) 50 691) (d3 : Ma l yL_told wsL_told ({ frames := 7, cells := 50, slots := 691, locals := 154 } : Room) G [.long 52970640783660, .long 0] (-105) 50 691) (d4 : Ma l yL_told wsL_told ({ frames := 7, cells := 50, slots := 691, locals := 154 } : Room) G [.long 52970640781365, .long 0] (-104) 50 691) (d5 : Ma l yL_told wsL_told ({ frames := 7, cells := 50, slots := 691, locals := 154 } : Room) G [.long 13560484040159281, .long 0] (-106) 50 691) (d6 : Ma l yL_told wsL_told ({ frames := 7, cells := 50, slots := 691, locals := 154 } : Room) G [.long 48, .long 0] (-101) 50 691) (d7 : Ma l yL_told wsL_told ({ frames := 7, cells := 50, slots := 691, locals := 154 } : Room) G [.long 808267820, .long 0] (-104) 50 691) (d8 : Ma l yL_told wsL_told ({ frames := 7, cells := 50, slots := 691, locals := 154 } : Room) G [.long 0, .long 0] (-100) 50 691) (d9 : Ma l yL_told wsL_told ({ frames := 7, cells := 50, slots := 691, locals := 154 } : Room) G [.long 3544664071086944816, .long 48] 1 50 691) (d10 : Ma l yL_told wsL_told ({ frames := 7, cells := 50, slots := 691, locals := 154 } : Room) G [.long 3471483854134260026, .long 54082969677106] 3 50 691) (d11 : Ma l yL_told wsL_told ({ frames := 7, cells := 50, slots := 691, locals := 154 } : Room) G [.long 13560483805146417, .long 0] (-4) 50 691) (d12 : Ma l yL_told wsL_told ({ frames := 7, cells := 50, slots := 691, locals := 154 } : Room) G [.long 13560483805211952, .long 0] (-4) 50 691) (d13 : Ma l yL_told wsL_told ({ frames := 7, cells := 50, slots := 691, locals := 154 } : Room) G [.long 45, .long 0] (-100) 50 691) (d14 : Ma l yL_told wsL_told ({ frames := 7, cells := 50, slots := 691, locals := 154 } : Room) G [.long 3160624, .long 0] (-101) 50 691) (d15 : Ma l yL_told wsL_told ({ frames := 7, cells := 50, slots := 691, locals := 154 } : Room) G [.long 808463665, .long 0] (-101) 50 691) (d16 : Ma l yL_told wsL_told ({ frames := 7, cells := 50, slots := 691, locals := 154 } : Room) G [.long 52970640781612, .long 0] (-105) 50 691) (d17 : Ma l yL_told wsL_told ({ frames := 7, cells := 50, slots := 691, locals := 154 } : Room) G [.long 13560484040093793, .long 0] (-106) 50 691) (y : Nat → XS) (v0 v1 v2 v3 v4 : XS) (w0 w1 w2 w3 w4 w5 w6 w7 w8 w9 w10 : XS) (hw0 : w0 = S0) (iw0 : Iv w0) (iw1 : Iv w1) (iw2 : Iv w2) (iw3 : Iv w3) (iw4 : Iv w4) (iw5 : Iv w5) (iw6 : Iv w6) (iw7 : Iv w7) (iw8 : Iv w8) (iw9 : Iv w9) (iw10 : Iv w10) (h0 : f_types (w0) 3471483854134260012 = (1, w1)) (h1 : f_types (w1) 3615601241266926380 = (1, w2)) (h2 : f_types (w2) 3759718628399592748 = (1, w3)) (h3 : f_types (w3) 15249359435672887 = (1, w4)) (h4 : f_X3_layAll (w4) = ((-6), w5)) (h5 : f_X3_count (w5) 0 = 0) (h6 : f_X3_count (w5) 1 = 0) (h7 : f_X3_count (w5) 5 = 0) (h8 : f_X3_clearText (w5) = (31, w6)) (h9 : f_types (w6) 3471483854134260012 = (1, w7)) (h10 : f_types (w7) 14123442583515184 = (1, w8)) (h11 : f_X3_layAll (w8) = (3, w9)) (h12 : f_X3_wire (w9) 0 1 = 60) (h13 : f_X3_wire (w9) 2 1 = 200) (h14 : f_X3_wire (w9) 2 6 = 2) (h15 : f_X3_count (w9) 13 = 15) (h16 : f_X3_layAll (w9) = ((-4), w10)) (hy0 : y 0 = w10) (hIy : ∀ k, k ≤ 65 → Iv (y k)) (b1 : ∀ k, k < 65 → f_X3_type (y k) (chr (nI (15 + k))) = (nI (15 + k) + 1, y (k + 1))) (hv0 : v0 = y 65) (iv0 : Iv v0) (iv1 : Iv v1) (iv2 : Iv v2) (iv3 : Iv v3) (iv4 : Iv v4) (h17 : f_X3_type (v0) 49 = ((-3), v1)) (h18 : f_X3_layAll (v1) = ((-115), v2)) (h19 : f_X3_clearText (v2) = (80, v3)) (h20 : f_X3_layAll (v3) = ((-100), v4)) : Ma l yL_texts wsL_texts ({ frames := 8, cells := 950, slots := 13129, locals := 179 } : Room) G [] 1 950 13129 := by
  refine Ma.of (cc := cL_texts) (maxL := 2) (ret := some .boolean) (by decide) rfl (Nat.le_of_ble_eq_true rfl) ?_
  intro p e s m args below meth c A0 hA0 E hr hlocks hKA hA hS ls hl
  have E : CallFix p m c cL_texts 2 s args wsL_texts RL := E
  have hK := hKA.1
  have hP := P_nil (G := G) (H := s.heap)
  have hD := D_nil (A := A0)
  have hx := E.1
  have hb := E.2.1
  have hml := E.2.2.1
  have hown := E.2.2.2.1
  have hts := E.2.2.2.2
  have hl : lv_has ls 2 [] := hl
  refine lv_ldc2 (v := 825371952) hx hb hown (hts (.constantLong RL 108 (825371952)) (by decide +kernel)) dL_texts_0 ?_
  refine lv_lconst (v := 0) hx hb dL_texts_3 (by decide) ?_
  refine caS (rest := []) (As := [.long 825371952, .long 0]) E d0 (va_cwS 2 hts gL_texts_L_told rfl rfl rfl (by decide +kernel) ⟨Nat.le_of_ble_eq_true rfl, Nat.le_of_ble_eq_true rfl⟩) hKA hS hA rfl hl.1 rfl (Nat.le_of_ble_eq_true rfl) dL_texts_4 ⟨Nat.le_of_ble_eq_true rfl, Nat.le_of_ble_eq_true rfl⟩ (fun H locs hS => ?_)
  refine W.widen (k := 50) (n := 691) (Nat.le_of_ble_eq_true rfl) (Nat.le_of_ble_eq_true rfl) ?_
  refine lv_bipush (v := (-101)) hx hb dL_texts_7 (by decide) ?_
  refine lv_icmp_ne (tgt := 106) hx hb dL_texts_9 (by decide) (fun c9 => absurd c9 (by decide)) (fun _ => ?_)
  refine lv_ldc2 (v := 808268086) hx hb hown (hts (.constantLong RL 114 (808268086)) (by decide +kernel)) dL_texts_12 ?_
  refine lv_lconst (v := 0) hx hb dL_texts_15 (by decide) ?_
  refine caS (rest := []) (As := [.long 808268086, .long 0]) E d1 (va_cwS 2 hts gL_texts_L_told rfl rfl rfl (by decide +kernel) ⟨Nat.le_of_ble_eq_true rfl, Nat.le_of_ble_eq_true rfl⟩) hKA hS hA rfl hl.1 rfl (Nat.le_of_ble_eq_true rfl) dL_texts_16 ⟨Nat.le_of_ble_eq_true rfl, Nat.le_of_ble_eq_true rfl⟩ (fun H locs hS => ?_)
  refine W.widen (k := 100) (n := 1382) (Nat.le_of_ble_eq_true rfl) (Nat.le_of_ble_eq_true rfl) ?_
  refine lv_bipush (v := (-103)) hx hb dL_texts_19 (by decide) ?_
  refine lv_icmp_ne (tgt := 106) hx hb dL_texts_21 (by decide) (fun c9 => absurd c9 (by decide)) (fun _ => ?_)
  refine lv_ldc2 (v := 206916565561) hx hb hown (hts (.constantLong RL 116 (206916565561)) (by decide +kernel)) dL_texts_24 ?_
  refine lv_lconst (v := 0) hx hb dL_texts_27 (by decide) ?_
  refine caS (rest := []) (As := [.long 206916565561, .long 0]) E d2 (va_cwS 2 hts gL_texts_L_told rfl rfl rfl (by decide +kernel) ⟨Nat.le_of_ble_eq_true rfl, Nat.le_of_ble_eq_true rfl⟩) hKA hS hA rfl hl.1 rfl (Nat.le_of_ble_eq_true rfl) dL_texts_28 ⟨Nat.le_of_ble_eq_true rfl, Nat.le_of_ble_eq_true rfl⟩ (fun H locs hS => ?_)
  refine W.widen (k := 150) (n := 2073) (Nat.le_of_ble_eq_true rfl) (Nat.le_of_ble_eq_true rfl) ?_
  refine lv_bipush (v := (-105)) hx hb dL_texts_31 (by decide) ?_
  refine lv_icmp_ne (tgt := 106) hx hb dL_texts_33 (by decide) (fun c9 => absurd c9 (by decide)) (fun _ => ?_)
  refine lv_ldc2 (v := 52970640783660) hx hb hown (hts (.constantLong RL 118 (52970640783660)) (by decide +kernel)) dL_texts_36 ?_
  refine lv_lconst (v := 0) hx hb dL_texts_39 (by decide) ?_
  refine caS (rest := []) (As := [.long 52970640783660, .long 0]) E d3 (va_cwS 2 hts gL_texts_L_told rfl rfl rfl (by decide +kernel) ⟨Nat.le_of_ble_eq_true rfl, Nat.le_of_ble_eq_true rfl⟩) hKA hS hA rfl hl.1 rfl (Nat.le_of_ble_eq_true rfl) dL_texts_40 ⟨Nat.le_of_ble_eq_true rfl, Nat.le_of_ble_eq_true rfl⟩ (fun H locs hS => ?_)
  refine W.widen (k := 200) (n := 2764) (Nat.le_of_ble_eq_true rfl) (Nat.le_of_ble_eq_true rfl) ?_
  refine lv_bipush (v := (-105)) hx hb dL_texts_43 (by decide) ?_
  refine lv_icmp_ne (tgt := 106) hx hb dL_texts_45 (by decide) (fun c9 => absurd c9 (by decide)) (fun _ => ?_)
  refine lv_ldc2 (v := 52970640781365) hx hb hown (hts (.constantLong RL 120 (52970640781365)) (by decide +kernel)) dL_texts_48 ?_
  refine lv_lconst (v := 0) hx hb dL_texts_51 (by decide) ?_
  refine caS (rest := []) (As := [.long 52970640781365, .long 0]) E d4 (va_cwS 2 hts gL_texts_L_told rfl rfl rfl (by decide +kernel) ⟨Nat.le_of_ble_eq_true rfl, Nat.le_of_ble_eq_true rfl⟩) hKA hS hA rfl hl.1 rfl (Nat.le_of_ble_eq_true rfl) dL_texts_52 ⟨Nat.le_of_ble_eq_true rfl, Nat.le_of_ble_eq_true rfl⟩ (fun H locs hS => ?_)
  refine W.widen (k := 250) (n := 3455) (Nat.le_of_ble_eq_true rfl) (Nat.le_of_ble_eq_true rfl) ?_
  refine lv_bipush (v := (-104)) hx hb dL_texts_55 (by decide) ?_
  refine lv_icmp_ne (tgt := 106) hx hb dL_texts_57 (by decide) (fun c9 => absurd c9 (by decide)) (fun _ => ?_)
  refine lv_ldc2 (v := 13560484040159281) hx hb hown (hts (.constantLong RL 122 (13560484040159281)) (by decide +kernel)) dL_texts_60 ?_
  refine lv_lconst (v := 0) hx hb dL_texts_63 (by decide) ?_
  refine caS (rest := []) (As := [.long 13560484040159281, .long 0]) E d5 (va_cwS 2 hts gL_texts_L_told rfl rfl rfl (by decide +kernel) ⟨Nat.le_of_ble_eq_true rfl, Nat.le_of_ble_eq_true rfl⟩) hKA hS hA rfl hl.1 rfl (Nat.le_of_ble_eq_true rfl) dL_texts_64 ⟨Nat.le_of_ble_eq_true rfl, Nat.le_of_ble_eq_true rfl⟩ (fun H locs hS => ?_)
  refine W.widen (k := 300) (n := 4146) (Nat.le_of_ble_eq_true rfl) (Nat.le_of_ble_eq_true rfl) ?_
  refine lv_bipush (v := (-106)) hx hb dL_texts_67 (by decide) ?_
  refine lv_icmp_ne (tgt := 106) hx hb dL_texts_69 (by decide) (fun c9 => absurd c9 (by decide)) (fun _ => ?_)
  refine lv_ldc2 (v := 48) hx hb hown (hts (.constantLong RL 124 (48)) (by decide +kernel)) dL_texts_72 ?_
  refine lv_lconst (v := 0) hx hb dL_texts_75 (by decide) ?_
  refine caS (rest := []) (As := [.long 48, .long 0]) E d6 (va_cwS 2 hts gL_texts_L_told rfl rfl rfl (by decide +kernel) ⟨Nat.le_of_ble_eq_true rfl, Nat.le_of_ble_eq_true rfl⟩) hKA hS hA rfl hl.1 rfl (Nat.le_of_ble_eq_true rfl) dL_texts_76 ⟨Nat.le_of_ble_eq_true rfl, Nat.le_of_ble_eq_true rfl⟩ (fun H locs hS => ?_)
  refine W.widen (k := 350) (n := 4837) (Nat.le_of_ble_eq_true rfl) (Nat.le_of_ble_eq_true rfl) ?_
  refine lv_bipush (v := (-101)) hx hb dL_texts_79 (by decide) ?_
  refine lv_icmp_ne (tgt := 106) hx hb dL_texts_81 (by decide) (fun c9 => absurd c9 (by decide)) (fun _ => ?_)
  refine lv_ldc2 (v := 808267820) hx hb hown (hts (.constantLong RL 126 (808267820)) (by decide +kernel)) dL_texts_84 ?_
  refine lv_lconst (v := 0) hx hb dL_texts_87 (by decide) ?_
  refine caS (rest := []) (As := [.long 808267820, .long 0]) E d7 (va_cwS 2 hts gL_texts_L_told rfl rfl rfl (by decide +kernel) ⟨Nat.le_of_ble_eq_true rfl, Nat.le_of_ble_eq_true rfl⟩) hKA hS hA rfl hl.1 rfl (Nat.le_of_ble_eq_true rfl) dL_texts_88 ⟨Nat.le_of_ble_eq_true rfl, Nat.le_of_ble_eq_true rfl⟩ (fun H locs hS => ?_)
  refine W.widen (k := 400) (n := 5528) (Nat.le_of_ble_eq_true rfl) (Nat.le_of_ble_eq_true rfl) ?_
  refine lv_bipush (v := (-104)) hx hb dL_texts_91 (by decide) ?_
  refine lv_icmp_ne (tgt := 106) hx hb dL_texts_93 (by decide) (fun c9 => absurd c9 (by decide)) (fun _ => ?_)
  refine lv_lconst (v := 0) hx hb dL_texts_96 (by decide) ?_
  refine lv_lconst (v := 0) hx hb dL_texts_97 (by decide) ?_
  refine caS (rest := []) (As := [.long 0, .long 0]) E d8 (va_cwS 2 hts gL_texts_L_told rfl rfl rfl (by decide +kernel) ⟨Nat.le_of_ble_eq_true rfl, Nat.le_of_ble_eq_true rfl⟩) hKA hS hA rfl hl.1 rfl (Nat.le_of_ble_eq_true rfl) dL_texts_98 ⟨Nat.le_of_ble_eq_true rfl, Nat.le_of_ble_eq_true rfl⟩ (fun H locs hS => ?_)
  refine W.widen (k := 450) (n := 6219) (Nat.le_of_ble_eq_true rfl) (Nat.le_of_ble_eq_true rfl) ?_
  refine lv_bipush (v := (-100)) hx hb dL_texts_101 (by decide) ?_
  refine lv_icmp_eq (tgt := 108) hx hb dL_texts_103 (by decide) (fun _ => ?_) (fun c9 => absurd c9 (by decide))
  refine lv_ldc2 (v := 3544664071086944816) hx hb hown (hts (.constantLong RL 128 (3544664071086944816)) (by decide +kernel)) dL_texts_108 ?_
  refine lv_ldc2 (v := 48) hx hb hown (hts (.constantLong RL 124 (48)) (by decide +kernel)) dL_texts_111 ?_
  refine caS (rest := []) (As := [.long 3544664071086944816, .long 48]) E d9 (va_cwS 2 hts gL_texts_L_told rfl rfl rfl (by decide +kernel) ⟨Nat.le_of_ble_eq_true rfl, Nat.le_of_ble_eq_true rfl⟩) hKA hS hA rfl hl.1 rfl (Nat.le_of_ble_eq_true rfl) dL_texts_114 ⟨Nat.le_of_ble_eq_true rfl, Nat.le_of_ble_eq_true rfl⟩ (fun H locs hS => ?_)
  refine W.widen (k := 500) (n := 6910) (Nat.le_of_ble_eq_true rfl) (Nat.le_of_ble_eq_true rfl) ?_
  refine lv_iconst (v := 1) hx hb dL_texts_117 (by decide) ?_
  refine lv_icmp_ne (tgt := 218) hx hb dL_texts_118 (by decide) (fun c9 => absurd c9 (by decide)) (fun _ => ?_)
  refine lv_ldc2 (v := 3471483854134260026) hx hb hown (hts (.constantLong RL 130 (3471483854134260026)) (by decide +kernel)) dL_texts_121 ?_
  refine lv_ldc2 (v := 54082969677106) hx hb hown (hts (.constantLong RL 132 (54082969677106)) (by decide +kernel)) dL_texts_124 ?_
  refine caS (rest := []) (As := [.long 3471483854134260026, .long 54082969677106]) E d10 (va_cwS 2 hts gL_texts_L_told rfl rfl rfl (by decide +kernel) ⟨Nat.le_of_ble_eq_true rfl, Nat.le_of_ble_eq_true rfl⟩) hKA hS hA rfl hl.1 rfl (Nat.le_of_ble_eq_true rfl) dL_texts_127 ⟨Nat.le_of_ble_eq_true rfl, Nat.le_of_ble_eq_true rfl⟩ (fun H locs hS => ?_)
  refine W.widen (k := 550) (n := 7601) (Nat.le_of_ble_eq_true rfl) (Nat.le_of_ble_eq_true rfl) ?_
  refine lv_iconst (v := 3) hx hb dL_texts_130 (by decide) ?_
  refine lv_icmp_ne (tgt := 218) hx hb dL_texts_131 (by decide) (fun c9 => absurd c9 (by decide)) (fun _ => ?_)
  refine lv_ldc2 (v := 13560483805146417) hx hb hown (hts (.constantLong RL 134 (13560483805146417)) (by decide +kernel)) dL_texts_134 ?_
  refine lv_lconst (v := 0) hx hb dL_texts_137 (by decide) ?_
  refine caS (rest := []) (As := [.long 13560483805146417, .long 0]) E d11 (va_cwS 2 hts gL_texts_L_told rfl rfl rfl (by decide +kernel) ⟨Nat.le_of_ble_eq_true rfl, Nat.le_of_ble_eq_true rfl⟩) hKA hS hA rfl hl.1 rfl (Nat.le_of_ble_eq_true rfl) dL_texts_138 ⟨Nat.le_of_ble_eq_true rfl, Nat.le_of_ble_eq_true rfl⟩ (fun H locs hS => ?_)
  refine W.widen (k := 600) (n := 8292) (Nat.le_of_ble_eq_true rfl) (Nat.le_of_ble_eq_true rfl) ?_
  refine lv_bipush (v := (-4)) hx hb dL_texts_141 (by decide) ?_
  refine lv_icmp_ne (tgt := 218) hx hb dL_texts_143 (by decide) (fun c9 => absurd c9 (by decide)) (fun _ => ?_)
  refine lv_ldc2 (v := 13560483805211952) hx hb hown (hts (.constantLong RL 136 (13560483805211952)) (by decide +kernel)) dL_texts_146 ?_
  refine lv_lconst (v := 0) hx hb dL_texts_149 (by decide) ?_
  refine caS (rest := []) (As := [.long 13560483805211952, .long 0]) E d12 (va_cwS 2 hts gL_texts_L_told rfl rfl rfl (by decide +kernel) ⟨Nat.le_of_ble_eq_true rfl, Nat.le_of_ble_eq_true rfl⟩) hKA hS hA rfl hl.1 rfl (Nat.le_of_ble_eq_true rfl) dL_texts_150 ⟨Nat.le_of_ble_eq_true rfl, Nat.le_of_ble_eq_true rfl⟩ (fun H locs hS => ?_)
  refine W.widen (k := 650) (n := 8983) (Nat.le_of_ble_eq_true rfl) (Nat.le_of_ble_eq_true rfl) ?_
  refine lv_bipush (v := (-4)) hx hb dL_texts_153 (by decide) ?_
  refine lv_icmp_ne (tgt := 218) hx hb dL_texts_155 (by decide) (fun c9 => absurd c9 (by decide)) (fun _ => ?_)
  refine lv_ldc2 (v := 45) hx hb hown (hts (.constantLong RL 138 (45)) (by decide +kernel)) dL_texts_158 ?_
  refine lv_lconst (v := 0) hx hb dL_texts_161 (by decide) ?_
  refine caS (rest := []) (As := [.long 45, .long 0]) E d13 (va_cwS 2 hts gL_texts_L_told rfl rfl rfl (by decide +kernel) ⟨Nat.le_of_ble_eq_true rfl, Nat.le_of_ble_eq_true rfl⟩) hKA hS hA rfl hl.1 rfl (Nat.le_of_ble_eq_true rfl) dL_texts_162 ⟨Nat.le_of_ble_eq_true rfl, Nat.le_of_ble_eq_true rfl⟩ (fun H locs hS => ?_)
  refine W.widen (k := 700) (n := 9674) (Nat.le_of_ble_eq_true rfl) (Nat.le_of_ble_eq_true rfl) ?_
  refine lv_bipush (v := (-100)) hx hb dL_texts_165 (by decide) ?_
  refine lv_icmp_ne (tgt := 218) hx hb dL_texts_167 (by decide) (fun c9 => absurd c9 (by decide)) (fun _ => ?_)
  refine lv_ldc2 (v := 3160624) hx hb hown (hts (.constantLong RL 140 (3160624)) (by decide +kernel)) dL_texts_170 ?_
  refine lv_lconst (v := 0) hx hb dL_texts_173 (by decide) ?_
  refine caS (rest := []) (As := [.long 3160624, .long 0]) E d14 (va_cwS 2 hts gL_texts_L_told rfl rfl rfl (by decide +kernel) ⟨Nat.le_of_ble_eq_true rfl, Nat.le_of_ble_eq_true rfl⟩) hKA hS hA rfl hl.1 rfl (Nat.le_of_ble_eq_true rfl) dL_texts_174 ⟨Nat.le_of_ble_eq_true rfl, Nat.le_of_ble_eq_true rfl⟩ (fun H locs hS => ?_)
  refine W.widen (k := 750) (n := 10365) (Nat.le_of_ble_eq_true rfl) (Nat.le_of_ble_eq_true rfl) ?_
  refine lv_bipush (v := (-101)) hx hb dL_texts_177 (by decide) ?_
  refine lv_icmp_ne (tgt := 218) hx hb dL_texts_179 (by decide) (fun c9 => absurd c9 (by decide)) (fun _ => ?_)
  refine lv_ldc2 (v := 808463665) hx hb hown (hts (.constantLong RL 142 (808463665)) (by decide +kernel)) dL_texts_182 ?_
  refine lv_lconst (v := 0) hx hb dL_texts_185 (by decide) ?_
  refine caS (rest := []) (As := [.long 808463665, .long 0]) E d15 (va_cwS 2 hts gL_texts_L_told rfl rfl rfl (by decide +kernel) ⟨Nat.le_of_ble_eq_true rfl, Nat.le_of_ble_eq_true rfl⟩) hKA hS hA rfl hl.1 rfl (Nat.le_of_ble_eq_true rfl) dL_texts_186 ⟨Nat.le_of_ble_eq_true rfl, Nat.le_of_ble_eq_true rfl⟩ (fun H locs hS => ?_)
  refine W.widen (k := 800) (n := 11056) (Nat.le_of_ble_eq_true rfl) (Nat.le_of_ble_eq_true rfl) ?_
  refine lv_bipush (v := (-101)) hx hb dL_texts_189 (by decide) ?_
  refine lv_icmp_ne (tgt := 218) hx hb dL_texts_191 (by decide) (fun c9 => absurd c9 (by decide)) (fun _ => ?_)
  refine lv_ldc2 (v := 52970640781612) hx hb hown (hts (.constantLong RL 144 (52970640781612)) (by decide +kernel)) dL_texts_194 ?_
  refine lv_lconst (v := 0) hx hb dL_texts_197 (by decide) ?_
  refine caS (rest := []) (As := [.long 52970640781612, .long 0]) E d16 (va_cwS 2 hts gL_texts_L_told rfl rfl rfl (by decide +kernel) ⟨Nat.le_of_ble_eq_true rfl, Nat.le_of_ble_eq_true rfl⟩) hKA hS hA rfl hl.1 rfl (Nat.le_of_ble_eq_true rfl) dL_texts_198 ⟨Nat.le_of_ble_eq_true rfl, Nat.le_of_ble_eq_true rfl⟩ (fun H locs hS => ?_)
  refine W.widen (k := 850) (n := 11747) (Nat.le_of_ble_eq_true rfl) (Nat.le_of_ble_eq_true rfl) ?_
  refine lv_bipush (v := (-105)) hx hb dL_texts_201 (by decide) ?_
  refine lv_icmp_ne (tgt := 218) hx hb dL_texts_203 (by decide) (fun c9 => absurd c9 (by decide)) (fun _ => ?_)
  refine lv_ldc2 (v := 13560484040093793) hx hb hown (hts (.constantLong RL 146 (13560484040093793)) (by decide +kernel)) dL_texts_206 ?_
  refine lv_lconst (v := 0) hx hb dL_texts_209 (by decide) ?_
  refine caS (rest := []) (As := [.long 13560484040093793, .long 0]) E d17 (va_cwS 2 hts gL_texts_L_told rfl rfl rfl (by decide +kernel) ⟨Nat.le_of_ble_eq_true rfl, Nat.le_of_ble_eq_true rfl⟩) hKA hS hA rfl hl.1 rfl (Nat.le_of_ble_eq_true rfl) dL_texts_210 ⟨Nat.le_of_ble_eq_true rfl, Nat.le_of_ble_eq_true rfl⟩ (fun H locs hS => ?_)
  refine W.widen (k := 900) (n := 12438) (Nat.le_of_ble_eq_true rfl) (Nat.le_of_ble_eq_true rfl) ?_
  refine lv_bipush (v := (-106)) hx hb dL_texts_213 (by decide) ?_
  refine lv_icmp_eq (tgt := 220) hx hb dL_texts_215 (by decide) (fun _ => ?_) (fun c9 => absurd c9 (by decide))
  have hP := P_nil (G := G) (H := H)
  refine va_new (D := G.1) (ci := 3) (fs := [.null, .null, .null, .int 0, .null, .null]) (C := RX3) (T := TX3) (N := 6) hx hb hts (fun _ h => List.mem_cons_of_mem _ (List.mem_append_left _ (List.mem_append_left _ (List.mem_append_left _ (List.mem_append_right _ h))))) tyX3 tyX3_ok hown (hts (.classLink RL 14 RX3) (by decide +kernel)) (hts (.instantiable RX3 6) (by decide +kernel)) (hts (.initialized RX3) (by decide +kernel)) hK.1 hP hD hS hA rfl (fun j hj => by rcases (show j = 0 ∨ j = 1 ∨ j = 2 ∨ j = 3 ∨ j = 4 ∨ j = 5 by omega) with rfl | rfl | rfl | rfl | rfl | rfl <;> rfl) (Nat.le_of_ble_eq_true rfl) (Nat.le_of_ble_eq_true rfl) dL_texts_220 (fun q0 H hP hD hS => ?_)
  refine W.widen (k := 901) (n := 12444) (Nat.le_of_ble_eq_true rfl) (Nat.le_of_ble_eq_true rfl) ?_
  refine lv_dup hx hb dL_texts_223 rfl ?_
  have hP : va_P G.1 vwCl [(q0, .inr (3, [.null, .null, .null, .int 0, .null, .null]))] H := hP
  have hD : va_D A0 [(q0, .inr (3, [.null, .null, .null, .int 0, .null, .null]))] := hD
  refine ciI (rest := [.ref q0]) (wr := []) E (i_X3 l G q0) (cwI 0 hts gL_texts_X3_init rfl rfl rfl (hts (.initialized RX3) (by decide +kernel)) (hts (.methodLink RL 74 yX3_init) (by decide +kernel)) (hts (.instanceMethod yX3_init) (by decide +kernel)) rfl (by decide +kernel) ⟨Nat.le_of_ble_eq_true rfl, Nat.le_of_ble_eq_true rfl⟩) hKA hP hD hS hA [0] [] rfl (by decide) rfl (by decide) (by decide) hl.1 rfl (Nat.le_of_ble_eq_true rfl) dL_texts_224 ⟨Nat.le_of_ble_eq_true rfl, Nat.le_of_ble_eq_true rfl⟩ (fun A H locs hA42 hP hD hS => ?_)
  have hP : va_P G.1 vwCl (wX G A S0 (rot S0)) H := hP
  have hD : va_D A0 (wX G A S0 (rot S0)) := hD
  refine W.widen (k := 950) (n := 13129) (Nat.le_of_ble_eq_true rfl) (Nat.le_of_ble_eq_true rfl) ?_
  refine lv_astore_n (lv' := [(0, .ref q0)]) hx hb dL_texts_227 rfl hl (by decide) rfl (fun ls hl => ?_)
  rw [← hA42] at hl
  have hP : va_P G.1 vwCl (wX G A (w0) (rot (w0))) H := by rw [hw0]; exact hP
  have hD : va_D A0 (wX G A (w0) (rot (w0))) := by rw [hw0]; exact hD
  refine lv_aload_n hx hb dL_texts_228 rfl (lv_at hl 0 rfl) ?_
  refine lv_ldc2 (v := 3471483854134260012) hx hb hown (hts (.constantLong RL 148 (3471483854134260012)) (by decide +kernel)) dL_texts_229 ?_
  have ht : Mm l yL_types wsL_types ({ frames := 2, cells := 0, slots := 0, locals := 42 } : Room) G [.ref (A 42), .long 3471483854134260012] (wX G A (w0) (rot (w0))) 1 (wX G A (w1) (rot (w1))) := by have hh9 := c_L_types l G A 3471483854134260012 iw0; rw [h0] at hh9; exact hh9
  refine cmS (rest := []) (As := [.ref (A 42), .long 3471483854134260012]) E ht (va_cwS 2 hts gL_texts_L_types rfl rfl rfl (by decide +kernel) ⟨Nat.le_of_ble_eq_true rfl, Nat.le_of_ble_eq_true rfl⟩) hK hP hD hS hA rfl hl.1 rfl (Nat.le_of_ble_eq_true rfl) dL_texts_232 ⟨Nat.le_of_ble_eq_true rfl, Nat.le_of_ble_eq_true rfl⟩ (fun H locs hP hD hS => ?_)
  refine lv_if_eq (tgt := 392) hx hb dL_texts_235 (by decide) (fun c9 => absurd c9 (by decide)) (fun _ => ?_)
  refine lv_aload_n hx hb dL_texts_238 rfl (lv_at hl 0 rfl) ?_
  refine lv_ldc2 (v := 3615601241266926380) hx hb hown (hts (.constantLong RL 150 (3615601241266926380)) (by decide +kernel)) dL_texts_239 ?_
  have ht : Mm l yL_types wsL_types ({ frames := 2, cells := 0, slots := 0, locals := 42 } : Room) G [.ref (A 42), .long 3615601241266926380] (wX G A (w1) (rot (w1))) 1 (wX G A (w2) (rot (w2))) := by have hh9 := c_L_types l G A 3615601241266926380 iw1; rw [h1] at hh9; exact hh9
  refine cmS (rest := []) (As := [.ref (A 42), .long 3615601241266926380]) E ht (va_cwS 2 hts gL_texts_L_types rfl rfl rfl (by decide +kernel) ⟨Nat.le_of_ble_eq_true rfl, Nat.le_of_ble_eq_true rfl⟩) hK hP hD hS hA rfl hl.1 rfl (Nat.le_of_ble_eq_true rfl) dL_texts_242 ⟨Nat.le_of_ble_eq_true rfl, Nat.le_of_ble_eq_true rfl⟩ (fun H locs hP hD hS => ?_)
  refine lv_if_eq (tgt := 392) hx hb dL_texts_245 (by decide) (fun c9 => absurd c9 (by decide)) (fun _ => ?_)
  refine lv_aload_n hx hb dL_texts_248 rfl (lv_at hl 0 rfl) ?_
  refine lv_ldc2 (v := 3759718628399592748) hx hb hown (hts (.constantLong RL 152 (3759718628399592748)) (by decide +kernel)) dL_texts_249 ?_
  have ht : Mm l yL_types wsL_types ({ frames := 2, cells := 0, slots := 0, locals := 42 } : Room) G [.ref (A 42), .long 3759718628399592748] (wX G A (w2) (rot (w2))) 1 (wX G A (w3) (rot (w3))) := by have hh9 := c_L_types l G A 3759718628399592748 iw2; rw [h2] at hh9; exact hh9
  refine cmS (rest := []) (As := [.ref (A 42), .long 3759718628399592748]) E ht (va_cwS 2 hts gL_texts_L_types rfl rfl rfl (by decide +kernel) ⟨Nat.le_of_ble_eq_true rfl, Nat.le_of_ble_eq_true rfl⟩) hK hP hD hS hA rfl hl.1 rfl (Nat.le_of_ble_eq_true rfl) dL_texts_252 ⟨Nat.le_of_ble_eq_true rfl, Nat.le_of_ble_eq_true rfl⟩ (fun H locs hP hD hS => ?_)
  refine lv_if_eq (tgt := 392) hx hb dL_texts_255 (by decide) (fun c9 => absurd c9 (by decide)) (fun _ => ?_)
  refine lv_aload_n hx hb dL_texts_258 rfl (lv_at hl 0 rfl) ?_
  refine lv_ldc2 (v := 15249359435672887) hx hb hown (hts (.constantLong RL 154 (15249359435672887)) (by decide +kernel)) dL_texts_259 ?_
  have ht : Mm l yL_types wsL_types ({ frames := 2, cells := 0, slots := 0, locals := 42 } : Room) G [.ref (A 42), .long 15249359435672887] (wX G A (w3) (rot (w3))) 1 (wX G A (w4) (rot (w4))) := by have hh9 := c_L_types l G A 15249359435672887 iw3; rw [h3] at hh9; exact hh9
  refine cmS (rest := []) (As := [.ref (A 42), .long 15249359435672887]) E ht (va_cwS 2 hts gL_texts_L_types rfl rfl rfl (by decide +kernel) ⟨Nat.le_of_ble_eq_true rfl, Nat.le_of_ble_eq_true rfl⟩) hK hP hD hS hA rfl hl.1 rfl (Nat.le_of_ble_eq_true rfl) dL_texts_262 ⟨Nat.le_of_ble_eq_true rfl, Nat.le_of_ble_eq_true rfl⟩ (fun H locs hP hD hS => ?_)
  refine lv_if_eq (tgt := 392) hx hb dL_texts_265 (by decide) (fun c9 => absurd c9 (by decide)) (fun _ => ?_)
  refine lv_aload_n hx hb dL_texts_268 rfl (lv_at hl 0 rfl) ?_
  refine cmV (rest := []) (As := []) E (k_X3_layAll l G A iw4 h4) (cwV 0 hts gL_texts_X3_layAll rfl rfl rfl (by decide +kernel) ⟨Nat.le_of_ble_eq_true rfl, Nat.le_of_ble_eq_true rfl⟩) hK hP hD hS hA 42 rfl rfl rfl hl.1 rfl (Nat.le_of_ble_eq_true rfl) dL_texts_269 ⟨Nat.le_of_ble_eq_true rfl, Nat.le_of_ble_eq_true rfl⟩ (fun H locs hP hD hS => ?_)
  refine lv_bipush (v := (-6)) hx hb dL_texts_272 (by decide) ?_
  refine lv_icmp_ne (tgt := 392) hx hb dL_texts_274 (by decide) (fun c9 => absurd c9 (by decide)) (fun _ => ?_)
  refine lv_aload_n hx hb dL_texts_277 rfl (lv_at hl 0 rfl) ?_
  refine lv_iconst (v := 0) hx hb dL_texts_278 (by decide) ?_
  refine cpV (rest := []) (As := [.int 0]) E (k_X3_count l G A (w5) 0 h5) (cwV 1 hts gL_texts_X3_count rfl rfl rfl (by decide +kernel) ⟨Nat.le_of_ble_eq_true rfl, Nat.le_of_ble_eq_true rfl⟩) hK hP 42 rfl rfl rfl hl.1 rfl (Nat.le_of_ble_eq_true rfl) dL_texts_279 ⟨Nat.le_of_ble_eq_true rfl, Nat.le_of_ble_eq_true rfl⟩ ?_
  refine lv_if_ne (tgt := 392) hx hb dL_texts_282 (by decide) (fun c9 => absurd c9 (by decide)) (fun _ => ?_)
  refine lv_aload_n hx hb dL_texts_285 rfl (lv_at hl 0 rfl) ?_
  refine lv_iconst (v := 1) hx hb dL_texts_286 (by decide) ?_
  refine cpV (rest := []) (As := [.int 1]) E (k_X3_count l G A (w5) 1 h6) (cwV 1 hts gL_texts_X3_count rfl rfl rfl (by decide +kernel) ⟨Nat.le_of_ble_eq_true rfl, Nat.le_of_ble_eq_true rfl⟩) hK hP 42 rfl rfl rfl hl.1 rfl (Nat.le_of_ble_eq_true rfl) dL_texts_287 ⟨Nat.le_of_ble_eq_true rfl, Nat.le_of_ble_eq_true rfl⟩ ?_
  refine lv_if_ne (tgt := 392) hx hb dL_texts_290 (by decide) (fun c9 => absurd c9 (by decide)) (fun _ => ?_)
  refine lv_aload_n hx hb dL_texts_293 rfl (lv_at hl 0 rfl) ?_
  refine lv_iconst (v := 5) hx hb dL_texts_294 (by decide) ?_
  refine cpV (rest := []) (As := [.int 5]) E (k_X3_count l G A (w5) 5 h7) (cwV 1 hts gL_texts_X3_count rfl rfl rfl (by decide +kernel) ⟨Nat.le_of_ble_eq_true rfl, Nat.le_of_ble_eq_true rfl⟩) hK hP 42 rfl rfl rfl hl.1 rfl (Nat.le_of_ble_eq_true rfl) dL_texts_295 ⟨Nat.le_of_ble_eq_true rfl, Nat.le_of_ble_eq_true rfl⟩ ?_
  refine lv_if_ne (tgt := 392) hx hb dL_texts_298 (by decide) (fun c9 => absurd c9 (by decide)) (fun _ => ?_)
  refine lv_aload_n hx hb dL_texts_301 rfl (lv_at hl 0 rfl) ?_
  refine cmV (rest := []) (As := []) E (k_X3_clearText l G A iw5 h8) (cwV 0 hts gL_texts_X3_clearText rfl rfl rfl (by decide +kernel) ⟨Nat.le_of_ble_eq_true rfl, Nat.le_of_ble_eq_true rfl⟩) hK hP hD hS hA 42 rfl rfl rfl hl.1 rfl (Nat.le_of_ble_eq_true rfl) dL_texts_302 ⟨Nat.le_of_ble_eq_true rfl, Nat.le_of_ble_eq_true rfl⟩ (fun H locs hP hD hS => ?_)
  refine lv_bipush (v := 31) hx hb dL_texts_305 (by decide) ?_
  refine lv_icmp_ne (tgt := 392) hx hb dL_texts_307 (by decide) (fun c9 => absurd c9 (by decide)) (fun _ => ?_)
  refine lv_aload_n hx hb dL_texts_310 rfl (lv_at hl 0 rfl) ?_
  refine lv_ldc2 (v := 3471483854134260012) hx hb hown (hts (.constantLong RL 148 (3471483854134260012)) (by decide +kernel)) dL_texts_311 ?_
  have ht : Mm l yL_types wsL_types ({ frames := 2, cells := 0, slots := 0, locals := 42 } : Room) G [.ref (A 42), .long 3471483854134260012] (wX G A (w6) (rot (w6))) 1 (wX G A (w7) (rot (w7))) := by have hh9 := c_L_types l G A 3471483854134260012 iw6; rw [h9] at hh9; exact hh9
  refine cmS (rest := []) (As := [.ref (A 42), .long 3471483854134260012]) E ht (va_cwS 2 hts gL_texts_L_types rfl rfl rfl (by decide +kernel) ⟨Nat.le_of_ble_eq_true rfl, Nat.le_of_ble_eq_true rfl⟩) hK hP hD hS hA rfl hl.1 rfl (Nat.le_of_ble_eq_true rfl) dL_texts_314 ⟨Nat.le_of_ble_eq_true rfl, Nat.le_of_ble_eq_true rfl⟩ (fun H locs hP hD hS => ?_)
  refine lv_if_eq (tgt := 392) hx hb dL_texts_317 (by decide) (fun c9 => absurd c9 (by decide)) (fun _ => ?_)
  refine lv_aload_n hx hb dL_texts_320 rfl (lv_at hl 0 rfl) ?_
  refine lv_ldc2 (v := 14123442583515184) hx hb hown (hts (.constantLong RL 159 (14123442583515184)) (by decide +kernel)) dL_texts_321 ?_
  have ht : Mm l yL_types wsL_types ({ frames := 2, cells := 0, slots := 0, locals := 42 } : Room) G [.ref (A 42), .long 14123442583515184] (wX G A (w7) (rot (w7))) 1 (wX G A (w8) (rot (w8))) := by have hh9 := c_L_types l G A 14123442583515184 iw7; rw [h10] at hh9; exact hh9
  refine cmS (rest := []) (As := [.ref (A 42), .long 14123442583515184]) E ht (va_cwS 2 hts gL_texts_L_types rfl rfl rfl (by decide +kernel) ⟨Nat.le_of_ble_eq_true rfl, Nat.le_of_ble_eq_true rfl⟩) hK hP hD hS hA rfl hl.1 rfl (Nat.le_of_ble_eq_true rfl) dL_texts_324 ⟨Nat.le_of_ble_eq_true rfl, Nat.le_of_ble_eq_true rfl⟩ (fun H locs hP hD hS => ?_)
  refine lv_if_eq (tgt := 392) hx hb dL_texts_327 (by decide) (fun c9 => absurd c9 (by decide)) (fun _ => ?_)
  refine lv_aload_n hx hb dL_texts_330 rfl (lv_at hl 0 rfl) ?_
  refine cmV (rest := []) (As := []) E (k_X3_layAll l G A iw8 h11) (cwV 0 hts gL_texts_X3_layAll rfl rfl rfl (by decide +kernel) ⟨Nat.le_of_ble_eq_true rfl, Nat.le_of_ble_eq_true rfl⟩) hK hP hD hS hA 42 rfl rfl rfl hl.1 rfl (Nat.le_of_ble_eq_true rfl) dL_texts_331 ⟨Nat.le_of_ble_eq_true rfl, Nat.le_of_ble_eq_true rfl⟩ (fun H locs hP hD hS => ?_)
  refine lv_iconst (v := 3) hx hb dL_texts_334 (by decide) ?_
  refine lv_icmp_ne (tgt := 392) hx hb dL_texts_335 (by decide) (fun c9 => absurd c9 (by decide)) (fun _ => ?_)
  refine lv_aload_n hx hb dL_texts_338 rfl (lv_at hl 0 rfl) ?_
  refine lv_iconst (v := 0) hx hb dL_texts_339 (by decide) ?_
  refine lv_iconst (v := 1) hx hb dL_texts_340 (by decide) ?_
  refine cpV (rest := []) (As := [.int 0, .int 1]) E (k_X3_wire l G A (w9) 0 1 h12) (cwV 2 hts gL_texts_X3_wire rfl rfl rfl (by decide +kernel) ⟨Nat.le_of_ble_eq_true rfl, Nat.le_of_ble_eq_true rfl⟩) hK hP 42 rfl rfl rfl hl.1 rfl (Nat.le_of_ble_eq_true rfl) dL_texts_341 ⟨Nat.le_of_ble_eq_true rfl, Nat.le_of_ble_eq_true rfl⟩ ?_
  refine lv_bipush (v := 60) hx hb dL_texts_344 (by decide) ?_
  refine lv_icmp_ne (tgt := 392) hx hb dL_texts_346 (by decide) (fun c9 => absurd c9 (by decide)) (fun _ => ?_)
  refine lv_aload_n hx hb dL_texts_349 rfl (lv_at hl 0 rfl) ?_
  refine lv_iconst (v := 2) hx hb dL_texts_350 (by decide) ?_
  refine lv_iconst (v := 1) hx hb dL_texts_351 (by decide) ?_
  refine cpV (rest := []) (As := [.int 2, .int 1]) E (k_X3_wire l G A (w9) 2 1 h13) (cwV 2 hts gL_texts_X3_wire rfl rfl rfl (by decide +kernel) ⟨Nat.le_of_ble_eq_true rfl, Nat.le_of_ble_eq_true rfl⟩) hK hP 42 rfl rfl rfl hl.1 rfl (Nat.le_of_ble_eq_true rfl) dL_texts_352 ⟨Nat.le_of_ble_eq_true rfl, Nat.le_of_ble_eq_true rfl⟩ ?_
  refine lv_sipush (v := 200) hx hb dL_texts_355 (by decide) ?_
  refine lv_icmp_ne (tgt := 392) hx hb dL_texts_358 (by decide) (fun c9 => absurd c9 (by decide)) (fun _ => ?_)
  refine lv_aload_n hx hb dL_texts_361 rfl (lv_at hl 0 rfl) ?_
  refine lv_iconst (v := 2) hx hb dL_texts_362 (by decide) ?_
  refine lv_bipush (v := 6) hx hb dL_texts_363 (by decide) ?_
  refine cpV (rest := []) (As := [.int 2, .int 6]) E (k_X3_wire l G A (w9) 2 6 h14) (cwV 2 hts gL_texts_X3_wire rfl rfl rfl (by decide +kernel) ⟨Nat.le_of_ble_eq_true rfl, Nat.le_of_ble_eq_true rfl⟩) hK hP 42 rfl rfl rfl hl.1 rfl (Nat.le_of_ble_eq_true rfl) dL_texts_365 ⟨Nat.le_of_ble_eq_true rfl, Nat.le_of_ble_eq_true rfl⟩ ?_
  refine lv_iconst (v := 2) hx hb dL_texts_368 (by decide) ?_
  refine lv_icmp_ne (tgt := 392) hx hb dL_texts_369 (by decide) (fun c9 => absurd c9 (by decide)) (fun _ => ?_)
  refine lv_aload_n hx hb dL_texts_372 rfl (lv_at hl 0 rfl) ?_
  refine lv_bipush (v := 13) hx hb dL_texts_373 (by decide) ?_
  refine cpV (rest := []) (As := [.int 13]) E (k_X3_count l G A (w9) 13 h15) (cwV 1 hts gL_texts_X3_count rfl rfl rfl (by decide +kernel) ⟨Nat.le_of_ble_eq_true rfl, Nat.le_of_ble_eq_true rfl⟩) hK hP 42 rfl rfl rfl hl.1 rfl (Nat.le_of_ble_eq_true rfl) dL_texts_375 ⟨Nat.le_of_ble_eq_true rfl, Nat.le_of_ble_eq_true rfl⟩ ?_
  refine lv_bipush (v := 15) hx hb dL_texts_378 (by decide) ?_
  refine lv_icmp_ne (tgt := 392) hx hb dL_texts_380 (by decide) (fun c9 => absurd c9 (by decide)) (fun _ => ?_)
  refine lv_aload_n hx hb dL_texts_383 rfl (lv_at hl 0 rfl) ?_
  refine cmV (rest := []) (As := []) E (k_X3_layAll l G A iw9 h16) (cwV 0 hts gL_texts_X3_layAll rfl rfl rfl (by decide +kernel) ⟨Nat.le_of_ble_eq_true rfl, Nat.le_of_ble_eq_true rfl⟩) hK hP hD hS hA 42 rfl rfl rfl hl.1 rfl (Nat.le_of_ble_eq_true rfl) dL_texts_384 ⟨Nat.le_of_ble_eq_true rfl, Nat.le_of_ble_eq_true rfl⟩ (fun H locs hP hD hS => ?_)
  refine lv_bipush (v := (-4)) hx hb dL_texts_387 (by decide) ?_
  refine lv_icmp_eq (tgt := 394) hx hb dL_texts_389 (by decide) (fun _ => ?_) (fun c9 => absurd c9 (by decide))
  refine lv_bipush (v := 15) hx hb dL_texts_394 (by decide) ?_
  refine lv_istore_n (lv' := [(1, .int 15), (0, .ref (A 42))]) hx hb dL_texts_396 rfl hl (by decide) rfl (fun ls hl => ?_)
  have hP : va_P G.1 vwCl (wX G A (y 0) (rot (y 0))) H := by rw [hy0]; exact hP
  have hD : va_D A0 (wX G A (y 0) (rot (y 0))) := by rw [hy0]; exact hD
  have LOOP : (∀ (H : Heap) (locs : List Loc), va_P G.1 vwCl (wX G A (y 65) (rot (y 65))) H → va_D A0 (wX G A (y 65) (rot (y 65))) → va_S A0 s.heap H locs → ∀ ls : Array Slot, lv_has ls 2 [(0, .ref (A 42)), (1, .int (nI (15 + 65)))] → W p l e ({ frames := 8, cells := 950, slots := 13129, locals := 179 } : Room) s m args below meth c H locs 950 13129 (MQ below (va_Qi (fun (r : Int32) (_ : Unit) => r = 1) (fun _ _ => True) A0) args s 950 13129 A0) (F0 m 423 ls [])) → ∀ (n k : Nat), k + n = 65 → ∀ (H : Heap) (locs : List Loc), va_P G.1 vwCl (wX G A (y k) (rot (y k))) H → va_D A0 (wX G A (y k) (rot (y k))) → va_S A0 s.heap H locs → ∀ ls : Array Slot, lv_has ls 2 [(0, .ref (A 42)), (1, .int (nI (15 + k)))] → W p l e ({ frames := 8, cells := 950, slots := 13129, locals := 179 } : Room) s m args below meth c H locs 950 13129 (MQ below (va_Qi (fun (r : Int32) (_ : Unit) => r = 1) (fun _ _ => True) A0) args s 950 13129 A0) (F0 m 397 ls []) := by
    intro kk n
    induction n with
    | zero =>
      intro k hk H locs hP hD hS ls hl
      have e : k = 65 := by omega
      subst e
      refine lv_iload_n hx hb dL_texts_397 rfl (lv_at hl 1 rfl) ?_
      refine lv_bipush (v := 80) hx hb dL_texts_398 (by decide) ?_
      refine lv_icmp_ge (tgt := 423) hx hb dL_texts_400 (by decide) (fun _ => ?_) (fun c9 => absurd (by decide) c9)
      exact kk H locs hP hD hS ls hl
    | succ n ih =>
      intro k hk H locs hP hD hS ls hl
      have hk3 : k < 65 := by omega
      refine lv_iload_n hx hb dL_texts_397 rfl (lv_at hl 1 rfl) ?_
      refine lv_bipush (v := 80) hx hb dL_texts_398 (by decide) ?_
      refine lv_icmp_ge (tgt := 423) hx hb dL_texts_400 (by decide) (fun c9 => absurd c9 (nI_ge (a := 15 + k) (b := 80) (by omega) (by omega))) (fun _ => ?_)
      refine lv_aload_n hx hb dL_texts_403 rfl (lv_at hl 0 rfl) ?_
      refine lv_iload_n hx hb dL_texts_404 rfl (lv_at hl 1 rfl) ?_
      refine lv_i2c (v := chr (nI (15 + k))) hx hb dL_texts_405 rfl ?_
      refine cmV (rest := []) (As := [.int (chr (nI (15 + k)))]) E (k_X3_type l G A (chr (nI (15 + k))) (hIy k (by omega)) (b1 k hk3)) (cwV 1 hts gL_texts_X3_type rfl rfl rfl (by decide +kernel) ⟨Nat.le_of_ble_eq_true rfl, Nat.le_of_ble_eq_true rfl⟩) hK hP hD hS hA 42 rfl rfl rfl hl.1 rfl (Nat.le_of_ble_eq_true rfl) dL_texts_406 ⟨Nat.le_of_ble_eq_true rfl, Nat.le_of_ble_eq_true rfl⟩ (fun H locs hP hD hS => ?_)
      refine lv_iload_n hx hb dL_texts_409 rfl (lv_at hl 1 rfl) ?_
      refine lv_iconst (v := 1) hx hb dL_texts_410 (by decide) ?_
      refine lv_iadd hx hb dL_texts_411 ?_
      refine lv_icmp_eq (tgt := 417) hx hb dL_texts_412 (by decide) (fun _ => ?_) (fun c9 => absurd rfl c9)
      refine lv_iinc (v := (nI (15 + (k + 1)))) (lv' := [(1, .int (nI (15 + (k + 1)))), (0, .ref (A 42))]) hx hb dL_texts_417 hl (k := 1) rfl (nI_1 (15 + k)) (by decide) rfl (fun ls hl => ?_)
      refine lv_goto (tgt := 397) hx hb dL_texts_420 (by decide) ?_
      exact ih (k + 1) (by omega) _ _ hP hD hS _ (lv_sub hl [1, 0] rfl)
  refine LOOP (fun H locs hP hD hS ls hl => ?_) 65 0 rfl _ _ hP hD hS _ (lv_sub hl [1, 0] rfl)
  have hP : va_P G.1 vwCl (wX G A (v0) (rot (v0))) H := by rw [hv0]; exact hP
  have hD : va_D A0 (wX G A (v0) (rot (v0))) := by rw [hv0]; exact hD
  refine lv_aload_n hx hb dL_texts_423 rfl (lv_at hl 0 rfl) ?_
  refine lv_bipush (v := 49) hx hb dL_texts_424 (by decide) ?_
  refine cmV (rest := []) (As := [.int 49]) E (k_X3_type l G A 49 iv0 h17) (cwV 1 hts gL_texts_X3_type rfl rfl rfl (by decide +kernel) ⟨Nat.le_of_ble_eq_true rfl, Nat.le_of_ble_eq_true rfl⟩) hK hP hD hS hA 42 rfl rfl rfl hl.1 rfl (Nat.le_of_ble_eq_true rfl) dL_texts_426 ⟨Nat.le_of_ble_eq_true rfl, Nat.le_of_ble_eq_true rfl⟩ (fun H locs hP hD hS => ?_)
  refine lv_bipush (v := (-3)) hx hb dL_texts_429 (by decide) ?_
  refine lv_icmp_ne (tgt := 465) hx hb dL_texts_431 (by decide) (fun c9 => absurd c9 (by decide)) (fun _ => ?_)
  refine lv_aload_n hx hb dL_texts_434 rfl (lv_at hl 0 rfl) ?_
  refine cmV (rest := []) (As := []) E (k_X3_layAll l G A iv1 h18) (cwV 0 hts gL_texts_X3_layAll rfl rfl rfl (by decide +kernel) ⟨Nat.le_of_ble_eq_true rfl, Nat.le_of_ble_eq_true rfl⟩) hK hP hD hS hA 42 rfl rfl rfl hl.1 rfl (Nat.le_of_ble_eq_true rfl) dL_texts_435 ⟨Nat.le_of_ble_eq_true rfl, Nat.le_of_ble_eq_true rfl⟩ (fun H locs hP hD hS => ?_)
  refine lv_bipush (v := (-115)) hx hb dL_texts_438 (by decide) ?_
  refine lv_icmp_ne (tgt := 465) hx hb dL_texts_440 (by decide) (fun c9 => absurd c9 (by decide)) (fun _ => ?_)
  refine lv_aload_n hx hb dL_texts_443 rfl (lv_at hl 0 rfl) ?_
  refine cmV (rest := []) (As := []) E (k_X3_clearText l G A iv2 h19) (cwV 0 hts gL_texts_X3_clearText rfl rfl rfl (by decide +kernel) ⟨Nat.le_of_ble_eq_true rfl, Nat.le_of_ble_eq_true rfl⟩) hK hP hD hS hA 42 rfl rfl rfl hl.1 rfl (Nat.le_of_ble_eq_true rfl) dL_texts_444 ⟨Nat.le_of_ble_eq_true rfl, Nat.le_of_ble_eq_true rfl⟩ (fun H locs hP hD hS => ?_)
  refine lv_bipush (v := 80) hx hb dL_texts_447 (by decide) ?_
  refine lv_icmp_ne (tgt := 465) hx hb dL_texts_449 (by decide) (fun c9 => absurd c9 (by decide)) (fun _ => ?_)
  refine lv_aload_n hx hb dL_texts_452 rfl (lv_at hl 0 rfl) ?_
  refine cmV (rest := []) (As := []) E (k_X3_layAll l G A iv3 h20) (cwV 0 hts gL_texts_X3_layAll rfl rfl rfl (by decide +kernel) ⟨Nat.le_of_ble_eq_true rfl, Nat.le_of_ble_eq_true rfl⟩) hK hP hD hS hA 42 rfl rfl rfl hl.1 rfl (Nat.le_of_ble_eq_true rfl) dL_texts_453 ⟨Nat.le_of_ble_eq_true rfl, Nat.le_of_ble_eq_true rfl⟩ (fun H locs hP hD hS => ?_)
  refine lv_bipush (v := (-100)) hx hb dL_texts_456 (by decide) ?_
  refine lv_icmp_ne (tgt := 465) hx hb dL_texts_458 (by decide) (fun c9 => absurd c9 (by decide)) (fun _ => ?_)
  refine lv_iconst (v := 1) hx hb dL_texts_461 (by decide) ?_
  refine lv_goto (tgt := 466) hx hb dL_texts_462 (by decide) ?_
  exact endA hx hb hr hlocks rfl hS rfl dL_texts_466
