/-! refusesAny, refusesFor, refused: they answer 1 and change nothing, for every state -/
set_option maxHeartbeats 4000000 in
set_option maxRecDepth 100000 in
theorem c_L_refusesAny_0 (l : Launch) (G : GG) (A : Nat → Nat) {S : XS} (hI : Iv S) : Mm l yL_refusesAny wsL_refusesAny ({ frames := 7, cells := 0, slots := 0, locals := 166 } : Room) G [.ref (A 42), .int 0] (wX G A S (rot S)) 1 (wX G A S (rot S)) := by
  refine Mm.of (cc := cL_refusesAny) (maxL := 5) (ret := some .boolean) (by decide) rfl (Nat.le_of_ble_eq_true rfl) ?_
  intro p e s m args below meth c A0 hA0 E hr hlocks hP hK hD hA hS ls hl
  have E : CallFix p m c cL_refusesAny 5 s args wsL_refusesAny RL := E
  have hx := E.1
  have hb := E.2.1
  have hml := E.2.2.1
  have hown := E.2.2.2.1
  have hts := E.2.2.2.2
  have hl : lv_has ls 5 [(0, .ref (A 42)), (1, .int 0)] := hl
  refine lv_iload_n hx hb dL_refusesAny_0 rfl (lv_at hl 1 rfl) ?_
  refine lv_if_ne (tgt := 8) hx hb dL_refusesAny_1 (by decide) (fun c9 => absurd c9 (by decide)) (fun _ => ?_)
  refine lv_iconst (v := (-1)) hx hb dL_refusesAny_4 (by decide) ?_
  refine lv_goto (tgt := 10) hx hb dL_refusesAny_5 (by decide) ?_
  refine lv_istore_n (lv' := [(2, .int (-1)), (0, .ref (A 42)), (1, .int 0)]) hx hb dL_refusesAny_10 rfl hl (by decide) rfl (fun ls hl => ?_)
  refine lv_iload_n hx hb dL_refusesAny_11 rfl (lv_at hl 2 rfl) ?_
  refine lv_if_ne (tgt := 19) hx hb dL_refusesAny_12 (by decide) (fun c9 => absurd c9 (by decide)) (fun _ => ?_)
  refine lv_iconst (v := (-1)) hx hb dL_refusesAny_15 (by decide) ?_
  refine lv_goto (tgt := 21) hx hb dL_refusesAny_16 (by decide) ?_
  refine lv_istore_n (lv' := [(3, .int (-1)), (2, .int (-1)), (0, .ref (A 42)), (1, .int 0)]) hx hb dL_refusesAny_21 rfl hl (by decide) rfl (fun ls hl => ?_)
  refine lv_iload_n hx hb dL_refusesAny_22 rfl (lv_at hl 3 rfl) ?_
  refine lv_if_ne (tgt := 31) hx hb dL_refusesAny_23 (by decide) (fun c9 => absurd c9 (by decide)) (fun _ => ?_)
  refine lv_bipush (v := 9) hx hb dL_refusesAny_26 (by decide) ?_
  refine lv_goto (tgt := 34) hx hb dL_refusesAny_28 (by decide) ?_
  refine lv_istore (lv' := [(4, .int 9), (3, .int (-1)), (2, .int (-1)), (0, .ref (A 42)), (1, .int 0)]) hx hb dL_refusesAny_34 hl (by decide) rfl (fun ls hl => ?_)
  refine lv_aload_n hx hb dL_refusesAny_36 rfl (lv_at hl 3 rfl) ?_
  refine lv_iload_n hx hb dL_refusesAny_37 rfl (lv_at hl 2 rfl) ?_
  refine lv_iconst (v := 0) hx hb dL_refusesAny_38 (by decide) ?_
  refine lv_iload hx hb dL_refusesAny_39 (lv_at hl 0 rfl) ?_
  refine cmV (rest := []) (As := [.int (-1), .int 0, .int 9]) E (k_X3_lay l G A (-1) 0 9 hI (x_lay10 S)) (cwV 3 hts gL_refusesAny_X3_lay rfl rfl rfl (by decide +kernel) ⟨Nat.le_of_ble_eq_true rfl, Nat.le_of_ble_eq_true rfl⟩) hK hP hD hS hA 42 rfl rfl rfl hl.1 rfl (Nat.le_of_ble_eq_true rfl) dL_refusesAny_41 ⟨Nat.le_of_ble_eq_true rfl, Nat.le_of_ble_eq_true rfl⟩ (fun H locs hP hD hS => ?_)
  refine lv_iconst (v := (-1)) hx hb dL_refusesAny_44 (by decide) ?_
  refine lv_icmp_ne (tgt := 230) hx hb dL_refusesAny_45 (by decide) (fun c9 => absurd c9 (by decide)) (fun _ => ?_)
  refine lv_aload_n hx hb dL_refusesAny_48 rfl (lv_at hl 3 rfl) ?_
  refine lv_iconst (v := 0) hx hb dL_refusesAny_49 (by decide) ?_
  refine lv_iload_n hx hb dL_refusesAny_50 rfl (lv_at hl 1 rfl) ?_
  refine lv_iload hx hb dL_refusesAny_51 (lv_at hl 0 rfl) ?_
  refine cmV (rest := []) (As := [.int 0, .int (-1), .int 9]) E (k_X3_lay l G A 0 (-1) 9 hI (x_lay20 S)) (cwV 3 hts gL_refusesAny_X3_lay rfl rfl rfl (by decide +kernel) ⟨Nat.le_of_ble_eq_true rfl, Nat.le_of_ble_eq_true rfl⟩) hK hP hD hS hA 42 rfl rfl rfl hl.1 rfl (Nat.le_of_ble_eq_true rfl) dL_refusesAny_53 ⟨Nat.le_of_ble_eq_true rfl, Nat.le_of_ble_eq_true rfl⟩ (fun H locs hP hD hS => ?_)
  refine lv_iconst (v := (-1)) hx hb dL_refusesAny_56 (by decide) ?_
  refine lv_icmp_ne (tgt := 230) hx hb dL_refusesAny_57 (by decide) (fun c9 => absurd c9 (by decide)) (fun _ => ?_)
  refine lv_aload_n hx hb dL_refusesAny_60 rfl (lv_at hl 3 rfl) ?_
  refine lv_iconst (v := 0) hx hb dL_refusesAny_61 (by decide) ?_
  refine lv_iconst (v := 0) hx hb dL_refusesAny_62 (by decide) ?_
  refine lv_iload hx hb dL_refusesAny_63 (lv_at hl 0 rfl) ?_
  refine cmV (rest := []) (As := [.int 0, .int 0, .int 9]) E (k_X3_lay l G A 0 0 9 hI (x_lay30 S)) (cwV 3 hts gL_refusesAny_X3_lay rfl rfl rfl (by decide +kernel) ⟨Nat.le_of_ble_eq_true rfl, Nat.le_of_ble_eq_true rfl⟩) hK hP hD hS hA 42 rfl rfl rfl hl.1 rfl (Nat.le_of_ble_eq_true rfl) dL_refusesAny_65 ⟨Nat.le_of_ble_eq_true rfl, Nat.le_of_ble_eq_true rfl⟩ (fun H locs hP hD hS => ?_)
  refine lv_bipush (v := (-2)) hx hb dL_refusesAny_68 (by decide) ?_
  refine lv_icmp_ne (tgt := 230) hx hb dL_refusesAny_70 (by decide) (fun c9 => absurd c9 (by decide)) (fun _ => ?_)
  refine lv_aload_n hx hb dL_refusesAny_73 rfl (lv_at hl 3 rfl) ?_
  refine lv_iload_n hx hb dL_refusesAny_74 rfl (lv_at hl 2 rfl) ?_
  refine cmV (rest := []) (As := [.int (-1)]) E (k_X3_takeOff l G A (-1) hI (x_takeOff0 S)) (cwV 1 hts gL_refusesAny_X3_takeOff rfl rfl rfl (by decide +kernel) ⟨Nat.le_of_ble_eq_true rfl, Nat.le_of_ble_eq_true rfl⟩) hK hP hD hS hA 42 rfl rfl rfl hl.1 rfl (Nat.le_of_ble_eq_true rfl) dL_refusesAny_75 ⟨Nat.le_of_ble_eq_true rfl, Nat.le_of_ble_eq_true rfl⟩ (fun H locs hP hD hS => ?_)
  refine lv_iconst (v := (-1)) hx hb dL_refusesAny_78 (by decide) ?_
  refine lv_icmp_ne (tgt := 230) hx hb dL_refusesAny_79 (by decide) (fun c9 => absurd c9 (by decide)) (fun _ => ?_)
  refine lv_aload_n hx hb dL_refusesAny_82 rfl (lv_at hl 3 rfl) ?_
  refine lv_iload_n hx hb dL_refusesAny_83 rfl (lv_at hl 2 rfl) ?_
  refine lv_iload hx hb dL_refusesAny_84 (lv_at hl 0 rfl) ?_
  refine cmV (rest := []) (As := [.int (-1), .int 9]) E (k_X3_bend l G A (-1) 9 hI (x_bend0 S)) (cwV 2 hts gL_refusesAny_X3_bend rfl rfl rfl (by decide +kernel) ⟨Nat.le_of_ble_eq_true rfl, Nat.le_of_ble_eq_true rfl⟩) hK hP hD hS hA 42 rfl rfl rfl hl.1 rfl (Nat.le_of_ble_eq_true rfl) dL_refusesAny_86 ⟨Nat.le_of_ble_eq_true rfl, Nat.le_of_ble_eq_true rfl⟩ (fun H locs hP hD hS => ?_)
  refine lv_iconst (v := (-1)) hx hb dL_refusesAny_89 (by decide) ?_
  refine lv_icmp_ne (tgt := 230) hx hb dL_refusesAny_90 (by decide) (fun c9 => absurd c9 (by decide)) (fun _ => ?_)
  refine lv_aload_n hx hb dL_refusesAny_93 rfl (lv_at hl 3 rfl) ?_
  refine lv_iload_n hx hb dL_refusesAny_94 rfl (lv_at hl 1 rfl) ?_
  refine lv_sipush (v := 601) hx hb dL_refusesAny_95 (by decide) ?_
  refine cmV (rest := []) (As := [.int (-1), .int 601]) E (k_X3_moveLead l G A (-1) 601 hI (x_moveLead10 S)) (cwV 2 hts gL_refusesAny_X3_moveLead rfl rfl rfl (by decide +kernel) ⟨Nat.le_of_ble_eq_true rfl, Nat.le_of_ble_eq_true rfl⟩) hK hP hD hS hA 42 rfl rfl rfl hl.1 rfl (Nat.le_of_ble_eq_true rfl) dL_refusesAny_98 ⟨Nat.le_of_ble_eq_true rfl, Nat.le_of_ble_eq_true rfl⟩ (fun H locs hP hD hS => ?_)
  refine lv_iconst (v := (-1)) hx hb dL_refusesAny_101 (by decide) ?_
  refine lv_icmp_ne (tgt := 230) hx hb dL_refusesAny_102 (by decide) (fun c9 => absurd c9 (by decide)) (fun _ => ?_)
  refine lv_aload_n hx hb dL_refusesAny_105 rfl (lv_at hl 3 rfl) ?_
  refine lv_iconst (v := 0) hx hb dL_refusesAny_106 (by decide) ?_
  refine lv_iload_n hx hb dL_refusesAny_107 rfl (lv_at hl 4 rfl) ?_
  refine lv_if_ne (tgt := 115) hx hb dL_refusesAny_108 (by decide) (fun c9 => absurd c9 (by decide)) (fun _ => ?_)
  refine lv_iconst (v := (-1)) hx hb dL_refusesAny_111 (by decide) ?_
  refine lv_goto (tgt := 118) hx hb dL_refusesAny_112 (by decide) ?_
  refine cmV (rest := []) (As := [.int 0, .int (-1)]) E (k_X3_moveLead l G A 0 (-1) hI (x_moveLead20 S)) (cwV 2 hts gL_refusesAny_X3_moveLead rfl rfl rfl (by decide +kernel) ⟨Nat.le_of_ble_eq_true rfl, Nat.le_of_ble_eq_true rfl⟩) hK hP hD hS hA 42 rfl rfl rfl hl.1 rfl (Nat.le_of_ble_eq_true rfl) dL_refusesAny_118 ⟨Nat.le_of_ble_eq_true rfl, Nat.le_of_ble_eq_true rfl⟩ (fun H locs hP hD hS => ?_)
  refine lv_bipush (v := (-2)) hx hb dL_refusesAny_121 (by decide) ?_
  refine lv_icmp_ne (tgt := 230) hx hb dL_refusesAny_123 (by decide) (fun c9 => absurd c9 (by decide)) (fun _ => ?_)
  refine lv_aload_n hx hb dL_refusesAny_126 rfl (lv_at hl 3 rfl) ?_
  refine lv_iload_n hx hb dL_refusesAny_127 rfl (lv_at hl 4 rfl) ?_
  refine lv_if_ne (tgt := 135) hx hb dL_refusesAny_128 (by decide) (fun c9 => absurd c9 (by decide)) (fun _ => ?_)
  refine lv_iconst (v := 0) hx hb dL_refusesAny_131 (by decide) ?_
  refine lv_goto (tgt := 137) hx hb dL_refusesAny_132 (by decide) ?_
  refine cmV (rest := []) (As := [.int 0]) E (k_X3_setWidth l G A 0 hI (x_setWidth0 S)) (cwV 1 hts gL_refusesAny_X3_setWidth rfl rfl rfl (by decide +kernel) ⟨Nat.le_of_ble_eq_true rfl, Nat.le_of_ble_eq_true rfl⟩) hK hP hD hS hA 42 rfl rfl rfl hl.1 rfl (Nat.le_of_ble_eq_true rfl) dL_refusesAny_137 ⟨Nat.le_of_ble_eq_true rfl, Nat.le_of_ble_eq_true rfl⟩ (fun H locs hP hD hS => ?_)
  refine lv_bipush (v := (-2)) hx hb dL_refusesAny_140 (by decide) ?_
  refine lv_icmp_ne (tgt := 230) hx hb dL_refusesAny_142 (by decide) (fun c9 => absurd c9 (by decide)) (fun _ => ?_)
  refine lv_aload_n hx hb dL_refusesAny_145 rfl (lv_at hl 3 rfl) ?_
  refine lv_iload_n hx hb dL_refusesAny_146 rfl (lv_at hl 2 rfl) ?_
  refine lv_iconst (v := 0) hx hb dL_refusesAny_147 (by decide) ?_
  refine cmV (rest := []) (As := [.int (-1), .int 0]) E (k_X3_pull l G A (-1) 0 hI (x_pull0 S)) (cwV 2 hts gL_refusesAny_X3_pull rfl rfl rfl (by decide +kernel) ⟨Nat.le_of_ble_eq_true rfl, Nat.le_of_ble_eq_true rfl⟩) hK hP hD hS hA 42 rfl rfl rfl hl.1 rfl (Nat.le_of_ble_eq_true rfl) dL_refusesAny_148 ⟨Nat.le_of_ble_eq_true rfl, Nat.le_of_ble_eq_true rfl⟩ (fun H locs hP hD hS => ?_)
  refine lv_iconst (v := (-1)) hx hb dL_refusesAny_151 (by decide) ?_
  refine lv_icmp_ne (tgt := 230) hx hb dL_refusesAny_152 (by decide) (fun c9 => absurd c9 (by decide)) (fun _ => ?_)
  refine lv_aload_n hx hb dL_refusesAny_155 rfl (lv_at hl 3 rfl) ?_
  refine lv_iload_n hx hb dL_refusesAny_156 rfl (lv_at hl 4 rfl) ?_
  refine lv_if_ne (tgt := 164) hx hb dL_refusesAny_157 (by decide) (fun c9 => absurd c9 (by decide)) (fun _ => ?_)
  refine lv_iconst (v := 0) hx hb dL_refusesAny_160 (by decide) ?_
  refine lv_goto (tgt := 166) hx hb dL_refusesAny_161 (by decide) ?_
  refine lv_iconst (v := 1) hx hb dL_refusesAny_166 (by decide) ?_
  refine cmV (rest := []) (As := [.int 0, .int 1]) E (k_X3_sample l G A 0 1 hI (x_sample10 S)) (cwV 2 hts gL_refusesAny_X3_sample rfl rfl rfl (by decide +kernel) ⟨Nat.le_of_ble_eq_true rfl, Nat.le_of_ble_eq_true rfl⟩) hK hP hD hS hA 42 rfl rfl rfl hl.1 rfl (Nat.le_of_ble_eq_true rfl) dL_refusesAny_167 ⟨Nat.le_of_ble_eq_true rfl, Nat.le_of_ble_eq_true rfl⟩ (fun H locs hP hD hS => ?_)
  refine lv_bipush (v := (-2)) hx hb dL_refusesAny_170 (by decide) ?_
  refine lv_icmp_ne (tgt := 230) hx hb dL_refusesAny_172 (by decide) (fun c9 => absurd c9 (by decide)) (fun _ => ?_)
  refine lv_aload_n hx hb dL_refusesAny_175 rfl (lv_at hl 3 rfl) ?_
  refine lv_iconst (v := 1) hx hb dL_refusesAny_176 (by decide) ?_
  refine lv_iload_n hx hb dL_refusesAny_177 rfl (lv_at hl 4 rfl) ?_
  refine lv_if_ne (tgt := 185) hx hb dL_refusesAny_178 (by decide) (fun c9 => absurd c9 (by decide)) (fun _ => ?_)
  refine lv_iconst (v := 0) hx hb dL_refusesAny_181 (by decide) ?_
  refine lv_goto (tgt := 187) hx hb dL_refusesAny_182 (by decide) ?_
  refine cmV (rest := []) (As := [.int 1, .int 0]) E (k_X3_sample l G A 1 0 hI (x_sample20 S)) (cwV 2 hts gL_refusesAny_X3_sample rfl rfl rfl (by decide +kernel) ⟨Nat.le_of_ble_eq_true rfl, Nat.le_of_ble_eq_true rfl⟩) hK hP hD hS hA 42 rfl rfl rfl hl.1 rfl (Nat.le_of_ble_eq_true rfl) dL_refusesAny_187 ⟨Nat.le_of_ble_eq_true rfl, Nat.le_of_ble_eq_true rfl⟩ (fun H locs hP hD hS => ?_)
  refine lv_bipush (v := (-2)) hx hb dL_refusesAny_190 (by decide) ?_
  refine lv_icmp_ne (tgt := 230) hx hb dL_refusesAny_192 (by decide) (fun c9 => absurd c9 (by decide)) (fun _ => ?_)
  refine lv_aload_n hx hb dL_refusesAny_195 rfl (lv_at hl 3 rfl) ?_
  refine lv_iload_n hx hb dL_refusesAny_196 rfl (lv_at hl 2 rfl) ?_
  refine lv_bipush (v := 9) hx hb dL_refusesAny_197 (by decide) ?_
  refine cpV (rest := []) (As := [.int (-1), .int 9]) E (k_X3_wire l G A S (-1) 9 (x_wire0 S)) (cwV 2 hts gL_refusesAny_X3_wire rfl rfl rfl (by decide +kernel) ⟨Nat.le_of_ble_eq_true rfl, Nat.le_of_ble_eq_true rfl⟩) hK hP 42 rfl rfl rfl hl.1 rfl (Nat.le_of_ble_eq_true rfl) dL_refusesAny_199 ⟨Nat.le_of_ble_eq_true rfl, Nat.le_of_ble_eq_true rfl⟩ ?_
  refine lv_iconst (v := (-1)) hx hb dL_refusesAny_202 (by decide) ?_
  refine lv_icmp_ne (tgt := 230) hx hb dL_refusesAny_203 (by decide) (fun c9 => absurd c9 (by decide)) (fun _ => ?_)
  refine lv_aload_n hx hb dL_refusesAny_206 rfl (lv_at hl 3 rfl) ?_
  refine lv_iload_n hx hb dL_refusesAny_207 rfl (lv_at hl 2 rfl) ?_
  refine lv_sipush (v := 999) hx hb dL_refusesAny_208 (by decide) ?_
  refine cpV (rest := []) (As := [.int (-1), .int 999]) E (k_X3_heightAt l G A S (-1) 999 (x_heightAt0 S)) (cwV 2 hts gL_refusesAny_X3_heightAt rfl rfl rfl (by decide +kernel) ⟨Nat.le_of_ble_eq_true rfl, Nat.le_of_ble_eq_true rfl⟩) hK hP 42 rfl rfl rfl hl.1 rfl (Nat.le_of_ble_eq_true rfl) dL_refusesAny_211 ⟨Nat.le_of_ble_eq_true rfl, Nat.le_of_ble_eq_true rfl⟩ ?_
  refine lv_iconst (v := (-1)) hx hb dL_refusesAny_214 (by decide) ?_
  refine lv_icmp_ne (tgt := 230) hx hb dL_refusesAny_215 (by decide) (fun c9 => absurd c9 (by decide)) (fun _ => ?_)
  refine lv_aload_n hx hb dL_refusesAny_218 rfl (lv_at hl 3 rfl) ?_
  refine lv_iload_n hx hb dL_refusesAny_219 rfl (lv_at hl 2 rfl) ?_
  refine lv_iconst (v := 0) hx hb dL_refusesAny_220 (by decide) ?_
  refine lv_bipush (v := 9) hx hb dL_refusesAny_221 (by decide) ?_
  refine cpV (rest := []) (As := [.int (-1), .int 0, .int 9]) E (k_X3_crossing l G A S (-1) 0 9 (x_crossing10 S)) (cwV 3 hts gL_refusesAny_X3_crossing rfl rfl rfl (by decide +kernel) ⟨Nat.le_of_ble_eq_true rfl, Nat.le_of_ble_eq_true rfl⟩) hK hP 42 rfl rfl rfl hl.1 rfl (Nat.le_of_ble_eq_true rfl) dL_refusesAny_223 ⟨Nat.le_of_ble_eq_true rfl, Nat.le_of_ble_eq_true rfl⟩ ?_
  refine lv_iconst (v := (-1)) hx hb dL_refusesAny_226 (by decide) ?_
  refine lv_icmp_eq (tgt := 232) hx hb dL_refusesAny_227 (by decide) (fun _ => ?_) (fun c9 => absurd c9 (by decide))
  refine lv_aload_n hx hb dL_refusesAny_232 rfl (lv_at hl 3 rfl) ?_
  refine lv_iconst (v := 0) hx hb dL_refusesAny_233 (by decide) ?_
  refine lv_iload_n hx hb dL_refusesAny_234 rfl (lv_at hl 2 rfl) ?_
  refine lv_bipush (v := 9) hx hb dL_refusesAny_235 (by decide) ?_
  refine cpV (rest := []) (As := [.int 0, .int (-1), .int 9]) E (k_X3_crossing l G A S 0 (-1) 9 (x_crossing20 S)) (cwV 3 hts gL_refusesAny_X3_crossing rfl rfl rfl (by decide +kernel) ⟨Nat.le_of_ble_eq_true rfl, Nat.le_of_ble_eq_true rfl⟩) hK hP 42 rfl rfl rfl hl.1 rfl (Nat.le_of_ble_eq_true rfl) dL_refusesAny_237 ⟨Nat.le_of_ble_eq_true rfl, Nat.le_of_ble_eq_true rfl⟩ ?_
  refine lv_iconst (v := (-1)) hx hb dL_refusesAny_240 (by decide) ?_
  refine lv_icmp_ne (tgt := 319) hx hb dL_refusesAny_241 (by decide) (fun c9 => absurd c9 (by decide)) (fun _ => ?_)
  refine lv_aload_n hx hb dL_refusesAny_244 rfl (lv_at hl 3 rfl) ?_
  refine lv_iload_n hx hb dL_refusesAny_245 rfl (lv_at hl 1 rfl) ?_
  refine lv_bipush (v := 9) hx hb dL_refusesAny_246 (by decide) ?_
  refine cpV (rest := []) (As := [.int (-1), .int 9]) E (k_X3_lead l G A S (-1) 9 (x_lead10 S)) (cwV 2 hts gL_refusesAny_X3_lead rfl rfl rfl (by decide +kernel) ⟨Nat.le_of_ble_eq_true rfl, Nat.le_of_ble_eq_true rfl⟩) hK hP 42 rfl rfl rfl hl.1 rfl (Nat.le_of_ble_eq_true rfl) dL_refusesAny_248 ⟨Nat.le_of_ble_eq_true rfl, Nat.le_of_ble_eq_true rfl⟩ ?_
  refine lv_iconst (v := (-1)) hx hb dL_refusesAny_251 (by decide) ?_
  refine lv_icmp_ne (tgt := 319) hx hb dL_refusesAny_252 (by decide) (fun c9 => absurd c9 (by decide)) (fun _ => ?_)
  refine lv_aload_n hx hb dL_refusesAny_255 rfl (lv_at hl 3 rfl) ?_
  refine lv_iconst (v := 0) hx hb dL_refusesAny_256 (by decide) ?_
  refine lv_iload_n hx hb dL_refusesAny_257 rfl (lv_at hl 4 rfl) ?_
  refine lv_if_ne (tgt := 265) hx hb dL_refusesAny_258 (by decide) (fun c9 => absurd c9 (by decide)) (fun _ => ?_)
  refine lv_iconst (v := (-1)) hx hb dL_refusesAny_261 (by decide) ?_
  refine lv_goto (tgt := 266) hx hb dL_refusesAny_262 (by decide) ?_
  refine cpV (rest := []) (As := [.int 0, .int (-1)]) E (k_X3_lead l G A S 0 (-1) (x_lead20 S)) (cwV 2 hts gL_refusesAny_X3_lead rfl rfl rfl (by decide +kernel) ⟨Nat.le_of_ble_eq_true rfl, Nat.le_of_ble_eq_true rfl⟩) hK hP 42 rfl rfl rfl hl.1 rfl (Nat.le_of_ble_eq_true rfl) dL_refusesAny_266 ⟨Nat.le_of_ble_eq_true rfl, Nat.le_of_ble_eq_true rfl⟩ ?_
  refine lv_bipush (v := (-2)) hx hb dL_refusesAny_269 (by decide) ?_
  refine lv_icmp_ne (tgt := 319) hx hb dL_refusesAny_271 (by decide) (fun c9 => absurd c9 (by decide)) (fun _ => ?_)
  refine lv_aload_n hx hb dL_refusesAny_274 rfl (lv_at hl 3 rfl) ?_
  refine lv_iload_n hx hb dL_refusesAny_275 rfl (lv_at hl 2 rfl) ?_
  refine lv_bipush (v := 9) hx hb dL_refusesAny_276 (by decide) ?_
  refine cpV (rest := []) (As := [.int (-1), .int 9]) E (k_X3_bestHeight l G A S (-1) 9 (x_bestHeight0 S)) (cwV 2 hts gL_refusesAny_X3_bestHeight rfl rfl rfl (by decide +kernel) ⟨Nat.le_of_ble_eq_true rfl, Nat.le_of_ble_eq_true rfl⟩) hK hP 42 rfl rfl rfl hl.1 rfl (Nat.le_of_ble_eq_true rfl) dL_refusesAny_278 ⟨Nat.le_of_ble_eq_true rfl, Nat.le_of_ble_eq_true rfl⟩ ?_
  refine lv_iconst (v := (-1)) hx hb dL_refusesAny_281 (by decide) ?_
  refine lv_icmp_ne (tgt := 319) hx hb dL_refusesAny_282 (by decide) (fun c9 => absurd c9 (by decide)) (fun _ => ?_)
  refine lv_aload_n hx hb dL_refusesAny_285 rfl (lv_at hl 3 rfl) ?_
  refine lv_iload hx hb dL_refusesAny_286 (lv_at hl 0 rfl) ?_
  refine cpV (rest := []) (As := [.int 9]) E (k_X3_laysLeft l G A S 9 (x_laysLeft0 S)) (cwV 1 hts gL_refusesAny_X3_laysLeft rfl rfl rfl (by decide +kernel) ⟨Nat.le_of_ble_eq_true rfl, Nat.le_of_ble_eq_true rfl⟩) hK hP 42 rfl rfl rfl hl.1 rfl (Nat.le_of_ble_eq_true rfl) dL_refusesAny_288 ⟨Nat.le_of_ble_eq_true rfl, Nat.le_of_ble_eq_true rfl⟩ ?_
  refine lv_bipush (v := (-2)) hx hb dL_refusesAny_291 (by decide) ?_
  refine lv_icmp_ne (tgt := 319) hx hb dL_refusesAny_293 (by decide) (fun c9 => absurd c9 (by decide)) (fun _ => ?_)
  refine lv_aload_n hx hb dL_refusesAny_296 rfl (lv_at hl 3 rfl) ?_
  refine lv_iload_n hx hb dL_refusesAny_297 rfl (lv_at hl 4 rfl) ?_
  refine lv_if_ne (tgt := 305) hx hb dL_refusesAny_298 (by decide) (fun c9 => absurd c9 (by decide)) (fun _ => ?_)
  refine lv_iconst (v := (-1)) hx hb dL_refusesAny_301 (by decide) ?_
  refine lv_goto (tgt := 307) hx hb dL_refusesAny_302 (by decide) ?_
  refine cpV (rest := []) (As := [.int (-1)]) E (k_X3_count l G A S (-1) (x_count0 S)) (cwV 1 hts gL_refusesAny_X3_count rfl rfl rfl (by decide +kernel) ⟨Nat.le_of_ble_eq_true rfl, Nat.le_of_ble_eq_true rfl⟩) hK hP 42 rfl rfl rfl hl.1 rfl (Nat.le_of_ble_eq_true rfl) dL_refusesAny_307 ⟨Nat.le_of_ble_eq_true rfl, Nat.le_of_ble_eq_true rfl⟩ ?_
  refine lv_bipush (v := (-2)) hx hb dL_refusesAny_310 (by decide) ?_
  refine lv_icmp_ne (tgt := 319) hx hb dL_refusesAny_312 (by decide) (fun c9 => absurd c9 (by decide)) (fun _ => ?_)
  refine lv_iconst (v := 1) hx hb dL_refusesAny_315 (by decide) ?_
  refine lv_goto (tgt := 320) hx hb dL_refusesAny_316 (by decide) ?_
  exact endM hx hb hr hlocks rfl hP hD hS ⟨rfl, rfl⟩ dL_refusesAny_320
set_option maxHeartbeats 4000000 in
set_option maxRecDepth 100000 in
theorem c_L_refusesAny_1 (l : Launch) (G : GG) (A : Nat → Nat) {S : XS} (hI : Iv S) : Mm l yL_refusesAny wsL_refusesAny ({ frames := 7, cells := 0, slots := 0, locals := 166 } : Room) G [.ref (A 42), .int 1] (wX G A S (rot S)) 1 (wX G A S (rot S)) := by
  refine Mm.of (cc := cL_refusesAny) (maxL := 5) (ret := some .boolean) (by decide) rfl (Nat.le_of_ble_eq_true rfl) ?_
  intro p e s m args below meth c A0 hA0 E hr hlocks hP hK hD hA hS ls hl
  have E : CallFix p m c cL_refusesAny 5 s args wsL_refusesAny RL := E
  have hx := E.1
  have hb := E.2.1
  have hml := E.2.2.1
  have hown := E.2.2.2.1
  have hts := E.2.2.2.2
  have hl : lv_has ls 5 [(0, .ref (A 42)), (1, .int 1)] := hl
  refine lv_iload_n hx hb dL_refusesAny_0 rfl (lv_at hl 1 rfl) ?_
  refine lv_if_ne (tgt := 8) hx hb dL_refusesAny_1 (by decide) (fun _ => ?_) (fun c9 => absurd c9 (by decide))
  refine lv_bipush (v := 12) hx hb dL_refusesAny_8 (by decide) ?_
  refine lv_istore_n (lv' := [(2, .int 12), (0, .ref (A 42)), (1, .int 1)]) hx hb dL_refusesAny_10 rfl hl (by decide) rfl (fun ls hl => ?_)
  refine lv_iload_n hx hb dL_refusesAny_11 rfl (lv_at hl 2 rfl) ?_
  refine lv_if_ne (tgt := 19) hx hb dL_refusesAny_12 (by decide) (fun _ => ?_) (fun c9 => absurd c9 (by decide))
  refine lv_bipush (v := 16) hx hb dL_refusesAny_19 (by decide) ?_
  refine lv_istore_n (lv' := [(3, .int 16), (2, .int 12), (0, .ref (A 42)), (1, .int 1)]) hx hb dL_refusesAny_21 rfl hl (by decide) rfl (fun ls hl => ?_)
  refine lv_iload_n hx hb dL_refusesAny_22 rfl (lv_at hl 3 rfl) ?_
  refine lv_if_ne (tgt := 31) hx hb dL_refusesAny_23 (by decide) (fun _ => ?_) (fun c9 => absurd c9 (by decide))
  refine lv_sipush (v := 201) hx hb dL_refusesAny_31 (by decide) ?_
  refine lv_istore (lv' := [(4, .int 201), (3, .int 16), (2, .int 12), (0, .ref (A 42)), (1, .int 1)]) hx hb dL_refusesAny_34 hl (by decide) rfl (fun ls hl => ?_)
  refine lv_aload_n hx hb dL_refusesAny_36 rfl (lv_at hl 3 rfl) ?_
  refine lv_iload_n hx hb dL_refusesAny_37 rfl (lv_at hl 2 rfl) ?_
  refine lv_iconst (v := 0) hx hb dL_refusesAny_38 (by decide) ?_
  refine lv_iload hx hb dL_refusesAny_39 (lv_at hl 0 rfl) ?_
  refine cmV (rest := []) (As := [.int 12, .int 0, .int 201]) E (k_X3_lay l G A 12 0 201 hI (x_lay11 S)) (cwV 3 hts gL_refusesAny_X3_lay rfl rfl rfl (by decide +kernel) ⟨Nat.le_of_ble_eq_true rfl, Nat.le_of_ble_eq_true rfl⟩) hK hP hD hS hA 42 rfl rfl rfl hl.1 rfl (Nat.le_of_ble_eq_true rfl) dL_refusesAny_41 ⟨Nat.le_of_ble_eq_true rfl, Nat.le_of_ble_eq_true rfl⟩ (fun H locs hP hD hS => ?_)
  refine lv_iconst (v := (-1)) hx hb dL_refusesAny_44 (by decide) ?_
  refine lv_icmp_ne (tgt := 230) hx hb dL_refusesAny_45 (by decide) (fun c9 => absurd c9 (by decide)) (fun _ => ?_)
  refine lv_aload_n hx hb dL_refusesAny_48 rfl (lv_at hl 3 rfl) ?_
  refine lv_iconst (v := 0) hx hb dL_refusesAny_49 (by decide) ?_
  refine lv_iload_n hx hb dL_refusesAny_50 rfl (lv_at hl 1 rfl) ?_
  refine lv_iload hx hb dL_refusesAny_51 (lv_at hl 0 rfl) ?_
  refine cmV (rest := []) (As := [.int 0, .int 16, .int 201]) E (k_X3_lay l G A 0 16 201 hI (x_lay21 S)) (cwV 3 hts gL_refusesAny_X3_lay rfl rfl rfl (by decide +kernel) ⟨Nat.le_of_ble_eq_true rfl, Nat.le_of_ble_eq_true rfl⟩) hK hP hD hS hA 42 rfl rfl rfl hl.1 rfl (Nat.le_of_ble_eq_true rfl) dL_refusesAny_53 ⟨Nat.le_of_ble_eq_true rfl, Nat.le_of_ble_eq_true rfl⟩ (fun H locs hP hD hS => ?_)
  refine lv_iconst (v := (-1)) hx hb dL_refusesAny_56 (by decide) ?_
  refine lv_icmp_ne (tgt := 230) hx hb dL_refusesAny_57 (by decide) (fun c9 => absurd c9 (by decide)) (fun _ => ?_)
  refine lv_aload_n hx hb dL_refusesAny_60 rfl (lv_at hl 3 rfl) ?_
  refine lv_iconst (v := 0) hx hb dL_refusesAny_61 (by decide) ?_
  refine lv_iconst (v := 0) hx hb dL_refusesAny_62 (by decide) ?_
  refine lv_iload hx hb dL_refusesAny_63 (lv_at hl 0 rfl) ?_
  refine cmV (rest := []) (As := [.int 0, .int 0, .int 201]) E (k_X3_lay l G A 0 0 201 hI (x_lay31 S)) (cwV 3 hts gL_refusesAny_X3_lay rfl rfl rfl (by decide +kernel) ⟨Nat.le_of_ble_eq_true rfl, Nat.le_of_ble_eq_true rfl⟩) hK hP hD hS hA 42 rfl rfl rfl hl.1 rfl (Nat.le_of_ble_eq_true rfl) dL_refusesAny_65 ⟨Nat.le_of_ble_eq_true rfl, Nat.le_of_ble_eq_true rfl⟩ (fun H locs hP hD hS => ?_)
  refine lv_bipush (v := (-2)) hx hb dL_refusesAny_68 (by decide) ?_
  refine lv_icmp_ne (tgt := 230) hx hb dL_refusesAny_70 (by decide) (fun c9 => absurd c9 (by decide)) (fun _ => ?_)
  refine lv_aload_n hx hb dL_refusesAny_73 rfl (lv_at hl 3 rfl) ?_
  refine lv_iload_n hx hb dL_refusesAny_74 rfl (lv_at hl 2 rfl) ?_
  refine cmV (rest := []) (As := [.int 12]) E (k_X3_takeOff l G A 12 hI (x_takeOff1 S)) (cwV 1 hts gL_refusesAny_X3_takeOff rfl rfl rfl (by decide +kernel) ⟨Nat.le_of_ble_eq_true rfl, Nat.le_of_ble_eq_true rfl⟩) hK hP hD hS hA 42 rfl rfl rfl hl.1 rfl (Nat.le_of_ble_eq_true rfl) dL_refusesAny_75 ⟨Nat.le_of_ble_eq_true rfl, Nat.le_of_ble_eq_true rfl⟩ (fun H locs hP hD hS => ?_)
  refine lv_iconst (v := (-1)) hx hb dL_refusesAny_78 (by decide) ?_
  refine lv_icmp_ne (tgt := 230) hx hb dL_refusesAny_79 (by decide) (fun c9 => absurd c9 (by decide)) (fun _ => ?_)
  refine lv_aload_n hx hb dL_refusesAny_82 rfl (lv_at hl 3 rfl) ?_
  refine lv_iload_n hx hb dL_refusesAny_83 rfl (lv_at hl 2 rfl) ?_
  refine lv_iload hx hb dL_refusesAny_84 (lv_at hl 0 rfl) ?_
  refine cmV (rest := []) (As := [.int 12, .int 201]) E (k_X3_bend l G A 12 201 hI (x_bend1 S)) (cwV 2 hts gL_refusesAny_X3_bend rfl rfl rfl (by decide +kernel) ⟨Nat.le_of_ble_eq_true rfl, Nat.le_of_ble_eq_true rfl⟩) hK hP hD hS hA 42 rfl rfl rfl hl.1 rfl (Nat.le_of_ble_eq_true rfl) dL_refusesAny_86 ⟨Nat.le_of_ble_eq_true rfl, Nat.le_of_ble_eq_true rfl⟩ (fun H locs hP hD hS => ?_)
  refine lv_iconst (v := (-1)) hx hb dL_refusesAny_89 (by decide) ?_
  refine lv_icmp_ne (tgt := 230) hx hb dL_refusesAny_90 (by decide) (fun c9 => absurd c9 (by decide)) (fun _ => ?_)
  refine lv_aload_n hx hb dL_refusesAny_93 rfl (lv_at hl 3 rfl) ?_
  refine lv_iload_n hx hb dL_refusesAny_94 rfl (lv_at hl 1 rfl) ?_
  refine lv_sipush (v := 601) hx hb dL_refusesAny_95 (by decide) ?_
  refine cmV (rest := []) (As := [.int 16, .int 601]) E (k_X3_moveLead l G A 16 601 hI (x_moveLead11 S)) (cwV 2 hts gL_refusesAny_X3_moveLead rfl rfl rfl (by decide +kernel) ⟨Nat.le_of_ble_eq_true rfl, Nat.le_of_ble_eq_true rfl⟩) hK hP hD hS hA 42 rfl rfl rfl hl.1 rfl (Nat.le_of_ble_eq_true rfl) dL_refusesAny_98 ⟨Nat.le_of_ble_eq_true rfl, Nat.le_of_ble_eq_true rfl⟩ (fun H locs hP hD hS => ?_)
  refine lv_iconst (v := (-1)) hx hb dL_refusesAny_101 (by decide) ?_
  refine lv_icmp_ne (tgt := 230) hx hb dL_refusesAny_102 (by decide) (fun c9 => absurd c9 (by decide)) (fun _ => ?_)
  refine lv_aload_n hx hb dL_refusesAny_105 rfl (lv_at hl 3 rfl) ?_
  refine lv_iconst (v := 0) hx hb dL_refusesAny_106 (by decide) ?_
  refine lv_iload_n hx hb dL_refusesAny_107 rfl (lv_at hl 4 rfl) ?_
  refine lv_if_ne (tgt := 115) hx hb dL_refusesAny_108 (by decide) (fun _ => ?_) (fun c9 => absurd c9 (by decide))
  refine lv_sipush (v := 601) hx hb dL_refusesAny_115 (by decide) ?_
  refine cmV (rest := []) (As := [.int 0, .int 601]) E (k_X3_moveLead l G A 0 601 hI (x_moveLead21 S)) (cwV 2 hts gL_refusesAny_X3_moveLead rfl rfl rfl (by decide +kernel) ⟨Nat.le_of_ble_eq_true rfl, Nat.le_of_ble_eq_true rfl⟩) hK hP hD hS hA 42 rfl rfl rfl hl.1 rfl (Nat.le_of_ble_eq_true rfl) dL_refusesAny_118 ⟨Nat.le_of_ble_eq_true rfl, Nat.le_of_ble_eq_true rfl⟩ (fun H locs hP hD hS => ?_)
  refine lv_bipush (v := (-2)) hx hb dL_refusesAny_121 (by decide) ?_
  refine lv_icmp_ne (tgt := 230) hx hb dL_refusesAny_123 (by decide) (fun c9 => absurd c9 (by decide)) (fun _ => ?_)
  refine lv_aload_n hx hb dL_refusesAny_126 rfl (lv_at hl 3 rfl) ?_
  refine lv_iload_n hx hb dL_refusesAny_127 rfl (lv_at hl 4 rfl) ?_
  refine lv_if_ne (tgt := 135) hx hb dL_refusesAny_128 (by decide) (fun _ => ?_) (fun c9 => absurd c9 (by decide))
  refine lv_bipush (v := 51) hx hb dL_refusesAny_135 (by decide) ?_
  refine cmV (rest := []) (As := [.int 51]) E (k_X3_setWidth l G A 51 hI (x_setWidth1 S)) (cwV 1 hts gL_refusesAny_X3_setWidth rfl rfl rfl (by decide +kernel) ⟨Nat.le_of_ble_eq_true rfl, Nat.le_of_ble_eq_true rfl⟩) hK hP hD hS hA 42 rfl rfl rfl hl.1 rfl (Nat.le_of_ble_eq_true rfl) dL_refusesAny_137 ⟨Nat.le_of_ble_eq_true rfl, Nat.le_of_ble_eq_true rfl⟩ (fun H locs hP hD hS => ?_)
  refine lv_bipush (v := (-2)) hx hb dL_refusesAny_140 (by decide) ?_
  refine lv_icmp_ne (tgt := 230) hx hb dL_refusesAny_142 (by decide) (fun c9 => absurd c9 (by decide)) (fun _ => ?_)
  refine lv_aload_n hx hb dL_refusesAny_145 rfl (lv_at hl 3 rfl) ?_
  refine lv_iload_n hx hb dL_refusesAny_146 rfl (lv_at hl 2 rfl) ?_
  refine lv_iconst (v := 0) hx hb dL_refusesAny_147 (by decide) ?_
  refine cmV (rest := []) (As := [.int 12, .int 0]) E (k_X3_pull l G A 12 0 hI (x_pull1 S)) (cwV 2 hts gL_refusesAny_X3_pull rfl rfl rfl (by decide +kernel) ⟨Nat.le_of_ble_eq_true rfl, Nat.le_of_ble_eq_true rfl⟩) hK hP hD hS hA 42 rfl rfl rfl hl.1 rfl (Nat.le_of_ble_eq_true rfl) dL_refusesAny_148 ⟨Nat.le_of_ble_eq_true rfl, Nat.le_of_ble_eq_true rfl⟩ (fun H locs hP hD hS => ?_)
  refine lv_iconst (v := (-1)) hx hb dL_refusesAny_151 (by decide) ?_
  refine lv_icmp_ne (tgt := 230) hx hb dL_refusesAny_152 (by decide) (fun c9 => absurd c9 (by decide)) (fun _ => ?_)
  refine lv_aload_n hx hb dL_refusesAny_155 rfl (lv_at hl 3 rfl) ?_
  refine lv_iload_n hx hb dL_refusesAny_156 rfl (lv_at hl 4 rfl) ?_
  refine lv_if_ne (tgt := 164) hx hb dL_refusesAny_157 (by decide) (fun _ => ?_) (fun c9 => absurd c9 (by decide))
  refine lv_bipush (v := 13) hx hb dL_refusesAny_164 (by decide) ?_
  refine lv_iconst (v := 1) hx hb dL_refusesAny_166 (by decide) ?_
  refine cmV (rest := []) (As := [.int 13, .int 1]) E (k_X3_sample l G A 13 1 hI (x_sample11 S)) (cwV 2 hts gL_refusesAny_X3_sample rfl rfl rfl (by decide +kernel) ⟨Nat.le_of_ble_eq_true rfl, Nat.le_of_ble_eq_true rfl⟩) hK hP hD hS hA 42 rfl rfl rfl hl.1 rfl (Nat.le_of_ble_eq_true rfl) dL_refusesAny_167 ⟨Nat.le_of_ble_eq_true rfl, Nat.le_of_ble_eq_true rfl⟩ (fun H locs hP hD hS => ?_)
  refine lv_bipush (v := (-2)) hx hb dL_refusesAny_170 (by decide) ?_
  refine lv_icmp_ne (tgt := 230) hx hb dL_refusesAny_172 (by decide) (fun c9 => absurd c9 (by decide)) (fun _ => ?_)
  refine lv_aload_n hx hb dL_refusesAny_175 rfl (lv_at hl 3 rfl) ?_
  refine lv_iconst (v := 1) hx hb dL_refusesAny_176 (by decide) ?_
  refine lv_iload_n hx hb dL_refusesAny_177 rfl (lv_at hl 4 rfl) ?_
  refine lv_if_ne (tgt := 185) hx hb dL_refusesAny_178 (by decide) (fun _ => ?_) (fun c9 => absurd c9 (by decide))
  refine lv_bipush (v := 101) hx hb dL_refusesAny_185 (by decide) ?_
  refine cmV (rest := []) (As := [.int 1, .int 101]) E (k_X3_sample l G A 1 101 hI (x_sample21 S)) (cwV 2 hts gL_refusesAny_X3_sample rfl rfl rfl (by decide +kernel) ⟨Nat.le_of_ble_eq_true rfl, Nat.le_of_ble_eq_true rfl⟩) hK hP hD hS hA 42 rfl rfl rfl hl.1 rfl (Nat.le_of_ble_eq_true rfl) dL_refusesAny_187 ⟨Nat.le_of_ble_eq_true rfl, Nat.le_of_ble_eq_true rfl⟩ (fun H locs hP hD hS => ?_)
  refine lv_bipush (v := (-2)) hx hb dL_refusesAny_190 (by decide) ?_
  refine lv_icmp_ne (tgt := 230) hx hb dL_refusesAny_192 (by decide) (fun c9 => absurd c9 (by decide)) (fun _ => ?_)
  refine lv_aload_n hx hb dL_refusesAny_195 rfl (lv_at hl 3 rfl) ?_
  refine lv_iload_n hx hb dL_refusesAny_196 rfl (lv_at hl 2 rfl) ?_
  refine lv_bipush (v := 9) hx hb dL_refusesAny_197 (by decide) ?_
  refine cpV (rest := []) (As := [.int 12, .int 9]) E (k_X3_wire l G A S 12 9 (x_wire1 S)) (cwV 2 hts gL_refusesAny_X3_wire rfl rfl rfl (by decide +kernel) ⟨Nat.le_of_ble_eq_true rfl, Nat.le_of_ble_eq_true rfl⟩) hK hP 42 rfl rfl rfl hl.1 rfl (Nat.le_of_ble_eq_true rfl) dL_refusesAny_199 ⟨Nat.le_of_ble_eq_true rfl, Nat.le_of_ble_eq_true rfl⟩ ?_
  refine lv_iconst (v := (-1)) hx hb dL_refusesAny_202 (by decide) ?_
  refine lv_icmp_ne (tgt := 230) hx hb dL_refusesAny_203 (by decide) (fun c9 => absurd c9 (by decide)) (fun _ => ?_)
  refine lv_aload_n hx hb dL_refusesAny_206 rfl (lv_at hl 3 rfl) ?_
  refine lv_iload_n hx hb dL_refusesAny_207 rfl (lv_at hl 2 rfl) ?_
  refine lv_sipush (v := 999) hx hb dL_refusesAny_208 (by decide) ?_
  refine cpV (rest := []) (As := [.int 12, .int 999]) E (k_X3_heightAt l G A S 12 999 (x_heightAt1 S)) (cwV 2 hts gL_refusesAny_X3_heightAt rfl rfl rfl (by decide +kernel) ⟨Nat.le_of_ble_eq_true rfl, Nat.le_of_ble_eq_true rfl⟩) hK hP 42 rfl rfl rfl hl.1 rfl (Nat.le_of_ble_eq_true rfl) dL_refusesAny_211 ⟨Nat.le_of_ble_eq_true rfl, Nat.le_of_ble_eq_true rfl⟩ ?_
  refine lv_iconst (v := (-1)) hx hb dL_refusesAny_214 (by decide) ?_
  refine lv_icmp_ne (tgt := 230) hx hb dL_refusesAny_215 (by decide) (fun c9 => absurd c9 (by decide)) (fun _ => ?_)
  refine lv_aload_n hx hb dL_refusesAny_218 rfl (lv_at hl 3 rfl) ?_
  refine lv_iload_n hx hb dL_refusesAny_219 rfl (lv_at hl 2 rfl) ?_
  refine lv_iconst (v := 0) hx hb dL_refusesAny_220 (by decide) ?_
  refine lv_bipush (v := 9) hx hb dL_refusesAny_221 (by decide) ?_
  refine cpV (rest := []) (As := [.int 12, .int 0, .int 9]) E (k_X3_crossing l G A S 12 0 9 (x_crossing11 S)) (cwV 3 hts gL_refusesAny_X3_crossing rfl rfl rfl (by decide +kernel) ⟨Nat.le_of_ble_eq_true rfl, Nat.le_of_ble_eq_true rfl⟩) hK hP 42 rfl rfl rfl hl.1 rfl (Nat.le_of_ble_eq_true rfl) dL_refusesAny_223 ⟨Nat.le_of_ble_eq_true rfl, Nat.le_of_ble_eq_true rfl⟩ ?_
  refine lv_iconst (v := (-1)) hx hb dL_refusesAny_226 (by decide) ?_
  refine lv_icmp_eq (tgt := 232) hx hb dL_refusesAny_227 (by decide) (fun _ => ?_) (fun c9 => absurd c9 (by decide))
  refine lv_aload_n hx hb dL_refusesAny_232 rfl (lv_at hl 3 rfl) ?_
  refine lv_iconst (v := 0) hx hb dL_refusesAny_233 (by decide) ?_
  refine lv_iload_n hx hb dL_refusesAny_234 rfl (lv_at hl 2 rfl) ?_
  refine lv_bipush (v := 9) hx hb dL_refusesAny_235 (by decide) ?_
  refine cpV (rest := []) (As := [.int 0, .int 12, .int 9]) E (k_X3_crossing l G A S 0 12 9 (x_crossing21 S)) (cwV 3 hts gL_refusesAny_X3_crossing rfl rfl rfl (by decide +kernel) ⟨Nat.le_of_ble_eq_true rfl, Nat.le_of_ble_eq_true rfl⟩) hK hP 42 rfl rfl rfl hl.1 rfl (Nat.le_of_ble_eq_true rfl) dL_refusesAny_237 ⟨Nat.le_of_ble_eq_true rfl, Nat.le_of_ble_eq_true rfl⟩ ?_
  refine lv_iconst (v := (-1)) hx hb dL_refusesAny_240 (by decide) ?_
  refine lv_icmp_ne (tgt := 319) hx hb dL_refusesAny_241 (by decide) (fun c9 => absurd c9 (by decide)) (fun _ => ?_)
  refine lv_aload_n hx hb dL_refusesAny_244 rfl (lv_at hl 3 rfl) ?_
  refine lv_iload_n hx hb dL_refusesAny_245 rfl (lv_at hl 1 rfl) ?_
  refine lv_bipush (v := 9) hx hb dL_refusesAny_246 (by decide) ?_
  refine cpV (rest := []) (As := [.int 16, .int 9]) E (k_X3_lead l G A S 16 9 (x_lead11 S)) (cwV 2 hts gL_refusesAny_X3_lead rfl rfl rfl (by decide +kernel) ⟨Nat.le_of_ble_eq_true rfl, Nat.le_of_ble_eq_true rfl⟩) hK hP 42 rfl rfl rfl hl.1 rfl (Nat.le_of_ble_eq_true rfl) dL_refusesAny_248 ⟨Nat.le_of_ble_eq_true rfl, Nat.le_of_ble_eq_true rfl⟩ ?_
  refine lv_iconst (v := (-1)) hx hb dL_refusesAny_251 (by decide) ?_
  refine lv_icmp_ne (tgt := 319) hx hb dL_refusesAny_252 (by decide) (fun c9 => absurd c9 (by decide)) (fun _ => ?_)
  refine lv_aload_n hx hb dL_refusesAny_255 rfl (lv_at hl 3 rfl) ?_
  refine lv_iconst (v := 0) hx hb dL_refusesAny_256 (by decide) ?_
  refine lv_iload_n hx hb dL_refusesAny_257 rfl (lv_at hl 4 rfl) ?_
  refine lv_if_ne (tgt := 265) hx hb dL_refusesAny_258 (by decide) (fun _ => ?_) (fun c9 => absurd c9 (by decide))
  refine lv_iconst (v := 2) hx hb dL_refusesAny_265 (by decide) ?_
  refine cpV (rest := []) (As := [.int 0, .int 2]) E (k_X3_lead l G A S 0 2 (x_lead21 S)) (cwV 2 hts gL_refusesAny_X3_lead rfl rfl rfl (by decide +kernel) ⟨Nat.le_of_ble_eq_true rfl, Nat.le_of_ble_eq_true rfl⟩) hK hP 42 rfl rfl rfl hl.1 rfl (Nat.le_of_ble_eq_true rfl) dL_refusesAny_266 ⟨Nat.le_of_ble_eq_true rfl, Nat.le_of_ble_eq_true rfl⟩ ?_
  refine lv_bipush (v := (-2)) hx hb dL_refusesAny_269 (by decide) ?_
  refine lv_icmp_ne (tgt := 319) hx hb dL_refusesAny_271 (by decide) (fun c9 => absurd c9 (by decide)) (fun _ => ?_)
  refine lv_aload_n hx hb dL_refusesAny_274 rfl (lv_at hl 3 rfl) ?_
  refine lv_iload_n hx hb dL_refusesAny_275 rfl (lv_at hl 2 rfl) ?_
  refine lv_bipush (v := 9) hx hb dL_refusesAny_276 (by decide) ?_
  refine cpV (rest := []) (As := [.int 12, .int 9]) E (k_X3_bestHeight l G A S 12 9 (x_bestHeight1 S)) (cwV 2 hts gL_refusesAny_X3_bestHeight rfl rfl rfl (by decide +kernel) ⟨Nat.le_of_ble_eq_true rfl, Nat.le_of_ble_eq_true rfl⟩) hK hP 42 rfl rfl rfl hl.1 rfl (Nat.le_of_ble_eq_true rfl) dL_refusesAny_278 ⟨Nat.le_of_ble_eq_true rfl, Nat.le_of_ble_eq_true rfl⟩ ?_
  refine lv_iconst (v := (-1)) hx hb dL_refusesAny_281 (by decide) ?_
  refine lv_icmp_ne (tgt := 319) hx hb dL_refusesAny_282 (by decide) (fun c9 => absurd c9 (by decide)) (fun _ => ?_)
  refine lv_aload_n hx hb dL_refusesAny_285 rfl (lv_at hl 3 rfl) ?_
  refine lv_iload hx hb dL_refusesAny_286 (lv_at hl 0 rfl) ?_
  refine cpV (rest := []) (As := [.int 201]) E (k_X3_laysLeft l G A S 201 (x_laysLeft1 S)) (cwV 1 hts gL_refusesAny_X3_laysLeft rfl rfl rfl (by decide +kernel) ⟨Nat.le_of_ble_eq_true rfl, Nat.le_of_ble_eq_true rfl⟩) hK hP 42 rfl rfl rfl hl.1 rfl (Nat.le_of_ble_eq_true rfl) dL_refusesAny_288 ⟨Nat.le_of_ble_eq_true rfl, Nat.le_of_ble_eq_true rfl⟩ ?_
  refine lv_bipush (v := (-2)) hx hb dL_refusesAny_291 (by decide) ?_
  refine lv_icmp_ne (tgt := 319) hx hb dL_refusesAny_293 (by decide) (fun c9 => absurd c9 (by decide)) (fun _ => ?_)
  refine lv_aload_n hx hb dL_refusesAny_296 rfl (lv_at hl 3 rfl) ?_
  refine lv_iload_n hx hb dL_refusesAny_297 rfl (lv_at hl 4 rfl) ?_
  refine lv_if_ne (tgt := 305) hx hb dL_refusesAny_298 (by decide) (fun _ => ?_) (fun c9 => absurd c9 (by decide))
  refine lv_bipush (v := 14) hx hb dL_refusesAny_305 (by decide) ?_
  refine cpV (rest := []) (As := [.int 14]) E (k_X3_count l G A S 14 (x_count1 S)) (cwV 1 hts gL_refusesAny_X3_count rfl rfl rfl (by decide +kernel) ⟨Nat.le_of_ble_eq_true rfl, Nat.le_of_ble_eq_true rfl⟩) hK hP 42 rfl rfl rfl hl.1 rfl (Nat.le_of_ble_eq_true rfl) dL_refusesAny_307 ⟨Nat.le_of_ble_eq_true rfl, Nat.le_of_ble_eq_true rfl⟩ ?_
  refine lv_bipush (v := (-2)) hx hb dL_refusesAny_310 (by decide) ?_
  refine lv_icmp_ne (tgt := 319) hx hb dL_refusesAny_312 (by decide) (fun c9 => absurd c9 (by decide)) (fun _ => ?_)
  refine lv_iconst (v := 1) hx hb dL_refusesAny_315 (by decide) ?_
  refine lv_goto (tgt := 320) hx hb dL_refusesAny_316 (by decide) ?_
  exact endM hx hb hr hlocks rfl hP hD hS ⟨rfl, rfl⟩ dL_refusesAny_320
set_option maxHeartbeats 4000000 in
set_option maxRecDepth 100000 in
theorem c_L_refusesFor_0 (l : Launch) (G : GG) (A : Nat → Nat) {S : XS} {p : Int32} (hI : Iv S) (hw : f_X0_hasWire S p = 1) : Mm l yL_refusesFor wsL_refusesFor ({ frames := 7, cells := 0, slots := 0, locals := 166 } : Room) G [.ref (A 42), .int p, .int 0] (wX G A S (rot S)) 1 (wX G A S (rot S)) := by
  refine Mm.of (cc := cL_refusesFor) (maxL := 3) (ret := some .boolean) (by decide) rfl (Nat.le_of_ble_eq_true rfl) ?_
  intro pp e s m args below meth c A0 hA0 E hr hlocks hP hK hD hA hS ls hl
  have E : CallFix pp m c cL_refusesFor 3 s args wsL_refusesFor RL := E
  have hx := E.1
  have hb := E.2.1
  have hml := E.2.2.1
  have hown := E.2.2.2.1
  have hts := E.2.2.2.2
  have hl : lv_has ls 3 [(0, .ref (A 42)), (1, .int p), (2, .int 0)] := hl
  refine lv_aload_n hx hb dL_refusesFor_0 rfl (lv_at hl 0 rfl) ?_
  refine lv_iload_n hx hb dL_refusesFor_1 rfl (lv_at hl 1 rfl) ?_
  refine lv_iload_n hx hb dL_refusesFor_2 rfl (lv_at hl 2 rfl) ?_
  refine lv_if_ne (tgt := 11) hx hb dL_refusesFor_3 (by decide) (fun c9 => absurd c9 (by decide)) (fun _ => ?_)
  refine lv_bipush (v := 9) hx hb dL_refusesFor_6 (by decide) ?_
  refine lv_goto (tgt := 14) hx hb dL_refusesFor_8 (by decide) ?_
  refine cmV (rest := []) (As := [.int p, .int 9]) E (k_X3_bend l G A p 9 hI (y_bend0 S hw)) (cwV 2 hts gL_refusesFor_X3_bend rfl rfl rfl (by decide +kernel) ⟨Nat.le_of_ble_eq_true rfl, Nat.le_of_ble_eq_true rfl⟩) hK hP hD hS hA 42 rfl rfl rfl hl.1 rfl (Nat.le_of_ble_eq_true rfl) dL_refusesFor_14 ⟨Nat.le_of_ble_eq_true rfl, Nat.le_of_ble_eq_true rfl⟩ (fun H locs hP hD hS => ?_)
  refine lv_bipush (v := (-2)) hx hb dL_refusesFor_17 (by decide) ?_
  refine lv_icmp_ne (tgt := 138) hx hb dL_refusesFor_19 (by decide) (fun c9 => absurd c9 (by decide)) (fun _ => ?_)
  refine lv_aload_n hx hb dL_refusesFor_22 rfl (lv_at hl 0 rfl) ?_
  refine lv_iload_n hx hb dL_refusesFor_23 rfl (lv_at hl 1 rfl) ?_
  refine lv_iload_n hx hb dL_refusesFor_24 rfl (lv_at hl 2 rfl) ?_
  refine lv_if_ne (tgt := 32) hx hb dL_refusesFor_25 (by decide) (fun c9 => absurd c9 (by decide)) (fun _ => ?_)
  refine lv_iconst (v := 0) hx hb dL_refusesFor_28 (by decide) ?_
  refine lv_goto (tgt := 34) hx hb dL_refusesFor_29 (by decide) ?_
  refine cmV (rest := []) (As := [.int p, .int 0]) E (k_X3_pull l G A p 0 hI (y_pull0 S hw)) (cwV 2 hts gL_refusesFor_X3_pull rfl rfl rfl (by decide +kernel) ⟨Nat.le_of_ble_eq_true rfl, Nat.le_of_ble_eq_true rfl⟩) hK hP hD hS hA 42 rfl rfl rfl hl.1 rfl (Nat.le_of_ble_eq_true rfl) dL_refusesFor_34 ⟨Nat.le_of_ble_eq_true rfl, Nat.le_of_ble_eq_true rfl⟩ (fun H locs hP hD hS => ?_)
  refine lv_bipush (v := (-2)) hx hb dL_refusesFor_37 (by decide) ?_
  refine lv_icmp_ne (tgt := 138) hx hb dL_refusesFor_39 (by decide) (fun c9 => absurd c9 (by decide)) (fun _ => ?_)
  refine lv_aload_n hx hb dL_refusesFor_42 rfl (lv_at hl 0 rfl) ?_
  refine lv_iload_n hx hb dL_refusesFor_43 rfl (lv_at hl 1 rfl) ?_
  refine lv_iload_n hx hb dL_refusesFor_44 rfl (lv_at hl 2 rfl) ?_
  refine lv_if_ne (tgt := 52) hx hb dL_refusesFor_45 (by decide) (fun c9 => absurd c9 (by decide)) (fun _ => ?_)
  refine lv_iconst (v := (-1)) hx hb dL_refusesFor_48 (by decide) ?_
  refine lv_goto (tgt := 54) hx hb dL_refusesFor_49 (by decide) ?_
  refine cpV (rest := []) (As := [.int p, .int (-1)]) E (k_X3_wire l G A S p (-1) (y_wire0 S hw)) (cwV 2 hts gL_refusesFor_X3_wire rfl rfl rfl (by decide +kernel) ⟨Nat.le_of_ble_eq_true rfl, Nat.le_of_ble_eq_true rfl⟩) hK hP 42 rfl rfl rfl hl.1 rfl (Nat.le_of_ble_eq_true rfl) dL_refusesFor_54 ⟨Nat.le_of_ble_eq_true rfl, Nat.le_of_ble_eq_true rfl⟩ ?_
  refine lv_bipush (v := (-2)) hx hb dL_refusesFor_57 (by decide) ?_
  refine lv_icmp_ne (tgt := 138) hx hb dL_refusesFor_59 (by decide) (fun c9 => absurd c9 (by decide)) (fun _ => ?_)
  refine lv_aload_n hx hb dL_refusesFor_62 rfl (lv_at hl 0 rfl) ?_
  refine lv_iload_n hx hb dL_refusesFor_63 rfl (lv_at hl 1 rfl) ?_
  refine lv_iload_n hx hb dL_refusesFor_64 rfl (lv_at hl 2 rfl) ?_
  refine lv_if_ne (tgt := 72) hx hb dL_refusesFor_65 (by decide) (fun c9 => absurd c9 (by decide)) (fun _ => ?_)
  refine lv_iconst (v := (-1)) hx hb dL_refusesFor_68 (by decide) ?_
  refine lv_goto (tgt := 75) hx hb dL_refusesFor_69 (by decide) ?_
  refine cpV (rest := []) (As := [.int p, .int (-1)]) E (k_X3_heightAt l G A S p (-1) (y_heightAt0 S hw)) (cwV 2 hts gL_refusesFor_X3_heightAt rfl rfl rfl (by decide +kernel) ⟨Nat.le_of_ble_eq_true rfl, Nat.le_of_ble_eq_true rfl⟩) hK hP 42 rfl rfl rfl hl.1 rfl (Nat.le_of_ble_eq_true rfl) dL_refusesFor_75 ⟨Nat.le_of_ble_eq_true rfl, Nat.le_of_ble_eq_true rfl⟩ ?_
  refine lv_bipush (v := (-2)) hx hb dL_refusesFor_78 (by decide) ?_
  refine lv_icmp_ne (tgt := 138) hx hb dL_refusesFor_80 (by decide) (fun c9 => absurd c9 (by decide)) (fun _ => ?_)
  refine lv_aload_n hx hb dL_refusesFor_83 rfl (lv_at hl 0 rfl) ?_
  refine lv_iload_n hx hb dL_refusesFor_84 rfl (lv_at hl 1 rfl) ?_
  refine lv_iload_n hx hb dL_refusesFor_85 rfl (lv_at hl 1 rfl) ?_
  refine lv_iload_n hx hb dL_refusesFor_86 rfl (lv_at hl 2 rfl) ?_
  refine lv_if_ne (tgt := 94) hx hb dL_refusesFor_87 (by decide) (fun c9 => absurd c9 (by decide)) (fun _ => ?_)
  refine lv_iconst (v := (-1)) hx hb dL_refusesFor_90 (by decide) ?_
  refine lv_goto (tgt := 95) hx hb dL_refusesFor_91 (by decide) ?_
  refine cpV (rest := []) (As := [.int p, .int p, .int (-1)]) E (k_X3_crossing l G A S p p (-1) (y_crossing10 S hw)) (cwV 3 hts gL_refusesFor_X3_crossing rfl rfl rfl (by decide +kernel) ⟨Nat.le_of_ble_eq_true rfl, Nat.le_of_ble_eq_true rfl⟩) hK hP 42 rfl rfl rfl hl.1 rfl (Nat.le_of_ble_eq_true rfl) dL_refusesFor_95 ⟨Nat.le_of_ble_eq_true rfl, Nat.le_of_ble_eq_true rfl⟩ ?_
  refine lv_bipush (v := (-2)) hx hb dL_refusesFor_98 (by decide) ?_
  refine lv_icmp_ne (tgt := 138) hx hb dL_refusesFor_100 (by decide) (fun c9 => absurd c9 (by decide)) (fun _ => ?_)
  refine lv_aload_n hx hb dL_refusesFor_103 rfl (lv_at hl 0 rfl) ?_
  refine lv_iload_n hx hb dL_refusesFor_104 rfl (lv_at hl 1 rfl) ?_
  refine lv_iload_n hx hb dL_refusesFor_105 rfl (lv_at hl 1 rfl) ?_
  refine lv_iconst (v := 0) hx hb dL_refusesFor_106 (by decide) ?_
  refine cpV (rest := []) (As := [.int p, .int p, .int 0]) E (k_X3_crossing l G A S p p 0 (y_crossing2 S hw)) (cwV 3 hts gL_refusesFor_X3_crossing rfl rfl rfl (by decide +kernel) ⟨Nat.le_of_ble_eq_true rfl, Nat.le_of_ble_eq_true rfl⟩) hK hP 42 rfl rfl rfl hl.1 rfl (Nat.le_of_ble_eq_true rfl) dL_refusesFor_107 ⟨Nat.le_of_ble_eq_true rfl, Nat.le_of_ble_eq_true rfl⟩ ?_
  refine lv_bipush (v := (-5)) hx hb dL_refusesFor_110 (by decide) ?_
  refine lv_icmp_ne (tgt := 138) hx hb dL_refusesFor_112 (by decide) (fun c9 => absurd c9 (by decide)) (fun _ => ?_)
  refine lv_aload_n hx hb dL_refusesFor_115 rfl (lv_at hl 0 rfl) ?_
  refine lv_iload_n hx hb dL_refusesFor_116 rfl (lv_at hl 1 rfl) ?_
  refine lv_iload_n hx hb dL_refusesFor_117 rfl (lv_at hl 2 rfl) ?_
  refine lv_if_ne (tgt := 125) hx hb dL_refusesFor_118 (by decide) (fun c9 => absurd c9 (by decide)) (fun _ => ?_)
  refine lv_iconst (v := (-1)) hx hb dL_refusesFor_121 (by decide) ?_
  refine lv_goto (tgt := 126) hx hb dL_refusesFor_122 (by decide) ?_
  refine cpV (rest := []) (As := [.int p, .int (-1)]) E (k_X3_bestHeight l G A S p (-1) (y_bestHeight0 S hw)) (cwV 2 hts gL_refusesFor_X3_bestHeight rfl rfl rfl (by decide +kernel) ⟨Nat.le_of_ble_eq_true rfl, Nat.le_of_ble_eq_true rfl⟩) hK hP 42 rfl rfl rfl hl.1 rfl (Nat.le_of_ble_eq_true rfl) dL_refusesFor_126 ⟨Nat.le_of_ble_eq_true rfl, Nat.le_of_ble_eq_true rfl⟩ ?_
  refine lv_bipush (v := (-2)) hx hb dL_refusesFor_129 (by decide) ?_
  refine lv_icmp_ne (tgt := 138) hx hb dL_refusesFor_131 (by decide) (fun c9 => absurd c9 (by decide)) (fun _ => ?_)
  refine lv_iconst (v := 1) hx hb dL_refusesFor_134 (by decide) ?_
  refine lv_goto (tgt := 139) hx hb dL_refusesFor_135 (by decide) ?_
  exact endM hx hb hr hlocks rfl hP hD hS ⟨rfl, rfl⟩ dL_refusesFor_139
set_option maxHeartbeats 4000000 in
set_option maxRecDepth 100000 in
theorem c_L_refusesFor_1 (l : Launch) (G : GG) (A : Nat → Nat) {S : XS} {p : Int32} (hI : Iv S) (hw : f_X0_hasWire S p = 1) : Mm l yL_refusesFor wsL_refusesFor ({ frames := 7, cells := 0, slots := 0, locals := 166 } : Room) G [.ref (A 42), .int p, .int 1] (wX G A S (rot S)) 1 (wX G A S (rot S)) := by
  refine Mm.of (cc := cL_refusesFor) (maxL := 3) (ret := some .boolean) (by decide) rfl (Nat.le_of_ble_eq_true rfl) ?_
  intro pp e s m args below meth c A0 hA0 E hr hlocks hP hK hD hA hS ls hl
  have E : CallFix pp m c cL_refusesFor 3 s args wsL_refusesFor RL := E
  have hx := E.1
  have hb := E.2.1
  have hml := E.2.2.1
  have hown := E.2.2.2.1
  have hts := E.2.2.2.2
  have hl : lv_has ls 3 [(0, .ref (A 42)), (1, .int p), (2, .int 1)] := hl
  refine lv_aload_n hx hb dL_refusesFor_0 rfl (lv_at hl 0 rfl) ?_
  refine lv_iload_n hx hb dL_refusesFor_1 rfl (lv_at hl 1 rfl) ?_
  refine lv_iload_n hx hb dL_refusesFor_2 rfl (lv_at hl 2 rfl) ?_
  refine lv_if_ne (tgt := 11) hx hb dL_refusesFor_3 (by decide) (fun _ => ?_) (fun c9 => absurd c9 (by decide))
  refine lv_sipush (v := 201) hx hb dL_refusesFor_11 (by decide) ?_
  refine cmV (rest := []) (As := [.int p, .int 201]) E (k_X3_bend l G A p 201 hI (y_bend1 S hw)) (cwV 2 hts gL_refusesFor_X3_bend rfl rfl rfl (by decide +kernel) ⟨Nat.le_of_ble_eq_true rfl, Nat.le_of_ble_eq_true rfl⟩) hK hP hD hS hA 42 rfl rfl rfl hl.1 rfl (Nat.le_of_ble_eq_true rfl) dL_refusesFor_14 ⟨Nat.le_of_ble_eq_true rfl, Nat.le_of_ble_eq_true rfl⟩ (fun H locs hP hD hS => ?_)
  refine lv_bipush (v := (-2)) hx hb dL_refusesFor_17 (by decide) ?_
  refine lv_icmp_ne (tgt := 138) hx hb dL_refusesFor_19 (by decide) (fun c9 => absurd c9 (by decide)) (fun _ => ?_)
  refine lv_aload_n hx hb dL_refusesFor_22 rfl (lv_at hl 0 rfl) ?_
  refine lv_iload_n hx hb dL_refusesFor_23 rfl (lv_at hl 1 rfl) ?_
  refine lv_iload_n hx hb dL_refusesFor_24 rfl (lv_at hl 2 rfl) ?_
  refine lv_if_ne (tgt := 32) hx hb dL_refusesFor_25 (by decide) (fun _ => ?_) (fun c9 => absurd c9 (by decide))
  refine lv_bipush (v := 101) hx hb dL_refusesFor_32 (by decide) ?_
  refine cmV (rest := []) (As := [.int p, .int 101]) E (k_X3_pull l G A p 101 hI (y_pull1 S hw)) (cwV 2 hts gL_refusesFor_X3_pull rfl rfl rfl (by decide +kernel) ⟨Nat.le_of_ble_eq_true rfl, Nat.le_of_ble_eq_true rfl⟩) hK hP hD hS hA 42 rfl rfl rfl hl.1 rfl (Nat.le_of_ble_eq_true rfl) dL_refusesFor_34 ⟨Nat.le_of_ble_eq_true rfl, Nat.le_of_ble_eq_true rfl⟩ (fun H locs hP hD hS => ?_)
  refine lv_bipush (v := (-2)) hx hb dL_refusesFor_37 (by decide) ?_
  refine lv_icmp_ne (tgt := 138) hx hb dL_refusesFor_39 (by decide) (fun c9 => absurd c9 (by decide)) (fun _ => ?_)
  refine lv_aload_n hx hb dL_refusesFor_42 rfl (lv_at hl 0 rfl) ?_
  refine lv_iload_n hx hb dL_refusesFor_43 rfl (lv_at hl 1 rfl) ?_
  refine lv_iload_n hx hb dL_refusesFor_44 rfl (lv_at hl 2 rfl) ?_
  refine lv_if_ne (tgt := 52) hx hb dL_refusesFor_45 (by decide) (fun _ => ?_) (fun c9 => absurd c9 (by decide))
  refine lv_bipush (v := 7) hx hb dL_refusesFor_52 (by decide) ?_
  refine cpV (rest := []) (As := [.int p, .int 7]) E (k_X3_wire l G A S p 7 (y_wire1 S hw)) (cwV 2 hts gL_refusesFor_X3_wire rfl rfl rfl (by decide +kernel) ⟨Nat.le_of_ble_eq_true rfl, Nat.le_of_ble_eq_true rfl⟩) hK hP 42 rfl rfl rfl hl.1 rfl (Nat.le_of_ble_eq_true rfl) dL_refusesFor_54 ⟨Nat.le_of_ble_eq_true rfl, Nat.le_of_ble_eq_true rfl⟩ ?_
  refine lv_bipush (v := (-2)) hx hb dL_refusesFor_57 (by decide) ?_
  refine lv_icmp_ne (tgt := 138) hx hb dL_refusesFor_59 (by decide) (fun c9 => absurd c9 (by decide)) (fun _ => ?_)
  refine lv_aload_n hx hb dL_refusesFor_62 rfl (lv_at hl 0 rfl) ?_
  refine lv_iload_n hx hb dL_refusesFor_63 rfl (lv_at hl 1 rfl) ?_
  refine lv_iload_n hx hb dL_refusesFor_64 rfl (lv_at hl 2 rfl) ?_
  refine lv_if_ne (tgt := 72) hx hb dL_refusesFor_65 (by decide) (fun _ => ?_) (fun c9 => absurd c9 (by decide))
  refine lv_sipush (v := 201) hx hb dL_refusesFor_72 (by decide) ?_
  refine cpV (rest := []) (As := [.int p, .int 201]) E (k_X3_heightAt l G A S p 201 (y_heightAt1 S hw)) (cwV 2 hts gL_refusesFor_X3_heightAt rfl rfl rfl (by decide +kernel) ⟨Nat.le_of_ble_eq_true rfl, Nat.le_of_ble_eq_true rfl⟩) hK hP 42 rfl rfl rfl hl.1 rfl (Nat.le_of_ble_eq_true rfl) dL_refusesFor_75 ⟨Nat.le_of_ble_eq_true rfl, Nat.le_of_ble_eq_true rfl⟩ ?_
  refine lv_bipush (v := (-2)) hx hb dL_refusesFor_78 (by decide) ?_
  refine lv_icmp_ne (tgt := 138) hx hb dL_refusesFor_80 (by decide) (fun c9 => absurd c9 (by decide)) (fun _ => ?_)
  refine lv_aload_n hx hb dL_refusesFor_83 rfl (lv_at hl 0 rfl) ?_
  refine lv_iload_n hx hb dL_refusesFor_84 rfl (lv_at hl 1 rfl) ?_
  refine lv_iload_n hx hb dL_refusesFor_85 rfl (lv_at hl 1 rfl) ?_
  refine lv_iload_n hx hb dL_refusesFor_86 rfl (lv_at hl 2 rfl) ?_
  refine lv_if_ne (tgt := 94) hx hb dL_refusesFor_87 (by decide) (fun _ => ?_) (fun c9 => absurd c9 (by decide))
  refine lv_iconst (v := 3) hx hb dL_refusesFor_94 (by decide) ?_
  refine cpV (rest := []) (As := [.int p, .int p, .int 3]) E (k_X3_crossing l G A S p p 3 (y_crossing11 S hw)) (cwV 3 hts gL_refusesFor_X3_crossing rfl rfl rfl (by decide +kernel) ⟨Nat.le_of_ble_eq_true rfl, Nat.le_of_ble_eq_true rfl⟩) hK hP 42 rfl rfl rfl hl.1 rfl (Nat.le_of_ble_eq_true rfl) dL_refusesFor_95 ⟨Nat.le_of_ble_eq_true rfl, Nat.le_of_ble_eq_true rfl⟩ ?_
  refine lv_bipush (v := (-2)) hx hb dL_refusesFor_98 (by decide) ?_
  refine lv_icmp_ne (tgt := 138) hx hb dL_refusesFor_100 (by decide) (fun c9 => absurd c9 (by decide)) (fun _ => ?_)
  refine lv_aload_n hx hb dL_refusesFor_103 rfl (lv_at hl 0 rfl) ?_
  refine lv_iload_n hx hb dL_refusesFor_104 rfl (lv_at hl 1 rfl) ?_
  refine lv_iload_n hx hb dL_refusesFor_105 rfl (lv_at hl 1 rfl) ?_
  refine lv_iconst (v := 0) hx hb dL_refusesFor_106 (by decide) ?_
  refine cpV (rest := []) (As := [.int p, .int p, .int 0]) E (k_X3_crossing l G A S p p 0 (y_crossing2 S hw)) (cwV 3 hts gL_refusesFor_X3_crossing rfl rfl rfl (by decide +kernel) ⟨Nat.le_of_ble_eq_true rfl, Nat.le_of_ble_eq_true rfl⟩) hK hP 42 rfl rfl rfl hl.1 rfl (Nat.le_of_ble_eq_true rfl) dL_refusesFor_107 ⟨Nat.le_of_ble_eq_true rfl, Nat.le_of_ble_eq_true rfl⟩ ?_
  refine lv_bipush (v := (-5)) hx hb dL_refusesFor_110 (by decide) ?_
  refine lv_icmp_ne (tgt := 138) hx hb dL_refusesFor_112 (by decide) (fun c9 => absurd c9 (by decide)) (fun _ => ?_)
  refine lv_aload_n hx hb dL_refusesFor_115 rfl (lv_at hl 0 rfl) ?_
  refine lv_iload_n hx hb dL_refusesFor_116 rfl (lv_at hl 1 rfl) ?_
  refine lv_iload_n hx hb dL_refusesFor_117 rfl (lv_at hl 2 rfl) ?_
  refine lv_if_ne (tgt := 125) hx hb dL_refusesFor_118 (by decide) (fun _ => ?_) (fun c9 => absurd c9 (by decide))
  refine lv_iconst (v := 2) hx hb dL_refusesFor_125 (by decide) ?_
  refine cpV (rest := []) (As := [.int p, .int 2]) E (k_X3_bestHeight l G A S p 2 (y_bestHeight1 S hw)) (cwV 2 hts gL_refusesFor_X3_bestHeight rfl rfl rfl (by decide +kernel) ⟨Nat.le_of_ble_eq_true rfl, Nat.le_of_ble_eq_true rfl⟩) hK hP 42 rfl rfl rfl hl.1 rfl (Nat.le_of_ble_eq_true rfl) dL_refusesFor_126 ⟨Nat.le_of_ble_eq_true rfl, Nat.le_of_ble_eq_true rfl⟩ ?_
  refine lv_bipush (v := (-2)) hx hb dL_refusesFor_129 (by decide) ?_
  refine lv_icmp_ne (tgt := 138) hx hb dL_refusesFor_131 (by decide) (fun c9 => absurd c9 (by decide)) (fun _ => ?_)
  refine lv_iconst (v := 1) hx hb dL_refusesFor_134 (by decide) ?_
  refine lv_goto (tgt := 139) hx hb dL_refusesFor_135 (by decide) ?_
  exact endM hx hb hr hlocks rfl hP hD hS ⟨rfl, rfl⟩ dL_refusesFor_139
set_option maxHeartbeats 4000000 in
set_option maxRecDepth 100000 in
theorem c_L_refused (l : Launch) (G : GG) (A : Nat → Nat) {S : XS} (hI : Iv S) : Mm l yL_refused wsL_refused ({ frames := 8, cells := 0, slots := 0, locals := 190 } : Room) G [.ref (A 42)] (wX G A S (rot S)) 1 (wX G A S (rot S)) := by
  refine Mm.of (cc := cL_refused) (maxL := 6) (ret := some .boolean) (by decide) rfl (Nat.le_of_ble_eq_true rfl) ?_
  intro p e s m args below meth c A0 hA0 E hr hlocks hP hK hD hA hS ls hl
  have E : CallFix p m c cL_refused 6 s args wsL_refused RL := E
  have hx := E.1
  have hb := E.2.1
  have hml := E.2.2.1
  have hown := E.2.2.2.1
  have hts := E.2.2.2.2
  have hl : lv_has ls 6 [(0, .ref (A 42))] := hl
  refine lv_aload_n hx hb dL_refused_0 rfl (lv_at hl 0 rfl) ?_
  refine clS (rest := []) (As := [.ref (A 42)]) E (c_L_seen l G A S) (va_cwS 1 hts gL_refused_L_seen rfl rfl rfl (by decide +kernel) ⟨Nat.le_of_ble_eq_true rfl, Nat.le_of_ble_eq_true rfl⟩) hK hP rfl hl.1 rfl (Nat.le_of_ble_eq_true rfl) dL_refused_1 ⟨Nat.le_of_ble_eq_true rfl, Nat.le_of_ble_eq_true rfl⟩ ?_
  refine lv_lstore_n (lv' := [(1, .long (f_seen S)), (0, .ref (A 42))]) hx hb dL_refused_4 rfl hl (by decide) rfl (fun ls hl => ?_)
  refine lv_aload_n hx hb dL_refused_5 rfl (lv_at hl 1 rfl) ?_
  refine lv_bipush (v := 12) hx hb dL_refused_6 (by decide) ?_
  refine cpV (rest := []) (As := [.int 12]) E (k_X3_count l G A S 12 rfl) (cwV 1 hts gL_refused_X3_count rfl rfl rfl (by decide +kernel) ⟨Nat.le_of_ble_eq_true rfl, Nat.le_of_ble_eq_true rfl⟩) hK hP 42 rfl rfl rfl hl.1 rfl (Nat.le_of_ble_eq_true rfl) dL_refused_8 ⟨Nat.le_of_ble_eq_true rfl, Nat.le_of_ble_eq_true rfl⟩ ?_
  refine lv_istore_n (lv' := [(3, .int (f_X3_count S 12)), (1, .long (f_seen S)), (0, .ref (A 42))]) hx hb dL_refused_11 rfl hl (by decide) rfl (fun ls hl => ?_)
  refine lv_aload_n hx hb dL_refused_12 rfl (lv_at hl 2 rfl) ?_
  refine lv_bipush (v := 9) hx hb dL_refused_13 (by decide) ?_
  refine cpV (rest := []) (As := [.int 9]) E (k_X3_count l G A S 9 rfl) (cwV 1 hts gL_refused_X3_count rfl rfl rfl (by decide +kernel) ⟨Nat.le_of_ble_eq_true rfl, Nat.le_of_ble_eq_true rfl⟩) hK hP 42 rfl rfl rfl hl.1 rfl (Nat.le_of_ble_eq_true rfl) dL_refused_15 ⟨Nat.le_of_ble_eq_true rfl, Nat.le_of_ble_eq_true rfl⟩ ?_
  refine lv_istore (lv' := [(4, .int (f_X3_count S 9)), (3, .int (f_X3_count S 12)), (1, .long (f_seen S)), (0, .ref (A 42))]) hx hb dL_refused_18 hl (by decide) rfl (fun ls hl => ?_)
  refine lv_iload hx hb dL_refused_20 (lv_at hl 0 rfl) ?_
  refine lv_bipush (v := (-5)) hx hb dL_refused_22 (by decide) ?_
  refine lv_icmp_eq (tgt := 47) hx hb dL_refused_24 (by decide) (fun c1 => ?_) (fun c1 => ?_)
  · skip
    refine lv_iconst (v := 1) hx hb dL_refused_47 (by decide) ?_
    refine lv_goto (tgt := 52) hx hb dL_refused_48 (by decide) ?_
    refine lv_istore (lv' := [(5, .int 1), (4, .int (f_X3_count S 9)), (3, .int (f_X3_count S 12)), (1, .long (f_seen S)), (0, .ref (A 42))]) hx hb dL_refused_52 hl (by decide) rfl (fun ls hl => ?_)
    refine lv_iload hx hb dL_refused_54 (lv_at hl 0 rfl) ?_
    refine lv_if_eq (tgt := 98) hx hb dL_refused_56 (by decide) (fun c9 => absurd c9 (by decide)) (fun _ => ?_)
    refine lv_aload_n hx hb dL_refused_59 rfl (lv_at hl 4 rfl) ?_
    refine lv_iconst (v := 0) hx hb dL_refused_60 (by decide) ?_
    refine cmS (rest := []) (As := [.ref (A 42), .int 0]) E (c_L_refusesAny_0 l G A hI) (va_cwS 2 hts gL_refused_L_refusesAny rfl rfl rfl (by decide +kernel) ⟨Nat.le_of_ble_eq_true rfl, Nat.le_of_ble_eq_true rfl⟩) hK hP hD hS hA rfl hl.1 rfl (Nat.le_of_ble_eq_true rfl) dL_refused_61 ⟨Nat.le_of_ble_eq_true rfl, Nat.le_of_ble_eq_true rfl⟩ (fun H locs hP hD hS => ?_)
    refine lv_if_eq (tgt := 98) hx hb dL_refused_64 (by decide) (fun c9 => absurd c9 (by decide)) (fun _ => ?_)
    refine lv_aload_n hx hb dL_refused_67 rfl (lv_at hl 4 rfl) ?_
    refine lv_iconst (v := 1) hx hb dL_refused_68 (by decide) ?_
    refine cmS (rest := []) (As := [.ref (A 42), .int 1]) E (c_L_refusesAny_1 l G A hI) (va_cwS 2 hts gL_refused_L_refusesAny rfl rfl rfl (by decide +kernel) ⟨Nat.le_of_ble_eq_true rfl, Nat.le_of_ble_eq_true rfl⟩) hK hP hD hS hA rfl hl.1 rfl (Nat.le_of_ble_eq_true rfl) dL_refused_69 ⟨Nat.le_of_ble_eq_true rfl, Nat.le_of_ble_eq_true rfl⟩ (fun H locs hP hD hS => ?_)
    refine lv_if_eq (tgt := 98) hx hb dL_refused_72 (by decide) (fun c9 => absurd c9 (by decide)) (fun _ => ?_)
    refine lv_aload_n hx hb dL_refused_75 rfl (lv_at hl 4 rfl) ?_
    refine clS (rest := []) (As := [.ref (A 42)]) E (c_L_seen l G A S) (va_cwS 1 hts gL_refused_L_seen rfl rfl rfl (by decide +kernel) ⟨Nat.le_of_ble_eq_true rfl, Nat.le_of_ble_eq_true rfl⟩) hK hP rfl hl.1 rfl (Nat.le_of_ble_eq_true rfl) dL_refused_76 ⟨Nat.le_of_ble_eq_true rfl, Nat.le_of_ble_eq_true rfl⟩ ?_
    refine lv_lload_n hx hb dL_refused_79 rfl (lv_at hl 3 rfl) ?_
    refine W.lcmp hx hb dL_refused_80 ?_
    refine lv_if_ne (tgt := 98) hx hb dL_refused_81 (by decide) (fun c9 => absurd (cmp_self _) c9) (fun _ => ?_)
    refine lv_aload_n hx hb dL_refused_84 rfl (lv_at hl 4 rfl) ?_
    refine lv_bipush (v := 12) hx hb dL_refused_85 (by decide) ?_
    refine cpV (rest := []) (As := [.int 12]) E (k_X3_count l G A S 12 rfl) (cwV 1 hts gL_refused_X3_count rfl rfl rfl (by decide +kernel) ⟨Nat.le_of_ble_eq_true rfl, Nat.le_of_ble_eq_true rfl⟩) hK hP 42 rfl rfl rfl hl.1 rfl (Nat.le_of_ble_eq_true rfl) dL_refused_87 ⟨Nat.le_of_ble_eq_true rfl, Nat.le_of_ble_eq_true rfl⟩ ?_
    refine lv_iload_n hx hb dL_refused_90 rfl (lv_at hl 2 rfl) ?_
    refine lv_icmp_ne (tgt := 98) hx hb dL_refused_91 (by decide) (fun c9 => absurd rfl c9) (fun _ => ?_)
    refine lv_iconst (v := 1) hx hb dL_refused_94 (by decide) ?_
    refine lv_goto (tgt := 99) hx hb dL_refused_95 (by decide) ?_
    exact endM hx hb hr hlocks rfl hP hD hS ⟨rfl, rfl⟩ dL_refused_99
  · skip
    have hw : f_X0_hasWire S (f_X3_count S 9) = 1 := (weak_ok S).resolve_left c1
    refine lv_aload_n hx hb dL_refused_27 rfl (lv_at hl 3 rfl) ?_
    refine lv_iload hx hb dL_refused_28 (lv_at hl 0 rfl) ?_
    refine lv_iconst (v := 0) hx hb dL_refused_30 (by decide) ?_
    refine cmS (rest := []) (As := [.ref (A 42), .int (f_X3_count S 9), .int 0]) E (c_L_refusesFor_0 l G A hI hw) (va_cwS 3 hts gL_refused_L_refusesFor rfl rfl rfl (by decide +kernel) ⟨Nat.le_of_ble_eq_true rfl, Nat.le_of_ble_eq_true rfl⟩) hK hP hD hS hA rfl hl.1 rfl (Nat.le_of_ble_eq_true rfl) dL_refused_31 ⟨Nat.le_of_ble_eq_true rfl, Nat.le_of_ble_eq_true rfl⟩ (fun H locs hP hD hS => ?_)
    refine lv_if_eq (tgt := 51) hx hb dL_refused_34 (by decide) (fun c9 => absurd c9 (by decide)) (fun _ => ?_)
    refine lv_aload_n hx hb dL_refused_37 rfl (lv_at hl 3 rfl) ?_
    refine lv_iload hx hb dL_refused_38 (lv_at hl 0 rfl) ?_
    refine lv_iconst (v := 1) hx hb dL_refused_40 (by decide) ?_
    refine cmS (rest := []) (As := [.ref (A 42), .int (f_X3_count S 9), .int 1]) E (c_L_refusesFor_1 l G A hI hw) (va_cwS 3 hts gL_refused_L_refusesFor rfl rfl rfl (by decide +kernel) ⟨Nat.le_of_ble_eq_true rfl, Nat.le_of_ble_eq_true rfl⟩) hK hP hD hS hA rfl hl.1 rfl (Nat.le_of_ble_eq_true rfl) dL_refused_41 ⟨Nat.le_of_ble_eq_true rfl, Nat.le_of_ble_eq_true rfl⟩ (fun H locs hP hD hS => ?_)
    refine lv_if_eq (tgt := 51) hx hb dL_refused_44 (by decide) (fun c9 => absurd c9 (by decide)) (fun _ => ?_)
    refine lv_iconst (v := 1) hx hb dL_refused_47 (by decide) ?_
    refine lv_goto (tgt := 52) hx hb dL_refused_48 (by decide) ?_
    refine lv_istore (lv' := [(5, .int 1), (4, .int (f_X3_count S 9)), (3, .int (f_X3_count S 12)), (1, .long (f_seen S)), (0, .ref (A 42))]) hx hb dL_refused_52 hl (by decide) rfl (fun ls hl => ?_)
    refine lv_iload hx hb dL_refused_54 (lv_at hl 0 rfl) ?_
    refine lv_if_eq (tgt := 98) hx hb dL_refused_56 (by decide) (fun c9 => absurd c9 (by decide)) (fun _ => ?_)
    refine lv_aload_n hx hb dL_refused_59 rfl (lv_at hl 4 rfl) ?_
    refine lv_iconst (v := 0) hx hb dL_refused_60 (by decide) ?_
    refine cmS (rest := []) (As := [.ref (A 42), .int 0]) E (c_L_refusesAny_0 l G A hI) (va_cwS 2 hts gL_refused_L_refusesAny rfl rfl rfl (by decide +kernel) ⟨Nat.le_of_ble_eq_true rfl, Nat.le_of_ble_eq_true rfl⟩) hK hP hD hS hA rfl hl.1 rfl (Nat.le_of_ble_eq_true rfl) dL_refused_61 ⟨Nat.le_of_ble_eq_true rfl, Nat.le_of_ble_eq_true rfl⟩ (fun H locs hP hD hS => ?_)
    refine lv_if_eq (tgt := 98) hx hb dL_refused_64 (by decide) (fun c9 => absurd c9 (by decide)) (fun _ => ?_)
    refine lv_aload_n hx hb dL_refused_67 rfl (lv_at hl 4 rfl) ?_
    refine lv_iconst (v := 1) hx hb dL_refused_68 (by decide) ?_
    refine cmS (rest := []) (As := [.ref (A 42), .int 1]) E (c_L_refusesAny_1 l G A hI) (va_cwS 2 hts gL_refused_L_refusesAny rfl rfl rfl (by decide +kernel) ⟨Nat.le_of_ble_eq_true rfl, Nat.le_of_ble_eq_true rfl⟩) hK hP hD hS hA rfl hl.1 rfl (Nat.le_of_ble_eq_true rfl) dL_refused_69 ⟨Nat.le_of_ble_eq_true rfl, Nat.le_of_ble_eq_true rfl⟩ (fun H locs hP hD hS => ?_)
    refine lv_if_eq (tgt := 98) hx hb dL_refused_72 (by decide) (fun c9 => absurd c9 (by decide)) (fun _ => ?_)
    refine lv_aload_n hx hb dL_refused_75 rfl (lv_at hl 4 rfl) ?_
    refine clS (rest := []) (As := [.ref (A 42)]) E (c_L_seen l G A S) (va_cwS 1 hts gL_refused_L_seen rfl rfl rfl (by decide +kernel) ⟨Nat.le_of_ble_eq_true rfl, Nat.le_of_ble_eq_true rfl⟩) hK hP rfl hl.1 rfl (Nat.le_of_ble_eq_true rfl) dL_refused_76 ⟨Nat.le_of_ble_eq_true rfl, Nat.le_of_ble_eq_true rfl⟩ ?_
    refine lv_lload_n hx hb dL_refused_79 rfl (lv_at hl 3 rfl) ?_
    refine W.lcmp hx hb dL_refused_80 ?_
    refine lv_if_ne (tgt := 98) hx hb dL_refused_81 (by decide) (fun c9 => absurd (cmp_self _) c9) (fun _ => ?_)
    refine lv_aload_n hx hb dL_refused_84 rfl (lv_at hl 4 rfl) ?_
    refine lv_bipush (v := 12) hx hb dL_refused_85 (by decide) ?_
    refine cpV (rest := []) (As := [.int 12]) E (k_X3_count l G A S 12 rfl) (cwV 1 hts gL_refused_X3_count rfl rfl rfl (by decide +kernel) ⟨Nat.le_of_ble_eq_true rfl, Nat.le_of_ble_eq_true rfl⟩) hK hP 42 rfl rfl rfl hl.1 rfl (Nat.le_of_ble_eq_true rfl) dL_refused_87 ⟨Nat.le_of_ble_eq_true rfl, Nat.le_of_ble_eq_true rfl⟩ ?_
    refine lv_iload_n hx hb dL_refused_90 rfl (lv_at hl 2 rfl) ?_
    refine lv_icmp_ne (tgt := 98) hx hb dL_refused_91 (by decide) (fun c9 => absurd rfl c9) (fun _ => ?_)
    refine lv_iconst (v := 1) hx hb dL_refused_94 (by decide) ?_
    refine lv_goto (tgt := 99) hx hb dL_refused_95 (by decide) ?_
    exact endM hx hb hr hlocks rfl hP hD hS ⟨rfl, rfl⟩ dL_refused_99
