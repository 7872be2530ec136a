set_option maxHeartbeats 4000000 in
set_option maxRecDepth 100000 in
theorem law_lay {p : Program} {l : Launch} {e : Env} {s : State} {m : MethodId} {below : List Frame} {meth : Method} {c : Code} {b L0 : Nat} {xs : Nat → Int32} (C0 : lw_At p s m meth c b L0 xs) (hL : L0 ≤ 2048) {G : GG} {A B : Nat → Nat} {S : XS} {T : MS} {N i : Nat} {H : Heap} {locs : List Loc} {ls : Array Slot} (hN : N ≤ 800000) (hi : i + 4 ≤ L0) (hK : KN G s) (h : RS N S T) (hP : va_P G.1 vwCl (wX G A S (rot S) ++ wM G B T) H) (hD : va_D (fun q : Nat => s.heap.size ≤ q) (wX G A S (rot S) ++ wM G B T)) (hS : va_S (fun q : Nat => s.heap.size ≤ q) s.heap H locs) (hl : lv_has ls 4 [(0, .ref b), (1, .ref (A 42)), (2, .ref (B 0)), (3, .int (nI i))]) (kk : ∀ (S1 : XS) (T1 : MS) (H1 : Heap) (locs1 : List Loc), RS (N + 20) S1 T1 → va_P G.1 vwCl (wX G A S1 (rot S1) ++ wM G B T1) H1 → va_D (fun q : Nat => s.heap.size ≤ q) (wX G A S1 (rot S1) ++ wM G B T1) → va_S (fun q : Nat => s.heap.size ≤ q) s.heap H1 locs1 → W p l e room_1 s m #[Value.ref b] below meth c H1 locs1 57 1342 (lw_Z below #[Value.ref b] s) (F0 m 694 ls [])) : W p l e room_1 s m #[Value.ref b] below meth c H locs 57 1342 (lw_Z below #[Value.ref b] s) (F0 m 136 ls []) := by
  obtain ⟨hx, hb, hr, hml, hown, hts0, hX, hbl, hlocks, hgv⟩ := C0
  have hts : ∀ w ∈ wsL_law, w.before #[Value.ref b] s = true := fun w hw => hts0 w (wsL_law_in w hw)
  have hA : ∀ q : Nat, s.heap.size ≤ q → (fun q : Nat => s.heap.size ≤ q) q := fun _ h => h
  have hbA : ¬ (fun q : Nat => s.heap.size ≤ q) b := Nat.not_le.mpr hbl
  have E : CallFix p m c cL_law 4 s #[Value.ref b] wsL_law RL := ⟨hx, hb, hml, hown, hts⟩
  obtain ⟨q, q4, b1, b2, -⟩ := h.2.2.1
  obtain ⟨L, L8, x1, x2⟩ := h.2.2.2.1
  obtain ⟨wv, wb, -, w2⟩ := h.1.wear
  have hw : 0 ≤ (T 1 65).toInt := by rw [w2, nI_toInt (by omega)]; omega
  refine lv_aload_n hx hb dL_law_136 rfl (lv_at hl 1 rfl) ?_
  refine lv_aload_n hx hb dL_law_137 rfl (lv_at hl 0 rfl) ?_
  refine lv_iload_n hx hb dL_law_138 rfl (lv_at hl 3 rfl) ?_
  refine lv_iconst (v := 1) hx hb dL_law_139 (by decide) ?_
  refine lv_iadd hx hb dL_law_140 ?_
  refine va_sld hx hb hX hbl hbA hS (sc_in (j := 1) hi hL (by decide)) dL_law_141 ?_
  refine lv_aload_n hx hb dL_law_142 rfl (lv_at hl 0 rfl) ?_
  refine lv_iload_n hx hb dL_law_143 rfl (lv_at hl 3 rfl) ?_
  refine lv_iconst (v := 2) hx hb dL_law_144 (by decide) ?_
  refine lv_iadd hx hb dL_law_145 ?_
  refine va_sld hx hb hX hbl hbA hS (sc_in (j := 2) hi hL (by decide)) dL_law_146 ?_
  refine lv_aload_n hx hb dL_law_147 rfl (lv_at hl 0 rfl) ?_
  refine lv_iload_n hx hb dL_law_148 rfl (lv_at hl 3 rfl) ?_
  refine lv_iconst (v := 3) hx hb dL_law_149 (by decide) ?_
  refine lv_iadd hx hb dL_law_150 ?_
  refine va_sld hx hb hX hbl hbA hS (sc_in (j := 3) hi hL (by decide)) dL_law_151 ?_
  refine lwXm (rest := []) (As := [.int (xs ((nI i) + 1).toNatClampNeg), .int (xs ((nI i) + 2).toNatClampNeg), .int (xs ((nI i) + 3).toNatClampNeg)]) E (c_X3_lay l G A S (xs ((nI i) + 1).toNatClampNeg) (xs ((nI i) + 2).toNatClampNeg) (xs ((nI i) + 3).toNatClampNeg) q b1 q4 h.bits) (cwV 3 hts gL_law_X3_lay rfl rfl rfl (by decide +kernel) ⟨Nat.le_of_ble_eq_true rfl, Nat.le_of_ble_eq_true rfl⟩) hK hP hD hS hA rfl hl.1 rfl (Nat.le_of_ble_eq_true rfl) dL_law_152 ⟨Nat.le_of_ble_eq_true rfl, Nat.le_of_ble_eq_true rfl⟩ (fun H locs hP hD hS => ?_)
  refine lv_aload_n hx hb dL_law_155 rfl (lv_at hl 2 rfl) ?_
  refine lv_aload_n hx hb dL_law_156 rfl (lv_at hl 0 rfl) ?_
  refine lv_iload_n hx hb dL_law_157 rfl (lv_at hl 3 rfl) ?_
  refine lv_iconst (v := 1) hx hb dL_law_158 (by decide) ?_
  refine lv_iadd hx hb dL_law_159 ?_
  refine va_sld hx hb hX hbl hbA hS (sc_in (j := 1) hi hL (by decide)) dL_law_160 ?_
  refine lv_aload_n hx hb dL_law_161 rfl (lv_at hl 0 rfl) ?_
  refine lv_iload_n hx hb dL_law_162 rfl (lv_at hl 3 rfl) ?_
  refine lv_iconst (v := 2) hx hb dL_law_163 (by decide) ?_
  refine lv_iadd hx hb dL_law_164 ?_
  refine va_sld hx hb hX hbl hbA hS (sc_in (j := 2) hi hL (by decide)) dL_law_165 ?_
  refine lv_aload_n hx hb dL_law_166 rfl (lv_at hl 0 rfl) ?_
  refine lv_iload_n hx hb dL_law_167 rfl (lv_at hl 3 rfl) ?_
  refine lv_iconst (v := 3) hx hb dL_law_168 (by decide) ?_
  refine lv_iadd hx hb dL_law_169 ?_
  refine va_sld hx hb hX hbl hbA hS (sc_in (j := 3) hi hL (by decide)) dL_law_170 ?_
  refine lwMm (rest := [.int (f_X3_lay S (xs ((nI i) + 1).toNatClampNeg) (xs ((nI i) + 2).toNatClampNeg) (xs ((nI i) + 3).toNatClampNeg)).1]) (As := [.int (xs ((nI i) + 1).toNatClampNeg), .int (xs ((nI i) + 2).toNatClampNeg), .int (xs ((nI i) + 3).toNatClampNeg)]) E (c_X4_lay l G B T (xs ((nI i) + 1).toNatClampNeg) (xs ((nI i) + 2).toNatClampNeg) (xs ((nI i) + 3).toNatClampNeg) q b2 q4) (cwV 3 hts gL_law_X4_lay rfl rfl rfl (by decide +kernel) ⟨Nat.le_of_ble_eq_true rfl, Nat.le_of_ble_eq_true rfl⟩) hK hP hD hS hA rfl hl.1 rfl (Nat.le_of_ble_eq_true rfl) dL_law_171 ⟨Nat.le_of_ble_eq_true rfl, Nat.le_of_ble_eq_true rfl⟩ (fun H locs hP hD hS => ?_)
  have heq := a_lay h (by omega) (xs ((nI i) + 1).toNatClampNeg) (xs ((nI i) + 2).toNatClampNeg) (xs ((nI i) + 3).toNatClampNeg)
  refine lv_icmp_eq (tgt := 694) hx hb dL_law_174 (by decide) (fun _ => ?_) (fun c9 => absurd heq.1 c9)
  exact kk _ _ H locs (heq.2.mono (by omega)) hP hD hS
set_option maxHeartbeats 4000000 in
set_option maxRecDepth 100000 in
theorem law_layAll {p : Program} {l : Launch} {e : Env} {s : State} {m : MethodId} {below : List Frame} {meth : Method} {c : Code} {b L0 : Nat} {xs : Nat → Int32} (C0 : lw_At p s m meth c b L0 xs) (hL : L0 ≤ 2048) {G : GG} {A B : Nat → Nat} {S : XS} {T : MS} {N i : Nat} {H : Heap} {locs : List Loc} {ls : Array Slot} (hN : N ≤ 800000) (hi : i + 4 ≤ L0) (hK : KN G s) (h : RS N S T) (hP : va_P G.1 vwCl (wX G A S (rot S) ++ wM G B T) H) (hD : va_D (fun q : Nat => s.heap.size ≤ q) (wX G A S (rot S) ++ wM G B T)) (hS : va_S (fun q : Nat => s.heap.size ≤ q) s.heap H locs) (hl : lv_has ls 4 [(0, .ref b), (1, .ref (A 42)), (2, .ref (B 0)), (3, .int (nI i))]) (kk : ∀ (S1 : XS) (T1 : MS) (H1 : Heap) (locs1 : List Loc), RS (N + 20) S1 T1 → va_P G.1 vwCl (wX G A S1 (rot S1) ++ wM G B T1) H1 → va_D (fun q : Nat => s.heap.size ≤ q) (wX G A S1 (rot S1) ++ wM G B T1) → va_S (fun q : Nat => s.heap.size ≤ q) s.heap H1 locs1 → W p l e room_1 s m #[Value.ref b] below meth c H1 locs1 57 1342 (lw_Z below #[Value.ref b] s) (F0 m 694 ls [])) : W p l e room_1 s m #[Value.ref b] below meth c H locs 57 1342 (lw_Z below #[Value.ref b] s) (F0 m 179 ls []) := by
  obtain ⟨hx, hb, hr, hml, hown, hts0, hX, hbl, hlocks, hgv⟩ := C0
  have hts : ∀ w ∈ wsL_law, w.before #[Value.ref b] s = true := fun w hw => hts0 w (wsL_law_in w hw)
  have hA : ∀ q : Nat, s.heap.size ≤ q → (fun q : Nat => s.heap.size ≤ q) q := fun _ h => h
  have hbA : ¬ (fun q : Nat => s.heap.size ≤ q) b := Nat.not_le.mpr hbl
  have E : CallFix p m c cL_law 4 s #[Value.ref b] wsL_law RL := ⟨hx, hb, hml, hown, hts⟩
  obtain ⟨q, q4, b1, b2, -⟩ := h.2.2.1
  obtain ⟨L, L8, x1, x2⟩ := h.2.2.2.1
  obtain ⟨wv, wb, -, w2⟩ := h.1.wear
  have hw : 0 ≤ (T 1 65).toInt := by rw [w2, nI_toInt (by omega)]; omega
  refine lv_aload_n hx hb dL_law_179 rfl (lv_at hl 1 rfl) ?_
  refine lwXm (rest := []) (As := []) E (c_X3_layAll l G A S q b1 q4 h.bits) (cwV 0 hts gL_law_X3_layAll rfl rfl rfl (by decide +kernel) ⟨Nat.le_of_ble_eq_true rfl, Nat.le_of_ble_eq_true rfl⟩) hK hP hD hS hA rfl hl.1 rfl (Nat.le_of_ble_eq_true rfl) dL_law_180 ⟨Nat.le_of_ble_eq_true rfl, Nat.le_of_ble_eq_true rfl⟩ (fun H locs hP hD hS => ?_)
  refine lv_aload_n hx hb dL_law_183 rfl (lv_at hl 2 rfl) ?_
  refine lwMm (rest := [.int (f_X3_layAll S).1]) (As := []) E (c_X4_layAll l G B T q b2 q4 L x2 L8) (cwV 0 hts gL_law_X4_layAll rfl rfl rfl (by decide +kernel) ⟨Nat.le_of_ble_eq_true rfl, Nat.le_of_ble_eq_true rfl⟩) hK hP hD hS hA rfl hl.1 rfl (Nat.le_of_ble_eq_true rfl) dL_law_184 ⟨Nat.le_of_ble_eq_true rfl, Nat.le_of_ble_eq_true rfl⟩ (fun H locs hP hD hS => ?_)
  have heq := a_layAll h (by omega)
  refine lv_icmp_eq (tgt := 694) hx hb dL_law_187 (by decide) (fun _ => ?_) (fun c9 => absurd heq.1 c9)
  exact kk _ _ H locs (heq.2.mono (by omega)) hP hD hS
set_option maxHeartbeats 4000000 in
set_option maxRecDepth 100000 in
theorem law_takeOff {p : Program} {l : Launch} {e : Env} {s : State} {m : MethodId} {below : List Frame} {meth : Method} {c : Code} {b L0 : Nat} {xs : Nat → Int32} (C0 : lw_At p s m meth c b L0 xs) (hL : L0 ≤ 2048) {G : GG} {A B : Nat → Nat} {S : XS} {T : MS} {N i : Nat} {H : Heap} {locs : List Loc} {ls : Array Slot} (hN : N ≤ 800000) (hi : i + 4 ≤ L0) (hK : KN G s) (h : RS N S T) (hP : va_P G.1 vwCl (wX G A S (rot S) ++ wM G B T) H) (hD : va_D (fun q : Nat => s.heap.size ≤ q) (wX G A S (rot S) ++ wM G B T)) (hS : va_S (fun q : Nat => s.heap.size ≤ q) s.heap H locs) (hl : lv_has ls 4 [(0, .ref b), (1, .ref (A 42)), (2, .ref (B 0)), (3, .int (nI i))]) (kk : ∀ (S1 : XS) (T1 : MS) (H1 : Heap) (locs1 : List Loc), RS (N + 20) S1 T1 → va_P G.1 vwCl (wX G A S1 (rot S1) ++ wM G B T1) H1 → va_D (fun q : Nat => s.heap.size ≤ q) (wX G A S1 (rot S1) ++ wM G B T1) → va_S (fun q : Nat => s.heap.size ≤ q) s.heap H1 locs1 → W p l e room_1 s m #[Value.ref b] below meth c H1 locs1 57 1342 (lw_Z below #[Value.ref b] s) (F0 m 694 ls [])) : W p l e room_1 s m #[Value.ref b] below meth c H locs 57 1342 (lw_Z below #[Value.ref b] s) (F0 m 192 ls []) := by
  obtain ⟨hx, hb, hr, hml, hown, hts0, hX, hbl, hlocks, hgv⟩ := C0
  have hts : ∀ w ∈ wsL_law, w.before #[Value.ref b] s = true := fun w hw => hts0 w (wsL_law_in w hw)
  have hA : ∀ q : Nat, s.heap.size ≤ q → (fun q : Nat => s.heap.size ≤ q) q := fun _ h => h
  have hbA : ¬ (fun q : Nat => s.heap.size ≤ q) b := Nat.not_le.mpr hbl
  have E : CallFix p m c cL_law 4 s #[Value.ref b] wsL_law RL := ⟨hx, hb, hml, hown, hts⟩
  obtain ⟨q, q4, b1, b2, -⟩ := h.2.2.1
  obtain ⟨L, L8, x1, x2⟩ := h.2.2.2.1
  obtain ⟨wv, wb, -, w2⟩ := h.1.wear
  have hw : 0 ≤ (T 1 65).toInt := by rw [w2, nI_toInt (by omega)]; omega
  refine lv_aload_n hx hb dL_law_192 rfl (lv_at hl 1 rfl) ?_
  refine lv_aload_n hx hb dL_law_193 rfl (lv_at hl 0 rfl) ?_
  refine lv_iload_n hx hb dL_law_194 rfl (lv_at hl 3 rfl) ?_
  refine lv_iconst (v := 1) hx hb dL_law_195 (by decide) ?_
  refine lv_iadd hx hb dL_law_196 ?_
  refine va_sld hx hb hX hbl hbA hS (sc_in (j := 1) hi hL (by decide)) dL_law_197 ?_
  refine lwXm (rest := []) (As := [.int (xs ((nI i) + 1).toNatClampNeg)]) E (c_X3_takeOff l G A S (xs ((nI i) + 1).toNatClampNeg) q b1 q4 h.bits) (cwV 1 hts gL_law_X3_takeOff rfl rfl rfl (by decide +kernel) ⟨Nat.le_of_ble_eq_true rfl, Nat.le_of_ble_eq_true rfl⟩) hK hP hD hS hA rfl hl.1 rfl (Nat.le_of_ble_eq_true rfl) dL_law_198 ⟨Nat.le_of_ble_eq_true rfl, Nat.le_of_ble_eq_true rfl⟩ (fun H locs hP hD hS => ?_)
  refine lv_aload_n hx hb dL_law_201 rfl (lv_at hl 2 rfl) ?_
  refine lv_aload_n hx hb dL_law_202 rfl (lv_at hl 0 rfl) ?_
  refine lv_iload_n hx hb dL_law_203 rfl (lv_at hl 3 rfl) ?_
  refine lv_iconst (v := 1) hx hb dL_law_204 (by decide) ?_
  refine lv_iadd hx hb dL_law_205 ?_
  refine va_sld hx hb hX hbl hbA hS (sc_in (j := 1) hi hL (by decide)) dL_law_206 ?_
  refine lwMm (rest := [.int (f_X3_takeOff S (xs ((nI i) + 1).toNatClampNeg)).1]) (As := [.int (xs ((nI i) + 1).toNatClampNeg)]) E (c_X4_takeOff l G B T (xs ((nI i) + 1).toNatClampNeg) q b2 q4) (cwV 1 hts gL_law_X4_takeOff rfl rfl rfl (by decide +kernel) ⟨Nat.le_of_ble_eq_true rfl, Nat.le_of_ble_eq_true rfl⟩) hK hP hD hS hA rfl hl.1 rfl (Nat.le_of_ble_eq_true rfl) dL_law_207 ⟨Nat.le_of_ble_eq_true rfl, Nat.le_of_ble_eq_true rfl⟩ (fun H locs hP hD hS => ?_)
  have heq := a_takeOff h (xs ((nI i) + 1).toNatClampNeg)
  refine lv_icmp_eq (tgt := 694) hx hb dL_law_210 (by decide) (fun _ => ?_) (fun c9 => absurd heq.1 c9)
  exact kk _ _ H locs (heq.2.mono (by omega)) hP hD hS
set_option maxHeartbeats 4000000 in
set_option maxRecDepth 100000 in
theorem law_bend {p : Program} {l : Launch} {e : Env} {s : State} {m : MethodId} {below : List Frame} {meth : Method} {c : Code} {b L0 : Nat} {xs : Nat → Int32} (C0 : lw_At p s m meth c b L0 xs) (hL : L0 ≤ 2048) {G : GG} {A B : Nat → Nat} {S : XS} {T : MS} {N i : Nat} {H : Heap} {locs : List Loc} {ls : Array Slot} (hN : N ≤ 800000) (hi : i + 4 ≤ L0) (hK : KN G s) (h : RS N S T) (hP : va_P G.1 vwCl (wX G A S (rot S) ++ wM G B T) H) (hD : va_D (fun q : Nat => s.heap.size ≤ q) (wX G A S (rot S) ++ wM G B T)) (hS : va_S (fun q : Nat => s.heap.size ≤ q) s.heap H locs) (hl : lv_has ls 4 [(0, .ref b), (1, .ref (A 42)), (2, .ref (B 0)), (3, .int (nI i))]) (kk : ∀ (S1 : XS) (T1 : MS) (H1 : Heap) (locs1 : List Loc), RS (N + 20) S1 T1 → va_P G.1 vwCl (wX G A S1 (rot S1) ++ wM G B T1) H1 → va_D (fun q : Nat => s.heap.size ≤ q) (wX G A S1 (rot S1) ++ wM G B T1) → va_S (fun q : Nat => s.heap.size ≤ q) s.heap H1 locs1 → W p l e room_1 s m #[Value.ref b] below meth c H1 locs1 57 1342 (lw_Z below #[Value.ref b] s) (F0 m 694 ls [])) : W p l e room_1 s m #[Value.ref b] below meth c H locs 57 1342 (lw_Z below #[Value.ref b] s) (F0 m 215 ls []) := by
  obtain ⟨hx, hb, hr, hml, hown, hts0, hX, hbl, hlocks, hgv⟩ := C0
  have hts : ∀ w ∈ wsL_law, w.before #[Value.ref b] s = true := fun w hw => hts0 w (wsL_law_in w hw)
  have hA : ∀ q : Nat, s.heap.size ≤ q → (fun q : Nat => s.heap.size ≤ q) q := fun _ h => h
  have hbA : ¬ (fun q : Nat => s.heap.size ≤ q) b := Nat.not_le.mpr hbl
  have E : CallFix p m c cL_law 4 s #[Value.ref b] wsL_law RL := ⟨hx, hb, hml, hown, hts⟩
  obtain ⟨q, q4, b1, b2, -⟩ := h.2.2.1
  obtain ⟨L, L8, x1, x2⟩ := h.2.2.2.1
  obtain ⟨wv, wb, -, w2⟩ := h.1.wear
  have hw : 0 ≤ (T 1 65).toInt := by rw [w2, nI_toInt (by omega)]; omega
  refine lv_aload_n hx hb dL_law_215 rfl (lv_at hl 1 rfl) ?_
  refine lv_aload_n hx hb dL_law_216 rfl (lv_at hl 0 rfl) ?_
  refine lv_iload_n hx hb dL_law_217 rfl (lv_at hl 3 rfl) ?_
  refine lv_iconst (v := 1) hx hb dL_law_218 (by decide) ?_
  refine lv_iadd hx hb dL_law_219 ?_
  refine va_sld hx hb hX hbl hbA hS (sc_in (j := 1) hi hL (by decide)) dL_law_220 ?_
  refine lv_aload_n hx hb dL_law_221 rfl (lv_at hl 0 rfl) ?_
  refine lv_iload_n hx hb dL_law_222 rfl (lv_at hl 3 rfl) ?_
  refine lv_iconst (v := 2) hx hb dL_law_223 (by decide) ?_
  refine lv_iadd hx hb dL_law_224 ?_
  refine va_sld hx hb hX hbl hbA hS (sc_in (j := 2) hi hL (by decide)) dL_law_225 ?_
  refine lwXm (rest := []) (As := [.int (xs ((nI i) + 1).toNatClampNeg), .int (xs ((nI i) + 2).toNatClampNeg)]) E (c_X3_bend l G A S (xs ((nI i) + 1).toNatClampNeg) (xs ((nI i) + 2).toNatClampNeg) q b1 q4 h.bits) (cwV 2 hts gL_law_X3_bend rfl rfl rfl (by decide +kernel) ⟨Nat.le_of_ble_eq_true rfl, Nat.le_of_ble_eq_true rfl⟩) hK hP hD hS hA rfl hl.1 rfl (Nat.le_of_ble_eq_true rfl) dL_law_226 ⟨Nat.le_of_ble_eq_true rfl, Nat.le_of_ble_eq_true rfl⟩ (fun H locs hP hD hS => ?_)
  refine lv_aload_n hx hb dL_law_229 rfl (lv_at hl 2 rfl) ?_
  refine lv_aload_n hx hb dL_law_230 rfl (lv_at hl 0 rfl) ?_
  refine lv_iload_n hx hb dL_law_231 rfl (lv_at hl 3 rfl) ?_
  refine lv_iconst (v := 1) hx hb dL_law_232 (by decide) ?_
  refine lv_iadd hx hb dL_law_233 ?_
  refine va_sld hx hb hX hbl hbA hS (sc_in (j := 1) hi hL (by decide)) dL_law_234 ?_
  refine lv_aload_n hx hb dL_law_235 rfl (lv_at hl 0 rfl) ?_
  refine lv_iload_n hx hb dL_law_236 rfl (lv_at hl 3 rfl) ?_
  refine lv_iconst (v := 2) hx hb dL_law_237 (by decide) ?_
  refine lv_iadd hx hb dL_law_238 ?_
  refine va_sld hx hb hX hbl hbA hS (sc_in (j := 2) hi hL (by decide)) dL_law_239 ?_
  refine lwMm (rest := [.int (f_X3_bend S (xs ((nI i) + 1).toNatClampNeg) (xs ((nI i) + 2).toNatClampNeg)).1]) (As := [.int (xs ((nI i) + 1).toNatClampNeg), .int (xs ((nI i) + 2).toNatClampNeg)]) E (c_X4_bend l G B T (xs ((nI i) + 1).toNatClampNeg) (xs ((nI i) + 2).toNatClampNeg) q b2 q4) (cwV 2 hts gL_law_X4_bend rfl rfl rfl (by decide +kernel) ⟨Nat.le_of_ble_eq_true rfl, Nat.le_of_ble_eq_true rfl⟩) hK hP hD hS hA rfl hl.1 rfl (Nat.le_of_ble_eq_true rfl) dL_law_240 ⟨Nat.le_of_ble_eq_true rfl, Nat.le_of_ble_eq_true rfl⟩ (fun H locs hP hD hS => ?_)
  have heq := a_bend h (xs ((nI i) + 1).toNatClampNeg) (xs ((nI i) + 2).toNatClampNeg)
  refine lv_icmp_eq (tgt := 694) hx hb dL_law_243 (by decide) (fun _ => ?_) (fun c9 => absurd heq.1 c9)
  exact kk _ _ H locs (heq.2.mono (by omega)) hP hD hS
set_option maxHeartbeats 4000000 in
set_option maxRecDepth 100000 in
theorem law_moveLead {p : Program} {l : Launch} {e : Env} {s : State} {m : MethodId} {below : List Frame} {meth : Method} {c : Code} {b L0 : Nat} {xs : Nat → Int32} (C0 : lw_At p s m meth c b L0 xs) (hL : L0 ≤ 2048) {G : GG} {A B : Nat → Nat} {S : XS} {T : MS} {N i : Nat} {H : Heap} {locs : List Loc} {ls : Array Slot} (hN : N ≤ 800000) (hi : i + 4 ≤ L0) (hK : KN G s) (h : RS N S T) (hP : va_P G.1 vwCl (wX G A S (rot S) ++ wM G B T) H) (hD : va_D (fun q : Nat => s.heap.size ≤ q) (wX G A S (rot S) ++ wM G B T)) (hS : va_S (fun q : Nat => s.heap.size ≤ q) s.heap H locs) (hl : lv_has ls 4 [(0, .ref b), (1, .ref (A 42)), (2, .ref (B 0)), (3, .int (nI i))]) (kk : ∀ (S1 : XS) (T1 : MS) (H1 : Heap) (locs1 : List Loc), RS (N + 20) S1 T1 → va_P G.1 vwCl (wX G A S1 (rot S1) ++ wM G B T1) H1 → va_D (fun q : Nat => s.heap.size ≤ q) (wX G A S1 (rot S1) ++ wM G B T1) → va_S (fun q : Nat => s.heap.size ≤ q) s.heap H1 locs1 → W p l e room_1 s m #[Value.ref b] below meth c H1 locs1 57 1342 (lw_Z below #[Value.ref b] s) (F0 m 694 ls [])) : W p l e room_1 s m #[Value.ref b] below meth c H locs 57 1342 (lw_Z below #[Value.ref b] s) (F0 m 248 ls []) := by
  obtain ⟨hx, hb, hr, hml, hown, hts0, hX, hbl, hlocks, hgv⟩ := C0
  have hts : ∀ w ∈ wsL_law, w.before #[Value.ref b] s = true := fun w hw => hts0 w (wsL_law_in w hw)
  have hA : ∀ q : Nat, s.heap.size ≤ q → (fun q : Nat => s.heap.size ≤ q) q := fun _ h => h
  have hbA : ¬ (fun q : Nat => s.heap.size ≤ q) b := Nat.not_le.mpr hbl
  have E : CallFix p m c cL_law 4 s #[Value.ref b] wsL_law RL := ⟨hx, hb, hml, hown, hts⟩
  obtain ⟨q, q4, b1, b2, -⟩ := h.2.2.1
  obtain ⟨L, L8, x1, x2⟩ := h.2.2.2.1
  obtain ⟨wv, wb, -, w2⟩ := h.1.wear
  have hw : 0 ≤ (T 1 65).toInt := by rw [w2, nI_toInt (by omega)]; omega
  refine lv_aload_n hx hb dL_law_248 rfl (lv_at hl 1 rfl) ?_
  refine lv_aload_n hx hb dL_law_249 rfl (lv_at hl 0 rfl) ?_
  refine lv_iload_n hx hb dL_law_250 rfl (lv_at hl 3 rfl) ?_
  refine lv_iconst (v := 1) hx hb dL_law_251 (by decide) ?_
  refine lv_iadd hx hb dL_law_252 ?_
  refine va_sld hx hb hX hbl hbA hS (sc_in (j := 1) hi hL (by decide)) dL_law_253 ?_
  refine lv_aload_n hx hb dL_law_254 rfl (lv_at hl 0 rfl) ?_
  refine lv_iload_n hx hb dL_law_255 rfl (lv_at hl 3 rfl) ?_
  refine lv_iconst (v := 2) hx hb dL_law_256 (by decide) ?_
  refine lv_iadd hx hb dL_law_257 ?_
  refine va_sld hx hb hX hbl hbA hS (sc_in (j := 2) hi hL (by decide)) dL_law_258 ?_
  refine lwXm (rest := []) (As := [.int (xs ((nI i) + 1).toNatClampNeg), .int (xs ((nI i) + 2).toNatClampNeg)]) E (c_X3_moveLead l G A S (xs ((nI i) + 1).toNatClampNeg) (xs ((nI i) + 2).toNatClampNeg) q b1 q4 h.bits) (cwV 2 hts gL_law_X3_moveLead rfl rfl rfl (by decide +kernel) ⟨Nat.le_of_ble_eq_true rfl, Nat.le_of_ble_eq_true rfl⟩) hK hP hD hS hA rfl hl.1 rfl (Nat.le_of_ble_eq_true rfl) dL_law_259 ⟨Nat.le_of_ble_eq_true rfl, Nat.le_of_ble_eq_true rfl⟩ (fun H locs hP hD hS => ?_)
  refine lv_aload_n hx hb dL_law_262 rfl (lv_at hl 2 rfl) ?_
  refine lv_aload_n hx hb dL_law_263 rfl (lv_at hl 0 rfl) ?_
  refine lv_iload_n hx hb dL_law_264 rfl (lv_at hl 3 rfl) ?_
  refine lv_iconst (v := 1) hx hb dL_law_265 (by decide) ?_
  refine lv_iadd hx hb dL_law_266 ?_
  refine va_sld hx hb hX hbl hbA hS (sc_in (j := 1) hi hL (by decide)) dL_law_267 ?_
  refine lv_aload_n hx hb dL_law_268 rfl (lv_at hl 0 rfl) ?_
  refine lv_iload_n hx hb dL_law_269 rfl (lv_at hl 3 rfl) ?_
  refine lv_iconst (v := 2) hx hb dL_law_270 (by decide) ?_
  refine lv_iadd hx hb dL_law_271 ?_
  refine va_sld hx hb hX hbl hbA hS (sc_in (j := 2) hi hL (by decide)) dL_law_272 ?_
  refine lwMm (rest := [.int (f_X3_moveLead S (xs ((nI i) + 1).toNatClampNeg) (xs ((nI i) + 2).toNatClampNeg)).1]) (As := [.int (xs ((nI i) + 1).toNatClampNeg), .int (xs ((nI i) + 2).toNatClampNeg)]) E (c_X4_moveLead l G B T (xs ((nI i) + 1).toNatClampNeg) (xs ((nI i) + 2).toNatClampNeg) q b2 q4) (cwV 2 hts gL_law_X4_moveLead rfl rfl rfl (by decide +kernel) ⟨Nat.le_of_ble_eq_true rfl, Nat.le_of_ble_eq_true rfl⟩) hK hP hD hS hA rfl hl.1 rfl (Nat.le_of_ble_eq_true rfl) dL_law_273 ⟨Nat.le_of_ble_eq_true rfl, Nat.le_of_ble_eq_true rfl⟩ (fun H locs hP hD hS => ?_)
  have heq := a_moveLead h (xs ((nI i) + 1).toNatClampNeg) (xs ((nI i) + 2).toNatClampNeg)
  refine lv_icmp_eq (tgt := 694) hx hb dL_law_276 (by decide) (fun _ => ?_) (fun c9 => absurd heq.1 c9)
  exact kk _ _ H locs (heq.2.mono (by omega)) hP hD hS
set_option maxHeartbeats 4000000 in
set_option maxRecDepth 100000 in
theorem law_setWidth {p : Program} {l : Launch} {e : Env} {s : State} {m : MethodId} {below : List Frame} {meth : Method} {c : Code} {b L0 : Nat} {xs : Nat → Int32} (C0 : lw_At p s m meth c b L0 xs) (hL : L0 ≤ 2048) {G : GG} {A B : Nat → Nat} {S : XS} {T : MS} {N i : Nat} {H : Heap} {locs : List Loc} {ls : Array Slot} (hN : N ≤ 800000) (hi : i + 4 ≤ L0) (hK : KN G s) (h : RS N S T) (hP : va_P G.1 vwCl (wX G A S (rot S) ++ wM G B T) H) (hD : va_D (fun q : Nat => s.heap.size ≤ q) (wX G A S (rot S) ++ wM G B T)) (hS : va_S (fun q : Nat => s.heap.size ≤ q) s.heap H locs) (hl : lv_has ls 4 [(0, .ref b), (1, .ref (A 42)), (2, .ref (B 0)), (3, .int (nI i))]) (kk : ∀ (S1 : XS) (T1 : MS) (H1 : Heap) (locs1 : List Loc), RS (N + 20) S1 T1 → va_P G.1 vwCl (wX G A S1 (rot S1) ++ wM G B T1) H1 → va_D (fun q : Nat => s.heap.size ≤ q) (wX G A S1 (rot S1) ++ wM G B T1) → va_S (fun q : Nat => s.heap.size ≤ q) s.heap H1 locs1 → W p l e room_1 s m #[Value.ref b] below meth c H1 locs1 57 1342 (lw_Z below #[Value.ref b] s) (F0 m 694 ls [])) : W p l e room_1 s m #[Value.ref b] below meth c H locs 57 1342 (lw_Z below #[Value.ref b] s) (F0 m 281 ls []) := by
  obtain ⟨hx, hb, hr, hml, hown, hts0, hX, hbl, hlocks, hgv⟩ := C0
  have hts : ∀ w ∈ wsL_law, w.before #[Value.ref b] s = true := fun w hw => hts0 w (wsL_law_in w hw)
  have hA : ∀ q : Nat, s.heap.size ≤ q → (fun q : Nat => s.heap.size ≤ q) q := fun _ h => h
  have hbA : ¬ (fun q : Nat => s.heap.size ≤ q) b := Nat.not_le.mpr hbl
  have E : CallFix p m c cL_law 4 s #[Value.ref b] wsL_law RL := ⟨hx, hb, hml, hown, hts⟩
  obtain ⟨q, q4, b1, b2, -⟩ := h.2.2.1
  obtain ⟨L, L8, x1, x2⟩ := h.2.2.2.1
  obtain ⟨wv, wb, -, w2⟩ := h.1.wear
  have hw : 0 ≤ (T 1 65).toInt := by rw [w2, nI_toInt (by omega)]; omega
  refine lv_aload_n hx hb dL_law_281 rfl (lv_at hl 1 rfl) ?_
  refine lv_aload_n hx hb dL_law_282 rfl (lv_at hl 0 rfl) ?_
  refine lv_iload_n hx hb dL_law_283 rfl (lv_at hl 3 rfl) ?_
  refine lv_iconst (v := 1) hx hb dL_law_284 (by decide) ?_
  refine lv_iadd hx hb dL_law_285 ?_
  refine va_sld hx hb hX hbl hbA hS (sc_in (j := 1) hi hL (by decide)) dL_law_286 ?_
  refine lwXm (rest := []) (As := [.int (xs ((nI i) + 1).toNatClampNeg)]) E (c_X3_setWidth l G A S (xs ((nI i) + 1).toNatClampNeg) q b1 q4 h.bits) (cwV 1 hts gL_law_X3_setWidth rfl rfl rfl (by decide +kernel) ⟨Nat.le_of_ble_eq_true rfl, Nat.le_of_ble_eq_true rfl⟩) hK hP hD hS hA rfl hl.1 rfl (Nat.le_of_ble_eq_true rfl) dL_law_287 ⟨Nat.le_of_ble_eq_true rfl, Nat.le_of_ble_eq_true rfl⟩ (fun H locs hP hD hS => ?_)
  refine lv_aload_n hx hb dL_law_290 rfl (lv_at hl 2 rfl) ?_
  refine lv_aload_n hx hb dL_law_291 rfl (lv_at hl 0 rfl) ?_
  refine lv_iload_n hx hb dL_law_292 rfl (lv_at hl 3 rfl) ?_
  refine lv_iconst (v := 1) hx hb dL_law_293 (by decide) ?_
  refine lv_iadd hx hb dL_law_294 ?_
  refine va_sld hx hb hX hbl hbA hS (sc_in (j := 1) hi hL (by decide)) dL_law_295 ?_
  refine lwMm (rest := [.int (f_X3_setWidth S (xs ((nI i) + 1).toNatClampNeg)).1]) (As := [.int (xs ((nI i) + 1).toNatClampNeg)]) E (c_X4_setWidth l G B T (xs ((nI i) + 1).toNatClampNeg) q b2 q4) (cwV 1 hts gL_law_X4_setWidth rfl rfl rfl (by decide +kernel) ⟨Nat.le_of_ble_eq_true rfl, Nat.le_of_ble_eq_true rfl⟩) hK hP hD hS hA rfl hl.1 rfl (Nat.le_of_ble_eq_true rfl) dL_law_296 ⟨Nat.le_of_ble_eq_true rfl, Nat.le_of_ble_eq_true rfl⟩ (fun H locs hP hD hS => ?_)
  have heq := a_setWidth h (xs ((nI i) + 1).toNatClampNeg)
  refine lv_icmp_eq (tgt := 694) hx hb dL_law_299 (by decide) (fun _ => ?_) (fun c9 => absurd heq.1 c9)
  exact kk _ _ H locs (heq.2.mono (by omega)) hP hD hS
set_option maxHeartbeats 4000000 in
set_option maxRecDepth 100000 in
theorem law_changeTool {p : Program} {l : Launch} {e : Env} {s : State} {m : MethodId} {below : List Frame} {meth : Method} {c : Code} {b L0 : Nat} {xs : Nat → Int32} (C0 : lw_At p s m meth c b L0 xs) (hL : L0 ≤ 2048) {G : GG} {A B : Nat → Nat} {S : XS} {T : MS} {N i : Nat} {H : Heap} {locs : List Loc} {ls : Array Slot} (hN : N ≤ 800000) (hi : i + 4 ≤ L0) (hK : KN G s) (h : RS N S T) (hP : va_P G.1 vwCl (wX G A S (rot S) ++ wM G B T) H) (hD : va_D (fun q : Nat => s.heap.size ≤ q) (wX G A S (rot S) ++ wM G B T)) (hS : va_S (fun q : Nat => s.heap.size ≤ q) s.heap H locs) (hl : lv_has ls 4 [(0, .ref b), (1, .ref (A 42)), (2, .ref (B 0)), (3, .int (nI i))]) (kk : ∀ (S1 : XS) (T1 : MS) (H1 : Heap) (locs1 : List Loc), RS (N + 20) S1 T1 → va_P G.1 vwCl (wX G A S1 (rot S1) ++ wM G B T1) H1 → va_D (fun q : Nat => s.heap.size ≤ q) (wX G A S1 (rot S1) ++ wM G B T1) → va_S (fun q : Nat => s.heap.size ≤ q) s.heap H1 locs1 → W p l e room_1 s m #[Value.ref b] below meth c H1 locs1 57 1342 (lw_Z below #[Value.ref b] s) (F0 m 694 ls [])) : W p l e room_1 s m #[Value.ref b] below meth c H locs 57 1342 (lw_Z below #[Value.ref b] s) (F0 m 304 ls []) := by
  obtain ⟨hx, hb, hr, hml, hown, hts0, hX, hbl, hlocks, hgv⟩ := C0
  have hts : ∀ w ∈ wsL_law, w.before #[Value.ref b] s = true := fun w hw => hts0 w (wsL_law_in w hw)
  have hA : ∀ q : Nat, s.heap.size ≤ q → (fun q : Nat => s.heap.size ≤ q) q := fun _ h => h
  have hbA : ¬ (fun q : Nat => s.heap.size ≤ q) b := Nat.not_le.mpr hbl
  have E : CallFix p m c cL_law 4 s #[Value.ref b] wsL_law RL := ⟨hx, hb, hml, hown, hts⟩
  obtain ⟨q, q4, b1, b2, -⟩ := h.2.2.1
  obtain ⟨L, L8, x1, x2⟩ := h.2.2.2.1
  obtain ⟨wv, wb, -, w2⟩ := h.1.wear
  have hw : 0 ≤ (T 1 65).toInt := by rw [w2, nI_toInt (by omega)]; omega
  refine lv_aload_n hx hb dL_law_304 rfl (lv_at hl 1 rfl) ?_
  refine lwXm (rest := []) (As := []) E (c_X3_changeTool l G A S q b1 q4 h.bits) (cwV 0 hts gL_law_X3_changeTool rfl rfl rfl (by decide +kernel) ⟨Nat.le_of_ble_eq_true rfl, Nat.le_of_ble_eq_true rfl⟩) hK hP hD hS hA rfl hl.1 rfl (Nat.le_of_ble_eq_true rfl) dL_law_305 ⟨Nat.le_of_ble_eq_true rfl, Nat.le_of_ble_eq_true rfl⟩ (fun H locs hP hD hS => ?_)
  refine lv_aload_n hx hb dL_law_308 rfl (lv_at hl 2 rfl) ?_
  refine lwMm (rest := [.int (f_X3_changeTool S).1]) (As := []) E (c_X4_changeTool l G B T q b2 q4) (cwV 0 hts gL_law_X4_changeTool rfl rfl rfl (by decide +kernel) ⟨Nat.le_of_ble_eq_true rfl, Nat.le_of_ble_eq_true rfl⟩) hK hP hD hS hA rfl hl.1 rfl (Nat.le_of_ble_eq_true rfl) dL_law_309 ⟨Nat.le_of_ble_eq_true rfl, Nat.le_of_ble_eq_true rfl⟩ (fun H locs hP hD hS => ?_)
  have heq := a_changeTool h
  refine lv_icmp_eq (tgt := 694) hx hb dL_law_312 (by decide) (fun _ => ?_) (fun c9 => absurd heq.1 c9)
  exact kk _ _ H locs (heq.2.mono (by omega)) hP hD hS
set_option maxHeartbeats 4000000 in
set_option maxRecDepth 100000 in
theorem law_thread {p : Program} {l : Launch} {e : Env} {s : State} {m : MethodId} {below : List Frame} {meth : Method} {c : Code} {b L0 : Nat} {xs : Nat → Int32} (C0 : lw_At p s m meth c b L0 xs) (hL : L0 ≤ 2048) {G : GG} {A B : Nat → Nat} {S : XS} {T : MS} {N i : Nat} {H : Heap} {locs : List Loc} {ls : Array Slot} (hN : N ≤ 800000) (hi : i + 4 ≤ L0) (hK : KN G s) (h : RS N S T) (hP : va_P G.1 vwCl (wX G A S (rot S) ++ wM G B T) H) (hD : va_D (fun q : Nat => s.heap.size ≤ q) (wX G A S (rot S) ++ wM G B T)) (hS : va_S (fun q : Nat => s.heap.size ≤ q) s.heap H locs) (hl : lv_has ls 4 [(0, .ref b), (1, .ref (A 42)), (2, .ref (B 0)), (3, .int (nI i))]) (kk : ∀ (S1 : XS) (T1 : MS) (H1 : Heap) (locs1 : List Loc), RS (N + 20) S1 T1 → va_P G.1 vwCl (wX G A S1 (rot S1) ++ wM G B T1) H1 → va_D (fun q : Nat => s.heap.size ≤ q) (wX G A S1 (rot S1) ++ wM G B T1) → va_S (fun q : Nat => s.heap.size ≤ q) s.heap H1 locs1 → W p l e room_1 s m #[Value.ref b] below meth c H1 locs1 57 1342 (lw_Z below #[Value.ref b] s) (F0 m 694 ls [])) : W p l e room_1 s m #[Value.ref b] below meth c H locs 57 1342 (lw_Z below #[Value.ref b] s) (F0 m 317 ls []) := by
  obtain ⟨hx, hb, hr, hml, hown, hts0, hX, hbl, hlocks, hgv⟩ := C0
  have hts : ∀ w ∈ wsL_law, w.before #[Value.ref b] s = true := fun w hw => hts0 w (wsL_law_in w hw)
  have hA : ∀ q : Nat, s.heap.size ≤ q → (fun q : Nat => s.heap.size ≤ q) q := fun _ h => h
  have hbA : ¬ (fun q : Nat => s.heap.size ≤ q) b := Nat.not_le.mpr hbl
  have E : CallFix p m c cL_law 4 s #[Value.ref b] wsL_law RL := ⟨hx, hb, hml, hown, hts⟩
  obtain ⟨q, q4, b1, b2, -⟩ := h.2.2.1
  obtain ⟨L, L8, x1, x2⟩ := h.2.2.2.1
  obtain ⟨wv, wb, -, w2⟩ := h.1.wear
  have hw : 0 ≤ (T 1 65).toInt := by rw [w2, nI_toInt (by omega)]; omega
  refine lv_aload_n hx hb dL_law_317 rfl (lv_at hl 1 rfl) ?_
  refine lwXm (rest := []) (As := []) E (c_X3_thread l G A S q b1 q4 h.bits) (cwV 0 hts gL_law_X3_thread rfl rfl rfl (by decide +kernel) ⟨Nat.le_of_ble_eq_true rfl, Nat.le_of_ble_eq_true rfl⟩) hK hP hD hS hA rfl hl.1 rfl (Nat.le_of_ble_eq_true rfl) dL_law_318 ⟨Nat.le_of_ble_eq_true rfl, Nat.le_of_ble_eq_true rfl⟩ (fun H locs hP hD hS => ?_)
  refine lv_aload_n hx hb dL_law_321 rfl (lv_at hl 2 rfl) ?_
  refine lwMm (rest := [.int (f_X3_thread S).1]) (As := []) E (c_X4_thread l G B T q b2 q4) (cwV 0 hts gL_law_X4_thread rfl rfl rfl (by decide +kernel) ⟨Nat.le_of_ble_eq_true rfl, Nat.le_of_ble_eq_true rfl⟩) hK hP hD hS hA rfl hl.1 rfl (Nat.le_of_ble_eq_true rfl) dL_law_322 ⟨Nat.le_of_ble_eq_true rfl, Nat.le_of_ble_eq_true rfl⟩ (fun H locs hP hD hS => ?_)
  have heq := a_thread h
  refine lv_icmp_eq (tgt := 694) hx hb dL_law_325 (by decide) (fun _ => ?_) (fun c9 => absurd heq.1 c9)
  exact kk _ _ H locs (heq.2.mono (by omega)) hP hD hS
set_option maxHeartbeats 4000000 in
set_option maxRecDepth 100000 in
theorem law_pull {p : Program} {l : Launch} {e : Env} {s : State} {m : MethodId} {below : List Frame} {meth : Method} {c : Code} {b L0 : Nat} {xs : Nat → Int32} (C0 : lw_At p s m meth c b L0 xs) (hL : L0 ≤ 2048) {G : GG} {A B : Nat → Nat} {S : XS} {T : MS} {N i : Nat} {H : Heap} {locs : List Loc} {ls : Array Slot} (hN : N ≤ 800000) (hi : i + 4 ≤ L0) (hK : KN G s) (h : RS N S T) (hP : va_P G.1 vwCl (wX G A S (rot S) ++ wM G B T) H) (hD : va_D (fun q : Nat => s.heap.size ≤ q) (wX G A S (rot S) ++ wM G B T)) (hS : va_S (fun q : Nat => s.heap.size ≤ q) s.heap H locs) (hl : lv_has ls 4 [(0, .ref b), (1, .ref (A 42)), (2, .ref (B 0)), (3, .int (nI i))]) (kk : ∀ (S1 : XS) (T1 : MS) (H1 : Heap) (locs1 : List Loc), RS (N + 20) S1 T1 → va_P G.1 vwCl (wX G A S1 (rot S1) ++ wM G B T1) H1 → va_D (fun q : Nat => s.heap.size ≤ q) (wX G A S1 (rot S1) ++ wM G B T1) → va_S (fun q : Nat => s.heap.size ≤ q) s.heap H1 locs1 → W p l e room_1 s m #[Value.ref b] below meth c H1 locs1 57 1342 (lw_Z below #[Value.ref b] s) (F0 m 694 ls [])) : W p l e room_1 s m #[Value.ref b] below meth c H locs 57 1342 (lw_Z below #[Value.ref b] s) (F0 m 330 ls []) := by
  obtain ⟨hx, hb, hr, hml, hown, hts0, hX, hbl, hlocks, hgv⟩ := C0
  have hts : ∀ w ∈ wsL_law, w.before #[Value.ref b] s = true := fun w hw => hts0 w (wsL_law_in w hw)
  have hA : ∀ q : Nat, s.heap.size ≤ q → (fun q : Nat => s.heap.size ≤ q) q := fun _ h => h
  have hbA : ¬ (fun q : Nat => s.heap.size ≤ q) b := Nat.not_le.mpr hbl
  have E : CallFix p m c cL_law 4 s #[Value.ref b] wsL_law RL := ⟨hx, hb, hml, hown, hts⟩
  obtain ⟨q, q4, b1, b2, -⟩ := h.2.2.1
  obtain ⟨L, L8, x1, x2⟩ := h.2.2.2.1
  obtain ⟨wv, wb, -, w2⟩ := h.1.wear
  have hw : 0 ≤ (T 1 65).toInt := by rw [w2, nI_toInt (by omega)]; omega
  refine lv_aload_n hx hb dL_law_330 rfl (lv_at hl 1 rfl) ?_
  refine lv_aload_n hx hb dL_law_331 rfl (lv_at hl 0 rfl) ?_
  refine lv_iload_n hx hb dL_law_332 rfl (lv_at hl 3 rfl) ?_
  refine lv_iconst (v := 1) hx hb dL_law_333 (by decide) ?_
  refine lv_iadd hx hb dL_law_334 ?_
  refine va_sld hx hb hX hbl hbA hS (sc_in (j := 1) hi hL (by decide)) dL_law_335 ?_
  refine lv_aload_n hx hb dL_law_336 rfl (lv_at hl 0 rfl) ?_
  refine lv_iload_n hx hb dL_law_337 rfl (lv_at hl 3 rfl) ?_
  refine lv_iconst (v := 2) hx hb dL_law_338 (by decide) ?_
  refine lv_iadd hx hb dL_law_339 ?_
  refine va_sld hx hb hX hbl hbA hS (sc_in (j := 2) hi hL (by decide)) dL_law_340 ?_
  refine lwXm (rest := []) (As := [.int (xs ((nI i) + 1).toNatClampNeg), .int (xs ((nI i) + 2).toNatClampNeg)]) E (c_X3_pull l G A S (xs ((nI i) + 1).toNatClampNeg) (xs ((nI i) + 2).toNatClampNeg) q b1 q4 h.bits) (cwV 2 hts gL_law_X3_pull rfl rfl rfl (by decide +kernel) ⟨Nat.le_of_ble_eq_true rfl, Nat.le_of_ble_eq_true rfl⟩) hK hP hD hS hA rfl hl.1 rfl (Nat.le_of_ble_eq_true rfl) dL_law_341 ⟨Nat.le_of_ble_eq_true rfl, Nat.le_of_ble_eq_true rfl⟩ (fun H locs hP hD hS => ?_)
  refine lv_aload_n hx hb dL_law_344 rfl (lv_at hl 2 rfl) ?_
  refine lv_aload_n hx hb dL_law_345 rfl (lv_at hl 0 rfl) ?_
  refine lv_iload_n hx hb dL_law_346 rfl (lv_at hl 3 rfl) ?_
  refine lv_iconst (v := 1) hx hb dL_law_347 (by decide) ?_
  refine lv_iadd hx hb dL_law_348 ?_
  refine va_sld hx hb hX hbl hbA hS (sc_in (j := 1) hi hL (by decide)) dL_law_349 ?_
  refine lv_aload_n hx hb dL_law_350 rfl (lv_at hl 0 rfl) ?_
  refine lv_iload_n hx hb dL_law_351 rfl (lv_at hl 3 rfl) ?_
  refine lv_iconst (v := 2) hx hb dL_law_352 (by decide) ?_
  refine lv_iadd hx hb dL_law_353 ?_
  refine va_sld hx hb hX hbl hbA hS (sc_in (j := 2) hi hL (by decide)) dL_law_354 ?_
  refine lwMm (rest := [.int (f_X3_pull S (xs ((nI i) + 1).toNatClampNeg) (xs ((nI i) + 2).toNatClampNeg)).1]) (As := [.int (xs ((nI i) + 1).toNatClampNeg), .int (xs ((nI i) + 2).toNatClampNeg)]) E (c_X4_pull l G B T (xs ((nI i) + 1).toNatClampNeg) (xs ((nI i) + 2).toNatClampNeg) q b2 q4) (cwV 2 hts gL_law_X4_pull rfl rfl rfl (by decide +kernel) ⟨Nat.le_of_ble_eq_true rfl, Nat.le_of_ble_eq_true rfl⟩) hK hP hD hS hA rfl hl.1 rfl (Nat.le_of_ble_eq_true rfl) dL_law_355 ⟨Nat.le_of_ble_eq_true rfl, Nat.le_of_ble_eq_true rfl⟩ (fun H locs hP hD hS => ?_)
  have heq := a_pull h (xs ((nI i) + 1).toNatClampNeg) (xs ((nI i) + 2).toNatClampNeg)
  refine lv_icmp_eq (tgt := 694) hx hb dL_law_358 (by decide) (fun _ => ?_) (fun c9 => absurd heq.1 c9)
  exact kk _ _ H locs (heq.2.mono (by omega)) hP hD hS
set_option maxHeartbeats 4000000 in
set_option maxRecDepth 100000 in
theorem law_sample {p : Program} {l : Launch} {e : Env} {s : State} {m : MethodId} {below : List Frame} {meth : Method} {c : Code} {b L0 : Nat} {xs : Nat → Int32} (C0 : lw_At p s m meth c b L0 xs) (hL : L0 ≤ 2048) {G : GG} {A B : Nat → Nat} {S : XS} {T : MS} {N i : Nat} {H : Heap} {locs : List Loc} {ls : Array Slot} (hN : N ≤ 800000) (hi : i + 4 ≤ L0) (hK : KN G s) (h : RS N S T) (hP : va_P G.1 vwCl (wX G A S (rot S) ++ wM G B T) H) (hD : va_D (fun q : Nat => s.heap.size ≤ q) (wX G A S (rot S) ++ wM G B T)) (hS : va_S (fun q : Nat => s.heap.size ≤ q) s.heap H locs) (hl : lv_has ls 4 [(0, .ref b), (1, .ref (A 42)), (2, .ref (B 0)), (3, .int (nI i))]) (kk : ∀ (S1 : XS) (T1 : MS) (H1 : Heap) (locs1 : List Loc), RS (N + 20) S1 T1 → va_P G.1 vwCl (wX G A S1 (rot S1) ++ wM G B T1) H1 → va_D (fun q : Nat => s.heap.size ≤ q) (wX G A S1 (rot S1) ++ wM G B T1) → va_S (fun q : Nat => s.heap.size ≤ q) s.heap H1 locs1 → W p l e room_1 s m #[Value.ref b] below meth c H1 locs1 57 1342 (lw_Z below #[Value.ref b] s) (F0 m 694 ls [])) : W p l e room_1 s m #[Value.ref b] below meth c H locs 57 1342 (lw_Z below #[Value.ref b] s) (F0 m 363 ls []) := by
  obtain ⟨hx, hb, hr, hml, hown, hts0, hX, hbl, hlocks, hgv⟩ := C0
  have hts : ∀ w ∈ wsL_law, w.before #[Value.ref b] s = true := fun w hw => hts0 w (wsL_law_in w hw)
  have hA : ∀ q : Nat, s.heap.size ≤ q → (fun q : Nat => s.heap.size ≤ q) q := fun _ h => h
  have hbA : ¬ (fun q : Nat => s.heap.size ≤ q) b := Nat.not_le.mpr hbl
  have E : CallFix p m c cL_law 4 s #[Value.ref b] wsL_law RL := ⟨hx, hb, hml, hown, hts⟩
  obtain ⟨q, q4, b1, b2, -⟩ := h.2.2.1
  obtain ⟨L, L8, x1, x2⟩ := h.2.2.2.1
  obtain ⟨wv, wb, -, w2⟩ := h.1.wear
  have hw : 0 ≤ (T 1 65).toInt := by rw [w2, nI_toInt (by omega)]; omega
  refine lv_aload_n hx hb dL_law_363 rfl (lv_at hl 1 rfl) ?_
  refine lv_aload_n hx hb dL_law_364 rfl (lv_at hl 0 rfl) ?_
  refine lv_iload_n hx hb dL_law_365 rfl (lv_at hl 3 rfl) ?_
  refine lv_iconst (v := 1) hx hb dL_law_366 (by decide) ?_
  refine lv_iadd hx hb dL_law_367 ?_
  refine va_sld hx hb hX hbl hbA hS (sc_in (j := 1) hi hL (by decide)) dL_law_368 ?_
  refine lv_aload_n hx hb dL_law_369 rfl (lv_at hl 0 rfl) ?_
  refine lv_iload_n hx hb dL_law_370 rfl (lv_at hl 3 rfl) ?_
  refine lv_iconst (v := 2) hx hb dL_law_371 (by decide) ?_
  refine lv_iadd hx hb dL_law_372 ?_
  refine va_sld hx hb hX hbl hbA hS (sc_in (j := 2) hi hL (by decide)) dL_law_373 ?_
  refine lwXm (rest := []) (As := [.int (xs ((nI i) + 1).toNatClampNeg), .int (xs ((nI i) + 2).toNatClampNeg)]) E (c_X3_sample l G A S (xs ((nI i) + 1).toNatClampNeg) (xs ((nI i) + 2).toNatClampNeg) q b1 q4 h.bits) (cwV 2 hts gL_law_X3_sample rfl rfl rfl (by decide +kernel) ⟨Nat.le_of_ble_eq_true rfl, Nat.le_of_ble_eq_true rfl⟩) hK hP hD hS hA rfl hl.1 rfl (Nat.le_of_ble_eq_true rfl) dL_law_374 ⟨Nat.le_of_ble_eq_true rfl, Nat.le_of_ble_eq_true rfl⟩ (fun H locs hP hD hS => ?_)
  refine lv_aload_n hx hb dL_law_377 rfl (lv_at hl 2 rfl) ?_
  refine lv_aload_n hx hb dL_law_378 rfl (lv_at hl 0 rfl) ?_
  refine lv_iload_n hx hb dL_law_379 rfl (lv_at hl 3 rfl) ?_
  refine lv_iconst (v := 1) hx hb dL_law_380 (by decide) ?_
  refine lv_iadd hx hb dL_law_381 ?_
  refine va_sld hx hb hX hbl hbA hS (sc_in (j := 1) hi hL (by decide)) dL_law_382 ?_
  refine lv_aload_n hx hb dL_law_383 rfl (lv_at hl 0 rfl) ?_
  refine lv_iload_n hx hb dL_law_384 rfl (lv_at hl 3 rfl) ?_
  refine lv_iconst (v := 2) hx hb dL_law_385 (by decide) ?_
  refine lv_iadd hx hb dL_law_386 ?_
  refine va_sld hx hb hX hbl hbA hS (sc_in (j := 2) hi hL (by decide)) dL_law_387 ?_
  refine lwMm (rest := [.int (f_X3_sample S (xs ((nI i) + 1).toNatClampNeg) (xs ((nI i) + 2).toNatClampNeg)).1]) (As := [.int (xs ((nI i) + 1).toNatClampNeg), .int (xs ((nI i) + 2).toNatClampNeg)]) E (c_X4_sample l G B T (xs ((nI i) + 1).toNatClampNeg) (xs ((nI i) + 2).toNatClampNeg) q b2 q4) (cwV 2 hts gL_law_X4_sample rfl rfl rfl (by decide +kernel) ⟨Nat.le_of_ble_eq_true rfl, Nat.le_of_ble_eq_true rfl⟩) hK hP hD hS hA rfl hl.1 rfl (Nat.le_of_ble_eq_true rfl) dL_law_388 ⟨Nat.le_of_ble_eq_true rfl, Nat.le_of_ble_eq_true rfl⟩ (fun H locs hP hD hS => ?_)
  have heq := a_sample h (xs ((nI i) + 1).toNatClampNeg) (xs ((nI i) + 2).toNatClampNeg)
  refine lv_icmp_eq (tgt := 694) hx hb dL_law_391 (by decide) (fun _ => ?_) (fun c9 => absurd heq.1 c9)
  exact kk _ _ H locs (heq.2.mono (by omega)) hP hD hS
set_option maxHeartbeats 4000000 in
set_option maxRecDepth 100000 in
theorem law_type {p : Program} {l : Launch} {e : Env} {s : State} {m : MethodId} {below : List Frame} {meth : Method} {c : Code} {b L0 : Nat} {xs : Nat → Int32} (C0 : lw_At p s m meth c b L0 xs) (hL : L0 ≤ 2048) {G : GG} {A B : Nat → Nat} {S : XS} {T : MS} {N i : Nat} {H : Heap} {locs : List Loc} {ls : Array Slot} (hN : N ≤ 800000) (hi : i + 4 ≤ L0) (hK : KN G s) (h : RS N S T) (hP : va_P G.1 vwCl (wX G A S (rot S) ++ wM G B T) H) (hD : va_D (fun q : Nat => s.heap.size ≤ q) (wX G A S (rot S) ++ wM G B T)) (hS : va_S (fun q : Nat => s.heap.size ≤ q) s.heap H locs) (hl : lv_has ls 4 [(0, .ref b), (1, .ref (A 42)), (2, .ref (B 0)), (3, .int (nI i))]) (kk : ∀ (S1 : XS) (T1 : MS) (H1 : Heap) (locs1 : List Loc), RS (N + 20) S1 T1 → va_P G.1 vwCl (wX G A S1 (rot S1) ++ wM G B T1) H1 → va_D (fun q : Nat => s.heap.size ≤ q) (wX G A S1 (rot S1) ++ wM G B T1) → va_S (fun q : Nat => s.heap.size ≤ q) s.heap H1 locs1 → W p l e room_1 s m #[Value.ref b] below meth c H1 locs1 57 1342 (lw_Z below #[Value.ref b] s) (F0 m 694 ls [])) : W p l e room_1 s m #[Value.ref b] below meth c H locs 57 1342 (lw_Z below #[Value.ref b] s) (F0 m 396 ls []) := by
  obtain ⟨hx, hb, hr, hml, hown, hts0, hX, hbl, hlocks, hgv⟩ := C0
  have hts : ∀ w ∈ wsL_law, w.before #[Value.ref b] s = true := fun w hw => hts0 w (wsL_law_in w hw)
  have hA : ∀ q : Nat, s.heap.size ≤ q → (fun q : Nat => s.heap.size ≤ q) q := fun _ h => h
  have hbA : ¬ (fun q : Nat => s.heap.size ≤ q) b := Nat.not_le.mpr hbl
  have E : CallFix p m c cL_law 4 s #[Value.ref b] wsL_law RL := ⟨hx, hb, hml, hown, hts⟩
  obtain ⟨q, q4, b1, b2, -⟩ := h.2.2.1
  obtain ⟨L, L8, x1, x2⟩ := h.2.2.2.1
  obtain ⟨wv, wb, -, w2⟩ := h.1.wear
  have hw : 0 ≤ (T 1 65).toInt := by rw [w2, nI_toInt (by omega)]; omega
  refine lv_aload_n hx hb dL_law_396 rfl (lv_at hl 1 rfl) ?_
  refine lv_aload_n hx hb dL_law_397 rfl (lv_at hl 0 rfl) ?_
  refine lv_iload_n hx hb dL_law_398 rfl (lv_at hl 3 rfl) ?_
  refine lv_iconst (v := 1) hx hb dL_law_399 (by decide) ?_
  refine lv_iadd hx hb dL_law_400 ?_
  refine va_sld hx hb hX hbl hbA hS (sc_in (j := 1) hi hL (by decide)) dL_law_401 ?_
  refine lv_i2c hx hb dL_law_402 rfl ?_
  refine lwXm (rest := []) (As := [.int (((xs ((nI i) + 1).toNatClampNeg).toUInt32 % 65536).toInt32)]) E (c_X3_type l G A S (((xs ((nI i) + 1).toNatClampNeg).toUInt32 % 65536).toInt32) (by rw [x1]; exact nI_pos (by omega))) (cwV 1 hts gL_law_X3_type rfl rfl rfl (by decide +kernel) ⟨Nat.le_of_ble_eq_true rfl, Nat.le_of_ble_eq_true rfl⟩) hK hP hD hS hA rfl hl.1 rfl (Nat.le_of_ble_eq_true rfl) dL_law_403 ⟨Nat.le_of_ble_eq_true rfl, Nat.le_of_ble_eq_true rfl⟩ (fun H locs hP hD hS => ?_)
  refine lv_aload_n hx hb dL_law_406 rfl (lv_at hl 2 rfl) ?_
  refine lv_aload_n hx hb dL_law_407 rfl (lv_at hl 0 rfl) ?_
  refine lv_iload_n hx hb dL_law_408 rfl (lv_at hl 3 rfl) ?_
  refine lv_iconst (v := 1) hx hb dL_law_409 (by decide) ?_
  refine lv_iadd hx hb dL_law_410 ?_
  refine va_sld hx hb hX hbl hbA hS (sc_in (j := 1) hi hL (by decide)) dL_law_411 ?_
  refine lv_i2c hx hb dL_law_412 rfl ?_
  refine lwMm (rest := [.int (f_X3_type S (((xs ((nI i) + 1).toNatClampNeg).toUInt32 % 65536).toInt32)).1]) (As := [.int (((xs ((nI i) + 1).toNatClampNeg).toUInt32 % 65536).toInt32)]) E (c_X4_type l G B T (((xs ((nI i) + 1).toNatClampNeg).toUInt32 % 65536).toInt32) L x2 L8) (cwV 1 hts gL_law_X4_type rfl rfl rfl (by decide +kernel) ⟨Nat.le_of_ble_eq_true rfl, Nat.le_of_ble_eq_true rfl⟩) hK hP hD hS hA rfl hl.1 rfl (Nat.le_of_ble_eq_true rfl) dL_law_413 ⟨Nat.le_of_ble_eq_true rfl, Nat.le_of_ble_eq_true rfl⟩ (fun H locs hP hD hS => ?_)
  have heq := a_type h (((xs ((nI i) + 1).toNatClampNeg).toUInt32 % 65536).toInt32)
  refine lv_icmp_eq (tgt := 694) hx hb dL_law_416 (by decide) (fun _ => ?_) (fun c9 => absurd heq.1 c9)
  exact kk _ _ H locs (heq.2.mono (by omega)) hP hD hS
set_option maxHeartbeats 4000000 in
set_option maxRecDepth 100000 in
theorem law_clearText {p : Program} {l : Launch} {e : Env} {s : State} {m : MethodId} {below : List Frame} {meth : Method} {c : Code} {b L0 : Nat} {xs : Nat → Int32} (C0 : lw_At p s m meth c b L0 xs) (hL : L0 ≤ 2048) {G : GG} {A B : Nat → Nat} {S : XS} {T : MS} {N i : Nat} {H : Heap} {locs : List Loc} {ls : Array Slot} (hN : N ≤ 800000) (hi : i + 4 ≤ L0) (hK : KN G s) (h : RS N S T) (hP : va_P G.1 vwCl (wX G A S (rot S) ++ wM G B T) H) (hD : va_D (fun q : Nat => s.heap.size ≤ q) (wX G A S (rot S) ++ wM G B T)) (hS : va_S (fun q : Nat => s.heap.size ≤ q) s.heap H locs) (hl : lv_has ls 4 [(0, .ref b), (1, .ref (A 42)), (2, .ref (B 0)), (3, .int (nI i))]) (kk : ∀ (S1 : XS) (T1 : MS) (H1 : Heap) (locs1 : List Loc), RS (N + 20) S1 T1 → va_P G.1 vwCl (wX G A S1 (rot S1) ++ wM G B T1) H1 → va_D (fun q : Nat => s.heap.size ≤ q) (wX G A S1 (rot S1) ++ wM G B T1) → va_S (fun q : Nat => s.heap.size ≤ q) s.heap H1 locs1 → W p l e room_1 s m #[Value.ref b] below meth c H1 locs1 57 1342 (lw_Z below #[Value.ref b] s) (F0 m 694 ls [])) : W p l e room_1 s m #[Value.ref b] below meth c H locs 57 1342 (lw_Z below #[Value.ref b] s) (F0 m 421 ls []) := by
  obtain ⟨hx, hb, hr, hml, hown, hts0, hX, hbl, hlocks, hgv⟩ := C0
  have hts : ∀ w ∈ wsL_law, w.before #[Value.ref b] s = true := fun w hw => hts0 w (wsL_law_in w hw)
  have hA : ∀ q : Nat, s.heap.size ≤ q → (fun q : Nat => s.heap.size ≤ q) q := fun _ h => h
  have hbA : ¬ (fun q : Nat => s.heap.size ≤ q) b := Nat.not_le.mpr hbl
  have E : CallFix p m c cL_law 4 s #[Value.ref b] wsL_law RL := ⟨hx, hb, hml, hown, hts⟩
  obtain ⟨q, q4, b1, b2, -⟩ := h.2.2.1
  obtain ⟨L, L8, x1, x2⟩ := h.2.2.2.1
  obtain ⟨wv, wb, -, w2⟩ := h.1.wear
  have hw : 0 ≤ (T 1 65).toInt := by rw [w2, nI_toInt (by omega)]; omega
  refine lv_aload_n hx hb dL_law_421 rfl (lv_at hl 1 rfl) ?_
  refine lwXm (rest := []) (As := []) E (c_X3_clearText l G A S ) (cwV 0 hts gL_law_X3_clearText rfl rfl rfl (by decide +kernel) ⟨Nat.le_of_ble_eq_true rfl, Nat.le_of_ble_eq_true rfl⟩) hK hP hD hS hA rfl hl.1 rfl (Nat.le_of_ble_eq_true rfl) dL_law_422 ⟨Nat.le_of_ble_eq_true rfl, Nat.le_of_ble_eq_true rfl⟩ (fun H locs hP hD hS => ?_)
  refine lv_aload_n hx hb dL_law_425 rfl (lv_at hl 2 rfl) ?_
  refine lwMm (rest := [.int (f_X3_clearText S).1]) (As := []) E (c_X4_clearText l G B T) (cwV 0 hts gL_law_X4_clearText rfl rfl rfl (by decide +kernel) ⟨Nat.le_of_ble_eq_true rfl, Nat.le_of_ble_eq_true rfl⟩) hK hP hD hS hA rfl hl.1 rfl (Nat.le_of_ble_eq_true rfl) dL_law_426 ⟨Nat.le_of_ble_eq_true rfl, Nat.le_of_ble_eq_true rfl⟩ (fun H locs hP hD hS => ?_)
  have heq := a_clearText h
  refine lv_icmp_eq (tgt := 694) hx hb dL_law_429 (by decide) (fun _ => ?_) (fun c9 => absurd heq.1 c9)
  exact kk _ _ H locs (heq.2.mono (by omega)) hP hD hS
set_option maxHeartbeats 4000000 in
set_option maxRecDepth 100000 in
theorem law_undo {p : Program} {l : Launch} {e : Env} {s : State} {m : MethodId} {below : List Frame} {meth : Method} {c : Code} {b L0 : Nat} {xs : Nat → Int32} (C0 : lw_At p s m meth c b L0 xs) (hL : L0 ≤ 2048) {G : GG} {A B : Nat → Nat} {S : XS} {T : MS} {N i : Nat} {H : Heap} {locs : List Loc} {ls : Array Slot} (hN : N ≤ 800000) (hi : i + 4 ≤ L0) (hK : KN G s) (h : RS N S T) (hP : va_P G.1 vwCl (wX G A S (rot S) ++ wM G B T) H) (hD : va_D (fun q : Nat => s.heap.size ≤ q) (wX G A S (rot S) ++ wM G B T)) (hS : va_S (fun q : Nat => s.heap.size ≤ q) s.heap H locs) (hl : lv_has ls 4 [(0, .ref b), (1, .ref (A 42)), (2, .ref (B 0)), (3, .int (nI i))]) (kk : ∀ (S1 : XS) (T1 : MS) (H1 : Heap) (locs1 : List Loc), RS (N + 20) S1 T1 → va_P G.1 vwCl (wX G A S1 (rot S1) ++ wM G B T1) H1 → va_D (fun q : Nat => s.heap.size ≤ q) (wX G A S1 (rot S1) ++ wM G B T1) → va_S (fun q : Nat => s.heap.size ≤ q) s.heap H1 locs1 → W p l e room_1 s m #[Value.ref b] below meth c H1 locs1 57 1342 (lw_Z below #[Value.ref b] s) (F0 m 694 ls [])) : W p l e room_1 s m #[Value.ref b] below meth c H locs 57 1342 (lw_Z below #[Value.ref b] s) (F0 m 434 ls []) := by
  obtain ⟨hx, hb, hr, hml, hown, hts0, hX, hbl, hlocks, hgv⟩ := C0
  have hts : ∀ w ∈ wsL_law, w.before #[Value.ref b] s = true := fun w hw => hts0 w (wsL_law_in w hw)
  have hA : ∀ q : Nat, s.heap.size ≤ q → (fun q : Nat => s.heap.size ≤ q) q := fun _ h => h
  have hbA : ¬ (fun q : Nat => s.heap.size ≤ q) b := Nat.not_le.mpr hbl
  have E : CallFix p m c cL_law 4 s #[Value.ref b] wsL_law RL := ⟨hx, hb, hml, hown, hts⟩
  obtain ⟨q, q4, b1, b2, -⟩ := h.2.2.1
  obtain ⟨L, L8, x1, x2⟩ := h.2.2.2.1
  obtain ⟨wv, wb, -, w2⟩ := h.1.wear
  have hw : 0 ≤ (T 1 65).toInt := by rw [w2, nI_toInt (by omega)]; omega
  refine lv_aload_n hx hb dL_law_434 rfl (lv_at hl 1 rfl) ?_
  refine lwXm (rest := []) (As := []) E (c_X3_undo l G A S q b1 q4 h.bits) (cwV 0 hts gL_law_X3_undo rfl rfl rfl (by decide +kernel) ⟨Nat.le_of_ble_eq_true rfl, Nat.le_of_ble_eq_true rfl⟩) hK hP hD hS hA rfl hl.1 rfl (Nat.le_of_ble_eq_true rfl) dL_law_435 ⟨Nat.le_of_ble_eq_true rfl, Nat.le_of_ble_eq_true rfl⟩ (fun H locs hP hD hS => ?_)
  refine lv_aload_n hx hb dL_law_438 rfl (lv_at hl 2 rfl) ?_
  refine lwMm (rest := [.int (f_X3_undo S).1]) (As := []) E (c_X4_undo l G B T q b2 q4) (cwV 0 hts gL_law_X4_undo rfl rfl rfl (by decide +kernel) ⟨Nat.le_of_ble_eq_true rfl, Nat.le_of_ble_eq_true rfl⟩) hK hP hD hS hA rfl hl.1 rfl (Nat.le_of_ble_eq_true rfl) dL_law_439 ⟨Nat.le_of_ble_eq_true rfl, Nat.le_of_ble_eq_true rfl⟩ (fun H locs hP hD hS => ?_)
  have heq := a_undo h
  refine lv_icmp_eq (tgt := 694) hx hb dL_law_442 (by decide) (fun _ => ?_) (fun c9 => absurd heq.1 c9)
  exact kk _ _ H locs (heq.2.mono (by omega)) hP hD hS
set_option maxHeartbeats 4000000 in
set_option maxRecDepth 100000 in
theorem law_keep {p : Program} {l : Launch} {e : Env} {s : State} {m : MethodId} {below : List Frame} {meth : Method} {c : Code} {b L0 : Nat} {xs : Nat → Int32} (C0 : lw_At p s m meth c b L0 xs) (hL : L0 ≤ 2048) {G : GG} {A B : Nat → Nat} {S : XS} {T : MS} {N i : Nat} {H : Heap} {locs : List Loc} {ls : Array Slot} (hN : N ≤ 800000) (hi : i + 4 ≤ L0) (hK : KN G s) (h : RS N S T) (hP : va_P G.1 vwCl (wX G A S (rot S) ++ wM G B T) H) (hD : va_D (fun q : Nat => s.heap.size ≤ q) (wX G A S (rot S) ++ wM G B T)) (hS : va_S (fun q : Nat => s.heap.size ≤ q) s.heap H locs) (hl : lv_has ls 4 [(0, .ref b), (1, .ref (A 42)), (2, .ref (B 0)), (3, .int (nI i))]) (kk : ∀ (S1 : XS) (T1 : MS) (H1 : Heap) (locs1 : List Loc), RS (N + 20) S1 T1 → va_P G.1 vwCl (wX G A S1 (rot S1) ++ wM G B T1) H1 → va_D (fun q : Nat => s.heap.size ≤ q) (wX G A S1 (rot S1) ++ wM G B T1) → va_S (fun q : Nat => s.heap.size ≤ q) s.heap H1 locs1 → W p l e room_1 s m #[Value.ref b] below meth c H1 locs1 57 1342 (lw_Z below #[Value.ref b] s) (F0 m 694 ls [])) : W p l e room_1 s m #[Value.ref b] below meth c H locs 57 1342 (lw_Z below #[Value.ref b] s) (F0 m 447 ls []) := by
  obtain ⟨hx, hb, hr, hml, hown, hts0, hX, hbl, hlocks, hgv⟩ := C0
  have hts : ∀ w ∈ wsL_law, w.before #[Value.ref b] s = true := fun w hw => hts0 w (wsL_law_in w hw)
  have hA : ∀ q : Nat, s.heap.size ≤ q → (fun q : Nat => s.heap.size ≤ q) q := fun _ h => h
  have hbA : ¬ (fun q : Nat => s.heap.size ≤ q) b := Nat.not_le.mpr hbl
  have E : CallFix p m c cL_law 4 s #[Value.ref b] wsL_law RL := ⟨hx, hb, hml, hown, hts⟩
  obtain ⟨q, q4, b1, b2, -⟩ := h.2.2.1
  obtain ⟨L, L8, x1, x2⟩ := h.2.2.2.1
  obtain ⟨wv, wb, -, w2⟩ := h.1.wear
  have hw : 0 ≤ (T 1 65).toInt := by rw [w2, nI_toInt (by omega)]; omega
  refine lv_aload_n hx hb dL_law_447 rfl (lv_at hl 1 rfl) ?_
  refine lwXm (rest := []) (As := []) E (c_X3_keep l G A S q b1 q4 h.bits) (cwV 0 hts gL_law_X3_keep rfl rfl rfl (by decide +kernel) ⟨Nat.le_of_ble_eq_true rfl, Nat.le_of_ble_eq_true rfl⟩) hK hP hD hS hA rfl hl.1 rfl (Nat.le_of_ble_eq_true rfl) dL_law_448 ⟨Nat.le_of_ble_eq_true rfl, Nat.le_of_ble_eq_true rfl⟩ (fun H locs hP hD hS => ?_)
  refine lv_aload_n hx hb dL_law_451 rfl (lv_at hl 2 rfl) ?_
  refine lwMm (rest := [.int (f_X3_keep S).1]) (As := []) E (c_X4_keep l G B T) (cwV 0 hts gL_law_X4_keep rfl rfl rfl (by decide +kernel) ⟨Nat.le_of_ble_eq_true rfl, Nat.le_of_ble_eq_true rfl⟩) hK hP hD hS hA rfl hl.1 rfl (Nat.le_of_ble_eq_true rfl) dL_law_452 ⟨Nat.le_of_ble_eq_true rfl, Nat.le_of_ble_eq_true rfl⟩ (fun H locs hP hD hS => ?_)
  have heq := a_keep h
  refine lv_icmp_eq (tgt := 694) hx hb dL_law_455 (by decide) (fun _ => ?_) (fun c9 => absurd heq.1 c9)
  exact kk _ _ H locs (heq.2.mono (by omega)) hP hD hS
set_option maxHeartbeats 4000000 in
set_option maxRecDepth 100000 in
theorem law_restore {p : Program} {l : Launch} {e : Env} {s : State} {m : MethodId} {below : List Frame} {meth : Method} {c : Code} {b L0 : Nat} {xs : Nat → Int32} (C0 : lw_At p s m meth c b L0 xs) (hL : L0 ≤ 2048) {G : GG} {A B : Nat → Nat} {S : XS} {T : MS} {N i : Nat} {H : Heap} {locs : List Loc} {ls : Array Slot} (hN : N ≤ 800000) (hi : i + 4 ≤ L0) (hK : KN G s) (h : RS N S T) (hP : va_P G.1 vwCl (wX G A S (rot S) ++ wM G B T) H) (hD : va_D (fun q : Nat => s.heap.size ≤ q) (wX G A S (rot S) ++ wM G B T)) (hS : va_S (fun q : Nat => s.heap.size ≤ q) s.heap H locs) (hl : lv_has ls 4 [(0, .ref b), (1, .ref (A 42)), (2, .ref (B 0)), (3, .int (nI i))]) (kk : ∀ (S1 : XS) (T1 : MS) (H1 : Heap) (locs1 : List Loc), RS (N + 20) S1 T1 → va_P G.1 vwCl (wX G A S1 (rot S1) ++ wM G B T1) H1 → va_D (fun q : Nat => s.heap.size ≤ q) (wX G A S1 (rot S1) ++ wM G B T1) → va_S (fun q : Nat => s.heap.size ≤ q) s.heap H1 locs1 → W p l e room_1 s m #[Value.ref b] below meth c H1 locs1 57 1342 (lw_Z below #[Value.ref b] s) (F0 m 694 ls [])) : W p l e room_1 s m #[Value.ref b] below meth c H locs 57 1342 (lw_Z below #[Value.ref b] s) (F0 m 460 ls []) := by
  obtain ⟨hx, hb, hr, hml, hown, hts0, hX, hbl, hlocks, hgv⟩ := C0
  have hts : ∀ w ∈ wsL_law, w.before #[Value.ref b] s = true := fun w hw => hts0 w (wsL_law_in w hw)
  have hA : ∀ q : Nat, s.heap.size ≤ q → (fun q : Nat => s.heap.size ≤ q) q := fun _ h => h
  have hbA : ¬ (fun q : Nat => s.heap.size ≤ q) b := Nat.not_le.mpr hbl
  have E : CallFix p m c cL_law 4 s #[Value.ref b] wsL_law RL := ⟨hx, hb, hml, hown, hts⟩
  obtain ⟨q, q4, b1, b2, -⟩ := h.2.2.1
  obtain ⟨L, L8, x1, x2⟩ := h.2.2.2.1
  obtain ⟨wv, wb, -, w2⟩ := h.1.wear
  have hw : 0 ≤ (T 1 65).toInt := by rw [w2, nI_toInt (by omega)]; omega
  refine lv_aload_n hx hb dL_law_460 rfl (lv_at hl 1 rfl) ?_
  refine lwXm (rest := []) (As := []) E (c_X3_restore l G A S q b1 q4 h.bits) (cwV 0 hts gL_law_X3_restore rfl rfl rfl (by decide +kernel) ⟨Nat.le_of_ble_eq_true rfl, Nat.le_of_ble_eq_true rfl⟩) hK hP hD hS hA rfl hl.1 rfl (Nat.le_of_ble_eq_true rfl) dL_law_461 ⟨Nat.le_of_ble_eq_true rfl, Nat.le_of_ble_eq_true rfl⟩ (fun H locs hP hD hS => ?_)
  refine lv_aload_n hx hb dL_law_464 rfl (lv_at hl 2 rfl) ?_
  refine lwMm (rest := [.int (f_X3_restore S).1]) (As := []) E (c_X4_restore l G B T q b2 q4) (cwV 0 hts gL_law_X4_restore rfl rfl rfl (by decide +kernel) ⟨Nat.le_of_ble_eq_true rfl, Nat.le_of_ble_eq_true rfl⟩) hK hP hD hS hA rfl hl.1 rfl (Nat.le_of_ble_eq_true rfl) dL_law_465 ⟨Nat.le_of_ble_eq_true rfl, Nat.le_of_ble_eq_true rfl⟩ (fun H locs hP hD hS => ?_)
  have heq := a_restore h
  refine lv_icmp_eq (tgt := 694) hx hb dL_law_468 (by decide) (fun _ => ?_) (fun c9 => absurd heq.1 c9)
  exact kk _ _ H locs (heq.2.mono (by omega)) hP hD hS
set_option maxHeartbeats 4000000 in
set_option maxRecDepth 100000 in
theorem law_wire {p : Program} {l : Launch} {e : Env} {s : State} {m : MethodId} {below : List Frame} {meth : Method} {c : Code} {b L0 : Nat} {xs : Nat → Int32} (C0 : lw_At p s m meth c b L0 xs) (hL : L0 ≤ 2048) {G : GG} {A B : Nat → Nat} {S : XS} {T : MS} {N i : Nat} {H : Heap} {locs : List Loc} {ls : Array Slot} (hN : N ≤ 800000) (hi : i + 4 ≤ L0) (hK : KN G s) (h : RS N S T) (hP : va_P G.1 vwCl (wX G A S (rot S) ++ wM G B T) H) (hD : va_D (fun q : Nat => s.heap.size ≤ q) (wX G A S (rot S) ++ wM G B T)) (hS : va_S (fun q : Nat => s.heap.size ≤ q) s.heap H locs) (hl : lv_has ls 4 [(0, .ref b), (1, .ref (A 42)), (2, .ref (B 0)), (3, .int (nI i))]) (kk : ∀ (S1 : XS) (T1 : MS) (H1 : Heap) (locs1 : List Loc), RS (N + 20) S1 T1 → va_P G.1 vwCl (wX G A S1 (rot S1) ++ wM G B T1) H1 → va_D (fun q : Nat => s.heap.size ≤ q) (wX G A S1 (rot S1) ++ wM G B T1) → va_S (fun q : Nat => s.heap.size ≤ q) s.heap H1 locs1 → W p l e room_1 s m #[Value.ref b] below meth c H1 locs1 57 1342 (lw_Z below #[Value.ref b] s) (F0 m 694 ls [])) : W p l e room_1 s m #[Value.ref b] below meth c H locs 57 1342 (lw_Z below #[Value.ref b] s) (F0 m 473 ls []) := by
  obtain ⟨hx, hb, hr, hml, hown, hts0, hX, hbl, hlocks, hgv⟩ := C0
  have hts : ∀ w ∈ wsL_law, w.before #[Value.ref b] s = true := fun w hw => hts0 w (wsL_law_in w hw)
  have hA : ∀ q : Nat, s.heap.size ≤ q → (fun q : Nat => s.heap.size ≤ q) q := fun _ h => h
  have hbA : ¬ (fun q : Nat => s.heap.size ≤ q) b := Nat.not_le.mpr hbl
  have E : CallFix p m c cL_law 4 s #[Value.ref b] wsL_law RL := ⟨hx, hb, hml, hown, hts⟩
  obtain ⟨q, q4, b1, b2, -⟩ := h.2.2.1
  obtain ⟨L, L8, x1, x2⟩ := h.2.2.2.1
  obtain ⟨wv, wb, -, w2⟩ := h.1.wear
  have hw : 0 ≤ (T 1 65).toInt := by rw [w2, nI_toInt (by omega)]; omega
  refine lv_aload_n hx hb dL_law_473 rfl (lv_at hl 1 rfl) ?_
  refine lv_aload_n hx hb dL_law_474 rfl (lv_at hl 0 rfl) ?_
  refine lv_iload_n hx hb dL_law_475 rfl (lv_at hl 3 rfl) ?_
  refine lv_iconst (v := 1) hx hb dL_law_476 (by decide) ?_
  refine lv_iadd hx hb dL_law_477 ?_
  refine va_sld hx hb hX hbl hbA hS (sc_in (j := 1) hi hL (by decide)) dL_law_478 ?_
  refine lv_aload_n hx hb dL_law_479 rfl (lv_at hl 0 rfl) ?_
  refine lv_iload_n hx hb dL_law_480 rfl (lv_at hl 3 rfl) ?_
  refine lv_iconst (v := 2) hx hb dL_law_481 (by decide) ?_
  refine lv_iadd hx hb dL_law_482 ?_
  refine va_sld hx hb hX hbl hbA hS (sc_in (j := 2) hi hL (by decide)) dL_law_483 ?_
  refine lwXp (rest := []) (As := [.int (xs ((nI i) + 1).toNatClampNeg), .int (xs ((nI i) + 2).toNatClampNeg)]) E (c_X3_wire l G A S (rot S) (xs ((nI i) + 1).toNatClampNeg) (xs ((nI i) + 2).toNatClampNeg)) (cwV 2 hts gL_law_X3_wire rfl rfl rfl (by decide +kernel) ⟨Nat.le_of_ble_eq_true rfl, Nat.le_of_ble_eq_true rfl⟩) hK hP rfl hl.1 rfl (Nat.le_of_ble_eq_true rfl) dL_law_484 ⟨Nat.le_of_ble_eq_true rfl, Nat.le_of_ble_eq_true rfl⟩ ?_
  refine lv_aload_n hx hb dL_law_487 rfl (lv_at hl 2 rfl) ?_
  refine lv_aload_n hx hb dL_law_488 rfl (lv_at hl 0 rfl) ?_
  refine lv_iload_n hx hb dL_law_489 rfl (lv_at hl 3 rfl) ?_
  refine lv_iconst (v := 1) hx hb dL_law_490 (by decide) ?_
  refine lv_iadd hx hb dL_law_491 ?_
  refine va_sld hx hb hX hbl hbA hS (sc_in (j := 1) hi hL (by decide)) dL_law_492 ?_
  refine lv_aload_n hx hb dL_law_493 rfl (lv_at hl 0 rfl) ?_
  refine lv_iload_n hx hb dL_law_494 rfl (lv_at hl 3 rfl) ?_
  refine lv_iconst (v := 2) hx hb dL_law_495 (by decide) ?_
  refine lv_iadd hx hb dL_law_496 ?_
  refine va_sld hx hb hX hbl hbA hS (sc_in (j := 2) hi hL (by decide)) dL_law_497 ?_
  refine lwMp (rest := [.int (f_X3_wire S (xs ((nI i) + 1).toNatClampNeg) (xs ((nI i) + 2).toNatClampNeg))]) (As := [.int (xs ((nI i) + 1).toNatClampNeg), .int (xs ((nI i) + 2).toNatClampNeg)]) E (c_X4_wire l G B T (xs ((nI i) + 1).toNatClampNeg) (xs ((nI i) + 2).toNatClampNeg) h.1.mok) (cwV 2 hts gL_law_X4_wire rfl rfl rfl (by decide +kernel) ⟨Nat.le_of_ble_eq_true rfl, Nat.le_of_ble_eq_true rfl⟩) hK hP rfl hl.1 rfl (Nat.le_of_ble_eq_true rfl) dL_law_498 ⟨Nat.le_of_ble_eq_true rfl, Nat.le_of_ble_eq_true rfl⟩ ?_
  have heq : (f_X3_wire S (xs ((nI i) + 1).toNatClampNeg) (xs ((nI i) + 2).toNatClampNeg)) = (f_X4_wire T (xs ((nI i) + 1).toNatClampNeg) (xs ((nI i) + 2).toNatClampNeg)) := q_wire h.1 (xs ((nI i) + 1).toNatClampNeg) (xs ((nI i) + 2).toNatClampNeg)
  refine lv_icmp_eq (tgt := 694) hx hb dL_law_501 (by decide) (fun _ => ?_) (fun c9 => absurd heq c9)
  exact kk S T H locs (h.mono (by omega)) hP hD hS
set_option maxHeartbeats 4000000 in
set_option maxRecDepth 100000 in
theorem law_heightAt {p : Program} {l : Launch} {e : Env} {s : State} {m : MethodId} {below : List Frame} {meth : Method} {c : Code} {b L0 : Nat} {xs : Nat → Int32} (C0 : lw_At p s m meth c b L0 xs) (hL : L0 ≤ 2048) {G : GG} {A B : Nat → Nat} {S : XS} {T : MS} {N i : Nat} {H : Heap} {locs : List Loc} {ls : Array Slot} (hN : N ≤ 800000) (hi : i + 4 ≤ L0) (hK : KN G s) (h : RS N S T) (hP : va_P G.1 vwCl (wX G A S (rot S) ++ wM G B T) H) (hD : va_D (fun q : Nat => s.heap.size ≤ q) (wX G A S (rot S) ++ wM G B T)) (hS : va_S (fun q : Nat => s.heap.size ≤ q) s.heap H locs) (hl : lv_has ls 4 [(0, .ref b), (1, .ref (A 42)), (2, .ref (B 0)), (3, .int (nI i))]) (kk : ∀ (S1 : XS) (T1 : MS) (H1 : Heap) (locs1 : List Loc), RS (N + 20) S1 T1 → va_P G.1 vwCl (wX G A S1 (rot S1) ++ wM G B T1) H1 → va_D (fun q : Nat => s.heap.size ≤ q) (wX G A S1 (rot S1) ++ wM G B T1) → va_S (fun q : Nat => s.heap.size ≤ q) s.heap H1 locs1 → W p l e room_1 s m #[Value.ref b] below meth c H1 locs1 57 1342 (lw_Z below #[Value.ref b] s) (F0 m 694 ls [])) : W p l e room_1 s m #[Value.ref b] below meth c H locs 57 1342 (lw_Z below #[Value.ref b] s) (F0 m 506 ls []) := by
  obtain ⟨hx, hb, hr, hml, hown, hts0, hX, hbl, hlocks, hgv⟩ := C0
  have hts : ∀ w ∈ wsL_law, w.before #[Value.ref b] s = true := fun w hw => hts0 w (wsL_law_in w hw)
  have hA : ∀ q : Nat, s.heap.size ≤ q → (fun q : Nat => s.heap.size ≤ q) q := fun _ h => h
  have hbA : ¬ (fun q : Nat => s.heap.size ≤ q) b := Nat.not_le.mpr hbl
  have E : CallFix p m c cL_law 4 s #[Value.ref b] wsL_law RL := ⟨hx, hb, hml, hown, hts⟩
  obtain ⟨q, q4, b1, b2, -⟩ := h.2.2.1
  obtain ⟨L, L8, x1, x2⟩ := h.2.2.2.1
  obtain ⟨wv, wb, -, w2⟩ := h.1.wear
  have hw : 0 ≤ (T 1 65).toInt := by rw [w2, nI_toInt (by omega)]; omega
  refine lv_aload_n hx hb dL_law_506 rfl (lv_at hl 1 rfl) ?_
  refine lv_aload_n hx hb dL_law_507 rfl (lv_at hl 0 rfl) ?_
  refine lv_iload_n hx hb dL_law_508 rfl (lv_at hl 3 rfl) ?_
  refine lv_iconst (v := 1) hx hb dL_law_509 (by decide) ?_
  refine lv_iadd hx hb dL_law_510 ?_
  refine va_sld hx hb hX hbl hbA hS (sc_in (j := 1) hi hL (by decide)) dL_law_511 ?_
  refine lv_aload_n hx hb dL_law_512 rfl (lv_at hl 0 rfl) ?_
  refine lv_iload_n hx hb dL_law_513 rfl (lv_at hl 3 rfl) ?_
  refine lv_iconst (v := 2) hx hb dL_law_514 (by decide) ?_
  refine lv_iadd hx hb dL_law_515 ?_
  refine va_sld hx hb hX hbl hbA hS (sc_in (j := 2) hi hL (by decide)) dL_law_516 ?_
  refine lwXp (rest := []) (As := [.int (xs ((nI i) + 1).toNatClampNeg), .int (xs ((nI i) + 2).toNatClampNeg)]) E (c_X3_heightAt l G A S (rot S) (xs ((nI i) + 1).toNatClampNeg) (xs ((nI i) + 2).toNatClampNeg)) (cwV 2 hts gL_law_X3_heightAt rfl rfl rfl (by decide +kernel) ⟨Nat.le_of_ble_eq_true rfl, Nat.le_of_ble_eq_true rfl⟩) hK hP rfl hl.1 rfl (Nat.le_of_ble_eq_true rfl) dL_law_517 ⟨Nat.le_of_ble_eq_true rfl, Nat.le_of_ble_eq_true rfl⟩ ?_
  refine lv_aload_n hx hb dL_law_520 rfl (lv_at hl 2 rfl) ?_
  refine lv_aload_n hx hb dL_law_521 rfl (lv_at hl 0 rfl) ?_
  refine lv_iload_n hx hb dL_law_522 rfl (lv_at hl 3 rfl) ?_
  refine lv_iconst (v := 1) hx hb dL_law_523 (by decide) ?_
  refine lv_iadd hx hb dL_law_524 ?_
  refine va_sld hx hb hX hbl hbA hS (sc_in (j := 1) hi hL (by decide)) dL_law_525 ?_
  refine lv_aload_n hx hb dL_law_526 rfl (lv_at hl 0 rfl) ?_
  refine lv_iload_n hx hb dL_law_527 rfl (lv_at hl 3 rfl) ?_
  refine lv_iconst (v := 2) hx hb dL_law_528 (by decide) ?_
  refine lv_iadd hx hb dL_law_529 ?_
  refine va_sld hx hb hX hbl hbA hS (sc_in (j := 2) hi hL (by decide)) dL_law_530 ?_
  refine lwMp (rest := [.int (f_X3_heightAt S (xs ((nI i) + 1).toNatClampNeg) (xs ((nI i) + 2).toNatClampNeg))]) (As := [.int (xs ((nI i) + 1).toNatClampNeg), .int (xs ((nI i) + 2).toNatClampNeg)]) E (c_X4_heightAt l G B T (xs ((nI i) + 1).toNatClampNeg) (xs ((nI i) + 2).toNatClampNeg)) (cwV 2 hts gL_law_X4_heightAt rfl rfl rfl (by decide +kernel) ⟨Nat.le_of_ble_eq_true rfl, Nat.le_of_ble_eq_true rfl⟩) hK hP rfl hl.1 rfl (Nat.le_of_ble_eq_true rfl) dL_law_531 ⟨Nat.le_of_ble_eq_true rfl, Nat.le_of_ble_eq_true rfl⟩ ?_
  have heq : (f_X3_heightAt S (xs ((nI i) + 1).toNatClampNeg) (xs ((nI i) + 2).toNatClampNeg)) = (f_X4_heightAt T (xs ((nI i) + 1).toNatClampNeg) (xs ((nI i) + 2).toNatClampNeg)) := q_heightAt h.1 (xs ((nI i) + 1).toNatClampNeg) (xs ((nI i) + 2).toNatClampNeg)
  refine lv_icmp_eq (tgt := 694) hx hb dL_law_534 (by decide) (fun _ => ?_) (fun c9 => absurd heq c9)
  exact kk S T H locs (h.mono (by omega)) hP hD hS
set_option maxHeartbeats 4000000 in
set_option maxRecDepth 100000 in
theorem law_crossing {p : Program} {l : Launch} {e : Env} {s : State} {m : MethodId} {below : List Frame} {meth : Method} {c : Code} {b L0 : Nat} {xs : Nat → Int32} (C0 : lw_At p s m meth c b L0 xs) (hL : L0 ≤ 2048) {G : GG} {A B : Nat → Nat} {S : XS} {T : MS} {N i : Nat} {H : Heap} {locs : List Loc} {ls : Array Slot} (hN : N ≤ 800000) (hi : i + 4 ≤ L0) (hK : KN G s) (h : RS N S T) (hP : va_P G.1 vwCl (wX G A S (rot S) ++ wM G B T) H) (hD : va_D (fun q : Nat => s.heap.size ≤ q) (wX G A S (rot S) ++ wM G B T)) (hS : va_S (fun q : Nat => s.heap.size ≤ q) s.heap H locs) (hl : lv_has ls 4 [(0, .ref b), (1, .ref (A 42)), (2, .ref (B 0)), (3, .int (nI i))]) (kk : ∀ (S1 : XS) (T1 : MS) (H1 : Heap) (locs1 : List Loc), RS (N + 20) S1 T1 → va_P G.1 vwCl (wX G A S1 (rot S1) ++ wM G B T1) H1 → va_D (fun q : Nat => s.heap.size ≤ q) (wX G A S1 (rot S1) ++ wM G B T1) → va_S (fun q : Nat => s.heap.size ≤ q) s.heap H1 locs1 → W p l e room_1 s m #[Value.ref b] below meth c H1 locs1 57 1342 (lw_Z below #[Value.ref b] s) (F0 m 694 ls [])) : W p l e room_1 s m #[Value.ref b] below meth c H locs 57 1342 (lw_Z below #[Value.ref b] s) (F0 m 539 ls []) := by
  obtain ⟨hx, hb, hr, hml, hown, hts0, hX, hbl, hlocks, hgv⟩ := C0
  have hts : ∀ w ∈ wsL_law, w.before #[Value.ref b] s = true := fun w hw => hts0 w (wsL_law_in w hw)
  have hA : ∀ q : Nat, s.heap.size ≤ q → (fun q : Nat => s.heap.size ≤ q) q := fun _ h => h
  have hbA : ¬ (fun q : Nat => s.heap.size ≤ q) b := Nat.not_le.mpr hbl
  have E : CallFix p m c cL_law 4 s #[Value.ref b] wsL_law RL := ⟨hx, hb, hml, hown, hts⟩
  obtain ⟨q, q4, b1, b2, -⟩ := h.2.2.1
  obtain ⟨L, L8, x1, x2⟩ := h.2.2.2.1
  obtain ⟨wv, wb, -, w2⟩ := h.1.wear
  have hw : 0 ≤ (T 1 65).toInt := by rw [w2, nI_toInt (by omega)]; omega
  refine lv_aload_n hx hb dL_law_539 rfl (lv_at hl 1 rfl) ?_
  refine lv_aload_n hx hb dL_law_540 rfl (lv_at hl 0 rfl) ?_
  refine lv_iload_n hx hb dL_law_541 rfl (lv_at hl 3 rfl) ?_
  refine lv_iconst (v := 1) hx hb dL_law_542 (by decide) ?_
  refine lv_iadd hx hb dL_law_543 ?_
  refine va_sld hx hb hX hbl hbA hS (sc_in (j := 1) hi hL (by decide)) dL_law_544 ?_
  refine lv_aload_n hx hb dL_law_545 rfl (lv_at hl 0 rfl) ?_
  refine lv_iload_n hx hb dL_law_546 rfl (lv_at hl 3 rfl) ?_
  refine lv_iconst (v := 2) hx hb dL_law_547 (by decide) ?_
  refine lv_iadd hx hb dL_law_548 ?_
  refine va_sld hx hb hX hbl hbA hS (sc_in (j := 2) hi hL (by decide)) dL_law_549 ?_
  refine lv_aload_n hx hb dL_law_550 rfl (lv_at hl 0 rfl) ?_
  refine lv_iload_n hx hb dL_law_551 rfl (lv_at hl 3 rfl) ?_
  refine lv_iconst (v := 3) hx hb dL_law_552 (by decide) ?_
  refine lv_iadd hx hb dL_law_553 ?_
  refine va_sld hx hb hX hbl hbA hS (sc_in (j := 3) hi hL (by decide)) dL_law_554 ?_
  refine lwXp (rest := []) (As := [.int (xs ((nI i) + 1).toNatClampNeg), .int (xs ((nI i) + 2).toNatClampNeg), .int (xs ((nI i) + 3).toNatClampNeg)]) E (c_X3_crossing l G A S (rot S) (xs ((nI i) + 1).toNatClampNeg) (xs ((nI i) + 2).toNatClampNeg) (xs ((nI i) + 3).toNatClampNeg)) (cwV 3 hts gL_law_X3_crossing rfl rfl rfl (by decide +kernel) ⟨Nat.le_of_ble_eq_true rfl, Nat.le_of_ble_eq_true rfl⟩) hK hP rfl hl.1 rfl (Nat.le_of_ble_eq_true rfl) dL_law_555 ⟨Nat.le_of_ble_eq_true rfl, Nat.le_of_ble_eq_true rfl⟩ ?_
  refine lv_aload_n hx hb dL_law_558 rfl (lv_at hl 2 rfl) ?_
  refine lv_aload_n hx hb dL_law_559 rfl (lv_at hl 0 rfl) ?_
  refine lv_iload_n hx hb dL_law_560 rfl (lv_at hl 3 rfl) ?_
  refine lv_iconst (v := 1) hx hb dL_law_561 (by decide) ?_
  refine lv_iadd hx hb dL_law_562 ?_
  refine va_sld hx hb hX hbl hbA hS (sc_in (j := 1) hi hL (by decide)) dL_law_563 ?_
  refine lv_aload_n hx hb dL_law_564 rfl (lv_at hl 0 rfl) ?_
  refine lv_iload_n hx hb dL_law_565 rfl (lv_at hl 3 rfl) ?_
  refine lv_iconst (v := 2) hx hb dL_law_566 (by decide) ?_
  refine lv_iadd hx hb dL_law_567 ?_
  refine va_sld hx hb hX hbl hbA hS (sc_in (j := 2) hi hL (by decide)) dL_law_568 ?_
  refine lv_aload_n hx hb dL_law_569 rfl (lv_at hl 0 rfl) ?_
  refine lv_iload_n hx hb dL_law_570 rfl (lv_at hl 3 rfl) ?_
  refine lv_iconst (v := 3) hx hb dL_law_571 (by decide) ?_
  refine lv_iadd hx hb dL_law_572 ?_
  refine va_sld hx hb hX hbl hbA hS (sc_in (j := 3) hi hL (by decide)) dL_law_573 ?_
  refine lwMp (rest := [.int (f_X3_crossing S (xs ((nI i) + 1).toNatClampNeg) (xs ((nI i) + 2).toNatClampNeg) (xs ((nI i) + 3).toNatClampNeg))]) (As := [.int (xs ((nI i) + 1).toNatClampNeg), .int (xs ((nI i) + 2).toNatClampNeg), .int (xs ((nI i) + 3).toNatClampNeg)]) E (c_X4_crossing l G B T (xs ((nI i) + 1).toNatClampNeg) (xs ((nI i) + 2).toNatClampNeg) (xs ((nI i) + 3).toNatClampNeg) h.1.mok) (cwV 3 hts gL_law_X4_crossing rfl rfl rfl (by decide +kernel) ⟨Nat.le_of_ble_eq_true rfl, Nat.le_of_ble_eq_true rfl⟩) hK hP rfl hl.1 rfl (Nat.le_of_ble_eq_true rfl) dL_law_574 ⟨Nat.le_of_ble_eq_true rfl, Nat.le_of_ble_eq_true rfl⟩ ?_
  have heq : (f_X3_crossing S (xs ((nI i) + 1).toNatClampNeg) (xs ((nI i) + 2).toNatClampNeg) (xs ((nI i) + 3).toNatClampNeg)) = (f_X4_crossing T (xs ((nI i) + 1).toNatClampNeg) (xs ((nI i) + 2).toNatClampNeg) (xs ((nI i) + 3).toNatClampNeg)) := q_crossing h.1 (xs ((nI i) + 1).toNatClampNeg) (xs ((nI i) + 2).toNatClampNeg) (xs ((nI i) + 3).toNatClampNeg)
  refine lv_icmp_eq (tgt := 694) hx hb dL_law_577 (by decide) (fun _ => ?_) (fun c9 => absurd heq c9)
  exact kk S T H locs (h.mono (by omega)) hP hD hS
set_option maxHeartbeats 4000000 in
set_option maxRecDepth 100000 in
theorem law_lead {p : Program} {l : Launch} {e : Env} {s : State} {m : MethodId} {below : List Frame} {meth : Method} {c : Code} {b L0 : Nat} {xs : Nat → Int32} (C0 : lw_At p s m meth c b L0 xs) (hL : L0 ≤ 2048) {G : GG} {A B : Nat → Nat} {S : XS} {T : MS} {N i : Nat} {H : Heap} {locs : List Loc} {ls : Array Slot} (hN : N ≤ 800000) (hi : i + 4 ≤ L0) (hK : KN G s) (h : RS N S T) (hP : va_P G.1 vwCl (wX G A S (rot S) ++ wM G B T) H) (hD : va_D (fun q : Nat => s.heap.size ≤ q) (wX G A S (rot S) ++ wM G B T)) (hS : va_S (fun q : Nat => s.heap.size ≤ q) s.heap H locs) (hl : lv_has ls 4 [(0, .ref b), (1, .ref (A 42)), (2, .ref (B 0)), (3, .int (nI i))]) (kk : ∀ (S1 : XS) (T1 : MS) (H1 : Heap) (locs1 : List Loc), RS (N + 20) S1 T1 → va_P G.1 vwCl (wX G A S1 (rot S1) ++ wM G B T1) H1 → va_D (fun q : Nat => s.heap.size ≤ q) (wX G A S1 (rot S1) ++ wM G B T1) → va_S (fun q : Nat => s.heap.size ≤ q) s.heap H1 locs1 → W p l e room_1 s m #[Value.ref b] below meth c H1 locs1 57 1342 (lw_Z below #[Value.ref b] s) (F0 m 694 ls [])) : W p l e room_1 s m #[Value.ref b] below meth c H locs 57 1342 (lw_Z below #[Value.ref b] s) (F0 m 582 ls []) := by
  obtain ⟨hx, hb, hr, hml, hown, hts0, hX, hbl, hlocks, hgv⟩ := C0
  have hts : ∀ w ∈ wsL_law, w.before #[Value.ref b] s = true := fun w hw => hts0 w (wsL_law_in w hw)
  have hA : ∀ q : Nat, s.heap.size ≤ q → (fun q : Nat => s.heap.size ≤ q) q := fun _ h => h
  have hbA : ¬ (fun q : Nat => s.heap.size ≤ q) b := Nat.not_le.mpr hbl
  have E : CallFix p m c cL_law 4 s #[Value.ref b] wsL_law RL := ⟨hx, hb, hml, hown, hts⟩
  obtain ⟨q, q4, b1, b2, -⟩ := h.2.2.1
  obtain ⟨L, L8, x1, x2⟩ := h.2.2.2.1
  obtain ⟨wv, wb, -, w2⟩ := h.1.wear
  have hw : 0 ≤ (T 1 65).toInt := by rw [w2, nI_toInt (by omega)]; omega
  refine lv_aload_n hx hb dL_law_582 rfl (lv_at hl 1 rfl) ?_
  refine lv_aload_n hx hb dL_law_583 rfl (lv_at hl 0 rfl) ?_
  refine lv_iload_n hx hb dL_law_584 rfl (lv_at hl 3 rfl) ?_
  refine lv_iconst (v := 1) hx hb dL_law_585 (by decide) ?_
  refine lv_iadd hx hb dL_law_586 ?_
  refine va_sld hx hb hX hbl hbA hS (sc_in (j := 1) hi hL (by decide)) dL_law_587 ?_
  refine lv_aload_n hx hb dL_law_588 rfl (lv_at hl 0 rfl) ?_
  refine lv_iload_n hx hb dL_law_589 rfl (lv_at hl 3 rfl) ?_
  refine lv_iconst (v := 2) hx hb dL_law_590 (by decide) ?_
  refine lv_iadd hx hb dL_law_591 ?_
  refine va_sld hx hb hX hbl hbA hS (sc_in (j := 2) hi hL (by decide)) dL_law_592 ?_
  refine lwXp (rest := []) (As := [.int (xs ((nI i) + 1).toNatClampNeg), .int (xs ((nI i) + 2).toNatClampNeg)]) E (c_X3_lead l G A S (rot S) (xs ((nI i) + 1).toNatClampNeg) (xs ((nI i) + 2).toNatClampNeg)) (cwV 2 hts gL_law_X3_lead rfl rfl rfl (by decide +kernel) ⟨Nat.le_of_ble_eq_true rfl, Nat.le_of_ble_eq_true rfl⟩) hK hP rfl hl.1 rfl (Nat.le_of_ble_eq_true rfl) dL_law_593 ⟨Nat.le_of_ble_eq_true rfl, Nat.le_of_ble_eq_true rfl⟩ ?_
  refine lv_aload_n hx hb dL_law_596 rfl (lv_at hl 2 rfl) ?_
  refine lv_aload_n hx hb dL_law_597 rfl (lv_at hl 0 rfl) ?_
  refine lv_iload_n hx hb dL_law_598 rfl (lv_at hl 3 rfl) ?_
  refine lv_iconst (v := 1) hx hb dL_law_599 (by decide) ?_
  refine lv_iadd hx hb dL_law_600 ?_
  refine va_sld hx hb hX hbl hbA hS (sc_in (j := 1) hi hL (by decide)) dL_law_601 ?_
  refine lv_aload_n hx hb dL_law_602 rfl (lv_at hl 0 rfl) ?_
  refine lv_iload_n hx hb dL_law_603 rfl (lv_at hl 3 rfl) ?_
  refine lv_iconst (v := 2) hx hb dL_law_604 (by decide) ?_
  refine lv_iadd hx hb dL_law_605 ?_
  refine va_sld hx hb hX hbl hbA hS (sc_in (j := 2) hi hL (by decide)) dL_law_606 ?_
  refine lwMp (rest := [.int (f_X3_lead S (xs ((nI i) + 1).toNatClampNeg) (xs ((nI i) + 2).toNatClampNeg))]) (As := [.int (xs ((nI i) + 1).toNatClampNeg), .int (xs ((nI i) + 2).toNatClampNeg)]) E (c_X4_lead l G B T (xs ((nI i) + 1).toNatClampNeg) (xs ((nI i) + 2).toNatClampNeg)) (cwV 2 hts gL_law_X4_lead rfl rfl rfl (by decide +kernel) ⟨Nat.le_of_ble_eq_true rfl, Nat.le_of_ble_eq_true rfl⟩) hK hP rfl hl.1 rfl (Nat.le_of_ble_eq_true rfl) dL_law_607 ⟨Nat.le_of_ble_eq_true rfl, Nat.le_of_ble_eq_true rfl⟩ ?_
  have heq : (f_X3_lead S (xs ((nI i) + 1).toNatClampNeg) (xs ((nI i) + 2).toNatClampNeg)) = (f_X4_lead T (xs ((nI i) + 1).toNatClampNeg) (xs ((nI i) + 2).toNatClampNeg)) := q_lead h.1 (xs ((nI i) + 1).toNatClampNeg) (xs ((nI i) + 2).toNatClampNeg)
  refine lv_icmp_eq (tgt := 694) hx hb dL_law_610 (by decide) (fun _ => ?_) (fun c9 => absurd heq c9)
  exact kk S T H locs (h.mono (by omega)) hP hD hS
set_option maxHeartbeats 4000000 in
set_option maxRecDepth 100000 in
theorem law_bestHeight {p : Program} {l : Launch} {e : Env} {s : State} {m : MethodId} {below : List Frame} {meth : Method} {c : Code} {b L0 : Nat} {xs : Nat → Int32} (C0 : lw_At p s m meth c b L0 xs) (hL : L0 ≤ 2048) {G : GG} {A B : Nat → Nat} {S : XS} {T : MS} {N i : Nat} {H : Heap} {locs : List Loc} {ls : Array Slot} (hN : N ≤ 800000) (hi : i + 4 ≤ L0) (hK : KN G s) (h : RS N S T) (hP : va_P G.1 vwCl (wX G A S (rot S) ++ wM G B T) H) (hD : va_D (fun q : Nat => s.heap.size ≤ q) (wX G A S (rot S) ++ wM G B T)) (hS : va_S (fun q : Nat => s.heap.size ≤ q) s.heap H locs) (hl : lv_has ls 4 [(0, .ref b), (1, .ref (A 42)), (2, .ref (B 0)), (3, .int (nI i))]) (kk : ∀ (S1 : XS) (T1 : MS) (H1 : Heap) (locs1 : List Loc), RS (N + 20) S1 T1 → va_P G.1 vwCl (wX G A S1 (rot S1) ++ wM G B T1) H1 → va_D (fun q : Nat => s.heap.size ≤ q) (wX G A S1 (rot S1) ++ wM G B T1) → va_S (fun q : Nat => s.heap.size ≤ q) s.heap H1 locs1 → W p l e room_1 s m #[Value.ref b] below meth c H1 locs1 57 1342 (lw_Z below #[Value.ref b] s) (F0 m 694 ls [])) : W p l e room_1 s m #[Value.ref b] below meth c H locs 57 1342 (lw_Z below #[Value.ref b] s) (F0 m 615 ls []) := by
  obtain ⟨hx, hb, hr, hml, hown, hts0, hX, hbl, hlocks, hgv⟩ := C0
  have hts : ∀ w ∈ wsL_law, w.before #[Value.ref b] s = true := fun w hw => hts0 w (wsL_law_in w hw)
  have hA : ∀ q : Nat, s.heap.size ≤ q → (fun q : Nat => s.heap.size ≤ q) q := fun _ h => h
  have hbA : ¬ (fun q : Nat => s.heap.size ≤ q) b := Nat.not_le.mpr hbl
  have E : CallFix p m c cL_law 4 s #[Value.ref b] wsL_law RL := ⟨hx, hb, hml, hown, hts⟩
  obtain ⟨q, q4, b1, b2, -⟩ := h.2.2.1
  obtain ⟨L, L8, x1, x2⟩ := h.2.2.2.1
  obtain ⟨wv, wb, -, w2⟩ := h.1.wear
  have hw : 0 ≤ (T 1 65).toInt := by rw [w2, nI_toInt (by omega)]; omega
  refine lv_aload_n hx hb dL_law_615 rfl (lv_at hl 1 rfl) ?_
  refine lv_aload_n hx hb dL_law_616 rfl (lv_at hl 0 rfl) ?_
  refine lv_iload_n hx hb dL_law_617 rfl (lv_at hl 3 rfl) ?_
  refine lv_iconst (v := 1) hx hb dL_law_618 (by decide) ?_
  refine lv_iadd hx hb dL_law_619 ?_
  refine va_sld hx hb hX hbl hbA hS (sc_in (j := 1) hi hL (by decide)) dL_law_620 ?_
  refine lv_aload_n hx hb dL_law_621 rfl (lv_at hl 0 rfl) ?_
  refine lv_iload_n hx hb dL_law_622 rfl (lv_at hl 3 rfl) ?_
  refine lv_iconst (v := 2) hx hb dL_law_623 (by decide) ?_
  refine lv_iadd hx hb dL_law_624 ?_
  refine va_sld hx hb hX hbl hbA hS (sc_in (j := 2) hi hL (by decide)) dL_law_625 ?_
  refine lwXp (rest := []) (As := [.int (xs ((nI i) + 1).toNatClampNeg), .int (xs ((nI i) + 2).toNatClampNeg)]) E (c_X3_bestHeight l G A S (rot S) (xs ((nI i) + 1).toNatClampNeg) (xs ((nI i) + 2).toNatClampNeg)) (cwV 2 hts gL_law_X3_bestHeight rfl rfl rfl (by decide +kernel) ⟨Nat.le_of_ble_eq_true rfl, Nat.le_of_ble_eq_true rfl⟩) hK hP rfl hl.1 rfl (Nat.le_of_ble_eq_true rfl) dL_law_626 ⟨Nat.le_of_ble_eq_true rfl, Nat.le_of_ble_eq_true rfl⟩ ?_
  refine lv_aload_n hx hb dL_law_629 rfl (lv_at hl 2 rfl) ?_
  refine lv_aload_n hx hb dL_law_630 rfl (lv_at hl 0 rfl) ?_
  refine lv_iload_n hx hb dL_law_631 rfl (lv_at hl 3 rfl) ?_
  refine lv_iconst (v := 1) hx hb dL_law_632 (by decide) ?_
  refine lv_iadd hx hb dL_law_633 ?_
  refine va_sld hx hb hX hbl hbA hS (sc_in (j := 1) hi hL (by decide)) dL_law_634 ?_
  refine lv_aload_n hx hb dL_law_635 rfl (lv_at hl 0 rfl) ?_
  refine lv_iload_n hx hb dL_law_636 rfl (lv_at hl 3 rfl) ?_
  refine lv_iconst (v := 2) hx hb dL_law_637 (by decide) ?_
  refine lv_iadd hx hb dL_law_638 ?_
  refine va_sld hx hb hX hbl hbA hS (sc_in (j := 2) hi hL (by decide)) dL_law_639 ?_
  refine lwMp (rest := [.int (f_X3_bestHeight S (xs ((nI i) + 1).toNatClampNeg) (xs ((nI i) + 2).toNatClampNeg))]) (As := [.int (xs ((nI i) + 1).toNatClampNeg), .int (xs ((nI i) + 2).toNatClampNeg)]) E (c_X4_bestHeight l G B T (xs ((nI i) + 1).toNatClampNeg) (xs ((nI i) + 2).toNatClampNeg) h.1.mok) (cwV 2 hts gL_law_X4_bestHeight rfl rfl rfl (by decide +kernel) ⟨Nat.le_of_ble_eq_true rfl, Nat.le_of_ble_eq_true rfl⟩) hK hP rfl hl.1 rfl (Nat.le_of_ble_eq_true rfl) dL_law_640 ⟨Nat.le_of_ble_eq_true rfl, Nat.le_of_ble_eq_true rfl⟩ ?_
  have heq : (f_X3_bestHeight S (xs ((nI i) + 1).toNatClampNeg) (xs ((nI i) + 2).toNatClampNeg)) = (f_X4_bestHeight T (xs ((nI i) + 1).toNatClampNeg) (xs ((nI i) + 2).toNatClampNeg)) := q_bestHeight h.1 (xs ((nI i) + 1).toNatClampNeg) (xs ((nI i) + 2).toNatClampNeg)
  refine lv_icmp_eq (tgt := 694) hx hb dL_law_643 (by decide) (fun _ => ?_) (fun c9 => absurd heq c9)
  exact kk S T H locs (h.mono (by omega)) hP hD hS
set_option maxHeartbeats 4000000 in
set_option maxRecDepth 100000 in
theorem law_laysLeft {p : Program} {l : Launch} {e : Env} {s : State} {m : MethodId} {below : List Frame} {meth : Method} {c : Code} {b L0 : Nat} {xs : Nat → Int32} (C0 : lw_At p s m meth c b L0 xs) (hL : L0 ≤ 2048) {G : GG} {A B : Nat → Nat} {S : XS} {T : MS} {N i : Nat} {H : Heap} {locs : List Loc} {ls : Array Slot} (hN : N ≤ 800000) (hi : i + 4 ≤ L0) (hK : KN G s) (h : RS N S T) (hP : va_P G.1 vwCl (wX G A S (rot S) ++ wM G B T) H) (hD : va_D (fun q : Nat => s.heap.size ≤ q) (wX G A S (rot S) ++ wM G B T)) (hS : va_S (fun q : Nat => s.heap.size ≤ q) s.heap H locs) (hl : lv_has ls 4 [(0, .ref b), (1, .ref (A 42)), (2, .ref (B 0)), (3, .int (nI i))]) (kk : ∀ (S1 : XS) (T1 : MS) (H1 : Heap) (locs1 : List Loc), RS (N + 20) S1 T1 → va_P G.1 vwCl (wX G A S1 (rot S1) ++ wM G B T1) H1 → va_D (fun q : Nat => s.heap.size ≤ q) (wX G A S1 (rot S1) ++ wM G B T1) → va_S (fun q : Nat => s.heap.size ≤ q) s.heap H1 locs1 → W p l e room_1 s m #[Value.ref b] below meth c H1 locs1 57 1342 (lw_Z below #[Value.ref b] s) (F0 m 694 ls [])) : W p l e room_1 s m #[Value.ref b] below meth c H locs 57 1342 (lw_Z below #[Value.ref b] s) (F0 m 648 ls []) := by
  obtain ⟨hx, hb, hr, hml, hown, hts0, hX, hbl, hlocks, hgv⟩ := C0
  have hts : ∀ w ∈ wsL_law, w.before #[Value.ref b] s = true := fun w hw => hts0 w (wsL_law_in w hw)
  have hA : ∀ q : Nat, s.heap.size ≤ q → (fun q : Nat => s.heap.size ≤ q) q := fun _ h => h
  have hbA : ¬ (fun q : Nat => s.heap.size ≤ q) b := Nat.not_le.mpr hbl
  have E : CallFix p m c cL_law 4 s #[Value.ref b] wsL_law RL := ⟨hx, hb, hml, hown, hts⟩
  obtain ⟨q, q4, b1, b2, -⟩ := h.2.2.1
  obtain ⟨L, L8, x1, x2⟩ := h.2.2.2.1
  obtain ⟨wv, wb, -, w2⟩ := h.1.wear
  have hw : 0 ≤ (T 1 65).toInt := by rw [w2, nI_toInt (by omega)]; omega
  refine lv_aload_n hx hb dL_law_648 rfl (lv_at hl 1 rfl) ?_
  refine lv_aload_n hx hb dL_law_649 rfl (lv_at hl 0 rfl) ?_
  refine lv_iload_n hx hb dL_law_650 rfl (lv_at hl 3 rfl) ?_
  refine lv_iconst (v := 1) hx hb dL_law_651 (by decide) ?_
  refine lv_iadd hx hb dL_law_652 ?_
  refine va_sld hx hb hX hbl hbA hS (sc_in (j := 1) hi hL (by decide)) dL_law_653 ?_
  refine lwXp (rest := []) (As := [.int (xs ((nI i) + 1).toNatClampNeg)]) E (c_X3_laysLeft l G A S (rot S) (xs ((nI i) + 1).toNatClampNeg)) (cwV 1 hts gL_law_X3_laysLeft rfl rfl rfl (by decide +kernel) ⟨Nat.le_of_ble_eq_true rfl, Nat.le_of_ble_eq_true rfl⟩) hK hP rfl hl.1 rfl (Nat.le_of_ble_eq_true rfl) dL_law_654 ⟨Nat.le_of_ble_eq_true rfl, Nat.le_of_ble_eq_true rfl⟩ ?_
  refine lv_aload_n hx hb dL_law_657 rfl (lv_at hl 2 rfl) ?_
  refine lv_aload_n hx hb dL_law_658 rfl (lv_at hl 0 rfl) ?_
  refine lv_iload_n hx hb dL_law_659 rfl (lv_at hl 3 rfl) ?_
  refine lv_iconst (v := 1) hx hb dL_law_660 (by decide) ?_
  refine lv_iadd hx hb dL_law_661 ?_
  refine va_sld hx hb hX hbl hbA hS (sc_in (j := 1) hi hL (by decide)) dL_law_662 ?_
  refine lwMp (rest := [.int (f_X3_laysLeft S (xs ((nI i) + 1).toNatClampNeg))]) (As := [.int (xs ((nI i) + 1).toNatClampNeg)]) E (c_X4_laysLeft l G B T (xs ((nI i) + 1).toNatClampNeg) hw) (cwV 1 hts gL_law_X4_laysLeft rfl rfl rfl (by decide +kernel) ⟨Nat.le_of_ble_eq_true rfl, Nat.le_of_ble_eq_true rfl⟩) hK hP rfl hl.1 rfl (Nat.le_of_ble_eq_true rfl) dL_law_663 ⟨Nat.le_of_ble_eq_true rfl, Nat.le_of_ble_eq_true rfl⟩ ?_
  have heq : (f_X3_laysLeft S (xs ((nI i) + 1).toNatClampNeg)) = (f_X4_laysLeft T (xs ((nI i) + 1).toNatClampNeg)) := q_laysLeft h.1 (by omega) (xs ((nI i) + 1).toNatClampNeg)
  refine lv_icmp_eq (tgt := 694) hx hb dL_law_666 (by decide) (fun _ => ?_) (fun c9 => absurd heq c9)
  exact kk S T H locs (h.mono (by omega)) hP hD hS
set_option maxHeartbeats 4000000 in
set_option maxRecDepth 100000 in
theorem law_count {p : Program} {l : Launch} {e : Env} {s : State} {m : MethodId} {below : List Frame} {meth : Method} {c : Code} {b L0 : Nat} {xs : Nat → Int32} (C0 : lw_At p s m meth c b L0 xs) (hL : L0 ≤ 2048) {G : GG} {A B : Nat → Nat} {S : XS} {T : MS} {N i : Nat} {H : Heap} {locs : List Loc} {ls : Array Slot} (hN : N ≤ 800000) (hi : i + 4 ≤ L0) (hK : KN G s) (h : RS N S T) (hP : va_P G.1 vwCl (wX G A S (rot S) ++ wM G B T) H) (hD : va_D (fun q : Nat => s.heap.size ≤ q) (wX G A S (rot S) ++ wM G B T)) (hS : va_S (fun q : Nat => s.heap.size ≤ q) s.heap H locs) (hl : lv_has ls 4 [(0, .ref b), (1, .ref (A 42)), (2, .ref (B 0)), (3, .int (nI i))]) (kk : ∀ (S1 : XS) (T1 : MS) (H1 : Heap) (locs1 : List Loc), RS (N + 20) S1 T1 → va_P G.1 vwCl (wX G A S1 (rot S1) ++ wM G B T1) H1 → va_D (fun q : Nat => s.heap.size ≤ q) (wX G A S1 (rot S1) ++ wM G B T1) → va_S (fun q : Nat => s.heap.size ≤ q) s.heap H1 locs1 → W p l e room_1 s m #[Value.ref b] below meth c H1 locs1 57 1342 (lw_Z below #[Value.ref b] s) (F0 m 694 ls [])) : W p l e room_1 s m #[Value.ref b] below meth c H locs 57 1342 (lw_Z below #[Value.ref b] s) (F0 m 671 ls []) := by
  obtain ⟨hx, hb, hr, hml, hown, hts0, hX, hbl, hlocks, hgv⟩ := C0
  have hts : ∀ w ∈ wsL_law, w.before #[Value.ref b] s = true := fun w hw => hts0 w (wsL_law_in w hw)
  have hA : ∀ q : Nat, s.heap.size ≤ q → (fun q : Nat => s.heap.size ≤ q) q := fun _ h => h
  have hbA : ¬ (fun q : Nat => s.heap.size ≤ q) b := Nat.not_le.mpr hbl
  have E : CallFix p m c cL_law 4 s #[Value.ref b] wsL_law RL := ⟨hx, hb, hml, hown, hts⟩
  obtain ⟨q, q4, b1, b2, -⟩ := h.2.2.1
  obtain ⟨L, L8, x1, x2⟩ := h.2.2.2.1
  obtain ⟨wv, wb, -, w2⟩ := h.1.wear
  have hw : 0 ≤ (T 1 65).toInt := by rw [w2, nI_toInt (by omega)]; omega
  refine lv_aload_n hx hb dL_law_671 rfl (lv_at hl 1 rfl) ?_
  refine lv_aload_n hx hb dL_law_672 rfl (lv_at hl 0 rfl) ?_
  refine lv_iload_n hx hb dL_law_673 rfl (lv_at hl 3 rfl) ?_
  refine lv_iconst (v := 1) hx hb dL_law_674 (by decide) ?_
  refine lv_iadd hx hb dL_law_675 ?_
  refine va_sld hx hb hX hbl hbA hS (sc_in (j := 1) hi hL (by decide)) dL_law_676 ?_
  refine lwXp (rest := []) (As := [.int (xs ((nI i) + 1).toNatClampNeg)]) E (c_X3_count l G A S (rot S) (xs ((nI i) + 1).toNatClampNeg)) (cwV 1 hts gL_law_X3_count rfl rfl rfl (by decide +kernel) ⟨Nat.le_of_ble_eq_true rfl, Nat.le_of_ble_eq_true rfl⟩) hK hP rfl hl.1 rfl (Nat.le_of_ble_eq_true rfl) dL_law_677 ⟨Nat.le_of_ble_eq_true rfl, Nat.le_of_ble_eq_true rfl⟩ ?_
  refine lv_aload_n hx hb dL_law_680 rfl (lv_at hl 2 rfl) ?_
  refine lv_aload_n hx hb dL_law_681 rfl (lv_at hl 0 rfl) ?_
  refine lv_iload_n hx hb dL_law_682 rfl (lv_at hl 3 rfl) ?_
  refine lv_iconst (v := 1) hx hb dL_law_683 (by decide) ?_
  refine lv_iadd hx hb dL_law_684 ?_
  refine va_sld hx hb hX hbl hbA hS (sc_in (j := 1) hi hL (by decide)) dL_law_685 ?_
  refine lwMp (rest := [.int (f_X3_count S (xs ((nI i) + 1).toNatClampNeg))]) (As := [.int (xs ((nI i) + 1).toNatClampNeg)]) E (c_X4_count l G B T (xs ((nI i) + 1).toNatClampNeg) h.1.mok) (cwV 1 hts gL_law_X4_count rfl rfl rfl (by decide +kernel) ⟨Nat.le_of_ble_eq_true rfl, Nat.le_of_ble_eq_true rfl⟩) hK hP rfl hl.1 rfl (Nat.le_of_ble_eq_true rfl) dL_law_686 ⟨Nat.le_of_ble_eq_true rfl, Nat.le_of_ble_eq_true rfl⟩ ?_
  have heq : (f_X3_count S (xs ((nI i) + 1).toNatClampNeg)) = (f_X4_count T (xs ((nI i) + 1).toNatClampNeg)) := q_count h.1 (b1.trans b2.symm) (x1.trans x2.symm) (xs ((nI i) + 1).toNatClampNeg)
  refine lv_icmp_eq (tgt := 694) hx hb dL_law_689 (by decide) (fun _ => ?_) (fun c9 => absurd heq c9)
  exact kk S T H locs (h.mono (by omega)) hP hD hS
