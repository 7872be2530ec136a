/-! the law: calls on the one world beside the row of longs -/
def r50 : List Nat := List.range 50
def xm1 : List Nat := (List.range 50).map (· + 1) ++ [0]
section LAWC
variable {p : Program} {l : Launch} {e : Env} {R : Room} {s : State} {m : MethodId} {args : Array Value} {below : List Frame} {meth : Method} {c : Code} {H H0 : Heap} {locs : List Loc} {cells slots : Nat} {Q : State → Prop}
variable {Ts ws : List Cond} {cc bytes : ByteArray} {nL maxL index n pc : Nat} {own : String} {y : MethodName} {ret : Option FieldType} {rm : Room} {ls : Array Slot} {rest st0 As : List Value} {G : GG} {A : Nat → Nat} {S S1 : XS} {r r1 : Nat} {res : Int32} {rl : Int64} {A0 : Nat → Prop} {x : Nat × va_E}
theorem sub1 (hP : va_P G.1 vwCl (wX G A S r ++ [x]) H) : va_P G.1 vwCl (wX G A S r) H := sub_of r50 rfl hP
theorem lxP (E : CallFix p m c cc nL s args Ts own) (hM : Mp l y ws rm G (.ref (A 42) :: As) (wX G A S r) res) (cw : CallW R s args own RX3 index y bytes maxL ret ws rm 0 0 n) (hK : KN G s) (hP : va_P G.1 vwCl (wX G A S r ++ [x]) H) (hn : As.length = n) (hl : ls.size = nL) (hst : st0 = As.reverse ++ .ref (A 42) :: rest) (hW : (rest.map fun v => v.category).sum ≤ 8) (hdg : decode cc pc = .ok (.invokevirtual index, 3)) (hf : cells ≤ R.cells ∧ slots ≤ R.slots)
    (kk : W p l e R s m args below meth c H locs cells slots Q (F0 m (pc + 3) ls (.int res :: rest))) : W p l e R s m args below meth c H locs cells slots Q (F0 m pc ls st0) :=
  cpV E hM cw hK (sub1 hP) 42 (ci := 3) rfl rfl hn hl hst hW hdg hf kk
theorem lsL (E : CallFix p m c cc nL s args Ts own) (hM : Ml l y ws rm G As (wX G A S r) rl) (cw : CallB R s args own index y bytes maxL ret ws rm 0 0 n ∧ (Cond.static y).before args s = true) (hK : KN G s) (hP : va_P G.1 vwCl (wX G A S r ++ [x]) H) (hn : As.length = n) (hl : ls.size = nL) (hst : st0 = As.reverse ++ rest) (hW : (rest.map fun v => v.category).sum ≤ 8) (hdg : decode cc pc = .ok (.invokestatic index, 3)) (hf : cells ≤ R.cells ∧ slots ≤ R.slots)
    (kk : W p l e R s m args below meth c H locs cells slots Q (F0 m (pc + 3) ls (.long rl :: rest))) : W p l e R s m args below meth c H locs cells slots Q (F0 m pc ls st0) :=
  clS E hM cw hK (sub1 hP) hn hl hst hW hdg hf kk
theorem lxM (E : CallFix p m c cc nL s args Ts own) (hM : Mm l y ws rm G (.ref (A 42) :: As) (wX G A S r) res (wX G A S1 r1)) (cw : CallW R s args own RX3 index y bytes maxL ret ws rm 0 0 n) (hK : KN G s) (hP : va_P G.1 vwCl (wX G A S r ++ [x]) H) (hD : va_D A0 (wX G A S r ++ [x])) (hS : va_S A0 H0 H locs) (hA : ∀ q, H0.size ≤ q → A0 q) (hn : As.length = n) (hl : ls.size = nL) (hst : st0 = As.reverse ++ .ref (A 42) :: rest) (hW : (rest.map fun v => v.category).sum ≤ 8) (hdg : decode cc pc = .ok (.invokevirtual index, 3)) (hf : cells ≤ R.cells ∧ slots ≤ R.slots)
    (kk : ∀ (H1 : Heap) (locs1 : List Loc), va_P G.1 vwCl (wX G A S1 r1 ++ [x]) H1 → va_D A0 (wX G A S1 r1 ++ [x]) → va_S A0 H0 H1 locs1 → W p l e R s m args below meth c H1 locs1 cells slots Q (F0 m (pc + 3) ls (.int res :: rest))) : W p l e R s m args below meth c H locs cells slots Q (F0 m pc ls st0) := by
  have hPc := sub1 hP
  have hDc := hD.sub (ws' := wX G A S r) r50 (by decide) rfl
  have hFc := va_free (wc := wX G A S r) hD hS hA r50 rfl
  have he : (wX G A S r)[42]? = some (A 42, .inr (3, obF A S)) := rfl
  have hc : vwCl[3]? = some (RX3, TX3, 6) := rfl
  exact va_calli (va_runV E (hM H.size) cw ⟨Mm_blind, va_recv hK.1 hPc hc he, fun U hU hW => ⟨rfl, by rw [hU], by rw [hU]; exact hPc, KN.warm hW hK, hDc.weaken (fun _ _ _ _ => trivial)⟩⟩ rfl hn hl hst (lv_room hW) hdg hf) hS (fun q _ h => hFc q h) hFc (fun r u t H1 locs1 ht hvm hw hB hz hk hS1 => by
    rw [hw]
    obtain ⟨hP1, hD1⟩ := hB
    rw [ht] at hP1
    obtain ⟨a1, a2⟩ := va_join (wr := [x]) (w1 := wX G A S1 r1) hP hD r50 [50] rfl rfl (by decide) (by decide) hk hFc hP1 hD1
    exact kk H1 locs1 (sub_of xm1 rfl a1) (a2.sub xm1 (by decide) rfl) hS1)
theorem lsM (E : CallFix p m c cc nL s args Ts own) (hM : Mm l y ws rm G As (wX G A S r) res (wX G A S1 r1)) (cw : CallB R s args own index y bytes maxL ret ws rm 0 0 n ∧ (Cond.static y).before args s = true) (hK : KN G s) (hP : va_P G.1 vwCl (wX G A S r ++ [x]) H) (hD : va_D A0 (wX G A S r ++ [x])) (hS : va_S A0 H0 H locs) (hA : ∀ q, H0.size ≤ q → A0 q) (hn : As.length = n) (hl : ls.size = nL) (hst : st0 = As.reverse ++ rest) (hW : (rest.map fun v => v.category).sum ≤ 8) (hdg : decode cc pc = .ok (.invokestatic index, 3)) (hf : cells ≤ R.cells ∧ slots ≤ R.slots)
    (kk : ∀ (H1 : Heap) (locs1 : List Loc), va_P G.1 vwCl (wX G A S1 r1 ++ [x]) H1 → va_D A0 (wX G A S1 r1 ++ [x]) → va_S A0 H0 H1 locs1 → W p l e R s m args below meth c H1 locs1 cells slots Q (F0 m (pc + 3) ls (.int res :: rest))) : W p l e R s m args below meth c H locs cells slots Q (F0 m pc ls st0) := by
  have hPc := sub1 hP
  have hDc := hD.sub (ws' := wX G A S r) r50 (by decide) rfl
  have hFc := va_free (wc := wX G A S r) hD hS hA r50 rfl
  exact va_calli (va_runS E (hM H.size) cw ⟨Mm_blind, fun U hU hW => ⟨rfl, by rw [hU], by rw [hU]; exact hPc, KN.warm hW hK, hDc.weaken (fun _ _ _ _ => trivial)⟩⟩ rfl hn hl hst (lv_room hW) hdg hf) hS (fun q _ h => hFc q h) hFc (fun r u t H1 locs1 ht hvm hw hB hz hk hS1 => by
    rw [hw]
    obtain ⟨hP1, hD1⟩ := hB
    rw [ht] at hP1
    obtain ⟨a1, a2⟩ := va_join (wr := [x]) (w1 := wX G A S1 r1) hP hD r50 [50] rfl rfl (by decide) (by decide) hk hFc hP1 hD1
    exact kk H1 locs1 (sub_of xm1 rfl a1) (a2.sub xm1 (by decide) rfl) hS1)
end LAWC
/-! where the law's run of acts begins -/
def ca : Nat → Nat → Nat → Int32 := fun i => if i = 1 then C1 else ch0
theorem CI_0 : CI 0 ch0 := by
  refine ⟨by decide +kernel, by decide +kernel, by decide +kernel, by decide +kernel, ⟨0, by omega, rfl⟩, Or.inl rfl, 0, by omega, rfl⟩
theorem AI_0 : AI 0 S0 := fun b hb => by
  have e : S0 b = ch0 := by
    rcases (show b = 0 ∨ b = 1 ∨ b = 2 ∨ b = 3 ∨ b = 4 ∨ b = 5 ∨ b = 6 by omega) with rfl | rfl | rfl | rfl | rfl | rfl | rfl <;> rfl
  rw [e]; exact CI_0
theorem m_lay_95 : (m_X3_lay S0 4 7 80).1 = 95 := by decide +kernel
theorem LI_start : ∃ U V : XS, f_X3_lay S0 4 7 80 = (95, U) ∧ f_X3_keep U = (1, V) ∧ Iv S0 ∧ Iv U ∧ LI 1 1 1 ca V := by
  have ha := ao_lay AI_0 4 7 80
  have e95 : (f_X3_lay S0 4 7 80).1 = 95 := by rw [t_X3_lay]; exact m_lay_95
  have eC : (f_X3_lay S0 4 7 80).2 0 = C1 := by rw [t_X3_lay]; rfl
  generalize f_X3_lay S0 4 7 80 = z at ha e95 eC ⊢
  obtain ⟨v, U⟩ := z
  have e95 : v = 95 := e95
  have eC : U 0 = C1 := eC
  subst e95
  rcases ha with ⟨q, -⟩ | ⟨-, hp, hci⟩
  · exact absurd q (show ¬ (95 : Int32) < 0 by decide)
  have hp : Pu S0 U := hp
  have hci : CI 1 (U 0) := hci
  have hH0 : HI S0 0 (fun _ => ch0) := ⟨rfl, by omega, fun j hj => absurd hj (Nat.not_lt_zero j)⟩
  obtain ⟨x1, -, x3⟩ := HI_push1 hH0 (by decide) hp
  have hA : AI 1 U := Pu_AI AI_0 hp hci
  have ht : ¬ U 7 0 2 < 0 := by rw [hp 7 (by decide), recS_72]; decide
  have hIU : Iv U := ⟨⟨1, x1, by omega⟩, fun b hb => (hA b hb).2.2.2.2.2.1, ht⟩
  have hI0 : Iv S0 := ⟨⟨0, rfl, by omega⟩, fun b hb => (AI_0 b hb).2.2.2.2.2.1, by decide⟩
  refine ⟨U, su (sc U 2 0) 7 0 (upd (U 7 0) 0 1), rfl, ?_, hI0, hIU, ⟨x1, by omega, fun j hj => ?_⟩, by omega, ?_, ?_, rfl, fun b hb => ?_, ht⟩
  · rw [e_X3_keep, e_X3_keep_k1]
    have hw : f_X0_wires (su (sc U 2 0) 7 0 (upd (U 7 0) 0 1)) = 1 := (v_X0_wires (S' := fun _ => C1) ((su_ne _ _ _ _ (by decide)).trans ((sc_ne _ _ _ (by decide)).trans eC))).trans wires_C1
    exact Prod.ext hw rfl
  · have ej : j = 0 := by omega
    subst ej
    show su (sc U 2 0) 7 0 (upd (U 7 0) 0 1) (3 + (0 + rot U) % 4) = ch0
    rw [su_ne _ _ _ _ (by omega), sc_ne _ _ _ (by omega), x3]
    rfl
  · exact (su_ne _ _ _ _ (by decide)).trans ((sc_ne _ _ _ (by decide)).trans eC)
  · refine (su_ne _ _ _ _ (by decide)).trans ?_
    unfold sc
    rw [if_pos rfl]
    exact eC
  · rw [su_ne _ _ _ _ (by omega)]
    unfold sc
    split
    · exact hA 0 (by decide)
    · exact hA b hb
