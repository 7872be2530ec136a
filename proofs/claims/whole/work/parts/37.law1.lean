/-! THE LAW: calls on the one world beside the other -/
theorem RS.mono {N M : Nat} {S : XS} {T : MS} (h : RS N S T) (hM : N ≤ M) : RS M S T := ⟨h.1.mono hM, h.2.mono hM⟩
theorem sc_in {i j L : Nat} (h : i + 4 ≤ L) (hL : L ≤ 2048) (hj : j < 4) : vp_in (nI i + nI j) L := by
  rw [nI_add]
  exact vp_in_nI (by omega) (by omega)
def r50 : List Nat := List.range 50
def r7a : List Nat := [50, 51, 52, 53, 54, 55, 56]
def xm : List Nat := (List.range 50).map (· + 7) ++ List.range 7
section LAWC
variable {p : Program} {l : Launch} {e : Env} {R : Room} {s : State} {m : MethodId} {args : Array Value} {below : List Frame} {meth : Method} {c : Code} {H H0 : Heap} {locs : List Loc} {cells slots : Nat} {Q : State → Prop}
variable {Ts ws : List Cond} {cc bytes : ByteArray} {nL maxL index n pc : Nat} {own : String} {y : MethodName} {ret : Option FieldType} {rm : Room} {ls : Array Slot} {rest st0 As : List Value} {G : GG} {A B : Nat → Nat} {S S1 : XS} {T T1 : MS} {r r1 : Nat} {res : Int32} {A0 : Nat → Prop}
theorem subX (hP : va_P G.1 vwCl (wX G A S r ++ wM G B T) H) : va_P G.1 vwCl (wX G A S r) H := sub_of r50 rfl hP
theorem subM (hP : va_P G.1 vwCl (wX G A S r ++ wM G B T) H) : va_P G.1 vwCl (wM G B T) H := sub_of r7a rfl hP
theorem lwXp (E : CallFix p m c cc nL s args Ts own) (hM : Mp l y ws rm G (.ref (A 42) :: As) (wX G A S r) res) (cw : CallW R s args own RX3 index y bytes maxL ret ws rm 0 0 n) (hK : KN G s) (hP : va_P G.1 vwCl (wX G A S r ++ wM G B T) H) (hn : As.length = n) (hl : ls.size = nL) (hst : st0 = As.reverse ++ .ref (A 42) :: rest) (hW : (rest.map fun v => v.category).sum ≤ 8) (hdg : decode cc pc = .ok (.invokevirtual index, 3)) (hf : cells ≤ R.cells ∧ slots ≤ R.slots)
    (kk : W p l e R s m args below meth c H locs cells slots Q (F0 m (pc + 3) ls (.int res :: rest))) : W p l e R s m args below meth c H locs cells slots Q (F0 m pc ls st0) :=
  cpV E hM cw hK (subX hP) 42 (ci := 3) rfl rfl hn hl hst hW hdg hf kk
theorem lwMp (E : CallFix p m c cc nL s args Ts own) (hM : Mp l y ws rm G (.ref (B 0) :: As) (wM G B T) res) (cw : CallW R s args own RX4 index y bytes maxL ret ws rm 0 0 n) (hK : KN G s) (hP : va_P G.1 vwCl (wX G A S r ++ wM G B T) H) (hn : As.length = n) (hl : ls.size = nL) (hst : st0 = As.reverse ++ .ref (B 0) :: rest) (hW : (rest.map fun v => v.category).sum ≤ 8) (hdg : decode cc pc = .ok (.invokevirtual index, 3)) (hf : cells ≤ R.cells ∧ slots ≤ R.slots)
    (kk : W p l e R s m args below meth c H locs cells slots Q (F0 m (pc + 3) ls (.int res :: rest))) : W p l e R s m args below meth c H locs cells slots Q (F0 m pc ls st0) :=
  cpV E hM cw hK (subM hP) 0 (ci := 4) rfl rfl hn hl hst hW hdg hf kk
theorem lwXm (E : CallFix p m c cc nL s args Ts own) (hM : Mm l y ws rm G (.ref (A 42) :: As) (wX G A S r) res (wX G A S1 r1)) (cw : CallW R s args own RX3 index y bytes maxL ret ws rm 0 0 n) (hK : KN G s) (hP : va_P G.1 vwCl (wX G A S r ++ wM G B T) H) (hD : va_D A0 (wX G A S r ++ wM G B T)) (hS : va_S A0 H0 H locs) (hA : ∀ q, H0.size ≤ q → A0 q) (hn : As.length = n) (hl : ls.size = nL) (hst : st0 = As.reverse ++ .ref (A 42) :: rest) (hW : (rest.map fun v => v.category).sum ≤ 8) (hdg : decode cc pc = .ok (.invokevirtual index, 3)) (hf : cells ≤ R.cells ∧ slots ≤ R.slots)
    (kk : ∀ (H1 : Heap) (locs1 : List Loc), va_P G.1 vwCl (wX G A S1 r1 ++ wM G B T) H1 → va_D A0 (wX G A S1 r1 ++ wM G B T) → va_S A0 H0 H1 locs1 → W p l e R s m args below meth c H1 locs1 cells slots Q (F0 m (pc + 3) ls (.int res :: rest))) : W p l e R s m args below meth c H locs cells slots Q (F0 m pc ls st0) := by
  have hPc := subX hP
  have hDc := hD.sub (ws' := wX G A S r) r50 (by decide) rfl
  have hFc := va_free (wc := wX G A S r) hD hS hA r50 rfl
  have he : (wX G A S r)[42]? = some (A 42, .inr (3, obF A S)) := rfl
  have hc : vwCl[3]? = some (RX3, TX3, 6) := rfl
  exact va_calli (va_runV E (hM H.size) cw ⟨Mm_blind, va_recv hK.1 hPc hc he, fun U hU hW => ⟨rfl, by rw [hU], by rw [hU]; exact hPc, KN.warm hW hK, hDc.weaken (fun _ _ _ _ => trivial)⟩⟩ rfl hn hl hst (lv_room hW) hdg hf) hS (fun q _ h => hFc q h) hFc (fun r u t H1 locs1 ht hvm hw hB hz hk hS1 => by
    rw [hw]
    obtain ⟨hP1, hD1⟩ := hB
    rw [ht] at hP1
    obtain ⟨a1, a2⟩ := va_join (wr := wM G B T) (w1 := wX G A S1 r1) hP hD r50 r7a rfl rfl (by decide) (by decide) hk hFc hP1 hD1
    exact kk H1 locs1 (sub_of xm rfl a1) (a2.sub xm (by decide) rfl) hS1)
theorem lwMm (E : CallFix p m c cc nL s args Ts own) (hM : Mm l y ws rm G (.ref (B 0) :: As) (wM G B T) res (wM G B T1)) (cw : CallW R s args own RX4 index y bytes maxL ret ws rm 0 0 n) (hK : KN G s) (hP : va_P G.1 vwCl (wX G A S r ++ wM G B T) H) (hD : va_D A0 (wX G A S r ++ wM G B T)) (hS : va_S A0 H0 H locs) (hA : ∀ q, H0.size ≤ q → A0 q) (hn : As.length = n) (hl : ls.size = nL) (hst : st0 = As.reverse ++ .ref (B 0) :: rest) (hW : (rest.map fun v => v.category).sum ≤ 8) (hdg : decode cc pc = .ok (.invokevirtual index, 3)) (hf : cells ≤ R.cells ∧ slots ≤ R.slots)
    (kk : ∀ (H1 : Heap) (locs1 : List Loc), va_P G.1 vwCl (wX G A S r ++ wM G B T1) H1 → va_D A0 (wX G A S r ++ wM G B T1) → va_S A0 H0 H1 locs1 → W p l e R s m args below meth c H1 locs1 cells slots Q (F0 m (pc + 3) ls (.int res :: rest))) : W p l e R s m args below meth c H locs cells slots Q (F0 m pc ls st0) := by
  have hPc := subM hP
  have hDc := hD.sub (ws' := wM G B T) r7a (by decide) rfl
  have hFc := va_free (wc := wM G B T) hD hS hA r7a rfl
  have he : (wM G B T)[0]? = some (B 0, .inr (4, moF B T)) := rfl
  have hc : vwCl[4]? = some (RX4, TX4, 11) := rfl
  exact va_calli (va_runV E (hM H.size) cw ⟨Mm_blind, va_recv hK.1 hPc hc he, fun U hU hW => ⟨rfl, by rw [hU], by rw [hU]; exact hPc, KN.warm hW hK, hDc.weaken (fun _ _ _ _ => trivial)⟩⟩ rfl hn hl hst (lv_room hW) hdg hf) hS (fun q _ h => hFc q h) hFc (fun r u t H1 locs1 ht hvm hw hB hz hk hS1 => by
    rw [hw]
    obtain ⟨hP1, hD1⟩ := hB
    rw [ht] at hP1
    obtain ⟨a1, a2⟩ := va_join (wr := wX G A S _) (w1 := wM G B T1) hP hD r7a r50 rfl rfl (by decide) (by decide) hk hFc hP1 hD1
    exact kk H1 locs1 a1 a2 hS1)
end LAWC
/-! the start -/
theorem CR_0 : CR 0 ch0 m0 := by
  have x0 : ∀ l, l < 16 → m0 l = nI (40 * l) := fun l hl => by
    show upd (ln 12) 64 10 l = _
    rw [show upd (ln 12) 64 10 l = ln 12 l from pk_un (by omega)]
    unfold ln
    rw [if_neg (by omega)]
    exact if_pos hl
  have z0 : ∀ x, 16 ≤ x → ¬ x = 64 → ¬ (x < 16 + 4 * 12 ∧ (x - 16) % 4 = 0) → m0 x = 0 := fun x h1 h2 h3 => by
    show upd (ln 12) 64 10 x = 0
    rw [show upd (ln 12) 64 10 x = ln 12 x from pk_un h2]
    unfold ln
    rw [if_neg (by omega)]
    exact if_neg (by omega)
  refine ⟨fun l hl => ⟨40 * l, by omega, if_pos hl, x0 l hl⟩, fun p hp => Or.inl ⟨if_pos hp, ?_, z0 _ (by omega) (by omega) (by omega), z0 _ (by omega) (by omega) (by omega), z0 _ (by omega) (by omega) (by omega)⟩, fun p q hp hq _ _ => if_pos hp, ⟨10, by omega, by omega, rfl, pk_us⟩, ⟨0, by omega, rfl, z0 65 (by omega) (by omega) (by omega)⟩, Or.inl ⟨rfl, z0 66 (by omega) (by omega) (by omega)⟩, z0 67 (by omega) (by omega) (by omega), ⟨0, by omega, rfl, z0 68 (by omega) (by omega) (by omega)⟩, z0 69 (by omega) (by omega) (by omega), z0 70 (by omega) (by omega) (by omega)⟩
  show upd (ln 12) 64 10 (16 + 4 * p) = (-5)
  rw [show upd (ln 12) 64 10 (16 + 4 * p) = ln 12 (16 + 4 * p) from pk_un (by omega)]
  exact if_pos (by omega)
theorem RS_0 : RS 0 S0 T0 := by
  refine ⟨CR_0, Or.inl ⟨rfl, rfl⟩, ⟨0, by omega, rfl, rfl, fun k hk => absurd hk (Nat.not_lt_zero k)⟩, ⟨0, by omega, rfl, rfl⟩, rfl, fun b h1 h7 => Or.inl ?_⟩
  rcases (show b = 1 ∨ b = 2 ∨ b = 3 ∨ b = 4 ∨ b = 5 ∨ b = 6 by omega) with rfl | rfl | rfl | rfl | rfl | rfl <;> rfl
