/-! CONSTRUCTORS: base -/
def KA (G : GG) (U : State) : Prop := KN G U ∧ va_AO "WireLoops$Chip" U
theorem KA.warm {G : GG} {s U : State} (hW : s.WarmedH U.vm) (h : KA G s) : KA G U := ⟨KN.warm hW h.1, va_AO.moved hW.alike h.2⟩
theorem KA.same {G : GG} {u U : State} (e : u.vm = U.vm) (h : KA G u) : KA G U := ⟨KN.same e h.1, va_AO.moved (by rw [e]; exact Vm.Alike.refl U.vm) h.2⟩
def Mi (l : Launch) (y : MethodName) (ws : List Cond) (rm : Room) (G : GG) (b : Nat) (w0 : va_W) (w1 : (Nat → Nat) → va_W) (mc ms o : Nat) : Prop :=
  ∀ sz : Nat, Met l y ws rm (va_Pc [.ref b] (fun U => U.heap.size = sz ∧ va_P G.1 vwCl w0 U.heap ∧ KA G U ∧ va_D (fun _ => True) w0)) (va_Qv (fun a : Nat → Nat => a o = b) (fun a t => va_P G.1 vwCl (w1 a) t.heap ∧ va_D (va_A w0 sz) (w1 a)) (va_A w0 sz)) mc ms (va_A w0 sz)
theorem Mi_blind {G : GG} {av : List Value} {w : va_W} {sz : Nat} : FrameBlind (va_Pc av (fun U => U.heap.size = sz ∧ va_P G.1 vwCl w U.heap ∧ KA G U ∧ va_D (fun _ => True) w)) := fun a U g mk q => by
  obtain ⟨q0, qz, qP, qK, qD⟩ := q
  exact ⟨q0, qz, qP, KA.same (u := U) (U := U.calling g mk a) rfl qK, qD⟩
theorem Mi.of {l : Launch} {y : MethodName} {ws ws' : List Cond} {rm : Room} {G : GG} {b : Nat} {w0 : va_W} {w1 : (Nat → Nat) → va_W} {mc ms o : Nat} {cc : ByteArray} {maxL : Nat} (hy : plainName y.cls = true) (hw : ws = Cond.code y cc maxL none :: ws') (hn : 1 ≤ maxL) (hyn : y.name = "<init>")
    (body : ∀ (p : Program) (e : Env) (s : State) (m : MethodId) (args : Array Value) (below : List Frame) (meth : Method) (c : Code) (A0 : Nat → Prop), A0 = va_A w0 s.heap.size → CallFix p m c cc maxL s args ws y.cls → meth.name = "<init>" → meth.sig.returnType = none → meth.locks = false → va_P G.1 vwCl w0 s.heap → KA G s → va_D A0 w0 → (∀ q : Nat, s.heap.size ≤ q → A0 q) → va_S A0 s.heap s.heap [] → ∀ ls : Array Slot, lv_has ls maxL [(0, .ref b)] → W p l e rm s m args below meth c s.heap [] 0 0 (MQ below (va_Qv (fun a : Nat → Nat => a o = b) (fun a t => va_P G.1 vwCl (w1 a) t.heap ∧ va_D A0 (w1 a)) A0) args s mc ms A0) (F0 m 0 ls [])) : Mi l y ws rm G b w0 w1 mc ms o := by
  intro sz
  refine Met.ofW (cc := cc) (maxL := maxL) (ret := none) hy hw ?_
  intro p e s m args below meth c s₁ B hml hv
  obtain ⟨rfl, hsz, hP, hK, hD0⟩ := hv
  subst hsz
  have hts := atoms_spec (ws := ws) B.pre
  have hl := lv_entry [.ref b] (n := maxL) hn
  rw [lg_entry_eq]
  exact body p e s m _ below meth c _ rfl ⟨B.exec, B.bytes, hml, findClass_of_methodNamed B.named, hts⟩ ((name_of_methodNamed B.named B.method).1.trans hyn) B.returns B.notSynchronized hP hK hD0.self (fun q h => Or.inr h) va_S.rf _ hl
section INIT
variable {p : Program} {l : Launch} {e : Env} {R : Room} {s : State} {m : MethodId} {args : Array Value} {below : List Frame} {meth : Method} {c : Code} {H H0 : Heap} {locs : List Loc} {cells slots : Nat} {Q : State → Prop}
variable {Ts ws : List Cond} {cc bytes : ByteArray} {nL maxL index n pc mc ms o : Nat} {own C : String} {y : MethodName} {rm : Room} {ls : Array Slot} {rest st0 : List Value} {G : GG} {b : Nat} {w w0 wr : va_W} {w1 : (Nat → Nat) → va_W} {A0 : Nat → Prop}
theorem sub_of (is : List Nat) (hs : is.map (fun i => w[i]?) = wr.map some) (hP : va_P G.1 vwCl w H) : va_P G.1 vwCl wr H := fun k q hk => by
  obtain ⟨i, -, h⟩ := va_in_of is hs hk
  exact hP i q h
/-- a constructor's call on a cell just made: what was, and what came -/
theorem ciI (S : CallFix p m c cc nL s args Ts own) (hM : Mi l y ws rm G b w0 w1 mc ms o) (cw : CallB R s args own index y bytes maxL none ws rm mc ms 0 ∧ y.name = "<init>" ∧ (Cond.instanceMethod y).before args s = true) (hK : KA G s) (hP : va_P G.1 vwCl w H) (hD : va_D A0 w) (hS : va_S A0 H0 H locs) (hA : ∀ q, H0.size ≤ q → A0 q) (isC isR : List Nat) (hC : isC.map (fun i => w[i]?) = w0.map some) (hnC : va_nd isC = true) (hR : isR.map (fun i => w[i]?) = wr.map some) (hnR : va_nd isR = true) (hdis : ∀ i ∈ isR, i ∉ isC) (hl : ls.size = nL) (hst : st0 = .ref b :: rest) (hW : (rest.map fun v => v.category).sum ≤ 8) (hdg : decode cc pc = .ok (.invokespecial index, 3)) (hf : cells + mc ≤ R.cells ∧ slots + ms ≤ R.slots)
    (kk : ∀ (a : Nat → Nat) (H1 : Heap) (locs1 : List Loc), a o = b → va_P G.1 vwCl (wr ++ w1 a) H1 → va_D A0 (wr ++ w1 a) → va_S A0 H0 H1 locs1 → W p l e R s m args below meth c H1 locs1 (cells + mc) (slots + ms) Q (F0 m (pc + 3) ls rest)) : W p l e R s m args below meth c H locs cells slots Q (F0 m pc ls st0) := by
  have hF := va_free (wc := w0) hD hS hA isC hC
  exact va_callv (va_runI (As := []) S (hM H.size) cw ⟨Mi_blind, fun U hU hW => ⟨rfl, by rw [hU], by rw [hU]; exact sub_of isC hC hP, KA.warm hW hK, (hD.sub isC hnC hC).weaken (fun _ _ _ _ => trivial)⟩⟩ rfl rfl hl hst (lv_room hW) hdg hf) hS (fun q _ h => hF q h) hF (fun u t H1 locs1 ht hvm hw hB hz hk hS1 => by
    obtain ⟨hP1, hD1⟩ := hB
    rw [ht] at hP1
    obtain ⟨a1, a2⟩ := va_join hP hD isC isR hC hR hnR hdis hk hF hP1 hD1
    exact kk u H1 locs1 hw a1 a2 hS1)
theorem ciN {host : String} (S : CallFix p m c cc nL s args Ts own) (hM : Mi l y ws rm G b w0 w1 mc ms o) (cw : va_CN R s args own index y host bytes maxL none ws rm mc ms 0 ∧ y.name = "<init>" ∧ (Cond.instanceMethod y).before args s = true) (hK : KA G s) (hP : va_P G.1 vwCl w H) (hD : va_D A0 w) (hS : va_S A0 H0 H locs) (hA : ∀ q, H0.size ≤ q → A0 q) (isC isR : List Nat) (hC : isC.map (fun i => w[i]?) = w0.map some) (hnC : va_nd isC = true) (hR : isR.map (fun i => w[i]?) = wr.map some) (hnR : va_nd isR = true) (hdis : ∀ i ∈ isR, i ∉ isC) (hl : ls.size = nL) (hst : st0 = .ref b :: rest) (hW : (rest.map fun v => v.category).sum ≤ 8) (hdg : decode cc pc = .ok (.invokespecial index, 3)) (hf : cells + mc ≤ R.cells ∧ slots + ms ≤ R.slots)
    (kk : ∀ (a : Nat → Nat) (H1 : Heap) (locs1 : List Loc), a o = b → va_P G.1 vwCl (wr ++ w1 a) H1 → va_D A0 (wr ++ w1 a) → va_S A0 H0 H1 locs1 → W p l e R s m args below meth c H1 locs1 (cells + mc) (slots + ms) Q (F0 m (pc + 3) ls rest)) : W p l e R s m args below meth c H locs cells slots Q (F0 m pc ls st0) := by
  have hF := va_free (wc := w0) hD hS hA isC hC
  exact va_callv (va_runIN (As := []) S (hM H.size) cw ⟨Mi_blind, fun U hU hW => ⟨rfl, by rw [hU], by rw [hU]; exact sub_of isC hC hP, KA.warm hW hK, (hD.sub isC hnC hC).weaken (fun _ _ _ _ => trivial)⟩⟩ rfl rfl hl hst (lv_room hW) hdg hf) hS (fun q _ h => hF q h) hF (fun u t H1 locs1 ht hvm hw hB hz hk hS1 => by
    obtain ⟨hP1, hD1⟩ := hB
    rw [ht] at hP1
    obtain ⟨a1, a2⟩ := va_join hP hD isC isR hC hR hnR hdis hk hF hP1 hD1
    exact kk u H1 locs1 hw a1 a2 hS1)
theorem endI {cc : ByteArray} {a : Nat → Nat} (hx : p.tables.exec = Jvm.exec) (hb : c.code = cc) (hr : meth.sig.returnType = none) (hP : va_P G.1 vwCl (w1 a) H) (hD : va_D A0 (w1 a)) (hS : va_S A0 s.heap H locs) (ha : a o = b) (hlocks : meth.locks = false) (hdg : decode cc pc = .ok (.return_, 1)) : W p l e R s m args below meth c H locs cells slots (MQ below (va_Qv (fun a : Nat → Nat => a o = b) (fun a t => va_P G.1 vwCl (w1 a) t.heap ∧ va_D A0 (w1 a)) A0) args s cells slots A0) (F0 m pc ls []) :=
  W.vret hx hb hr (fun t ht _ => ⟨⟨a, rfl, ha, by rw [ht]; exact hP, hD⟩, hS.F ht⟩) hS.2.2 hdg hlocks
theorem int_id (hK : va_K G.1 vwCl (gTy G ++ [(b, .int)]) s) : b = G.2.1 := by
  have h1 : s.vm.findClass ("[" ++ FieldType.int.toString) = some b := (hK.2 3 (b, .int) rfl).2
  have h2 : s.vm.findClass ("[" ++ FieldType.int.toString) = some G.2.1 := (hK.2 0 (G.2.1, .int) rfl).2
  exact Option.some.inj (h1.symm.trans h2)
theorem char_id (hK : va_K G.1 vwCl (gTy G ++ [(b, .char)]) s) : b = G.2.2.1 := by
  have h1 : s.vm.findClass ("[" ++ FieldType.char.toString) = some b := (hK.2 3 (b, .char) rfl).2
  have h2 : s.vm.findClass ("[" ++ FieldType.char.toString) = some G.2.2.1 := (hK.2 1 (G.2.2.1, .char) rfl).2
  exact Option.some.inj (h1.symm.trans h2)
theorem chip_id (hK : va_K G.1 vwCl (gTy G ++ [(b, .object "WireLoops$Chip")]) s) : b = G.2.2.2 := by
  obtain ⟨_, _, _, _, _, h1⟩ := (hK.2 3 (b, .object "WireLoops$Chip") rfl).2
  obtain ⟨_, _, _, _, _, h2⟩ := (hK.2 2 (G.2.2.2, .object "WireLoops$Chip") rfl).2
  exact Option.some.inj (h1.symm.trans h2)
theorem newI (hx : p.tables.exec = Jvm.exec) (hb : c.code = cc) (harr : (Cond.arrayClass .int).before args s = true) (hK : KN G s) (hP : va_P G.1 vwCl w H) (hD : va_D A0 w) (hS : va_S A0 H0 H locs) (hA : ∀ q, H0.size ≤ q → A0 q) {k : Int32} {N : Nat} (hn : ¬ k < 0) (hN : k.toNatClampNeg = N) (hbytes : N * 4 ≤ 536870912) (hcells : cells + 1 ≤ R.cells) (hslots : slots + N ≤ R.slots) (hdg : decode cc pc = .ok (.newarray .int, 2))
    (kk : ∀ (q : Nat) (H1 : Heap), va_P G.1 vwCl (w ++ [(q, .inl (G.2.1, N, .inl (fun _ => 0)))]) H1 → va_D A0 (w ++ [(q, .inl (G.2.1, N, .inl (fun _ => 0)))]) → va_S A0 H0 H1 locs → W p l e R s m args below meth c H1 locs (cells + 1) (slots + N) Q (F0 m (pc + 2) ls (.ref q :: rest))) : W p l e R s m args below meth c H locs cells slots Q (F0 m pc ls (.int k :: rest)) :=
  va_newa (atype := .int) (ty := .int) (a0 := (N, .inl (fun _ => 0))) hx hb harr rfl hK.1 hP hD hS hA (fun _ => rfl) hn hN hbytes hcells hslots hdg (fun q cA H1 hK1 hP1 hD1 hS1 => by
    have e := int_id hK1
    subst e
    exact kk q H1 hP1 hD1 hS1)
theorem newC (hx : p.tables.exec = Jvm.exec) (hb : c.code = cc) (harr : (Cond.arrayClass .char).before args s = true) (hK : KN G s) (hP : va_P G.1 vwCl w H) (hD : va_D A0 w) (hS : va_S A0 H0 H locs) (hA : ∀ q, H0.size ≤ q → A0 q) {k : Int32} {N : Nat} (hn : ¬ k < 0) (hN : k.toNatClampNeg = N) (hbytes : N * 2 ≤ 536870912) (hcells : cells + 1 ≤ R.cells) (hslots : slots + N ≤ R.slots) (hdg : decode cc pc = .ok (.newarray .char, 2))
    (kk : ∀ (q : Nat) (H1 : Heap), va_P G.1 vwCl (w ++ [(q, .inl (G.2.2.1, N, .inl (fun _ => 0)))]) H1 → va_D A0 (w ++ [(q, .inl (G.2.2.1, N, .inl (fun _ => 0)))]) → va_S A0 H0 H1 locs → W p l e R s m args below meth c H1 locs (cells + 1) (slots + N) Q (F0 m (pc + 2) ls (.ref q :: rest))) : W p l e R s m args below meth c H locs cells slots Q (F0 m pc ls (.int k :: rest)) :=
  va_newa (atype := .char) (ty := .char) (a0 := (N, .inl (fun _ => 0))) hx hb harr rfl hK.1 hP hD hS hA (fun _ => rfl) hn hN hbytes hcells hslots hdg (fun q cA H1 hK1 hP1 hD1 hS1 => by
    have e := char_id hK1
    subst e
    exact kk q H1 hP1 hD1 hS1)
end INIT
