/-! WORLDS: the cells of one WireLoops (wX) and of one WireLoopsModel (wM), at addresses A, B; contracts Mp (reads), Mm (answers an int and changes its world), Mz (void); their calls -/
abbrev vwCl : List vw_C := [(RX0, TX0, 12), (RX1, TX1, 2), (RX2, TX2, 7), (RX3, TX3, 6)]
abbrev GG : Type := va_G × ClassId × ClassId × ClassId
def gTy (G : GG) : List (ClassId × FieldType) := [(G.2.1, .int), (G.2.2.1, .char), (G.2.2.2, .object "WireLoops$Chip")]
def nestW : List Cond := [
  .fieldLinkNest "WireLoops" 183 "WireLoops$Chip" "laid" "I" "WireLoops",
  .fieldLinkNest "WireLoops" 107 "WireLoops$Chip" "width" "I" "WireLoops",
  .fieldLinkNest "WireLoops" 111 "WireLoops$Chip" "wear" "I" "WireLoops",
  .fieldLinkNest "WireLoops" 114 "WireLoops$Chip" "toolsChanged" "I" "WireLoops",
  .fieldLinkNest "WireLoops" 117 "WireLoops$Chip" "tailLost" "Z" "WireLoops",
  .fieldLinkNest "WireLoops" 120 "WireLoops$Chip" "tailsLost" "I" "WireLoops",
  .fieldLinkNest "WireLoops" 192 "WireLoops$Chip" "broken" "I" "WireLoops",
  .methodLinkNest RX3 35 yX2_init RX3,
  .methodLinkNest RX0 62 yX3_isPad RX3,
  .methodLinkNest RX1 33 yX3_isWithin RX3,
  .methodLinkNest RX0 66 yX3_isLead RX3,
  .methodLinkNest RX0 113 yX3_padX RX3,
  .methodLinkNest RX2 36 yX3_isWithin RX3,
  .methodLinkNest RX0 136 yX3_loopAt RX3]
def nestOk (U : State) : Prop := ∀ w ∈ nestW, va_Nw w U
def KN (G : GG) (U : State) : Prop := va_K G.1 vwCl (gTy G) U ∧ nestOk U
theorem nestOk.warm {s U : State} (hW : s.WarmedH U.vm) (h : nestOk s) : nestOk U := by
  intro w hw
  have h1 := h w hw
  simp only [nestW, List.mem_cons, List.not_mem_nil, or_false] at hw
  rcases hw with rfl | rfl | rfl | rfl | rfl | rfl | rfl | rfl | rfl | rfl | rfl | rfl | rfl | rfl <;> first | exact va_Nw.warmF hW h1 | exact va_Nw.warmM hW h1
theorem nestOk.same {u U : State} (e : u.vm = U.vm) (h : nestOk u) : nestOk U := by
  intro w hw
  have h1 := h w hw
  simp only [nestW, List.mem_cons, List.not_mem_nil, or_false] at hw
  rcases hw with rfl | rfl | rfl | rfl | rfl | rfl | rfl | rfl | rfl | rfl | rfl | rfl | rfl | rfl <;> exact va_Nw.same rfl e h1
theorem KN.warm {G : GG} {s U : State} (hW : s.WarmedH U.vm) (h : KN G s) : KN G U := ⟨va_K.moved hW.alike h.1, nestOk.warm hW h.2⟩
theorem KN.same {G : GG} {u U : State} (e : u.vm = U.vm) (h : KN G u) : KN G U := ⟨va_K.moved (by rw [e]; exact Vm.Alike.refl U.vm) h.1, nestOk.same e h.2⟩
/-- the world of a WireLoops: chip i of 0..6 at A (6 i) .. A (6 i + 5); the object, the history, its row, the list, its four rows at A 42 .. A 49; r: how often the row of the history was turned -/
abbrev XS : Type := Nat → Nat → Nat → Int32
def chF (A : Nat → Nat) (S : XS) (i : Nat) : List Value := [.ref (A (6 * i + 1)), .ref (A (6 * i + 2)), .ref (A (6 * i + 3)), .ref (A (6 * i + 4)), .ref (A (6 * i + 5)), .int (S i 0 0), .int (S i 0 1), .int (S i 0 2), .int (S i 0 3), .int (S i 0 4), .int (S i 0 5), .int (S i 0 6)]
def wCh (G : GG) (A : Nat → Nat) (S : XS) (i : Nat) : va_W := [(A (6 * i), .inr (0, chF A S i)), (A (6 * i + 1), .inl (G.2.1, 16, .inl (S i 1))), (A (6 * i + 2), .inl (G.2.1, 12, .inl (S i 2))), (A (6 * i + 3), .inl (G.2.1, 12, .inl (S i 3))), (A (6 * i + 4), .inl (G.2.1, 12, .inl (S i 4))), (A (6 * i + 5), .inl (G.2.1, 12, .inl (S i 5)))]
def kfX (A : Nat → Nat) (r : Nat) : Nat → Option Nat := fun k => some (A (6 * (3 + (k + r) % 4)))
def obF (A : Nat → Nat) (S : XS) : List Value := [.ref (A (6 * 0)), .ref (A (6 * 1)), .ref (A (6 * 2)), .int (S 7 0 0), .ref (A 43), .ref (A 45)]
def hiF (A : Nat → Nat) (S : XS) : List Value := [.ref (A 44), .int (S 7 0 1)]
def liF (A : Nat → Nat) (S : XS) : List Value := [.ref (A 46), .int (S 7 0 2), .int (S 7 0 3), .ref (A 47), .ref (A 48), .ref (A 49), .int (S 7 0 4)]
def wRest (G : GG) (A : Nat → Nat) (S : XS) (r : Nat) : va_W := [(A 42, .inr (3, obF A S)), (A 43, .inr (1, hiF A S)), (A 44, .inl (G.2.2.2, 4, .inr (.inr (.inr (.inr (kfX A r)))))), (A 45, .inr (2, liF A S)), (A 46, .inl (G.2.2.1, 80, .inl (S 7 1))), (A 47, .inl (G.2.1, 20, .inl (S 7 2))), (A 48, .inl (G.2.1, 20, .inl (S 7 3))), (A 49, .inl (G.2.1, 20, .inl (S 7 4)))]
def wX (G : GG) (A : Nat → Nat) (S : XS) (r : Nat) : va_W := wCh G A S 0 ++ (wCh G A S 1 ++ (wCh G A S 2 ++ (wCh G A S 3 ++ (wCh G A S 4 ++ (wCh G A S 5 ++ (wCh G A S 6 ++ wRest G A S r))))))
theorem wX_o (G : GG) (A : Nat → Nat) (S : XS) (r i : Nat) (h : i < 7) : (wX G A S r)[6 * i]? = some (A (6 * i), .inr (0, chF A S i)) := by
  match i, h with
  | 0, _ => rfl
  | 1, _ => rfl
  | 2, _ => rfl
  | 3, _ => rfl
  | 4, _ => rfl
  | 5, _ => rfl
  | 6, _ => rfl
theorem wX_1 (G : GG) (A : Nat → Nat) (S : XS) (r i : Nat) (h : i < 7) : (wX G A S r)[6 * i + 1]? = some (A (6 * i + 1), .inl (G.2.1, 16, .inl (S i 1))) := by
  match i, h with
  | 0, _ => rfl
  | 1, _ => rfl
  | 2, _ => rfl
  | 3, _ => rfl
  | 4, _ => rfl
  | 5, _ => rfl
  | 6, _ => rfl
theorem wX_c (G : GG) (A : Nat → Nat) (S : XS) (r i c : Nat) (h : i < 7) (h2 : 2 ≤ c) (h5 : c ≤ 5) : (wX G A S r)[6 * i + c]? = some (A (6 * i + c), .inl (G.2.1, 12, .inl (S i c))) := by
  rcases (show c = 2 ∨ c = 3 ∨ c = 4 ∨ c = 5 by omega) with rfl | rfl | rfl | rfl <;> rcases (show i = 0 ∨ i = 1 ∨ i = 2 ∨ i = 3 ∨ i = 4 ∨ i = 5 ∨ i = 6 by omega) with rfl | rfl | rfl | rfl | rfl | rfl | rfl <;> rfl
theorem wX_42 (G : GG) (A : Nat → Nat) (S : XS) (r : Nat) : (wX G A S r)[42]? = some (A 42, .inr (3, obF A S)) := rfl
theorem wX_43 (G : GG) (A : Nat → Nat) (S : XS) (r : Nat) : (wX G A S r)[43]? = some (A 43, .inr (1, hiF A S)) := rfl
theorem wX_44 (G : GG) (A : Nat → Nat) (S : XS) (r : Nat) : (wX G A S r)[44]? = some (A 44, .inl (G.2.2.2, 4, .inr (.inr (.inr (.inr (kfX A r)))))) := rfl
theorem wX_45 (G : GG) (A : Nat → Nat) (S : XS) (r : Nat) : (wX G A S r)[45]? = some (A 45, .inr (2, liF A S)) := rfl
theorem wX_46 (G : GG) (A : Nat → Nat) (S : XS) (r : Nat) : (wX G A S r)[46]? = some (A 46, .inl (G.2.2.1, 80, .inl (S 7 1))) := rfl
theorem wX_47 (G : GG) (A : Nat → Nat) (S : XS) (r : Nat) : (wX G A S r)[47]? = some (A 47, .inl (G.2.1, 20, .inl (S 7 2))) := rfl
theorem wX_48 (G : GG) (A : Nat → Nat) (S : XS) (r : Nat) : (wX G A S r)[48]? = some (A 48, .inl (G.2.1, 20, .inl (S 7 3))) := rfl
theorem wX_49 (G : GG) (A : Nat → Nat) (S : XS) (r : Nat) : (wX G A S r)[49]? = some (A 49, .inl (G.2.1, 20, .inl (S 7 4))) := rfl
/-- row c of part i becomes f -/
def su (S : XS) (i c : Nat) (f : Nat → Int32) : XS := fun i' c' => if i' = i ∧ c' = c then f else S i' c'
theorem wX_s1 (G : GG) (A : Nat → Nat) (S : XS) (r i : Nat) (h : i < 7) (f : Nat → Int32) : (wX G A S r).set (6 * i + 1) (A (6 * i + 1), .inl (G.2.1, 16, .inl f)) = wX G A (su S i 1 f) r := by
  rcases (show i = 0 ∨ i = 1 ∨ i = 2 ∨ i = 3 ∨ i = 4 ∨ i = 5 ∨ i = 6 by omega) with rfl | rfl | rfl | rfl | rfl | rfl | rfl <;> rfl
theorem wX_sc (G : GG) (A : Nat → Nat) (S : XS) (r i c : Nat) (h : i < 7) (h2 : 2 ≤ c) (h5 : c ≤ 5) (f : Nat → Int32) : (wX G A S r).set (6 * i + c) (A (6 * i + c), .inl (G.2.1, 12, .inl f)) = wX G A (su S i c f) r := by
  rcases (show c = 2 ∨ c = 3 ∨ c = 4 ∨ c = 5 by omega) with rfl | rfl | rfl | rfl <;> rcases (show i = 0 ∨ i = 1 ∨ i = 2 ∨ i = 3 ∨ i = 4 ∨ i = 5 ∨ i = 6 by omega) with rfl | rfl | rfl | rfl | rfl | rfl | rfl <;> rfl
theorem wX_so (G : GG) (A : Nat → Nat) (S : XS) (r i k : Nat) (h : i < 7) (hk : k < 7) (v : Int32) : (wX G A S r).set (6 * i) (A (6 * i), .inr (0, (chF A S i).set (5 + k) (.int v))) = wX G A (su S i 0 (upd (S i 0) k v)) r := by
  rcases (show k = 0 ∨ k = 1 ∨ k = 2 ∨ k = 3 ∨ k = 4 ∨ k = 5 ∨ k = 6 by omega) with rfl | rfl | rfl | rfl | rfl | rfl | rfl <;> rcases (show i = 0 ∨ i = 1 ∨ i = 2 ∨ i = 3 ∨ i = 4 ∨ i = 5 ∨ i = 6 by omega) with rfl | rfl | rfl | rfl | rfl | rfl | rfl <;> rfl
theorem wX_s42 (G : GG) (A : Nat → Nat) (S : XS) (r : Nat) (v : Int32) : (wX G A S r).set 42 (A 42, .inr (3, (obF A S).set 3 (.int v))) = wX G A (su S 7 0 (upd (S 7 0) 0 v)) r := rfl
theorem wX_s43 (G : GG) (A : Nat → Nat) (S : XS) (r : Nat) (v : Int32) : (wX G A S r).set 43 (A 43, .inr (1, (hiF A S).set 1 (.int v))) = wX G A (su S 7 0 (upd (S 7 0) 1 v)) r := rfl
theorem wX_s45_1 (G : GG) (A : Nat → Nat) (S : XS) (r : Nat) (v : Int32) : (wX G A S r).set 45 (A 45, .inr (2, (liF A S).set 1 (.int v))) = wX G A (su S 7 0 (upd (S 7 0) 2 v)) r := rfl
theorem wX_s45_2 (G : GG) (A : Nat → Nat) (S : XS) (r : Nat) (v : Int32) : (wX G A S r).set 45 (A 45, .inr (2, (liF A S).set 2 (.int v))) = wX G A (su S 7 0 (upd (S 7 0) 3 v)) r := rfl
theorem wX_s45_6 (G : GG) (A : Nat → Nat) (S : XS) (r : Nat) (v : Int32) : (wX G A S r).set 45 (A 45, .inr (2, (liF A S).set 6 (.int v))) = wX G A (su S 7 0 (upd (S 7 0) 4 v)) r := rfl
theorem wX_s46 (G : GG) (A : Nat → Nat) (S : XS) (r : Nat) (f : Nat → Int32) : (wX G A S r).set 46 (A 46, .inl (G.2.2.1, 80, .inl f)) = wX G A (su S 7 1 f) r := rfl
theorem wX_s47 (G : GG) (A : Nat → Nat) (S : XS) (r : Nat) (f : Nat → Int32) : (wX G A S r).set 47 (A 47, .inl (G.2.1, 20, .inl f)) = wX G A (su S 7 2 f) r := rfl
theorem wX_s48 (G : GG) (A : Nat → Nat) (S : XS) (r : Nat) (f : Nat → Int32) : (wX G A S r).set 48 (A 48, .inl (G.2.1, 20, .inl f)) = wX G A (su S 7 3 f) r := rfl
theorem wX_s49 (G : GG) (A : Nat → Nat) (S : XS) (r : Nat) (f : Nat → Int32) : (wX G A S r).set 49 (A 49, .inl (G.2.1, 20, .inl f)) = wX G A (su S 7 4 f) r := rfl
/-- the world of a WireLoopsModel: the object at B 0, now, then, past, snapshot, text, told at B 1 .. B 6; its numbers: T 0 -/
abbrev MS : Type := Nat → Nat → Int32
def moF (B : Nat → Nat) (T : MS) : List Value := [.ref (B 1), .ref (B 2), .ref (B 3), .int (T 0 0), .ref (B 4), .int (T 0 1), .ref (B 5), .int (T 0 2), .int (T 0 3), .ref (B 6), .int (T 0 4)]
def wM (G : GG) (B : Nat → Nat) (T : MS) : va_W := [(B 0, .inr (4, moF B T)), (B 1, .inl (G.2.1, 71, .inl (T 1))), (B 2, .inl (G.2.1, 71, .inl (T 2))), (B 3, .inl (G.2.1, 284, .inl (T 3))), (B 4, .inl (G.2.1, 71, .inl (T 4))), (B 5, .inl (G.2.2.1, 80, .inl (T 5))), (B 6, .inl (G.2.1, 63, .inl (T 6)))]
def lenM (j : Nat) : Nat := if j = 3 then 284 else 71
def tu (T : MS) (j : Nat) (f : Nat → Int32) : MS := fun j' => if j' = j then f else T j'
theorem wM_o (G : GG) (B : Nat → Nat) (T : MS) : (wM G B T)[0]? = some (B 0, .inr (4, moF B T)) := rfl
theorem wM_j (G : GG) (B : Nat → Nat) (T : MS) (j : Nat) (h1 : 1 ≤ j) (h4 : j ≤ 4) : (wM G B T)[j]? = some (B j, .inl (G.2.1, lenM j, .inl (T j))) := by
  rcases (show j = 1 ∨ j = 2 ∨ j = 3 ∨ j = 4 by omega) with rfl | rfl | rfl | rfl <;> rfl
theorem wM_5 (G : GG) (B : Nat → Nat) (T : MS) : (wM G B T)[5]? = some (B 5, .inl (G.2.2.1, 80, .inl (T 5))) := rfl
theorem wM_6 (G : GG) (B : Nat → Nat) (T : MS) : (wM G B T)[6]? = some (B 6, .inl (G.2.1, 63, .inl (T 6))) := rfl
theorem wM_sj (G : GG) (B : Nat → Nat) (T : MS) (j : Nat) (h1 : 1 ≤ j) (h4 : j ≤ 4) (f : Nat → Int32) : (wM G B T).set j (B j, .inl (G.2.1, lenM j, .inl f)) = wM G B (tu T j f) := by
  rcases (show j = 1 ∨ j = 2 ∨ j = 3 ∨ j = 4 by omega) with rfl | rfl | rfl | rfl <;> rfl
theorem wM_s5 (G : GG) (B : Nat → Nat) (T : MS) (f : Nat → Int32) : (wM G B T).set 5 (B 5, .inl (G.2.2.1, 80, .inl f)) = wM G B (tu T 5 f) := rfl
theorem wM_s6 (G : GG) (B : Nat → Nat) (T : MS) (f : Nat → Int32) : (wM G B T).set 6 (B 6, .inl (G.2.1, 63, .inl f)) = wM G B (tu T 6 f) := rfl
theorem wM_so3 (G : GG) (B : Nat → Nat) (T : MS) (v : Int32) : (wM G B T).set 0 (B 0, .inr (4, (moF B T).set 3 (.int v))) = wM G B (tu T 0 (upd (T 0) 0 v)) := rfl
theorem wM_so5 (G : GG) (B : Nat → Nat) (T : MS) (v : Int32) : (wM G B T).set 0 (B 0, .inr (4, (moF B T).set 5 (.int v))) = wM G B (tu T 0 (upd (T 0) 1 v)) := rfl
theorem wM_so7 (G : GG) (B : Nat → Nat) (T : MS) (v : Int32) : (wM G B T).set 0 (B 0, .inr (4, (moF B T).set 7 (.int v))) = wM G B (tu T 0 (upd (T 0) 2 v)) := rfl
theorem wM_so8 (G : GG) (B : Nat → Nat) (T : MS) (v : Int32) : (wM G B T).set 0 (B 0, .inr (4, (moF B T).set 8 (.int v))) = wM G B (tu T 0 (upd (T 0) 3 v)) := rfl
theorem wM_so10 (G : GG) (B : Nat → Nat) (T : MS) (v : Int32) : (wM G B T).set 0 (B 0, .inr (4, (moF B T).set 10 (.int v))) = wM G B (tu T 0 (upd (T 0) 4 v)) := rfl
/-! CONTRACTS -/
def Mp (l : Launch) (y : MethodName) (ws : List Cond) (rm : Room) (G : GG) (av : List Value) (w : va_W) (res : Int32) : Prop :=
  Met l y ws rm (va_Pc av (fun U => va_P G.1 vwCl w U.heap ∧ KN G U)) (vp_Si (fun r => r = res)) 0 0 (fun _ => False)
def Mm (l : Launch) (y : MethodName) (ws : List Cond) (rm : Room) (G : GG) (av : List Value) (w : va_W) (res : Int32) (w' : va_W) : Prop :=
  ∀ sz : Nat, Met l y ws rm (va_Pc av (fun U => U.heap.size = sz ∧ va_P G.1 vwCl w U.heap ∧ KN G U ∧ va_D (fun _ => True) w)) (va_Qi (fun (r : Int32) (_ : Unit) => r = res) (fun _ t => va_P G.1 vwCl w' t.heap ∧ va_D (va_A w sz) w') (va_A w sz)) 0 0 (va_A w sz)
def Mz (l : Launch) (y : MethodName) (ws : List Cond) (rm : Room) (G : GG) (av : List Value) (w : va_W) (w' : va_W) : Prop :=
  ∀ sz : Nat, Met l y ws rm (va_Pc av (fun U => U.heap.size = sz ∧ va_P G.1 vwCl w U.heap ∧ KN G U ∧ va_D (fun _ => True) w)) (va_Qv (fun (_ : Unit) => True) (fun _ t => va_P G.1 vwCl w' t.heap ∧ va_D (va_A w sz) w') (va_A w sz)) 0 0 (va_A w sz)
theorem Mp_blind {G : GG} {av : List Value} {w : va_W} : FrameBlind (va_Pc av (fun U => va_P G.1 vwCl w U.heap ∧ KN G U)) := fun a U g mk q => by
  obtain ⟨q0, qP, qK⟩ := q
  exact ⟨q0, qP, KN.same (u := U) (U := U.calling g mk a) rfl qK⟩
theorem Mm_blind {G : GG} {av : List Value} {w : va_W} {sz : Nat} : FrameBlind (va_Pc av (fun U => U.heap.size = sz ∧ va_P G.1 vwCl w U.heap ∧ KN G U ∧ va_D (fun _ => True) w)) := fun a U g mk q => by
  obtain ⟨q0, qz, qP, qK, qD⟩ := q
  exact ⟨q0, qz, qP, KN.same (u := U) (U := U.calling g mk a) rfl qK, qD⟩
/-! a method's start: what each walk begins with -/
theorem Mp.of {l : Launch} {y : MethodName} {ws ws' : List Cond} {rm : Room} {G : GG} {av : List Value} {w : va_W} {res : Int32} {cc : ByteArray} {maxL : Nat} {ret : Option FieldType} (hy : plainName y.cls = true) (hw : ws = Cond.code y cc maxL ret :: ws') (hn : (lg_sl av).length ≤ maxL)
    (body : ∀ (p : Program) (e : Env) (s : State) (m : MethodId) (args : Array Value) (below : List Frame) (meth : Method) (c : Code), CallFix p m c cc maxL s args ws y.cls → meth.sig.returnType = ret → meth.locks = false → va_P G.1 vwCl w s.heap → KN G s → ∀ ls : Array Slot, lv_has ls maxL (lv_args 0 av) → W p l e rm s m args below meth c s.heap [] 0 0 (MQ below (vp_Si (fun r => r = res)) args s 0 0 (fun _ => False)) (F0 m 0 ls [])) : Mp l y ws rm G av w res := by
  refine Met.ofW (cc := cc) (maxL := maxL) (ret := ret) hy hw ?_
  intro p e s m args below meth c s₁ B hml hv
  obtain ⟨rfl, hP, hK⟩ := hv
  have hts := atoms_spec (ws := ws) B.pre
  have hl := lv_entry av (n := maxL) hn
  rw [lg_entry_eq]
  exact body p e s m _ below meth c ⟨B.exec, B.bytes, hml, findClass_of_methodNamed B.named, hts⟩ B.returns B.notSynchronized hP hK _ hl
theorem Mm.of {l : Launch} {y : MethodName} {ws ws' : List Cond} {rm : Room} {G : GG} {av : List Value} {w : va_W} {res : Int32} {w' : va_W} {cc : ByteArray} {maxL : Nat} {ret : Option FieldType} (hy : plainName y.cls = true) (hw : ws = Cond.code y cc maxL ret :: ws') (hn : (lg_sl av).length ≤ maxL)
    (body : ∀ (p : Program) (e : Env) (s : State) (m : MethodId) (args : Array Value) (below : List Frame) (meth : Method) (c : Code) (A0 : Nat → Prop), A0 = va_A w s.heap.size → CallFix p m c cc maxL s args ws y.cls → meth.sig.returnType = ret → meth.locks = false → va_P G.1 vwCl w s.heap → KN G s → va_D A0 w → (∀ q : Nat, s.heap.size ≤ q → A0 q) → va_S A0 s.heap s.heap [] → ∀ ls : Array Slot, lv_has ls maxL (lv_args 0 av) → W p l e rm s m args below meth c s.heap [] 0 0 (MQ below (va_Qi (fun (r : Int32) (_ : Unit) => r = res) (fun _ t => va_P G.1 vwCl w' t.heap ∧ va_D A0 w') A0) args s 0 0 A0) (F0 m 0 ls [])) : Mm l y ws rm G av w res w' := by
  intro sz
  refine Met.ofW (cc := cc) (maxL := maxL) (ret := ret) hy hw ?_
  intro p e s m args below meth c s₁ B hml hv
  obtain ⟨rfl, hsz, hP, hK, hD0⟩ := hv
  subst hsz
  have hts := atoms_spec (ws := ws) B.pre
  have hl := lv_entry av (n := maxL) hn
  rw [lg_entry_eq]
  exact body p e s m _ below meth c _ rfl ⟨B.exec, B.bytes, hml, findClass_of_methodNamed B.named, hts⟩ B.returns B.notSynchronized hP hK hD0.self (fun q h => Or.inr h) va_S.rf _ hl
theorem Mz.of {l : Launch} {y : MethodName} {ws ws' : List Cond} {rm : Room} {G : GG} {av : List Value} {w : va_W} {w' : va_W} {cc : ByteArray} {maxL : Nat} {ret : Option FieldType} (hy : plainName y.cls = true) (hw : ws = Cond.code y cc maxL ret :: ws') (hn : (lg_sl av).length ≤ maxL)
    (body : ∀ (p : Program) (e : Env) (s : State) (m : MethodId) (args : Array Value) (below : List Frame) (meth : Method) (c : Code) (A0 : Nat → Prop), A0 = va_A w s.heap.size → CallFix p m c cc maxL s args ws y.cls → meth.sig.returnType = ret → meth.locks = false → va_P G.1 vwCl w s.heap → KN G s → va_D A0 w → (∀ q : Nat, s.heap.size ≤ q → A0 q) → va_S A0 s.heap s.heap [] → ∀ ls : Array Slot, lv_has ls maxL (lv_args 0 av) → W p l e rm s m args below meth c s.heap [] 0 0 (MQ below (va_Qv (fun (_ : Unit) => True) (fun _ t => va_P G.1 vwCl w' t.heap ∧ va_D A0 w') A0) args s 0 0 A0) (F0 m 0 ls [])) : Mz l y ws rm G av w w' := by
  intro sz
  refine Met.ofW (cc := cc) (maxL := maxL) (ret := ret) hy hw ?_
  intro p e s m args below meth c s₁ B hml hv
  obtain ⟨rfl, hsz, hP, hK, hD0⟩ := hv
  subst hsz
  have hts := atoms_spec (ws := ws) B.pre
  have hl := lv_entry av (n := maxL) hn
  rw [lg_entry_eq]
  exact body p e s m _ below meth c _ rfl ⟨B.exec, B.bytes, hml, findClass_of_methodNamed B.named, hts⟩ B.returns B.notSynchronized hP hK hD0.self (fun q h => Or.inr h) va_S.rf _ hl
/-! CALLS -/
section CALLS
variable {p : Program} {l : Launch} {e : Env} {R : Room} {s : State} {m : MethodId} {args : Array Value} {below : List Frame} {meth : Method} {c : Code} {H H0 : Heap} {locs : List Loc} {cells slots : Nat} {Q : State → Prop}
variable {Ts ws : List Cond} {cc bytes : ByteArray} {nL maxL index n pc : Nat} {own C : String} {y : MethodName} {ret : Option FieldType} {rm : Room} {ls : Array Slot} {rest st0 As : List Value} {G : GG} {b : Nat} {w w' : va_W} {res : Int32} {A0 : Nat → Prop}
theorem free_w (hD : va_D A0 w) (hS : va_S A0 H0 H locs) (hA : ∀ q, H0.size ≤ q → A0 q) : ∀ q, va_A w H.size q → A0 q := by
  intro q h
  rcases h with ⟨k, e, h⟩ | h
  · exact hD.2 k (q, e) h
  · exact hA q (Nat.le_trans hS.1 h)
theorem cpV (S : CallFix p m c cc nL s args Ts own) (hM : Mp l y ws rm G (.ref b :: As) w res) (cw : CallW R s args own C index y bytes maxL ret ws rm 0 0 n) (hK : KN G s) (hP : va_P G.1 vwCl w H) (q0 : Nat) {ci N : Nat} {T : u_T} {fs : List Value} (he : w[q0]? = some (b, .inr (ci, fs))) (hc : vwCl[ci]? = some (C, T, N)) (hn : As.length = n) (hl : ls.size = nL) (hst : st0 = As.reverse ++ .ref b :: rest) (hW : (rest.map fun v => v.category).sum ≤ 8) (hdg : decode cc pc = .ok (.invokevirtual index, 3)) (hf : cells ≤ R.cells ∧ slots ≤ R.slots)
    (kk : W p l e R s m args below meth c H locs cells slots Q (F0 m (pc + 3) ls (.int res :: rest))) : W p l e R s m args below meth c H locs cells slots Q (F0 m pc ls st0) :=
  vp_callSi (W.runV S hM cw ⟨Mp_blind, va_recv hK.1 hP hc he, fun U hU hW => ⟨rfl, by rw [hU]; exact hP, KN.warm hW hK⟩⟩ rfl hn hl hst (lv_room hW) hdg hf) (fun r hr => by rw [hr]; exact kk)
theorem cpS (S : CallFix p m c cc nL s args Ts own) (hM : Mp l y ws rm G As w res) (cw : CallB R s args own index y bytes maxL ret ws rm 0 0 n ∧ (Cond.static y).before args s = true) (hK : KN G s) (hP : va_P G.1 vwCl w H) (hn : As.length = n) (hl : ls.size = nL) (hst : st0 = As.reverse ++ rest) (hW : (rest.map fun v => v.category).sum ≤ 8) (hdg : decode cc pc = .ok (.invokestatic index, 3)) (hf : cells ≤ R.cells ∧ slots ≤ R.slots)
    (kk : W p l e R s m args below meth c H locs cells slots Q (F0 m (pc + 3) ls (.int res :: rest))) : W p l e R s m args below meth c H locs cells slots Q (F0 m pc ls st0) :=
  vp_callSi (W.runS S hM cw ⟨Mp_blind, fun U hU hW => ⟨rfl, by rw [hU]; exact hP, KN.warm hW hK⟩⟩ rfl hn hl hst (lv_room hW) hdg hf) (fun r hr => by rw [hr]; exact kk)
theorem cpN {host : String} (S : CallFix p m c cc nL s args Ts own) (hM : Mp l y ws rm G As w res) (cw : va_CN R s args own index y host bytes maxL ret ws rm 0 0 n) (hstat : (Cond.static y).before args s = true) (hK : KN G s) (hP : va_P G.1 vwCl w H) (hn : As.length = n) (hl : ls.size = nL) (hst : st0 = As.reverse ++ rest) (hW : (rest.map fun v => v.category).sum ≤ 8) (hdg : decode cc pc = .ok (.invokestatic index, 3)) (hf : cells ≤ R.cells ∧ slots ≤ R.slots)
    (kk : W p l e R s m args below meth c H locs cells slots Q (F0 m (pc + 3) ls (.int res :: rest))) : W p l e R s m args below meth c H locs cells slots Q (F0 m pc ls st0) :=
  vp_callSi (va_Run.run (va_runSN S hM ⟨cw, hstat, trivial⟩ ⟨Mp_blind, fun U hU hW => ⟨rfl, by rw [hU]; exact hP, KN.warm hW hK⟩⟩ rfl hn hl hst (lv_room hW) hdg hf)) (fun r hr => by rw [hr]; exact kk)
theorem cmV (S : CallFix p m c cc nL s args Ts own) (hM : Mm l y ws rm G (.ref b :: As) w res w') (cw : CallW R s args own C index y bytes maxL ret ws rm 0 0 n) (hK : KN G s) (hP : va_P G.1 vwCl w H) (hD : va_D A0 w) (hS : va_S A0 H0 H locs) (hA : ∀ q, H0.size ≤ q → A0 q) (q0 : Nat) {ci N : Nat} {T : u_T} {fs : List Value} (he : w[q0]? = some (b, .inr (ci, fs))) (hc : vwCl[ci]? = some (C, T, N)) (hn : As.length = n) (hl : ls.size = nL) (hst : st0 = As.reverse ++ .ref b :: rest) (hW : (rest.map fun v => v.category).sum ≤ 8) (hdg : decode cc pc = .ok (.invokevirtual index, 3)) (hf : cells ≤ R.cells ∧ slots ≤ R.slots)
    (kk : ∀ (H1 : Heap) (locs1 : List Loc), va_P G.1 vwCl w' H1 → va_D A0 w' → va_S A0 H0 H1 locs1 → W p l e R s m args below meth c H1 locs1 cells slots Q (F0 m (pc + 3) ls (.int res :: rest))) : W p l e R s m args below meth c H locs cells slots Q (F0 m pc ls st0) :=
  va_calli (va_runV S (hM H.size) cw ⟨Mm_blind, va_recv hK.1 hP hc he, fun U hU hW => ⟨rfl, by rw [hU], by rw [hU]; exact hP, KN.warm hW hK, hD.weaken (fun _ _ _ _ => trivial)⟩⟩ rfl hn hl hst (lv_room hW) hdg hf) hS (fun q _ h => free_w hD hS hA q h) (free_w hD hS hA) (fun r u t H1 locs1 ht hvm hw hB hz hk hS1 => by rw [hw]; exact kk H1 locs1 (by rw [← ht]; exact hB.1) (hB.2.weaken (fun _ _ _ h => free_w hD hS hA _ h)) hS1)
theorem cmS (S : CallFix p m c cc nL s args Ts own) (hM : Mm l y ws rm G As w res w') (cw : CallB R s args own index y bytes maxL ret ws rm 0 0 n ∧ (Cond.static y).before args s = true) (hK : KN G s) (hP : va_P G.1 vwCl w H) (hD : va_D A0 w) (hS : va_S A0 H0 H locs) (hA : ∀ q, H0.size ≤ q → A0 q) (hn : As.length = n) (hl : ls.size = nL) (hst : st0 = As.reverse ++ rest) (hW : (rest.map fun v => v.category).sum ≤ 8) (hdg : decode cc pc = .ok (.invokestatic index, 3)) (hf : cells ≤ R.cells ∧ slots ≤ R.slots)
    (kk : ∀ (H1 : Heap) (locs1 : List Loc), va_P G.1 vwCl w' H1 → va_D A0 w' → va_S A0 H0 H1 locs1 → W p l e R s m args below meth c H1 locs1 cells slots Q (F0 m (pc + 3) ls (.int res :: rest))) : W p l e R s m args below meth c H locs cells slots Q (F0 m pc ls st0) :=
  va_calli (va_runS S (hM H.size) cw ⟨Mm_blind, fun U hU hW => ⟨rfl, by rw [hU], by rw [hU]; exact hP, KN.warm hW hK, hD.weaken (fun _ _ _ _ => trivial)⟩⟩ rfl hn hl hst (lv_room hW) hdg hf) hS (fun q _ h => free_w hD hS hA q h) (free_w hD hS hA) (fun r u t H1 locs1 ht hvm hw hB hz hk hS1 => by rw [hw]; exact kk H1 locs1 (by rw [← ht]; exact hB.1) (hB.2.weaken (fun _ _ _ h => free_w hD hS hA _ h)) hS1)
theorem czV (S : CallFix p m c cc nL s args Ts own) (hM : Mz l y ws rm G (.ref b :: As) w w') (cw : CallW R s args own C index y bytes maxL ret ws rm 0 0 n) (hK : KN G s) (hP : va_P G.1 vwCl w H) (hD : va_D A0 w) (hS : va_S A0 H0 H locs) (hA : ∀ q, H0.size ≤ q → A0 q) (q0 : Nat) {ci N : Nat} {T : u_T} {fs : List Value} (he : w[q0]? = some (b, .inr (ci, fs))) (hc : vwCl[ci]? = some (C, T, N)) (hn : As.length = n) (hl : ls.size = nL) (hst : st0 = As.reverse ++ .ref b :: rest) (hW : (rest.map fun v => v.category).sum ≤ 8) (hdg : decode cc pc = .ok (.invokevirtual index, 3)) (hf : cells ≤ R.cells ∧ slots ≤ R.slots)
    (kk : ∀ (H1 : Heap) (locs1 : List Loc), va_P G.1 vwCl w' H1 → va_D A0 w' → va_S A0 H0 H1 locs1 → W p l e R s m args below meth c H1 locs1 cells slots Q (F0 m (pc + 3) ls rest)) : W p l e R s m args below meth c H locs cells slots Q (F0 m pc ls st0) :=
  va_callv (va_runV S (hM H.size) cw ⟨Mm_blind, va_recv hK.1 hP hc he, fun U hU hW => ⟨rfl, by rw [hU], by rw [hU]; exact hP, KN.warm hW hK, hD.weaken (fun _ _ _ _ => trivial)⟩⟩ rfl hn hl hst (lv_room hW) hdg hf) hS (fun q _ h => free_w hD hS hA q h) (free_w hD hS hA) (fun u t H1 locs1 ht hvm hw hB hz hk hS1 => kk H1 locs1 (by rw [← ht]; exact hB.1) (hB.2.weaken (fun _ _ _ h => free_w hD hS hA _ h)) hS1)
theorem czS (S : CallFix p m c cc nL s args Ts own) (hM : Mz l y ws rm G As w w') (cw : CallB R s args own index y bytes maxL ret ws rm 0 0 n ∧ (Cond.static y).before args s = true) (hK : KN G s) (hP : va_P G.1 vwCl w H) (hD : va_D A0 w) (hS : va_S A0 H0 H locs) (hA : ∀ q, H0.size ≤ q → A0 q) (hn : As.length = n) (hl : ls.size = nL) (hst : st0 = As.reverse ++ rest) (hW : (rest.map fun v => v.category).sum ≤ 8) (hdg : decode cc pc = .ok (.invokestatic index, 3)) (hf : cells ≤ R.cells ∧ slots ≤ R.slots)
    (kk : ∀ (H1 : Heap) (locs1 : List Loc), va_P G.1 vwCl w' H1 → va_D A0 w' → va_S A0 H0 H1 locs1 → W p l e R s m args below meth c H1 locs1 cells slots Q (F0 m (pc + 3) ls rest)) : W p l e R s m args below meth c H locs cells slots Q (F0 m pc ls st0) :=
  va_callv (va_runS S (hM H.size) cw ⟨Mm_blind, fun U hU hW => ⟨rfl, by rw [hU], by rw [hU]; exact hP, KN.warm hW hK, hD.weaken (fun _ _ _ _ => trivial)⟩⟩ rfl hn hl hst (lv_room hW) hdg hf) hS (fun q _ h => free_w hD hS hA q h) (free_w hD hS hA) (fun u t H1 locs1 ht hvm hw hB hz hk hS1 => kk H1 locs1 (by rw [← ht]; exact hB.1) (hB.2.weaken (fun _ _ _ h => free_w hD hS hA _ h)) hS1)
/-! ENDS -/
variable {P0 : va_W → Prop}
theorem endP {cc : ByteArray} {v : Int32} {ty : FieldType} (hx : p.tables.exec = Jvm.exec) (hb : c.code = cc) (hr : meth.sig.returnType = some ty) (hlocks : meth.locks = false) (hn : narrow ty (.int v) = .int v) (hv : v = res) (hdg : decode cc pc = .ok (.ireturn, 1)) : W p l e R s m args below meth c s.heap [] cells slots (MQ below (vp_Si (fun r => r = res)) args s cells slots (fun _ => False)) (F0 m pc ls [.int v]) :=
  W.zret hx hb hr hn (fun t ht _ => ⟨v, rfl, hv, ht⟩) (fun q h => by cases h) hdg hlocks
theorem endM {cc : ByteArray} {v : Int32} {ty : FieldType} {w1 : va_W} (hx : p.tables.exec = Jvm.exec) (hb : c.code = cc) (hr : meth.sig.returnType = some ty) (hlocks : meth.locks = false) (hn : narrow ty (.int v) = .int v) (hP : va_P G.1 vwCl w1 H) (hD : va_D A0 w1) (hS : va_S A0 s.heap H locs) (hv : v = res ∧ w1 = w') (hdg : decode cc pc = .ok (.ireturn, 1)) : W p l e R s m args below meth c H locs cells slots (MQ below (va_Qi (fun (r : Int32) (_ : Unit) => r = res) (fun _ t => va_P G.1 vwCl w' t.heap ∧ va_D A0 w') A0) args s cells slots A0) (F0 m pc ls [.int v]) :=
  W.zret hx hb hr hn (fun t ht _ => ⟨⟨v, (), rfl, hv.1, by rw [ht, ← hv.2]; exact hP, by rw [← hv.2]; exact hD⟩, hS.F ht⟩) hS.2.2 hdg hlocks
theorem endZ {cc : ByteArray} {w1 : va_W} (hx : p.tables.exec = Jvm.exec) (hb : c.code = cc) (hr : meth.sig.returnType = none) (hlocks : meth.locks = false) (hP : va_P G.1 vwCl w1 H) (hD : va_D A0 w1) (hS : va_S A0 s.heap H locs) (hv : w1 = w') (hdg : decode cc pc = .ok (.return_, 1)) : W p l e R s m args below meth c H locs cells slots (MQ below (va_Qv (fun (_ : Unit) => True) (fun _ t => va_P G.1 vwCl w' t.heap ∧ va_D A0 w') A0) args s cells slots A0) (F0 m pc ls []) :=
  W.vret hx hb hr (fun t ht _ => ⟨⟨(), rfl, trivial, by rw [ht, ← hv]; exact hP, by rw [← hv]; exact hD⟩, hS.F ht⟩) hS.2.2 hdg hlocks
end CALLS
