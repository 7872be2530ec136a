/-! states that agree where the world looks; the addresses alone; one chip becomes another -/
theorem va_P_app {D : va_G} {cl : List vw_C} {a b : va_W} {H : Heap} (h : va_P D cl (a ++ b) H) : va_P D cl a H ∧ va_P D cl b H := by
  refine ⟨fun k q hk => h k q ?_, fun k q hk => h (a.length + k) q ?_⟩
  · rw [List.getElem?_append_left (List.getElem?_eq_some_iff.mp hk).1]; exact hk
  · rw [List.getElem?_append_right (by omega), Nat.add_sub_cancel_left]; exact hk
theorem arr_ext {c : ClassId} {n : Nat} {f g : Nat → Int32} (h : ∀ k, k < n → f k = g k) : vp_cell c (n, .inl f) = vp_cell c (n, .inl g) := by
  rw [vp_cell_i, vp_cell_i]
  unfold arrV
  congr 1
  congr 1
  funext j
  exact congrArg Value.int (h j.val j.isLt)
theorem arr_extq {c : ClassId} {n : Nat} {f g : Nat → Option Nat} (h : ∀ k, k < n → f k = g k) : vp_cell c (n, .inr (.inr (.inr (.inr f)))) = vp_cell c (n, .inr (.inr (.inr (.inr g)))) := by
  rw [vp_cell_q, vp_cell_q]
  unfold arrV
  congr 1
  congr 1
  funext j
  exact congrArg va_rf (h j.val j.isLt)
theorem chF_ext {A : Nat → Nat} {S S' : XS} {i : Nat} (h : ∀ k, k < 7 → S i 0 k = S' i 0 k) : chF A S i = chF A S' i := by
  unfold chF
  rw [h 0 (by decide), h 1 (by decide), h 2 (by decide), h 3 (by decide), h 4 (by decide), h 5 (by decide), h 6 (by decide)]
/-- the same chip, as far as a world looks -/
def eqC (C E : Nat → Nat → Int32) : Prop := (∀ k, k < 7 → C 0 k = E 0 k) ∧ (∀ k, k < 16 → C 1 k = E 1 k) ∧ (∀ k, k < 12 → C 2 k = E 2 k) ∧ (∀ k, k < 12 → C 3 k = E 3 k) ∧ (∀ k, k < 12 → C 4 k = E 4 k) ∧ (∀ k, k < 12 → C 5 k = E 5 k)
def eqR (C E : Nat → Nat → Int32) : Prop := (∀ k, k < 5 → C 0 k = E 0 k) ∧ (∀ k, k < 80 → C 1 k = E 1 k) ∧ (∀ k, k < 20 → C 2 k = E 2 k) ∧ (∀ k, k < 20 → C 3 k = E 3 k) ∧ (∀ k, k < 20 → C 4 k = E 4 k)
def eqX (S S' : XS) : Prop := (∀ i, i < 7 → eqC (S i) (S' i)) ∧ eqR (S 7) (S' 7)
theorem eqC.rfl' {C : Nat → Nat → Int32} : eqC C C := ⟨fun _ _ => rfl, fun _ _ => rfl, fun _ _ => rfl, fun _ _ => rfl, fun _ _ => rfl, fun _ _ => rfl⟩
theorem eqR.rfl' {C : Nat → Nat → Int32} : eqR C C := ⟨fun _ _ => rfl, fun _ _ => rfl, fun _ _ => rfl, fun _ _ => rfl, fun _ _ => rfl⟩
theorem eqC.symm' {C E : Nat → Nat → Int32} (h : eqC C E) : eqC E C := ⟨fun k hk => (h.1 k hk).symm, fun k hk => (h.2.1 k hk).symm, fun k hk => (h.2.2.1 k hk).symm, fun k hk => (h.2.2.2.1 k hk).symm, fun k hk => (h.2.2.2.2.1 k hk).symm, fun k hk => (h.2.2.2.2.2 k hk).symm⟩
theorem eqC.trans' {C E F : Nat → Nat → Int32} (h : eqC C E) (g : eqC E F) : eqC C F := ⟨fun k hk => (h.1 k hk).trans (g.1 k hk), fun k hk => (h.2.1 k hk).trans (g.2.1 k hk), fun k hk => (h.2.2.1 k hk).trans (g.2.2.1 k hk), fun k hk => (h.2.2.2.1 k hk).trans (g.2.2.2.1 k hk), fun k hk => (h.2.2.2.2.1 k hk).trans (g.2.2.2.2.1 k hk), fun k hk => (h.2.2.2.2.2 k hk).trans (g.2.2.2.2.2 k hk)⟩
theorem wCh_ext {G : GG} {A : Nat → Nat} {S S' : XS} {i : Nat} {H : Heap} (e : eqC (S i) (S' i)) (h : va_P G.1 vwCl (wCh G A S i) H) : va_P G.1 vwCl (wCh G A S' i) H := by
  obtain ⟨e0, e1, e2, e3, e4, e5⟩ := e
  intro k q hk
  match k, hk with
  | 0, hk =>
    cases hk
    have h0 := h 0 _ rfl
    rw [chF_ext e0] at h0
    exact h0
  | 1, hk => cases hk; exact (h 1 _ rfl).trans (congrArg some (arr_ext e1))
  | 2, hk => cases hk; exact (h 2 _ rfl).trans (congrArg some (arr_ext e2))
  | 3, hk => cases hk; exact (h 3 _ rfl).trans (congrArg some (arr_ext e3))
  | 4, hk => cases hk; exact (h 4 _ rfl).trans (congrArg some (arr_ext e4))
  | 5, hk => cases hk; exact (h 5 _ rfl).trans (congrArg some (arr_ext e5))
  | n + 6, hk => simp [wCh] at hk
theorem wRest_ext {G : GG} {A : Nat → Nat} {S S' : XS} {r r' : Nat} {H : Heap} (e : eqR (S 7) (S' 7)) (hr : ∀ k, k < 4 → kfX A r k = kfX A r' k) (h : va_P G.1 vwCl (wRest G A S r) H) : va_P G.1 vwCl (wRest G A S' r') H := by
  obtain ⟨e0, e1, e2, e3, e4⟩ := e
  have f0 := e0 0 (by decide)
  have f1 := e0 1 (by decide)
  have f2 := e0 2 (by decide)
  have f3 := e0 3 (by decide)
  have f4 := e0 4 (by decide)
  intro k q hk
  match k, hk with
  | 0, hk =>
    cases hk
    have h0 := h 0 _ rfl
    rw [show obF A S = obF A S' from by unfold obF; rw [f0]] at h0
    exact h0
  | 1, hk =>
    cases hk
    have h0 := h 1 _ rfl
    rw [show hiF A S = hiF A S' from by unfold hiF; rw [f1]] at h0
    exact h0
  | 2, hk => cases hk; exact (h 2 _ rfl).trans (congrArg some (arr_extq hr))
  | 3, hk =>
    cases hk
    have h0 := h 3 _ rfl
    rw [show liF A S = liF A S' from by unfold liF; rw [f2, f3, f4]] at h0
    exact h0
  | 4, hk => cases hk; exact (h 4 _ rfl).trans (congrArg some (arr_ext e1))
  | 5, hk => cases hk; exact (h 5 _ rfl).trans (congrArg some (arr_ext e2))
  | 6, hk => cases hk; exact (h 6 _ rfl).trans (congrArg some (arr_ext e3))
  | 7, hk => cases hk; exact (h 7 _ rfl).trans (congrArg some (arr_ext e4))
  | n + 8, hk => simp [wRest] at hk
theorem wX_ext {G : GG} {A : Nat → Nat} {S S' : XS} {r r' : Nat} {H : Heap} (e : eqX S S') (hr : ∀ k, k < 4 → kfX A r k = kfX A r' k) (h : va_P G.1 vwCl (wX G A S r) H) : va_P G.1 vwCl (wX G A S' r') H := by
  unfold wX at h ⊢
  obtain ⟨h0, h⟩ := va_P_app h
  obtain ⟨h1, h⟩ := va_P_app h
  obtain ⟨h2, h⟩ := va_P_app h
  obtain ⟨h3, h⟩ := va_P_app h
  obtain ⟨h4, h⟩ := va_P_app h
  obtain ⟨h5, h⟩ := va_P_app h
  obtain ⟨h6, h⟩ := va_P_app h
  exact (wCh_ext (e.1 0 (by decide)) h0).app ((wCh_ext (e.1 1 (by decide)) h1).app ((wCh_ext (e.1 2 (by decide)) h2).app ((wCh_ext (e.1 3 (by decide)) h3).app ((wCh_ext (e.1 4 (by decide)) h4).app ((wCh_ext (e.1 5 (by decide)) h5).app ((wCh_ext (e.1 6 (by decide)) h6).app (wRest_ext e.2 hr h)))))))
/-- a world's addresses alone say that they are apart -/
theorem va_D_fst {A0 : Nat → Prop} {a b : va_W} (e : a.map Prod.fst = b.map Prod.fst) (h : va_D A0 a) : va_D A0 b := by
  have key : ∀ (k : Nat) (q : Nat × va_E), b[k]? = some q → ∃ q0, a[k]? = some q0 ∧ q0.1 = q.1 := by
    intro k q hk
    have h1 : (b.map Prod.fst)[k]? = some q.1 := by rw [List.getElem?_map, hk]; rfl
    rw [← e, List.getElem?_map] at h1
    cases h2 : a[k]? with
    | none => rw [h2] at h1; cases h1
    | some q0 => rw [h2] at h1; exact ⟨q0, rfl, Option.some.inj h1⟩
  refine ⟨fun i j x y hi hj hxy => ?_, fun k q hk => ?_⟩
  · obtain ⟨x0, g1, g2⟩ := key i x hi
    obtain ⟨y0, g3, g4⟩ := key j y hj
    exact h.1 i j x0 y0 g1 g3 (g2.trans (hxy.trans g4.symm))
  · obtain ⟨q0, g1, g2⟩ := key k q hk
    rw [← g2]
    exact h.2 k q0 g1
theorem wX_D {G : GG} {A : Nat → Nat} {S S' : XS} {r r' : Nat} {A0 : Nat → Prop} (h : va_D A0 (wX G A S r)) : va_D A0 (wX G A S' r') := va_D_fst (a := wX G A S r) (b := wX G A S' r') rfl h
theorem wM_D {G : GG} {B : Nat → Nat} {T T' : MS} {A0 : Nat → Prop} (h : va_D A0 (wM G B T)) : va_D A0 (wM G B T') := va_D_fst (a := wM G B T) (b := wM G B T') rfl h
/-- chip i becomes chip j -/
def sc (S : XS) (i j : Nat) : XS := fun i' => if i' = i then S j else S i'
theorem cpy16 {f g : Nat → Int32} : ∀ k, k < 16 → va_cpy f g (0 : Int32).toNatClampNeg (0 : Int32).toNatClampNeg (16 : Int32).toNatClampNeg k = f k := by
  intro k hk
  rw [show (0 : Int32).toNatClampNeg = 0 from by decide, show (16 : Int32).toNatClampNeg = 16 from by decide, pk_cpy_in (Nat.zero_le k) (by omega), Nat.sub_zero, Nat.zero_add]
theorem cpy12 {f g : Nat → Int32} : ∀ k, k < 12 → va_cpy f g (0 : Int32).toNatClampNeg (0 : Int32).toNatClampNeg (12 : Int32).toNatClampNeg k = f k := by
  intro k hk
  rw [show (0 : Int32).toNatClampNeg = 0 from by decide, show (12 : Int32).toNatClampNeg = 12 from by decide, pk_cpy_in (Nat.zero_le k) (by omega), Nat.sub_zero, Nat.zero_add]
/-- a cell of the row of the history, by what it holds below 4 -/
theorem wX_kept {G : GG} {A : Nat → Nat} {S : XS} {r r' : Nat} {f : Nat → Option Nat} {H : Heap} (h : va_P G.1 vwCl ((wX G A S r).set 44 (A 44, .inl (G.2.2.2, 4, .inr (.inr (.inr (.inr f)))))) H) (e : ∀ k, k < 4 → f k = kfX A r' k) : va_P G.1 vwCl (wX G A S r') H := by
  have hw : wX G A S r' = (wX G A S r).set 44 (A 44, .inl (G.2.2.2, 4, .inr (.inr (.inr (.inr (kfX A r')))))) := rfl
  rw [hw]
  have hl : 44 < (wX G A S r).length := (by decide : 44 < 50)
  intro k q hk
  by_cases hkp : k = 44
  · subst hkp
    rw [List.getElem?_set_self hl] at hk
    cases hk
    exact (h 44 _ (List.getElem?_set_self hl)).trans (congrArg some (arr_extq e))
  · rw [List.getElem?_set_ne (Ne.symm hkp)] at hk
    exact h k q (by rw [List.getElem?_set_ne (Ne.symm hkp)]; exact hk)
theorem wX_keptD {G : GG} {A : Nat → Nat} {S S' : XS} {r r' : Nat} {f : Nat → Option Nat} {A0 : Nat → Prop} (h : va_D A0 ((wX G A S r).set 44 (A 44, .inl (G.2.2.2, 4, .inr (.inr (.inr (.inr f))))))) : va_D A0 (wX G A S' r') := va_D_fst (a := (wX G A S r).set 44 (A 44, .inl (G.2.2.2, 4, .inr (.inr (.inr (.inr f)))))) (b := wX G A S' r') rfl h
/-! a method that answers a reference and changes nothing -/
def Mr (l : Launch) (y : MethodName) (ws : List Cond) (rm : Room) (G : GG) (av : List Value) (w : va_W) (v : Value) : Prop :=
  Met l y ws rm (va_Pc av (fun U => va_P G.1 vwCl w U.heap ∧ KN G U)) (va_Sr (fun _ => True) (fun _ => v)) 0 0 (fun _ => False)
theorem Mr.of {l : Launch} {y : MethodName} {ws ws' : List Cond} {rm : Room} {G : GG} {av : List Value} {w : va_W} {v : Value} {cc : ByteArray} {maxL : Nat} {ret : Option FieldType} (hy : plainName y.cls = true) (hw : ws = Cond.code y cc maxL ret :: ws') (hn : (lg_sl av).length ≤ maxL)
    (body : ∀ (p : Program) (e : Env) (s : State) (m : MethodId) (args : Array Value) (below : List Frame) (meth : Method) (c : Code), CallFix p m c cc maxL s args ws y.cls → meth.sig.returnType = ret → meth.locks = false → va_P G.1 vwCl w s.heap → KN G s → ∀ ls : Array Slot, lv_has ls maxL (lv_args 0 av) → W p l e rm s m args below meth c s.heap [] 0 0 (MQ below (va_Sr (fun _ => True) (fun _ => v)) args s 0 0 (fun _ => False)) (F0 m 0 ls [])) : Mr l y ws rm G av w v := by
  refine Met.ofW (cc := cc) (maxL := maxL) (ret := ret) hy hw ?_
  intro p e s m args below meth c s₁ B hml hv
  obtain ⟨rfl, hP, hK⟩ := hv
  have hts := atoms_spec (ws := ws) B.pre
  have hl := lv_entry av (n := maxL) hn
  rw [lg_entry_eq]
  exact body p e s m _ below meth c ⟨B.exec, B.bytes, hml, findClass_of_methodNamed B.named, hts⟩ B.returns B.notSynchronized hP hK _ hl
section CALLR
variable {p : Program} {l : Launch} {e : Env} {R : Room} {s : State} {m : MethodId} {args : Array Value} {below : List Frame} {meth : Method} {c : Code} {H H0 : Heap} {locs : List Loc} {cells slots : Nat} {Q : State → Prop}
variable {Ts ws : List Cond} {cc bytes : ByteArray} {nL maxL index n pc : Nat} {own C : String} {y : MethodName} {ret : Option FieldType} {rm : Room} {ls : Array Slot} {rest st0 As : List Value} {G : GG} {b : Nat} {w : va_W} {v : Value}
theorem crV (S : CallFix p m c cc nL s args Ts own) (hM : Mr l y ws rm G (.ref b :: As) w v) (cw : CallW R s args own C index y bytes maxL ret ws rm 0 0 n) (hK : KN G s) (hP : va_P G.1 vwCl w H) (q0 : Nat) {ci N : Nat} {T : u_T} {fs : List Value} (he : w[q0]? = some (b, .inr (ci, fs))) (hc : vwCl[ci]? = some (C, T, N)) (hn : As.length = n) (hl : ls.size = nL) (hst : st0 = As.reverse ++ .ref b :: rest) (hW : (rest.map fun v => v.category).sum ≤ 8) (hdg : decode cc pc = .ok (.invokevirtual index, 3)) (hf : cells ≤ R.cells ∧ slots ≤ R.slots)
    (kk : W p l e R s m args below meth c H locs cells slots Q (F0 m (pc + 3) ls (v :: rest))) : W p l e R s m args below meth c H locs cells slots Q (F0 m pc ls st0) :=
  va_csr (W.runV S hM cw ⟨Mp_blind, va_recv hK.1 hP hc he, fun U hU hW => ⟨rfl, by rw [hU]; exact hP, KN.warm hW hK⟩⟩ rfl hn hl hst (lv_room hW) hdg hf) (fun _ _ => kk)
theorem endR {cc : ByteArray} {a : Nat} {n : String} (hx : p.tables.exec = Jvm.exec) (hb : c.code = cc) (hr : meth.sig.returnType = some (.object n)) (hlocks : meth.locks = false) (hdg : decode cc pc = .ok (.areturn, 1)) : W p l e R s m args below meth c s.heap [] cells slots (MQ below (va_Sr (fun _ => True) (fun _ => .ref a)) args s cells slots (fun _ => False)) (F0 m pc ls [.ref a]) :=
  W.aret hx hb hr (Or.inl ⟨n, rfl⟩) (Or.inr ⟨a, rfl⟩) (fun t ht _ => ⟨0, rfl, trivial, ht⟩) (fun q h => by cases h) hdg hlocks
end CALLR
/-- how often the row of the history was turned: kept in the state, at 8 -/
def rot (S : XS) : Nat := (S 8 0 0).toNatClampNeg % 4
