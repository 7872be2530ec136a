/-- the history's row takes chip e: what record does -/
def recS (S : XS) (e : Nat) : XS :=
  if S 7 0 1 = 4 then su (su (sc (su S 7 0 (upd (S 7 0) 1 3)) (3 + (3 + (rot S + 1) % 4) % 4) e) 7 0 (upd (upd (S 7 0) 1 3) 1 4)) 8 0 (upd (S 8 0) 0 (nI ((rot S + 1) % 4)))
  else su (sc S (3 + ((S 7 0 1).toNatClampNeg + rot S) % 4) e) 7 0 (upd (S 7 0) 1 (S 7 0 1 + 1))
/-- what takeLatest does to chip 0 -/
def tkS (S : XS) : XS := su (sc S 0 (3 + ((S 7 0 1).toNatClampNeg - 1 + rot S) % 4)) 7 0 (upd (S 7 0) 1 (S 7 0 1 - 1))
theorem rot_lt (S : XS) : rot S < 4 := Nat.mod_lt _ (by decide)
set_option maxHeartbeats 4000000 in
theorem c_X1_record_0 (l : Launch) (G : GG) (A : Nat → Nat) (S : XS) (q : Nat) (hq : S 7 0 1 = nI q) (hq4 : q ≤ 4) (hbe : S 0 0 4 = 0 ∨ S 0 0 4 = 1) : Mz l yX1_record wsX1_record ({ frames := 2, cells := 0, slots := 0, locals := 47 } : Room) G [.ref (A 43), .ref (A (6 * 0))] (wX G A S (rot S)) (wX G A (recS S 0) (rot (recS S 0))) := by
  have h4 := rot_lt S
  generalize hr : rot S = r at h4 ⊢
  rcases (show r = 0 ∨ r = 1 ∨ r = 2 ∨ r = 3 by omega) with rfl | rfl | rfl | rfl <;> rcases (show q = 0 ∨ q = 1 ∨ q = 2 ∨ q = 3 ∨ q = 4 by omega) with rfl | rfl | rfl | rfl | rfl
  · skip
    have e2 : recS S 0 = su (sc S 3 0) 7 0 (upd (S 7 0) 1 1) := by
      unfold recS
      rw [if_neg (by rw [hq]; decide), hr, hq, show (nI 0).toNatClampNeg = 0 from by decide, show (nI 0 + 1 : Int32) = 1 from by decide]
    have e3 : rot (recS S 0) = 0 := by rw [e2]; exact hr
    rw [e3, e2]
    exact c_X1_record_0_0_0 l G A S hq hbe
  · skip
    have e2 : recS S 0 = su (sc S 4 0) 7 0 (upd (S 7 0) 1 2) := by
      unfold recS
      rw [if_neg (by rw [hq]; decide), hr, hq, show (nI 1).toNatClampNeg = 1 from by decide, show (nI 1 + 1 : Int32) = 2 from by decide]
    have e3 : rot (recS S 0) = 0 := by rw [e2]; exact hr
    rw [e3, e2]
    exact c_X1_record_0_1_0 l G A S hq hbe
  · skip
    have e2 : recS S 0 = su (sc S 5 0) 7 0 (upd (S 7 0) 1 3) := by
      unfold recS
      rw [if_neg (by rw [hq]; decide), hr, hq, show (nI 2).toNatClampNeg = 2 from by decide, show (nI 2 + 1 : Int32) = 3 from by decide]
    have e3 : rot (recS S 0) = 0 := by rw [e2]; exact hr
    rw [e3, e2]
    exact c_X1_record_0_2_0 l G A S hq hbe
  · skip
    have e2 : recS S 0 = su (sc S 6 0) 7 0 (upd (S 7 0) 1 4) := by
      unfold recS
      rw [if_neg (by rw [hq]; decide), hr, hq, show (nI 3).toNatClampNeg = 3 from by decide, show (nI 3 + 1 : Int32) = 4 from by decide]
    have e3 : rot (recS S 0) = 0 := by rw [e2]; exact hr
    rw [e3, e2]
    exact c_X1_record_0_3_0 l G A S hq hbe
  · skip
    have e2 : recS S 0 = su (su (sc (su S 7 0 (upd (S 7 0) 1 3)) 3 0) 7 0 (upd (upd (S 7 0) 1 3) 1 4)) 8 0 (upd (S 8 0) 0 (nI 1)) := by
      unfold recS
      rw [if_pos (show S 7 0 1 = 4 from hq), hr]
    have e3 : rot (recS S 0) = 1 := by rw [e2]; show (nI 1).toNatClampNeg % 4 = 1; decide
    rw [e3, e2]
    exact c_X1_record_0_4_0 l G A S hq hbe
  · skip
    have e2 : recS S 0 = su (sc S 4 0) 7 0 (upd (S 7 0) 1 1) := by
      unfold recS
      rw [if_neg (by rw [hq]; decide), hr, hq, show (nI 0).toNatClampNeg = 0 from by decide, show (nI 0 + 1 : Int32) = 1 from by decide]
    have e3 : rot (recS S 0) = 1 := by rw [e2]; exact hr
    rw [e3, e2]
    exact c_X1_record_0_0_1 l G A S hq hbe
  · skip
    have e2 : recS S 0 = su (sc S 5 0) 7 0 (upd (S 7 0) 1 2) := by
      unfold recS
      rw [if_neg (by rw [hq]; decide), hr, hq, show (nI 1).toNatClampNeg = 1 from by decide, show (nI 1 + 1 : Int32) = 2 from by decide]
    have e3 : rot (recS S 0) = 1 := by rw [e2]; exact hr
    rw [e3, e2]
    exact c_X1_record_0_1_1 l G A S hq hbe
  · skip
    have e2 : recS S 0 = su (sc S 6 0) 7 0 (upd (S 7 0) 1 3) := by
      unfold recS
      rw [if_neg (by rw [hq]; decide), hr, hq, show (nI 2).toNatClampNeg = 2 from by decide, show (nI 2 + 1 : Int32) = 3 from by decide]
    have e3 : rot (recS S 0) = 1 := by rw [e2]; exact hr
    rw [e3, e2]
    exact c_X1_record_0_2_1 l G A S hq hbe
  · skip
    have e2 : recS S 0 = su (sc S 3 0) 7 0 (upd (S 7 0) 1 4) := by
      unfold recS
      rw [if_neg (by rw [hq]; decide), hr, hq, show (nI 3).toNatClampNeg = 3 from by decide, show (nI 3 + 1 : Int32) = 4 from by decide]
    have e3 : rot (recS S 0) = 1 := by rw [e2]; exact hr
    rw [e3, e2]
    exact c_X1_record_0_3_1 l G A S hq hbe
  · skip
    have e2 : recS S 0 = su (su (sc (su S 7 0 (upd (S 7 0) 1 3)) 4 0) 7 0 (upd (upd (S 7 0) 1 3) 1 4)) 8 0 (upd (S 8 0) 0 (nI 2)) := by
      unfold recS
      rw [if_pos (show S 7 0 1 = 4 from hq), hr]
    have e3 : rot (recS S 0) = 2 := by rw [e2]; show (nI 2).toNatClampNeg % 4 = 2; decide
    rw [e3, e2]
    exact c_X1_record_0_4_1 l G A S hq hbe
  · skip
    have e2 : recS S 0 = su (sc S 5 0) 7 0 (upd (S 7 0) 1 1) := by
      unfold recS
      rw [if_neg (by rw [hq]; decide), hr, hq, show (nI 0).toNatClampNeg = 0 from by decide, show (nI 0 + 1 : Int32) = 1 from by decide]
    have e3 : rot (recS S 0) = 2 := by rw [e2]; exact hr
    rw [e3, e2]
    exact c_X1_record_0_0_2 l G A S hq hbe
  · skip
    have e2 : recS S 0 = su (sc S 6 0) 7 0 (upd (S 7 0) 1 2) := by
      unfold recS
      rw [if_neg (by rw [hq]; decide), hr, hq, show (nI 1).toNatClampNeg = 1 from by decide, show (nI 1 + 1 : Int32) = 2 from by decide]
    have e3 : rot (recS S 0) = 2 := by rw [e2]; exact hr
    rw [e3, e2]
    exact c_X1_record_0_1_2 l G A S hq hbe
  · skip
    have e2 : recS S 0 = su (sc S 3 0) 7 0 (upd (S 7 0) 1 3) := by
      unfold recS
      rw [if_neg (by rw [hq]; decide), hr, hq, show (nI 2).toNatClampNeg = 2 from by decide, show (nI 2 + 1 : Int32) = 3 from by decide]
    have e3 : rot (recS S 0) = 2 := by rw [e2]; exact hr
    rw [e3, e2]
    exact c_X1_record_0_2_2 l G A S hq hbe
  · skip
    have e2 : recS S 0 = su (sc S 4 0) 7 0 (upd (S 7 0) 1 4) := by
      unfold recS
      rw [if_neg (by rw [hq]; decide), hr, hq, show (nI 3).toNatClampNeg = 3 from by decide, show (nI 3 + 1 : Int32) = 4 from by decide]
    have e3 : rot (recS S 0) = 2 := by rw [e2]; exact hr
    rw [e3, e2]
    exact c_X1_record_0_3_2 l G A S hq hbe
  · skip
    have e2 : recS S 0 = su (su (sc (su S 7 0 (upd (S 7 0) 1 3)) 5 0) 7 0 (upd (upd (S 7 0) 1 3) 1 4)) 8 0 (upd (S 8 0) 0 (nI 3)) := by
      unfold recS
      rw [if_pos (show S 7 0 1 = 4 from hq), hr]
    have e3 : rot (recS S 0) = 3 := by rw [e2]; show (nI 3).toNatClampNeg % 4 = 3; decide
    rw [e3, e2]
    exact c_X1_record_0_4_2 l G A S hq hbe
  · skip
    have e2 : recS S 0 = su (sc S 6 0) 7 0 (upd (S 7 0) 1 1) := by
      unfold recS
      rw [if_neg (by rw [hq]; decide), hr, hq, show (nI 0).toNatClampNeg = 0 from by decide, show (nI 0 + 1 : Int32) = 1 from by decide]
    have e3 : rot (recS S 0) = 3 := by rw [e2]; exact hr
    rw [e3, e2]
    exact c_X1_record_0_0_3 l G A S hq hbe
  · skip
    have e2 : recS S 0 = su (sc S 3 0) 7 0 (upd (S 7 0) 1 2) := by
      unfold recS
      rw [if_neg (by rw [hq]; decide), hr, hq, show (nI 1).toNatClampNeg = 1 from by decide, show (nI 1 + 1 : Int32) = 2 from by decide]
    have e3 : rot (recS S 0) = 3 := by rw [e2]; exact hr
    rw [e3, e2]
    exact c_X1_record_0_1_3 l G A S hq hbe
  · skip
    have e2 : recS S 0 = su (sc S 4 0) 7 0 (upd (S 7 0) 1 3) := by
      unfold recS
      rw [if_neg (by rw [hq]; decide), hr, hq, show (nI 2).toNatClampNeg = 2 from by decide, show (nI 2 + 1 : Int32) = 3 from by decide]
    have e3 : rot (recS S 0) = 3 := by rw [e2]; exact hr
    rw [e3, e2]
    exact c_X1_record_0_2_3 l G A S hq hbe
  · skip
    have e2 : recS S 0 = su (sc S 5 0) 7 0 (upd (S 7 0) 1 4) := by
      unfold recS
      rw [if_neg (by rw [hq]; decide), hr, hq, show (nI 3).toNatClampNeg = 3 from by decide, show (nI 3 + 1 : Int32) = 4 from by decide]
    have e3 : rot (recS S 0) = 3 := by rw [e2]; exact hr
    rw [e3, e2]
    exact c_X1_record_0_3_3 l G A S hq hbe
  · skip
    have e2 : recS S 0 = su (su (sc (su S 7 0 (upd (S 7 0) 1 3)) 6 0) 7 0 (upd (upd (S 7 0) 1 3) 1 4)) 8 0 (upd (S 8 0) 0 (nI 0)) := by
      unfold recS
      rw [if_pos (show S 7 0 1 = 4 from hq), hr]
    have e3 : rot (recS S 0) = 0 := by rw [e2]; show (nI 0).toNatClampNeg % 4 = 0; decide
    rw [e3, e2]
    exact c_X1_record_0_4_3 l G A S hq hbe
set_option maxHeartbeats 4000000 in
theorem c_X1_record_1 (l : Launch) (G : GG) (A : Nat → Nat) (S : XS) (q : Nat) (hq : S 7 0 1 = nI q) (hq4 : q ≤ 4) (hbe : S 1 0 4 = 0 ∨ S 1 0 4 = 1) : Mz l yX1_record wsX1_record ({ frames := 2, cells := 0, slots := 0, locals := 47 } : Room) G [.ref (A 43), .ref (A (6 * 1))] (wX G A S (rot S)) (wX G A (recS S 1) (rot (recS S 1))) := by
  have h4 := rot_lt S
  generalize hr : rot S = r at h4 ⊢
  rcases (show r = 0 ∨ r = 1 ∨ r = 2 ∨ r = 3 by omega) with rfl | rfl | rfl | rfl <;> rcases (show q = 0 ∨ q = 1 ∨ q = 2 ∨ q = 3 ∨ q = 4 by omega) with rfl | rfl | rfl | rfl | rfl
  · skip
    have e2 : recS S 1 = su (sc S 3 1) 7 0 (upd (S 7 0) 1 1) := by
      unfold recS
      rw [if_neg (by rw [hq]; decide), hr, hq, show (nI 0).toNatClampNeg = 0 from by decide, show (nI 0 + 1 : Int32) = 1 from by decide]
    have e3 : rot (recS S 1) = 0 := by rw [e2]; exact hr
    rw [e3, e2]
    exact c_X1_record_1_0_0 l G A S hq hbe
  · skip
    have e2 : recS S 1 = su (sc S 4 1) 7 0 (upd (S 7 0) 1 2) := by
      unfold recS
      rw [if_neg (by rw [hq]; decide), hr, hq, show (nI 1).toNatClampNeg = 1 from by decide, show (nI 1 + 1 : Int32) = 2 from by decide]
    have e3 : rot (recS S 1) = 0 := by rw [e2]; exact hr
    rw [e3, e2]
    exact c_X1_record_1_1_0 l G A S hq hbe
  · skip
    have e2 : recS S 1 = su (sc S 5 1) 7 0 (upd (S 7 0) 1 3) := by
      unfold recS
      rw [if_neg (by rw [hq]; decide), hr, hq, show (nI 2).toNatClampNeg = 2 from by decide, show (nI 2 + 1 : Int32) = 3 from by decide]
    have e3 : rot (recS S 1) = 0 := by rw [e2]; exact hr
    rw [e3, e2]
    exact c_X1_record_1_2_0 l G A S hq hbe
  · skip
    have e2 : recS S 1 = su (sc S 6 1) 7 0 (upd (S 7 0) 1 4) := by
      unfold recS
      rw [if_neg (by rw [hq]; decide), hr, hq, show (nI 3).toNatClampNeg = 3 from by decide, show (nI 3 + 1 : Int32) = 4 from by decide]
    have e3 : rot (recS S 1) = 0 := by rw [e2]; exact hr
    rw [e3, e2]
    exact c_X1_record_1_3_0 l G A S hq hbe
  · skip
    have e2 : recS S 1 = su (su (sc (su S 7 0 (upd (S 7 0) 1 3)) 3 1) 7 0 (upd (upd (S 7 0) 1 3) 1 4)) 8 0 (upd (S 8 0) 0 (nI 1)) := by
      unfold recS
      rw [if_pos (show S 7 0 1 = 4 from hq), hr]
    have e3 : rot (recS S 1) = 1 := by rw [e2]; show (nI 1).toNatClampNeg % 4 = 1; decide
    rw [e3, e2]
    exact c_X1_record_1_4_0 l G A S hq hbe
  · skip
    have e2 : recS S 1 = su (sc S 4 1) 7 0 (upd (S 7 0) 1 1) := by
      unfold recS
      rw [if_neg (by rw [hq]; decide), hr, hq, show (nI 0).toNatClampNeg = 0 from by decide, show (nI 0 + 1 : Int32) = 1 from by decide]
    have e3 : rot (recS S 1) = 1 := by rw [e2]; exact hr
    rw [e3, e2]
    exact c_X1_record_1_0_1 l G A S hq hbe
  · skip
    have e2 : recS S 1 = su (sc S 5 1) 7 0 (upd (S 7 0) 1 2) := by
      unfold recS
      rw [if_neg (by rw [hq]; decide), hr, hq, show (nI 1).toNatClampNeg = 1 from by decide, show (nI 1 + 1 : Int32) = 2 from by decide]
    have e3 : rot (recS S 1) = 1 := by rw [e2]; exact hr
    rw [e3, e2]
    exact c_X1_record_1_1_1 l G A S hq hbe
  · skip
    have e2 : recS S 1 = su (sc S 6 1) 7 0 (upd (S 7 0) 1 3) := by
      unfold recS
      rw [if_neg (by rw [hq]; decide), hr, hq, show (nI 2).toNatClampNeg = 2 from by decide, show (nI 2 + 1 : Int32) = 3 from by decide]
    have e3 : rot (recS S 1) = 1 := by rw [e2]; exact hr
    rw [e3, e2]
    exact c_X1_record_1_2_1 l G A S hq hbe
  · skip
    have e2 : recS S 1 = su (sc S 3 1) 7 0 (upd (S 7 0) 1 4) := by
      unfold recS
      rw [if_neg (by rw [hq]; decide), hr, hq, show (nI 3).toNatClampNeg = 3 from by decide, show (nI 3 + 1 : Int32) = 4 from by decide]
    have e3 : rot (recS S 1) = 1 := by rw [e2]; exact hr
    rw [e3, e2]
    exact c_X1_record_1_3_1 l G A S hq hbe
  · skip
    have e2 : recS S 1 = su (su (sc (su S 7 0 (upd (S 7 0) 1 3)) 4 1) 7 0 (upd (upd (S 7 0) 1 3) 1 4)) 8 0 (upd (S 8 0) 0 (nI 2)) := by
      unfold recS
      rw [if_pos (show S 7 0 1 = 4 from hq), hr]
    have e3 : rot (recS S 1) = 2 := by rw [e2]; show (nI 2).toNatClampNeg % 4 = 2; decide
    rw [e3, e2]
    exact c_X1_record_1_4_1 l G A S hq hbe
  · skip
    have e2 : recS S 1 = su (sc S 5 1) 7 0 (upd (S 7 0) 1 1) := by
      unfold recS
      rw [if_neg (by rw [hq]; decide), hr, hq, show (nI 0).toNatClampNeg = 0 from by decide, show (nI 0 + 1 : Int32) = 1 from by decide]
    have e3 : rot (recS S 1) = 2 := by rw [e2]; exact hr
    rw [e3, e2]
    exact c_X1_record_1_0_2 l G A S hq hbe
  · skip
    have e2 : recS S 1 = su (sc S 6 1) 7 0 (upd (S 7 0) 1 2) := by
      unfold recS
      rw [if_neg (by rw [hq]; decide), hr, hq, show (nI 1).toNatClampNeg = 1 from by decide, show (nI 1 + 1 : Int32) = 2 from by decide]
    have e3 : rot (recS S 1) = 2 := by rw [e2]; exact hr
    rw [e3, e2]
    exact c_X1_record_1_1_2 l G A S hq hbe
  · skip
    have e2 : recS S 1 = su (sc S 3 1) 7 0 (upd (S 7 0) 1 3) := by
      unfold recS
      rw [if_neg (by rw [hq]; decide), hr, hq, show (nI 2).toNatClampNeg = 2 from by decide, show (nI 2 + 1 : Int32) = 3 from by decide]
    have e3 : rot (recS S 1) = 2 := by rw [e2]; exact hr
    rw [e3, e2]
    exact c_X1_record_1_2_2 l G A S hq hbe
  · skip
    have e2 : recS S 1 = su (sc S 4 1) 7 0 (upd (S 7 0) 1 4) := by
      unfold recS
      rw [if_neg (by rw [hq]; decide), hr, hq, show (nI 3).toNatClampNeg = 3 from by decide, show (nI 3 + 1 : Int32) = 4 from by decide]
    have e3 : rot (recS S 1) = 2 := by rw [e2]; exact hr
    rw [e3, e2]
    exact c_X1_record_1_3_2 l G A S hq hbe
  · skip
    have e2 : recS S 1 = su (su (sc (su S 7 0 (upd (S 7 0) 1 3)) 5 1) 7 0 (upd (upd (S 7 0) 1 3) 1 4)) 8 0 (upd (S 8 0) 0 (nI 3)) := by
      unfold recS
      rw [if_pos (show S 7 0 1 = 4 from hq), hr]
    have e3 : rot (recS S 1) = 3 := by rw [e2]; show (nI 3).toNatClampNeg % 4 = 3; decide
    rw [e3, e2]
    exact c_X1_record_1_4_2 l G A S hq hbe
  · skip
    have e2 : recS S 1 = su (sc S 6 1) 7 0 (upd (S 7 0) 1 1) := by
      unfold recS
      rw [if_neg (by rw [hq]; decide), hr, hq, show (nI 0).toNatClampNeg = 0 from by decide, show (nI 0 + 1 : Int32) = 1 from by decide]
    have e3 : rot (recS S 1) = 3 := by rw [e2]; exact hr
    rw [e3, e2]
    exact c_X1_record_1_0_3 l G A S hq hbe
  · skip
    have e2 : recS S 1 = su (sc S 3 1) 7 0 (upd (S 7 0) 1 2) := by
      unfold recS
      rw [if_neg (by rw [hq]; decide), hr, hq, show (nI 1).toNatClampNeg = 1 from by decide, show (nI 1 + 1 : Int32) = 2 from by decide]
    have e3 : rot (recS S 1) = 3 := by rw [e2]; exact hr
    rw [e3, e2]
    exact c_X1_record_1_1_3 l G A S hq hbe
  · skip
    have e2 : recS S 1 = su (sc S 4 1) 7 0 (upd (S 7 0) 1 3) := by
      unfold recS
      rw [if_neg (by rw [hq]; decide), hr, hq, show (nI 2).toNatClampNeg = 2 from by decide, show (nI 2 + 1 : Int32) = 3 from by decide]
    have e3 : rot (recS S 1) = 3 := by rw [e2]; exact hr
    rw [e3, e2]
    exact c_X1_record_1_2_3 l G A S hq hbe
  · skip
    have e2 : recS S 1 = su (sc S 5 1) 7 0 (upd (S 7 0) 1 4) := by
      unfold recS
      rw [if_neg (by rw [hq]; decide), hr, hq, show (nI 3).toNatClampNeg = 3 from by decide, show (nI 3 + 1 : Int32) = 4 from by decide]
    have e3 : rot (recS S 1) = 3 := by rw [e2]; exact hr
    rw [e3, e2]
    exact c_X1_record_1_3_3 l G A S hq hbe
  · skip
    have e2 : recS S 1 = su (su (sc (su S 7 0 (upd (S 7 0) 1 3)) 6 1) 7 0 (upd (upd (S 7 0) 1 3) 1 4)) 8 0 (upd (S 8 0) 0 (nI 0)) := by
      unfold recS
      rw [if_pos (show S 7 0 1 = 4 from hq), hr]
    have e3 : rot (recS S 1) = 0 := by rw [e2]; show (nI 0).toNatClampNeg % 4 = 0; decide
    rw [e3, e2]
    exact c_X1_record_1_4_3 l G A S hq hbe
set_option maxHeartbeats 4000000 in
theorem c_X1_takeLatest_v (l : Launch) (G : GG) (A : Nat → Nat) (S : XS) (q : Nat) (hq : S 7 0 1 = nI q) (hq1 : 1 ≤ q) (hq4 : q ≤ 4) (hbe : ∀ b, b < 7 → S b 0 4 = 0 ∨ S b 0 4 = 1) : Mz l yX1_takeLatest wsX1_takeLatest ({ frames := 2, cells := 0, slots := 0, locals := 47 } : Room) G [.ref (A 43), .ref (A (6 * 0))] (wX G A S (rot S)) (wX G A (tkS S) (rot (tkS S))) := by
  have h4 := rot_lt S
  generalize hr : rot S = r at h4 ⊢
  rcases (show r = 0 ∨ r = 1 ∨ r = 2 ∨ r = 3 by omega) with rfl | rfl | rfl | rfl <;> rcases (show q = 1 ∨ q = 2 ∨ q = 3 ∨ q = 4 by omega) with rfl | rfl | rfl | rfl
  · skip
    have e2 : tkS S = su (sc S 0 3) 7 0 (upd (S 7 0) 1 0) := by
      unfold tkS
      rw [hr, hq, show (nI 1).toNatClampNeg = 1 from by decide, show (nI 1 - 1 : Int32) = 0 from by decide]
    have e3 : rot (tkS S) = 0 := by rw [e2]; exact hr
    rw [e3, e2]
    exact c_X1_takeLatest_1_0 l G A S hq (hbe 3 (by decide))
  · skip
    have e2 : tkS S = su (sc S 0 4) 7 0 (upd (S 7 0) 1 1) := by
      unfold tkS
      rw [hr, hq, show (nI 2).toNatClampNeg = 2 from by decide, show (nI 2 - 1 : Int32) = 1 from by decide]
    have e3 : rot (tkS S) = 0 := by rw [e2]; exact hr
    rw [e3, e2]
    exact c_X1_takeLatest_2_0 l G A S hq (hbe 4 (by decide))
  · skip
    have e2 : tkS S = su (sc S 0 5) 7 0 (upd (S 7 0) 1 2) := by
      unfold tkS
      rw [hr, hq, show (nI 3).toNatClampNeg = 3 from by decide, show (nI 3 - 1 : Int32) = 2 from by decide]
    have e3 : rot (tkS S) = 0 := by rw [e2]; exact hr
    rw [e3, e2]
    exact c_X1_takeLatest_3_0 l G A S hq (hbe 5 (by decide))
  · skip
    have e2 : tkS S = su (sc S 0 6) 7 0 (upd (S 7 0) 1 3) := by
      unfold tkS
      rw [hr, hq, show (nI 4).toNatClampNeg = 4 from by decide, show (nI 4 - 1 : Int32) = 3 from by decide]
    have e3 : rot (tkS S) = 0 := by rw [e2]; exact hr
    rw [e3, e2]
    exact c_X1_takeLatest_4_0 l G A S hq (hbe 6 (by decide))
  · skip
    have e2 : tkS S = su (sc S 0 4) 7 0 (upd (S 7 0) 1 0) := by
      unfold tkS
      rw [hr, hq, show (nI 1).toNatClampNeg = 1 from by decide, show (nI 1 - 1 : Int32) = 0 from by decide]
    have e3 : rot (tkS S) = 1 := by rw [e2]; exact hr
    rw [e3, e2]
    exact c_X1_takeLatest_1_1 l G A S hq (hbe 4 (by decide))
  · skip
    have e2 : tkS S = su (sc S 0 5) 7 0 (upd (S 7 0) 1 1) := by
      unfold tkS
      rw [hr, hq, show (nI 2).toNatClampNeg = 2 from by decide, show (nI 2 - 1 : Int32) = 1 from by decide]
    have e3 : rot (tkS S) = 1 := by rw [e2]; exact hr
    rw [e3, e2]
    exact c_X1_takeLatest_2_1 l G A S hq (hbe 5 (by decide))
  · skip
    have e2 : tkS S = su (sc S 0 6) 7 0 (upd (S 7 0) 1 2) := by
      unfold tkS
      rw [hr, hq, show (nI 3).toNatClampNeg = 3 from by decide, show (nI 3 - 1 : Int32) = 2 from by decide]
    have e3 : rot (tkS S) = 1 := by rw [e2]; exact hr
    rw [e3, e2]
    exact c_X1_takeLatest_3_1 l G A S hq (hbe 6 (by decide))
  · skip
    have e2 : tkS S = su (sc S 0 3) 7 0 (upd (S 7 0) 1 3) := by
      unfold tkS
      rw [hr, hq, show (nI 4).toNatClampNeg = 4 from by decide, show (nI 4 - 1 : Int32) = 3 from by decide]
    have e3 : rot (tkS S) = 1 := by rw [e2]; exact hr
    rw [e3, e2]
    exact c_X1_takeLatest_4_1 l G A S hq (hbe 3 (by decide))
  · skip
    have e2 : tkS S = su (sc S 0 5) 7 0 (upd (S 7 0) 1 0) := by
      unfold tkS
      rw [hr, hq, show (nI 1).toNatClampNeg = 1 from by decide, show (nI 1 - 1 : Int32) = 0 from by decide]
    have e3 : rot (tkS S) = 2 := by rw [e2]; exact hr
    rw [e3, e2]
    exact c_X1_takeLatest_1_2 l G A S hq (hbe 5 (by decide))
  · skip
    have e2 : tkS S = su (sc S 0 6) 7 0 (upd (S 7 0) 1 1) := by
      unfold tkS
      rw [hr, hq, show (nI 2).toNatClampNeg = 2 from by decide, show (nI 2 - 1 : Int32) = 1 from by decide]
    have e3 : rot (tkS S) = 2 := by rw [e2]; exact hr
    rw [e3, e2]
    exact c_X1_takeLatest_2_2 l G A S hq (hbe 6 (by decide))
  · skip
    have e2 : tkS S = su (sc S 0 3) 7 0 (upd (S 7 0) 1 2) := by
      unfold tkS
      rw [hr, hq, show (nI 3).toNatClampNeg = 3 from by decide, show (nI 3 - 1 : Int32) = 2 from by decide]
    have e3 : rot (tkS S) = 2 := by rw [e2]; exact hr
    rw [e3, e2]
    exact c_X1_takeLatest_3_2 l G A S hq (hbe 3 (by decide))
  · skip
    have e2 : tkS S = su (sc S 0 4) 7 0 (upd (S 7 0) 1 3) := by
      unfold tkS
      rw [hr, hq, show (nI 4).toNatClampNeg = 4 from by decide, show (nI 4 - 1 : Int32) = 3 from by decide]
    have e3 : rot (tkS S) = 2 := by rw [e2]; exact hr
    rw [e3, e2]
    exact c_X1_takeLatest_4_2 l G A S hq (hbe 4 (by decide))
  · skip
    have e2 : tkS S = su (sc S 0 6) 7 0 (upd (S 7 0) 1 0) := by
      unfold tkS
      rw [hr, hq, show (nI 1).toNatClampNeg = 1 from by decide, show (nI 1 - 1 : Int32) = 0 from by decide]
    have e3 : rot (tkS S) = 3 := by rw [e2]; exact hr
    rw [e3, e2]
    exact c_X1_takeLatest_1_3 l G A S hq (hbe 6 (by decide))
  · skip
    have e2 : tkS S = su (sc S 0 3) 7 0 (upd (S 7 0) 1 1) := by
      unfold tkS
      rw [hr, hq, show (nI 2).toNatClampNeg = 2 from by decide, show (nI 2 - 1 : Int32) = 1 from by decide]
    have e3 : rot (tkS S) = 3 := by rw [e2]; exact hr
    rw [e3, e2]
    exact c_X1_takeLatest_2_3 l G A S hq (hbe 3 (by decide))
  · skip
    have e2 : tkS S = su (sc S 0 4) 7 0 (upd (S 7 0) 1 2) := by
      unfold tkS
      rw [hr, hq, show (nI 3).toNatClampNeg = 3 from by decide, show (nI 3 - 1 : Int32) = 2 from by decide]
    have e3 : rot (tkS S) = 3 := by rw [e2]; exact hr
    rw [e3, e2]
    exact c_X1_takeLatest_3_3 l G A S hq (hbe 4 (by decide))
  · skip
    have e2 : tkS S = su (sc S 0 5) 7 0 (upd (S 7 0) 1 3) := by
      unfold tkS
      rw [hr, hq, show (nI 4).toNatClampNeg = 4 from by decide, show (nI 4 - 1 : Int32) = 3 from by decide]
    have e3 : rot (tkS S) = 3 := by rw [e2]; exact hr
    rw [e3, e2]
    exact c_X1_takeLatest_4_3 l G A S hq (hbe 5 (by decide))
