/-! tool: worked out by the twins -/
def tlu (S : XS) : XS := (m_X3_lay S 0 0 200).2
def tlx (S : XS) : XS := (m_X3_takeOff (tlu S) 0).2
def tlw : Nat → XS
  | 0 => S0
  | k + 1 => if nI k - nI k / 7 * 7 = 6 then (m_X3_thread (tlx (tlw k))).2 else tlx (tlw k)
set_option maxRecDepth 100000 in
theorem tool_ev : ∀ k : Nat, k < 34 → ivb (tlw k) = true ∧ ivb (tlu (tlw k)) = true ∧ ivb (tlx (tlw k)) = true ∧ m_X3_laysLeft (tlw k) 200 = (if 6 - (nI k - nI k / 7 * 7) ≤ 33 - nI k then 7 - (nI k - nI k / 7 * 7) else 34 - nI k) ∧ (m_X3_lay (tlw k) 0 0 200).1 = (95 - 6 * nI k / 4) ∧ (m_X3_takeOff (tlu (tlw k)) 0).1 = (95 - 6 * nI k / 4) ∧ (nI k - nI k / 7 * 7 = 6 → (m_X3_thread (tlx (tlw k))).1 = nI k / 7 + 1) := by decide +kernel
def tb0 : XS := tlw 34
def tb1 : XS := (m_X3_lay tb0 0 0 200).2
def tb2 : XS := (m_X3_changeTool tb1).2
def tb3 : XS := (m_X3_changeTool tb2).2
def tb4 : XS := (m_X3_lay tb3 11 0 49).2
def tb5 : XS := (m_X3_lay tb4 10 1 50).2
def tb6 : XS := (m_X3_thread tb5).2
def tb7 : XS := (m_X3_lay tb6 0 15 50).2
def tb8 : XS := (m_X3_keep tb7).2
def tb9 : XS := (m_X3_takeOff tb8 0).2
def tb10 : XS := (m_X3_pull tb9 11 84).2
def tb11 : XS := (m_X3_pull tb10 11 77).2
def tb12 : XS := (m_X3_restore tb11).2
set_option maxRecDepth 100000 in
theorem tool2_ev0 : ivb tb0 = true ∧ (m_X3_lay tb0 0 0 200).1 = (-7) ∧ ivb tb1 = true ∧ m_X3_laysLeft tb1 10 = 0 ∧ m_X3_count tb1 4 = 204 ∧ (m_X3_changeTool tb1).1 = 204 ∧ ivb tb2 = true ∧ (m_X3_changeTool tb2).1 = (-5) ∧ ivb tb3 = true ∧ m_X3_count tb3 11 = 1 ∧ m_X3_laysLeft tb3 10 = 1 ∧ (m_X3_lay tb3 11 0 49).1 = 84 ∧ ivb tb4 = true ∧ m_X3_count tb4 4 = 2 ∧ (m_X3_lay tb4 10 1 50).1 = (-6) ∧ ivb tb5 = true ∧ m_X3_count tb5 6 = 5 ∧ (m_X3_thread tb5).1 = 5 ∧ ivb tb6 = true ∧ (m_X3_lay tb6 0 15 50).1 = 75 ∧ ivb tb7 = true ∧ (m_X3_keep tb7).1 = 2 ∧ ivb tb8 = true ∧ (m_X3_takeOff tb8 0).1 = 75 := by decide +kernel
set_option maxRecDepth 100000 in
theorem tool2_ev1 : ivb tb9 = true ∧ (m_X3_pull tb9 11 84).1 = 76 ∧ ivb tb10 = true ∧ (m_X3_pull tb10 11 77).1 = 1000 ∧ ivb tb11 = true ∧ m_X3_count tb11 0 = 0 ∧ (m_X3_restore tb11).1 = 2 ∧ ivb tb12 = true ∧ m_X3_wire tb12 11 2 = 84 := by decide +kernel
def tbw : Nat → XS := fun j => match j with | 0 => tb0 | 1 => tb1 | 2 => tb2 | 3 => tb3 | 4 => tb4 | 5 => tb5 | 6 => tb6 | 7 => tb7 | 8 => tb8 | 9 => tb9 | 10 => tb10 | 11 => tb11 | 12 => tb12 | _ => S0
