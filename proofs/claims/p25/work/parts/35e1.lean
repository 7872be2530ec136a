/-! the known runs, worked out by the twins -/
def ivb (S : XS) : Bool := (S 7 0 1 == 0 || S 7 0 1 == 1 || S 7 0 1 == 2 || S 7 0 1 == 3 || S 7 0 1 == 4) && ((S 0 0 4 == 0 || S 0 0 4 == 1) && (S 1 0 4 == 0 || S 1 0 4 == 1) && (S 2 0 4 == 0 || S 2 0 4 == 1) && (S 3 0 4 == 0 || S 3 0 4 == 1) && (S 4 0 4 == 0 || S 4 0 4 == 1) && (S 5 0 4 == 0 || S 5 0 4 == 1) && (S 6 0 4 == 0 || S 6 0 4 == 1)) && !(decide (S 7 0 2 < 0))
theorem ivb_ok {S : XS} (h : ivb S = true) : Iv S := by
  unfold ivb at h
  simp only [Bool.and_eq_true, Bool.or_eq_true, beq_iff_eq, Bool.not_eq_true', decide_eq_false_iff_not] at h
  obtain ⟨⟨h1, ⟨⟨⟨⟨⟨⟨a0, a1⟩, a2⟩, a3⟩, a4⟩, a5⟩, a6⟩⟩, h3⟩ := h
  refine ⟨?_, ?_, h3⟩
  · rcases h1 with (((h | h) | h) | h) | h
    · exact ⟨0, h, by omega⟩
    · exact ⟨1, h, by omega⟩
    · exact ⟨2, h, by omega⟩
    · exact ⟨3, h, by omega⟩
    · exact ⟨4, h, by omega⟩
  · intro b hb
    rcases (show b = 0 ∨ b = 1 ∨ b = 2 ∨ b = 3 ∨ b = 4 ∨ b = 5 ∨ b = 6 by omega) with rfl | rfl | rfl | rfl | rfl | rfl | rfl <;> assumption
def wa0 : XS := S0
def wa1 : XS := (m_X3_undo wa0).2
def wa2 : XS := (m_X3_restore wa1).2
def wa3 : XS := (m_X3_changeTool wa2).2
def wa4 : XS := (m_X3_thread wa3).2
def wa5 : XS := (m_X3_sample wa4 1 1).2
def wa6 : XS := (m_X3_lay wa5 0 0 60).2
def wa7 : XS := (m_X3_lay wa6 0 1 60).2
def wa8 : XS := (m_X3_lay wa7 1 0 60).2
def wa9 : XS := (m_X3_lay wa8 12 0 5).2
def wa10 : XS := (m_X3_lay wa9 1 1 9).2
def wa11 : XS := (m_X3_lay wa10 1 5 100).2
def wa12 : XS := (m_X3_lay wa11 2 3 200).2
def wa13 : XS := (m_X3_setWidth wa12 50).2
def wa14 : XS := (m_X3_setWidth wa13 50).2
def wa15 : XS := (m_X3_bend wa14 2 120).2
def wa16 : XS := (m_X3_bend wa15 2 120).2
def wa17 : XS := (m_X3_pull wa16 0 95).2
def wa18 : XS := (m_X3_pull wa17 0 87).2
def wa19 : XS := (m_X3_moveLead wa18 3 120).2
def wa20 : XS := (m_X3_moveLead wa19 0 600).2
def wa21 : XS := (m_X3_moveLead wa20 0 600).2
def wa22 : XS := (m_X3_sample wa21 2 97).2
def wa23 : XS := (m_X3_sample wa22 5 40).2
def wa24 : XS := (m_X3_lay wa23 3 (3 + 3) 10).2
def wa25 : XS := (m_X3_lay wa24 4 (4 + 3) 10).2
def wa26 : XS := (m_X3_lay wa25 5 (5 + 3) 10).2
def wa27 : XS := (m_X3_lay wa26 6 (6 + 3) 10).2
def wa28 : XS := (m_X3_lay wa27 8 12 10).2
def wa29 : XS := (m_X3_lay wa28 6 12 10).2
def wa30 : XS := (m_X3_thread wa29).2
def wa31 : XS := (m_X3_thread wa30).2
def wa32 : XS := (m_X3_takeOff wa31 6).2
def wa33 : XS := (m_X3_undo wa32).2
def wa34 : XS := (m_X3_undo wa33).2
def wa35 : XS := (m_X3_undo wa34).2
set_option maxRecDepth 100000 in
theorem wires_ev0 : ivb wa0 = true ∧ (m_X3_undo wa0).1 = (-5) ∧ ivb wa1 = true ∧ (m_X3_restore wa1).1 = (-5) ∧ ivb wa2 = true ∧ (m_X3_changeTool wa2).1 = (-5) ∧ ivb wa3 = true ∧ (m_X3_thread wa3).1 = (-5) ∧ ivb wa4 = true ∧ (m_X3_sample wa4 1 1).1 = (-5) ∧ ivb wa5 = true ∧ m_X3_count wa5 9 = (-5) ∧ m_X3_lead wa5 15 0 = 600 ∧ m_X3_laysLeft wa5 10 = 7 ∧ (m_X3_lay wa5 0 0 60).1 = 95 ∧ ivb wa6 = true ∧ m_X3_count wa6 4 = 3 ∧ (m_X3_lay wa6 0 1 60).1 = (-4) ∧ ivb wa7 = true ∧ (m_X3_lay wa7 1 0 60).1 = (-4) ∧ ivb wa8 = true ∧ (m_X3_lay wa8 12 0 5).1 = (-1) ∧ ivb wa9 = true ∧ (m_X3_lay wa9 1 1 9).1 = (-2) := by decide +kernel
set_option maxRecDepth 100000 in
theorem wires_ev1 : ivb wa10 = true ∧ (m_X3_lay wa10 1 5 100).1 = 96 ∧ ivb wa11 = true ∧ m_X3_count wa11 4 = 7 ∧ m_X3_crossing wa11 0 1 0 = (-5) ∧ (m_X3_lay wa11 2 3 200).1 = 98 ∧ ivb wa12 = true ∧ m_X3_count wa12 4 = 13 ∧ m_X3_crossing wa12 1 2 0 = 40 ∧ m_X3_crossing wa12 2 1 1 = 64 ∧ m_X3_crossing wa12 1 2 2 = 0 ∧ m_X3_count wa12 2 = 1 ∧ m_X3_count wa12 3 = 0 ∧ m_X3_heightAt wa12 1 40 = 64 ∧ m_X3_heightAt wa12 1 100 = 100 ∧ m_X3_heightAt wa12 1 200 = 0 ∧ m_X3_count wa12 10 = 289 ∧ m_X3_count wa12 9 = 0 ∧ m_X3_wire wa12 2 6 = 2 ∧ (m_X3_setWidth wa12 50).1 = 10 ∧ ivb wa13 = true ∧ (m_X3_setWidth wa13 50).1 = (-5) ∧ ivb wa14 = true ∧ m_X3_count wa14 3 = 0 := by decide +kernel
set_option maxRecDepth 100000 in
theorem wires_ev2 : (m_X3_bend wa14 2 120).1 = 200 ∧ ivb wa15 = true ∧ (m_X3_bend wa15 2 120).1 = (-5) ∧ ivb wa16 = true ∧ m_X3_crossing wa16 1 2 1 = 12 ∧ m_X3_crossing wa16 2 1 2 = 1 ∧ m_X3_count wa16 3 = 1 ∧ m_X3_wire wa16 1 4 = 1 ∧ m_X3_wire wa16 1 5 = 12 ∧ m_X3_wire wa16 0 5 = (-5) ∧ m_X3_bestHeight wa16 1 0 = 10 ∧ m_X3_bestHeight wa16 1 1 = 0 ∧ m_X3_bestHeight wa16 0 0 = 10 ∧ (m_X3_pull wa16 0 95).1 = 86 ∧ ivb wa17 = true ∧ (m_X3_pull wa17 0 87).1 = 1000 ∧ ivb wa18 = true ∧ m_X3_count wa18 8 = 1 ∧ m_X3_wire wa18 0 0 = (-1) ∧ m_X3_lead wa18 0 1 = (-5) ∧ (m_X3_moveLead wa18 3 120).1 = (-4) ∧ ivb wa19 = true ∧ (m_X3_moveLead wa19 0 600).1 = 0 ∧ ivb wa20 = true := by decide +kernel
set_option maxRecDepth 100000 in
theorem wires_ev3 : (m_X3_moveLead wa20 0 600).1 = (-5) ∧ ivb wa21 = true ∧ m_X3_count wa21 9 = 1 ∧ (m_X3_sample wa21 2 97).1 = 1 ∧ ivb wa22 = true ∧ m_X3_wire wa22 1 0 = (-1) ∧ m_X3_wire wa22 2 2 = 98 ∧ (m_X3_sample wa22 5 40).1 = 0 ∧ ivb wa23 = true ∧ m_X3_wire wa23 2 2 = 94 ∧ m_X3_laysLeft wa23 10 = 4 ∧ (m_X3_lay wa23 3 (3 + 3) 10).1 = 93 ∧ ivb wa24 = true ∧ (m_X3_lay wa24 4 (4 + 3) 10).1 = 92 ∧ ivb wa25 = true ∧ (m_X3_lay wa25 5 (5 + 3) 10).1 = 90 ∧ ivb wa26 = true ∧ (m_X3_lay wa26 6 (6 + 3) 10).1 = 89 ∧ ivb wa27 = true ∧ m_X3_count wa27 5 = 1 ∧ m_X3_count wa27 6 = 1 ∧ m_X3_count wa27 1 = 7 ∧ m_X3_wire wa27 6 6 = 6 ∧ m_X3_laysLeft wa27 10 = 0 := by decide +kernel
set_option maxRecDepth 100000 in
theorem wires_ev4 : (m_X3_lay wa27 8 12 10).1 = (-6) ∧ ivb wa28 = true ∧ (m_X3_lay wa28 6 12 10).1 = (-4) ∧ ivb wa29 = true ∧ (m_X3_thread wa29).1 = 1 ∧ ivb wa30 = true ∧ (m_X3_thread wa30).1 = (-5) ∧ ivb wa31 = true ∧ m_X3_laysLeft wa31 10 = 7 ∧ (m_X3_takeOff wa31 6).1 = 89 ∧ ivb wa32 = true ∧ m_X3_count wa32 12 = 4 ∧ (m_X3_undo wa32).1 = 3 ∧ ivb wa33 = true ∧ (m_X3_undo wa33).1 = 2 ∧ ivb wa34 = true ∧ m_X3_count wa34 5 = 1 ∧ (m_X3_undo wa34).1 = 1 ∧ ivb wa35 = true ∧ m_X3_count wa35 5 = 0 ∧ m_X3_count wa35 1 = 6 := by decide +kernel
def waw : Nat → XS := fun j => match j with | 0 => wa0 | 1 => wa1 | 2 => wa2 | 3 => wa3 | 4 => wa4 | 5 => wa5 | 6 => wa6 | 7 => wa7 | 8 => wa8 | 9 => wa9 | 10 => wa10 | 11 => wa11 | 12 => wa12 | 13 => wa13 | 14 => wa14 | 15 => wa15 | 16 => wa16 | 17 => wa17 | 18 => wa18 | 19 => wa19 | 20 => wa20 | 21 => wa21 | 22 => wa22 | 23 => wa23 | 24 => wa24 | 25 => wa25 | 26 => wa26 | 27 => wa27 | 28 => wa28 | 29 => wa29 | 30 => wa30 | 31 => wa31 | 32 => wa32 | 33 => wa33 | 34 => wa34 | 35 => wa35 | _ => S0
