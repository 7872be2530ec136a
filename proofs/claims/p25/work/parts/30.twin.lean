/-! computable twins of the class's functions -/
def m_X3_isWithin (p0 p1 p2 : Int32) : Int32 := (if p0 < p1 then 0 else (if p2 < p0 then 0 else 1))
theorem t_X3_isWithin (p0 p1 p2 : Int32) : f_X3_isWithin p0 p1 p2 = m_X3_isWithin p0 p1 p2 := e_X3_isWithin p0 p1 p2
def m_X3_isPad (p0 : Int32) : Int32 := (if p0 < 0 then 0 else (if 12 ≤ p0 then 0 else 1))
theorem t_X3_isPad (p0 : Int32) : f_X3_isPad p0 = m_X3_isPad p0 := e_X3_isPad p0
def m_X3_isLead (p0 : Int32) : Int32 := (if p0 < 0 then 0 else (if 16 ≤ p0 then 0 else 1))
theorem t_X3_isLead (p0 : Int32) : f_X3_isLead p0 = m_X3_isLead p0 := e_X3_isLead p0
def m_X3_isHeight (p0 : Int32) : Int32 := (m_X3_isWithin p0 10 200)
theorem t_X3_isHeight (p0 : Int32) : f_X3_isHeight p0 = m_X3_isHeight p0 := (e_X3_isHeight p0).trans (by simp only [t_X3_isWithin]; rfl)
def m_X3_padX (p0 : Int32) : Int32 := (100 + (20 * p0))
theorem t_X3_padX (p0 : Int32) : f_X3_padX p0 = m_X3_padX p0 := e_X3_padX p0
def m_X3_loopAt (p0 p1 : Int32) : Int32 := ((((p0 * p1) * (200 - p1)) * 4) / 40000)
theorem t_X3_loopAt (p0 p1 : Int32) : f_X3_loopAt p0 p1 = m_X3_loopAt p0 p1 := e_X3_loopAt p0 p1
def m_X0_hasWire (S : XS) (p0 : Int32) : Int32 := (if (m_X3_isPad p0) = 0 then 0 else (if ((S 0 2) (p0).toNatClampNeg) = (-1) then 0 else 1))
theorem t_X0_hasWire (S : XS) (p0 : Int32) : f_X0_hasWire S p0 = m_X0_hasWire S p0 := (e_X0_hasWire S p0).trans (by simp only [t_X3_isPad]; rfl)
def m_X0_leadAtPad (S : XS) (p0 : Int32) : Int32 := (if (m_X3_isPad p0) = 0 then (-1) else ((S 0 2) (p0).toNatClampNeg))
theorem t_X0_leadAtPad (S : XS) (p0 : Int32) : f_X0_leadAtPad S p0 = m_X0_leadAtPad S p0 := (e_X0_leadAtPad S p0).trans (by simp only [t_X3_isPad]; rfl)
def m_X0_heightOf (S : XS) (p0 : Int32) : Int32 := (if (m_X3_isPad p0) = 0 then 0 else ((S 0 3) (p0).toNatClampNeg))
theorem t_X0_heightOf (S : XS) (p0 : Int32) : f_X0_heightOf S p0 = m_X0_heightOf S p0 := (e_X0_heightOf S p0).trans (by simp only [t_X3_isPad]; rfl)
def m_X0_strengthOf (S : XS) (p0 : Int32) : Int32 := (if (m_X3_isPad p0) = 0 then 0 else ((S 0 4) (p0).toNatClampNeg))
theorem t_X0_strengthOf (S : XS) (p0 : Int32) : f_X0_strengthOf S p0 = m_X0_strengthOf S p0 := (e_X0_strengthOf S p0).trans (by simp only [t_X3_isPad]; rfl)
def m_X0_numberOf (S : XS) (p0 : Int32) : Int32 := (if (m_X3_isPad p0) = 0 then 0 else ((S 0 5) (p0).toNatClampNeg))
theorem t_X0_numberOf (S : XS) (p0 : Int32) : f_X0_numberOf S p0 = m_X0_numberOf S p0 := (e_X0_numberOf S p0).trans (by simp only [t_X3_isPad]; rfl)
def m_X0_xOfLead (S : XS) (p0 : Int32) : Int32 := (if (m_X3_isLead p0) = 0 then 0 else ((S 0 1) (p0).toNatClampNeg))
theorem t_X0_xOfLead (S : XS) (p0 : Int32) : f_X0_xOfLead S p0 = m_X0_xOfLead S p0 := (e_X0_xOfLead S p0).trans (by simp only [t_X3_isLead]; rfl)
def n_X0_padAtLead_2 (S : XS) (p0 : Int32) : Nat → Nat → Int32
  | 0, k => 0
  | n + 1, k => (if 12 ≤ (nI k) then (-5) else (if (m_X0_hasWire S (nI k)) = 0 then (n_X0_padAtLead_2 S p0 n (k + 1)) else (if ((S 0 2) k) = p0 then nI k else (n_X0_padAtLead_2 S p0 n (k + 1)))))
theorem u_X0_padAtLead_2 (S : XS) (p0 : Int32) : ∀ (n : Nat) (k : Nat), g_X0_padAtLead_2 S p0 n k = n_X0_padAtLead_2 S p0 n k := by
  intro n
  induction n with
  | zero => intro k; rfl
  | succ n ih =>
    intro k
    refine (ge_X0_padAtLead_2 S p0 n k).trans ?_
    simp only [t_X0_hasWire, ih]
    rfl
def m_X0_padAtLead (S : XS) (p0 : Int32) : Int32 := (n_X0_padAtLead_2 S p0 13 0)
theorem t_X0_padAtLead (S : XS) (p0 : Int32) : f_X0_padAtLead S p0 = m_X0_padAtLead S p0 := (e_X0_padAtLead S p0).trans (by simp only [u_X0_padAtLead_2]; rfl)
def m_X0_endX (S : XS) (p0 : Int32) : Int32 := (if p0 < 0 then 0 else (if 12 ≤ p0 then 0 else (if ((S 0 2) (p0).toNatClampNeg) < 0 then 0 else (if 16 ≤ ((S 0 2) (p0).toNatClampNeg) then 0 else ((S 0 1) ((S 0 2) (p0).toNatClampNeg).toNatClampNeg)))))
theorem t_X0_endX (S : XS) (p0 : Int32) : f_X0_endX S p0 = m_X0_endX S p0 := e_X0_endX S p0
def m_X0_changeHeight (S : XS) (p0 p1 : Int32) : XS := (if (m_X3_isPad p0) = 0 then S else (su S 0 3 (upd (S 0 3) p0.toNatClampNeg p1)))
theorem t_X0_changeHeight (S : XS) (p0 p1 : Int32) : f_X0_changeHeight S p0 p1 = m_X0_changeHeight S p0 p1 := (e_X0_changeHeight S p0 p1).trans (by simp only [t_X3_isPad]; rfl)
def m_X0_placeLead (S : XS) (p0 p1 : Int32) : XS := (if (m_X3_isLead p0) = 0 then S else (su S 0 1 (upd (S 0 1) p0.toNatClampNeg p1)))
theorem t_X0_placeLead (S : XS) (p0 p1 : Int32) : f_X0_placeLead S p0 p1 = m_X0_placeLead S p0 p1 := (e_X0_placeLead S p0 p1).trans (by simp only [t_X3_isLead]; rfl)
def m_X0_errorOfLaying (S : XS) (p0 p1 : Int32) : Int32 := (if (m_X0_hasWire S p0) = 0 then (if (m_X0_padAtLead S p1) = (-5) then (if (S 0 0 4) = 0 then (if (S 0 0 2) < 200 then 0 else (-7)) else (-6)) else (-4)) else (-4))
theorem t_X0_errorOfLaying (S : XS) (p0 p1 : Int32) : f_X0_errorOfLaying S p0 p1 = m_X0_errorOfLaying S p0 p1 := (e_X0_errorOfLaying S p0 p1).trans (by simp only [t_X0_hasWire, t_X0_padAtLead]; rfl)
def m_X0_wearOfLaying (p0 : Int32) : Int32 := (2 + (p0 / 50))
theorem t_X0_wearOfLaying (p0 : Int32) : f_X0_wearOfLaying p0 = m_X0_wearOfLaying p0 := e_X0_wearOfLaying p0
def m_X0_losesTail (p0 : Int32) : Int32 := (if (p0 - p0 / 7 * 7) = 0 then 1 else 0)
theorem t_X0_losesTail (p0 : Int32) : f_X0_losesTail p0 = m_X0_losesTail p0 := e_X0_losesTail p0
def m_X0_newStrength (S : XS) (p0 p1 : Int32) : Int32 := (if 0 < ((if 0 < (100 - ((S 0 0 2) / 4)) then (100 - ((S 0 0 2) / 4)) else 0) - ((if 0 ≤ ((m_X3_padX p0) - (m_X0_xOfLead S p1)) then ((m_X3_padX p0) - (m_X0_xOfLead S p1)) else 0 - ((m_X3_padX p0) - (m_X0_xOfLead S p1))) / 20)) then ((if 0 < (100 - ((S 0 0 2) / 4)) then (100 - ((S 0 0 2) / 4)) else 0) - ((if 0 ≤ ((m_X3_padX p0) - (m_X0_xOfLead S p1)) then ((m_X3_padX p0) - (m_X0_xOfLead S p1)) else 0 - ((m_X3_padX p0) - (m_X0_xOfLead S p1))) / 20)) else 0)
theorem t_X0_newStrength (S : XS) (p0 p1 : Int32) : f_X0_newStrength S p0 p1 = m_X0_newStrength S p0 p1 := (e_X0_newStrength S p0 p1).trans (by simp only [t_X3_padX, t_X0_xOfLead]; rfl)
def m_X0_addWire (S : XS) (p0 p1 p2 : Int32) : XS := (if (m_X3_isPad p0) = 0 then S else (if (m_X3_isLead p1) = 0 then S else (if (m_X0_losesTail ((S 0 0 0) + 1)) = 0 then (su (su (su (su (su (su S 0 2 (upd (S 0 2) p0.toNatClampNeg p1)) 0 3 (upd (S 0 3) p0.toNatClampNeg p2)) 0 4 (upd (S 0 4) p0.toNatClampNeg (m_X0_newStrength (su (su S 0 2 (upd (S 0 2) p0.toNatClampNeg p1)) 0 3 (upd (S 0 3) p0.toNatClampNeg p2)) p0 p1))) 0 5 (upd (S 0 5) p0.toNatClampNeg (S 0 0 0))) 0 0 (upd (S 0 0) 2 ((S 0 0 2) + (m_X0_wearOfLaying p2)))) 0 0 (upd (upd (S 0 0) 2 ((S 0 0 2) + (m_X0_wearOfLaying p2))) 0 ((S 0 0 0) + 1))) else (su (su (su (su (su (su (su (su S 0 2 (upd (S 0 2) p0.toNatClampNeg p1)) 0 3 (upd (S 0 3) p0.toNatClampNeg p2)) 0 4 (upd (S 0 4) p0.toNatClampNeg (m_X0_newStrength (su (su S 0 2 (upd (S 0 2) p0.toNatClampNeg p1)) 0 3 (upd (S 0 3) p0.toNatClampNeg p2)) p0 p1))) 0 5 (upd (S 0 5) p0.toNatClampNeg (S 0 0 0))) 0 0 (upd (S 0 0) 2 ((S 0 0 2) + (m_X0_wearOfLaying p2)))) 0 0 (upd (upd (S 0 0) 2 ((S 0 0 2) + (m_X0_wearOfLaying p2))) 0 ((S 0 0 0) + 1))) 0 0 (upd (upd (upd (S 0 0) 2 ((S 0 0 2) + (m_X0_wearOfLaying p2))) 0 ((S 0 0 0) + 1)) 4 1)) 0 0 (upd (upd (upd (upd (S 0 0) 2 ((S 0 0 2) + (m_X0_wearOfLaying p2))) 0 ((S 0 0 0) + 1)) 4 1) 5 ((S 0 0 5) + 1))))))
theorem t_X0_addWire (S : XS) (p0 p1 p2 : Int32) : f_X0_addWire S p0 p1 p2 = m_X0_addWire S p0 p1 p2 := (e_X0_addWire S p0 p1 p2).trans (by simp only [t_X3_isPad, t_X3_isLead, t_X0_losesTail, t_X0_newStrength, t_X0_wearOfLaying]; rfl)
def m_X0_removeWire (S : XS) (p0 : Int32) : XS := (if (m_X3_isPad p0) = 0 then S else (su S 0 2 (upd (S 0 2) p0.toNatClampNeg (-1))))
theorem t_X0_removeWire (S : XS) (p0 : Int32) : f_X0_removeWire S p0 = m_X0_removeWire S p0 := (e_X0_removeWire S p0).trans (by simp only [t_X3_isPad]; rfl)
def m_X0_breaksUnder (S : XS) (p0 p1 : Int32) : Int32 × XS := (if (m_X0_hasWire S p0) = 0 then (0, S) else (if p1 ≤ ((S 0 4) (p0).toNatClampNeg) then (0, (su S 0 4 (upd (S 0 4) p0.toNatClampNeg (if 0 < (((S 0 4) (p0).toNatClampNeg) - (p1 / 10)) then (((S 0 4) (p0).toNatClampNeg) - (p1 / 10)) else 0)))) else (1, (su (m_X0_removeWire S p0) 0 0 (upd ((m_X0_removeWire S p0) 0 0) 6 ((((m_X0_removeWire S p0) 0 0) 6) + 1))))))
theorem t_X0_breaksUnder (S : XS) (p0 p1 : Int32) : f_X0_breaksUnder S p0 p1 = m_X0_breaksUnder S p0 p1 := (e_X0_breaksUnder S p0 p1).trans (by simp only [t_X0_hasWire, t_X0_removeWire]; rfl)
def n_X0_breakingOfSample_8 (p0 p1 : Int32) : Nat → Nat → Int32 → Int32 → XS → Int32 × XS
  | 0, k, v, u, S1 => (v, S1)
  | n + 1, k, v, u, S1 => (if 12 ≤ (nI k) then (v, S1) else (if (m_X0_hasWire S1 (nI k)) = 0 then (n_X0_breakingOfSample_8 p0 p1 n (k + 1) v u S1) else (if u = 0 then (if ((m_X0_breaksUnder S1 (nI k) p1).1) = 0 then (if (u + 1) = p0 then (n_X0_breakingOfSample_8 p0 p1 n (k + 1) v 0 ((m_X0_breaksUnder S1 (nI k) p1).2)) else (n_X0_breakingOfSample_8 p0 p1 n (k + 1) v (u + 1) ((m_X0_breaksUnder S1 (nI k) p1).2))) else (if (u + 1) = p0 then (n_X0_breakingOfSample_8 p0 p1 n (k + 1) (v + 1) 0 ((m_X0_breaksUnder S1 (nI k) p1).2)) else (n_X0_breakingOfSample_8 p0 p1 n (k + 1) (v + 1) (u + 1) ((m_X0_breaksUnder S1 (nI k) p1).2)))) else (if (u + 1) = p0 then (n_X0_breakingOfSample_8 p0 p1 n (k + 1) v 0 S1) else (n_X0_breakingOfSample_8 p0 p1 n (k + 1) v (u + 1) S1)))))
theorem u_X0_breakingOfSample_8 (p0 p1 : Int32) : ∀ (n : Nat) (k : Nat) (v : Int32) (u : Int32) (S1 : XS), g_X0_breakingOfSample_8 p0 p1 n k v u S1 = n_X0_breakingOfSample_8 p0 p1 n k v u S1 := by
  intro n
  induction n with
  | zero => intro k v u S1; rfl
  | succ n ih =>
    intro k v u S1
    refine (ge_X0_breakingOfSample_8 p0 p1 n k v u S1).trans ?_
    simp only [t_X0_hasWire, t_X0_breaksUnder, ih]
    rfl
def m_X0_breakingOfSample (S : XS) (p0 p1 : Int32) : Int32 × XS := ((n_X0_breakingOfSample_8 p0 p1 13 0 0 0 S).1, (n_X0_breakingOfSample_8 p0 p1 13 0 0 0 S).2)
theorem t_X0_breakingOfSample (S : XS) (p0 p1 : Int32) : f_X0_breakingOfSample S p0 p1 = m_X0_breakingOfSample S p0 p1 := (e_X0_breakingOfSample S p0 p1).trans (by simp only [u_X0_breakingOfSample_8]; rfl)
def m_X0_cross (S : XS) (p0 p1 : Int32) : Int32 := (if (m_X0_hasWire S p0) = 0 then 0 else (if (m_X0_hasWire S p1) = 0 then 0 else (if p0 = p1 then 0 else (if p1 ≤ p0 then (if (m_X0_endX S p1) ≤ (m_X0_endX S p0) then 0 else 1) else (if (m_X0_endX S p0) ≤ (m_X0_endX S p1) then 0 else 1)))))
theorem t_X0_cross (S : XS) (p0 p1 : Int32) : f_X0_cross S p0 p1 = m_X0_cross S p0 p1 := (e_X0_cross S p0 p1).trans (by simp only [t_X0_hasWire, t_X0_endX]; rfl)
def m_X0_crossingY (S : XS) (p0 p1 : Int32) : Int32 := (if ((if 0 ≤ ((m_X3_padX p0) - (m_X3_padX p1)) then ((m_X3_padX p0) - (m_X3_padX p1)) else 0 - ((m_X3_padX p0) - (m_X3_padX p1))) + (if 0 ≤ ((m_X0_endX S p0) - (m_X0_endX S p1)) then ((m_X0_endX S p0) - (m_X0_endX S p1)) else 0 - ((m_X0_endX S p0) - (m_X0_endX S p1)))) ≤ 0 then 0 else ((200 * (if 0 ≤ ((m_X3_padX p0) - (m_X3_padX p1)) then ((m_X3_padX p0) - (m_X3_padX p1)) else 0 - ((m_X3_padX p0) - (m_X3_padX p1)))) / ((if 0 ≤ ((m_X3_padX p0) - (m_X3_padX p1)) then ((m_X3_padX p0) - (m_X3_padX p1)) else 0 - ((m_X3_padX p0) - (m_X3_padX p1))) + (if 0 ≤ ((m_X0_endX S p0) - (m_X0_endX S p1)) then ((m_X0_endX S p0) - (m_X0_endX S p1)) else 0 - ((m_X0_endX S p0) - (m_X0_endX S p1))))))
theorem t_X0_crossingY (S : XS) (p0 p1 : Int32) : f_X0_crossingY S p0 p1 = m_X0_crossingY S p0 p1 := (e_X0_crossingY S p0 p1).trans (by simp only [t_X3_padX, t_X0_endX]; rfl)
def m_X0_gap (S : XS) (p0 p1 p2 : Int32) : Int32 := (if 0 ≤ ((m_X3_loopAt p1 (m_X0_crossingY S p0 p2)) - (m_X3_loopAt (m_X0_heightOf S p2) (m_X0_crossingY S p0 p2))) then ((m_X3_loopAt p1 (m_X0_crossingY S p0 p2)) - (m_X3_loopAt (m_X0_heightOf S p2) (m_X0_crossingY S p0 p2))) else 0 - ((m_X3_loopAt p1 (m_X0_crossingY S p0 p2)) - (m_X3_loopAt (m_X0_heightOf S p2) (m_X0_crossingY S p0 p2))))
theorem t_X0_gap (S : XS) (p0 p1 p2 : Int32) : f_X0_gap S p0 p1 p2 = m_X0_gap S p0 p1 p2 := (e_X0_gap S p0 p1 p2).trans (by simp only [t_X3_loopAt, t_X0_crossingY, t_X0_heightOf]; rfl)
def m_X0_isShort (S : XS) (p0 p1 p2 : Int32) : Int32 := (if (m_X0_cross S p0 p2) = 0 then 0 else (if (S 0 0 1) ≤ (m_X0_gap S p0 p1 p2) then 0 else 1))
theorem t_X0_isShort (S : XS) (p0 p1 p2 : Int32) : f_X0_isShort S p0 p1 p2 = m_X0_isShort S p0 p1 p2 := (e_X0_isShort S p0 p1 p2).trans (by simp only [t_X0_cross, t_X0_gap]; rfl)
def n_X0_crossingsOf_4 (S : XS) (p0 : Int32) : Nat → Nat → Int32 → Int32
  | 0, k, v => v
  | n + 1, k, v => (if 12 ≤ (nI k) then v else (if (m_X0_cross S p0 (nI k)) = 0 then (n_X0_crossingsOf_4 S p0 n (k + 1) v) else (n_X0_crossingsOf_4 S p0 n (k + 1) (v + 1))))
theorem u_X0_crossingsOf_4 (S : XS) (p0 : Int32) : ∀ (n : Nat) (k : Nat) (v : Int32), g_X0_crossingsOf_4 S p0 n k v = n_X0_crossingsOf_4 S p0 n k v := by
  intro n
  induction n with
  | zero => intro k v; rfl
  | succ n ih =>
    intro k v
    refine (ge_X0_crossingsOf_4 S p0 n k v).trans ?_
    simp only [t_X0_cross, ih]
    rfl
def m_X0_crossingsOf (S : XS) (p0 : Int32) : Int32 := (n_X0_crossingsOf_4 S p0 13 0 0)
theorem t_X0_crossingsOf (S : XS) (p0 : Int32) : f_X0_crossingsOf S p0 = m_X0_crossingsOf S p0 := (e_X0_crossingsOf S p0).trans (by simp only [u_X0_crossingsOf_4]; rfl)
def n_X0_shortOnes_5 (S : XS) (p0 p1 : Int32) : Nat → Nat → Int32 → Int32
  | 0, k, v => v
  | n + 1, k, v => (if 12 ≤ (nI k) then v else (if (m_X0_isShort S p0 p1 (nI k)) = 0 then (n_X0_shortOnes_5 S p0 p1 n (k + 1) v) else (n_X0_shortOnes_5 S p0 p1 n (k + 1) (v + 1))))
theorem u_X0_shortOnes_5 (S : XS) (p0 p1 : Int32) : ∀ (n : Nat) (k : Nat) (v : Int32), g_X0_shortOnes_5 S p0 p1 n k v = n_X0_shortOnes_5 S p0 p1 n k v := by
  intro n
  induction n with
  | zero => intro k v; rfl
  | succ n ih =>
    intro k v
    refine (ge_X0_shortOnes_5 S p0 p1 n k v).trans ?_
    simp only [t_X0_isShort, ih]
    rfl
def m_X0_shortOnes (S : XS) (p0 p1 : Int32) : Int32 := (n_X0_shortOnes_5 S p0 p1 13 0 0)
theorem t_X0_shortOnes (S : XS) (p0 p1 : Int32) : f_X0_shortOnes S p0 p1 = m_X0_shortOnes S p0 p1 := (e_X0_shortOnes S p0 p1).trans (by simp only [u_X0_shortOnes_5]; rfl)
def n_X0_leastGap_5 (S : XS) (p0 : Int32) : Nat → Nat → Int32 → Int32
  | 0, k, v => v
  | n + 1, k, v => (if 12 ≤ (nI k) then v else (if (m_X0_cross S p0 (nI k)) = 0 then (n_X0_leastGap_5 S p0 n (k + 1) v) else (if v = (-5) then (n_X0_leastGap_5 S p0 n (k + 1) (m_X0_gap S p0 (m_X0_heightOf S p0) (nI k))) else (n_X0_leastGap_5 S p0 n (k + 1) (if (m_X0_gap S p0 (m_X0_heightOf S p0) (nI k)) < v then (m_X0_gap S p0 (m_X0_heightOf S p0) (nI k)) else v)))))
theorem u_X0_leastGap_5 (S : XS) (p0 : Int32) : ∀ (n : Nat) (k : Nat) (v : Int32), g_X0_leastGap_5 S p0 n k v = n_X0_leastGap_5 S p0 n k v := by
  intro n
  induction n with
  | zero => intro k v; rfl
  | succ n ih =>
    intro k v
    refine (ge_X0_leastGap_5 S p0 n k v).trans ?_
    simp only [t_X0_cross, t_X0_gap, t_X0_heightOf, ih]
    rfl
def m_X0_leastGap (S : XS) (p0 : Int32) : Int32 := (n_X0_leastGap_5 S p0 13 0 (-5))
theorem t_X0_leastGap (S : XS) (p0 : Int32) : f_X0_leastGap S p0 = m_X0_leastGap S p0 := (e_X0_leastGap S p0).trans (by simp only [u_X0_leastGap_5]; rfl)
def n_X0_clearestHeight_14 (S : XS) (p0 : Int32) : Nat → Nat → Int32 → Int32 → Int32
  | 0, k, v, u => v
  | n + 1, k, v, u => (if 200 < (nI k) then v else (if u ≤ (m_X0_shortOnes S p0 (nI k)) then (n_X0_clearestHeight_14 S p0 n (k + 1) v u) else (n_X0_clearestHeight_14 S p0 n (k + 1) (nI k) (m_X0_shortOnes S p0 (nI k)))))
theorem u_X0_clearestHeight_14 (S : XS) (p0 : Int32) : ∀ (n : Nat) (k : Nat) (v : Int32) (u : Int32), g_X0_clearestHeight_14 S p0 n k v u = n_X0_clearestHeight_14 S p0 n k v u := by
  intro n
  induction n with
  | zero => intro k v u; rfl
  | succ n ih =>
    intro k v u
    refine (ge_X0_clearestHeight_14 S p0 n k v u).trans ?_
    simp only [t_X0_shortOnes, ih]
    rfl
def m_X0_clearestHeight (S : XS) (p0 : Int32) : Int32 := (n_X0_clearestHeight_14 S p0 202 11 10 (m_X0_shortOnes S p0 10))
theorem t_X0_clearestHeight (S : XS) (p0 : Int32) : f_X0_clearestHeight S p0 = m_X0_clearestHeight S p0 := (e_X0_clearestHeight S p0).trans (by simp only [u_X0_clearestHeight_14, t_X0_shortOnes]; rfl)
def n_X0_wires_4 (S : XS) : Nat → Nat → Int32 → Int32
  | 0, k, v => v
  | n + 1, k, v => (if 12 ≤ (nI k) then v else (if (m_X0_hasWire S (nI k)) = 0 then (n_X0_wires_4 S n (k + 1) v) else (n_X0_wires_4 S n (k + 1) (v + 1))))
theorem u_X0_wires_4 (S : XS) : ∀ (n : Nat) (k : Nat) (v : Int32), g_X0_wires_4 S n k v = n_X0_wires_4 S n k v := by
  intro n
  induction n with
  | zero => intro k v; rfl
  | succ n ih =>
    intro k v
    refine (ge_X0_wires_4 S n k v).trans ?_
    simp only [t_X0_hasWire, ih]
    rfl
def m_X0_wires (S : XS) : Int32 := (n_X0_wires_4 S 13 0 0)
theorem t_X0_wires (S : XS) : f_X0_wires S = m_X0_wires S := (e_X0_wires S).trans (by simp only [u_X0_wires_4]; rfl)
def n_X0_allCrossings_14 (S : XS) : Nat → Nat → Nat → Int32 → Int32
  | 0, k, j, v => v
  | n + 1, k, j, v => (if 12 ≤ (nI j) then v else (if (m_X0_cross S (nI k) (nI j)) = 0 then (n_X0_allCrossings_14 S n k (j + 1) v) else (n_X0_allCrossings_14 S n k (j + 1) (v + 1))))
theorem u_X0_allCrossings_14 (S : XS) : ∀ (n : Nat) (k : Nat) (j : Nat) (v : Int32), g_X0_allCrossings_14 S n k j v = n_X0_allCrossings_14 S n k j v := by
  intro n
  induction n with
  | zero => intro k j v; rfl
  | succ n ih =>
    intro k j v
    refine (ge_X0_allCrossings_14 S n k j v).trans ?_
    simp only [t_X0_cross, ih]
    rfl
def n_X0_allCrossings_4 (S : XS) : Nat → Nat → Int32 → Int32
  | 0, k, v => v
  | n + 1, k, v => (if 12 ≤ (nI k) then v else (n_X0_allCrossings_4 S n (k + 1) (n_X0_allCrossings_14 S 13 k (k + 1) v)))
theorem u_X0_allCrossings_4 (S : XS) : ∀ (n : Nat) (k : Nat) (v : Int32), g_X0_allCrossings_4 S n k v = n_X0_allCrossings_4 S n k v := by
  intro n
  induction n with
  | zero => intro k v; rfl
  | succ n ih =>
    intro k v
    refine (ge_X0_allCrossings_4 S n k v).trans ?_
    simp only [u_X0_allCrossings_14, ih]
    rfl
def m_X0_allCrossings (S : XS) : Int32 := (n_X0_allCrossings_4 S 13 0 0)
theorem t_X0_allCrossings (S : XS) : f_X0_allCrossings S = m_X0_allCrossings S := (e_X0_allCrossings S).trans (by simp only [u_X0_allCrossings_4]; rfl)
def n_X0_allShortOnes_14 (S : XS) : Nat → Nat → Nat → Int32 → Int32
  | 0, k, j, v => v
  | n + 1, k, j, v => (if 12 ≤ (nI j) then v else (if (m_X0_isShort S (nI k) (m_X0_heightOf S (nI k)) (nI j)) = 0 then (n_X0_allShortOnes_14 S n k (j + 1) v) else (n_X0_allShortOnes_14 S n k (j + 1) (v + 1))))
theorem u_X0_allShortOnes_14 (S : XS) : ∀ (n : Nat) (k : Nat) (j : Nat) (v : Int32), g_X0_allShortOnes_14 S n k j v = n_X0_allShortOnes_14 S n k j v := by
  intro n
  induction n with
  | zero => intro k j v; rfl
  | succ n ih =>
    intro k j v
    refine (ge_X0_allShortOnes_14 S n k j v).trans ?_
    simp only [t_X0_isShort, t_X0_heightOf, ih]
    rfl
def n_X0_allShortOnes_4 (S : XS) : Nat → Nat → Int32 → Int32
  | 0, k, v => v
  | n + 1, k, v => (if 12 ≤ (nI k) then v else (n_X0_allShortOnes_4 S n (k + 1) (n_X0_allShortOnes_14 S 13 k (k + 1) v)))
theorem u_X0_allShortOnes_4 (S : XS) : ∀ (n : Nat) (k : Nat) (v : Int32), g_X0_allShortOnes_4 S n k v = n_X0_allShortOnes_4 S n k v := by
  intro n
  induction n with
  | zero => intro k v; rfl
  | succ n ih =>
    intro k v
    refine (ge_X0_allShortOnes_4 S n k v).trans ?_
    simp only [u_X0_allShortOnes_14, ih]
    rfl
def m_X0_allShortOnes (S : XS) : Int32 := (n_X0_allShortOnes_4 S 13 0 0)
theorem t_X0_allShortOnes (S : XS) : f_X0_allShortOnes S = m_X0_allShortOnes S := (e_X0_allShortOnes S).trans (by simp only [u_X0_allShortOnes_4]; rfl)
def n_X0_allStrengths_4 (S : XS) : Nat → Nat → Int32 → Int32
  | 0, k, v => v
  | n + 1, k, v => (if 12 ≤ (nI k) then v else (if (m_X0_hasWire S (nI k)) = 0 then (n_X0_allStrengths_4 S n (k + 1) v) else (n_X0_allStrengths_4 S n (k + 1) (v + ((S 0 4) k)))))
theorem u_X0_allStrengths_4 (S : XS) : ∀ (n : Nat) (k : Nat) (v : Int32), g_X0_allStrengths_4 S n k v = n_X0_allStrengths_4 S n k v := by
  intro n
  induction n with
  | zero => intro k v; rfl
  | succ n ih =>
    intro k v
    refine (ge_X0_allStrengths_4 S n k v).trans ?_
    simp only [t_X0_hasWire, ih]
    rfl
def m_X0_allStrengths (S : XS) : Int32 := (n_X0_allStrengths_4 S 13 0 0)
theorem t_X0_allStrengths (S : XS) : f_X0_allStrengths S = m_X0_allStrengths S := (e_X0_allStrengths S).trans (by simp only [u_X0_allStrengths_4]; rfl)
def n_X0_weakestPad_5 (S : XS) : Nat → Nat → Int32 → Int32
  | 0, k, v => v
  | n + 1, k, v => (if 12 ≤ (nI k) then v else (if (m_X0_hasWire S (nI k)) = 0 then (n_X0_weakestPad_5 S n (k + 1) v) else (if v = (-5) then (n_X0_weakestPad_5 S n (k + 1) (nI k)) else (if (m_X0_strengthOf S v) ≤ ((S 0 4) k) then (n_X0_weakestPad_5 S n (k + 1) v) else (n_X0_weakestPad_5 S n (k + 1) (nI k))))))
theorem u_X0_weakestPad_5 (S : XS) : ∀ (n : Nat) (k : Nat) (v : Int32), g_X0_weakestPad_5 S n k v = n_X0_weakestPad_5 S n k v := by
  intro n
  induction n with
  | zero => intro k v; rfl
  | succ n ih =>
    intro k v
    refine (ge_X0_weakestPad_5 S n k v).trans ?_
    simp only [t_X0_hasWire, t_X0_strengthOf, ih]
    rfl
def m_X0_weakestPad (S : XS) : Int32 := (n_X0_weakestPad_5 S 13 0 (-5))
theorem t_X0_weakestPad (S : XS) : f_X0_weakestPad S = m_X0_weakestPad S := (e_X0_weakestPad S).trans (by simp only [u_X0_weakestPad_5]; rfl)
def n_X0_laysUntilStop_13 (S : XS) (p0 : Int32) : Nat → Nat → Int32 → Int32 → Int32
  | 0, k, w, u => (nI k)
  | n + 1, k, w, u => (if 7 ≤ (nI k) then nI k else (if u = 0 then (if 200 ≤ w then nI k else (n_X0_laysUntilStop_13 S p0 n (k + 1) (w + (m_X0_wearOfLaying p0)) (m_X0_losesTail ((S 0 0 0) + (nI (k + 1)))))) else nI k))
theorem u_X0_laysUntilStop_13 (S : XS) (p0 : Int32) : ∀ (n : Nat) (k : Nat) (w : Int32) (u : Int32), g_X0_laysUntilStop_13 S p0 n k w u = n_X0_laysUntilStop_13 S p0 n k w u := by
  intro n
  induction n with
  | zero => intro k w u; rfl
  | succ n ih =>
    intro k w u
    refine (ge_X0_laysUntilStop_13 S p0 n k w u).trans ?_
    simp only [t_X0_wearOfLaying, t_X0_losesTail, ih]
    rfl
def m_X0_laysUntilStop (S : XS) (p0 : Int32) : Int32 := (n_X0_laysUntilStop_13 S p0 8 0 (S 0 0 2) (S 0 0 4))
theorem t_X0_laysUntilStop (S : XS) (p0 : Int32) : f_X0_laysUntilStop S p0 = m_X0_laysUntilStop S p0 := (e_X0_laysUntilStop S p0).trans (by simp only [u_X0_laysUntilStop_13]; rfl)
def m_X2_length (S : XS) : Int32 := (S 7 0 2)
theorem t_X2_length (S : XS) : f_X2_length S = m_X2_length S := e_X2_length S
def m_X2_listed (S : XS) : Int32 := (S 7 0 4)
theorem t_X2_listed (S : XS) : f_X2_listed S = m_X2_listed S := e_X2_listed S
def m_X2_empty (S : XS) : XS := (su S 7 0 (upd (S 7 0) 2 0))
theorem t_X2_empty (S : XS) : f_X2_empty S = m_X2_empty S := e_X2_empty S
def m_X2_append (S : XS) (p0 : Int32) : Int32 × XS := (if (S 7 0 2) < 80 then (1, (su (su S 7 1 (upd (S 7 1) (S 7 0 2).toNatClampNeg (vp_nar .char p0))) 7 0 (upd (S 7 0) 2 ((S 7 0 2) + 1)))) else (0, S))
theorem t_X2_append (S : XS) (p0 : Int32) : f_X2_append S p0 = m_X2_append S p0 := e_X2_append S p0
def m_X2_isListed (S : XS) (p0 : Int32) : Int32 := (if (m_X3_isWithin p0 0 19) = 0 then 0 else (if (S 7 0 4) ≤ p0 then 0 else 1))
theorem t_X2_isListed (S : XS) (p0 : Int32) : f_X2_isListed S p0 = m_X2_isListed S p0 := (e_X2_isListed S p0).trans (by simp only [t_X3_isWithin]; rfl)
def m_X2_listedPad (S : XS) (p0 : Int32) : Int32 := (if (m_X2_isListed S p0) = 0 then 0 else ((S 7 2) (p0).toNatClampNeg))
theorem t_X2_listedPad (S : XS) (p0 : Int32) : f_X2_listedPad S p0 = m_X2_listedPad S p0 := (e_X2_listedPad S p0).trans (by simp only [t_X2_isListed]; rfl)
def m_X2_listedLead (S : XS) (p0 : Int32) : Int32 := (if (m_X2_isListed S p0) = 0 then 0 else ((S 7 3) (p0).toNatClampNeg))
theorem t_X2_listedLead (S : XS) (p0 : Int32) : f_X2_listedLead S p0 = m_X2_listedLead S p0 := (e_X2_listedLead S p0).trans (by simp only [t_X2_isListed]; rfl)
def m_X2_listedHeight (S : XS) (p0 : Int32) : Int32 := (if (m_X2_isListed S p0) = 0 then 60 else ((S 7 4) (p0).toNatClampNeg))
theorem t_X2_listedHeight (S : XS) (p0 : Int32) : f_X2_listedHeight S p0 = m_X2_listedHeight S p0 := (e_X2_listedHeight S p0).trans (by simp only [t_X2_isListed]; rfl)
def m_X2_isAtCharacter (S : XS) : Int32 := (if (S 7 0 3) < 0 then 0 else (if (S 7 0 2) ≤ (S 7 0 3) then 0 else (if 80 ≤ (S 7 0 3) then 0 else 1)))
theorem t_X2_isAtCharacter (S : XS) : f_X2_isAtCharacter S = m_X2_isAtCharacter S := e_X2_isAtCharacter S
def m_X2_digitHere (S : XS) : Int32 := (if (m_X2_isAtCharacter S) = 0 then (-1) else (if (m_X3_isWithin (((S 7 1) (S 7 0 3).toNatClampNeg) - 48) 0 9) = 0 then (-1) else (((S 7 1) (S 7 0 3).toNatClampNeg) - 48)))
theorem t_X2_digitHere (S : XS) : f_X2_digitHere S = m_X2_digitHere S := (e_X2_digitHere S).trans (by simp only [t_X2_isAtCharacter, t_X3_isWithin]; rfl)
def m_X2_passBy (S : XS) (p0 : Int32) : Int32 × XS := (if (m_X2_isAtCharacter S) = 0 then (0, S) else (if ((S 7 1) (S 7 0 3).toNatClampNeg) = p0 then (1, (su S 7 0 (upd (S 7 0) 3 ((S 7 0 3) + 1)))) else (0, S)))
theorem t_X2_passBy (S : XS) (p0 : Int32) : f_X2_passBy S p0 = m_X2_passBy S p0 := (e_X2_passBy S p0).trans (by simp only [t_X2_isAtCharacter]; rfl)
def m_X2_withDigit (S : XS) (p0 p1 : Int32) : Int32 × XS := (if (m_X2_digitHere S) = (-1) then (p0, S) else (if ((10 * p0) + (m_X2_digitHere S)) ≤ p1 then (((10 * p0) + (m_X2_digitHere S)), (su S 7 0 (upd (S 7 0) 3 ((S 7 0 3) + 1)))) else (p0, S)))
theorem t_X2_withDigit (S : XS) (p0 p1 : Int32) : f_X2_withDigit S p0 p1 = m_X2_withDigit S p0 p1 := (e_X2_withDigit S p0 p1).trans (by simp only [t_X2_digitHere]; rfl)
def m_X2_readNumber_k1 (z1 : Int32 × XS) (S : XS) (p0 : Int32) : Int32 × XS := (z1.1, z1.2)
theorem t_X2_readNumber_k1 (z1 : Int32 × XS) (S : XS) (p0 : Int32) : f_X2_readNumber_k1 z1 S p0 = m_X2_readNumber_k1 z1 S p0 := e_X2_readNumber_k1 z1 S p0
def m_X2_readNumber (S : XS) (p0 : Int32) : Int32 × XS := (if (m_X2_digitHere S) = (-1) then ((-1), S) else (if (m_X2_digitHere S) = 0 then (0, (su S 7 0 (upd (S 7 0) 3 ((S 7 0 3) + 1)))) else (m_X2_readNumber_k1 (m_X2_withDigit (su S 7 0 (upd (S 7 0) 3 ((S 7 0 3) + 1))) (m_X2_digitHere S) p0) S p0)))
theorem t_X2_readNumber (S : XS) (p0 : Int32) : f_X2_readNumber S p0 = m_X2_readNumber S p0 := (e_X2_readNumber S p0).trans (by simp only [t_X2_digitHere, t_X2_readNumber_k1, t_X2_withDigit]; rfl)
def m_X2_readHeight_k1 (z1 : Int32 × XS) (S : XS) : Int32 × XS := (z1.1, z1.2)
theorem t_X2_readHeight_k1 (z1 : Int32 × XS) (S : XS) : f_X2_readHeight_k1 z1 S = m_X2_readHeight_k1 z1 S := e_X2_readHeight_k1 z1 S
def m_X2_readHeight (S : XS) : Int32 × XS := (if (m_X2_digitHere S) = (-1) then ((-1), S) else (if (m_X2_digitHere S) = 0 then ((-1), S) else (if (m_X2_digitHere (su S 7 0 (upd (S 7 0) 3 ((S 7 0 3) + 1)))) = (-1) then ((-1), (su S 7 0 (upd (S 7 0) 3 ((S 7 0 3) + 1)))) else (m_X2_readHeight_k1 (m_X2_withDigit (su (su S 7 0 (upd (S 7 0) 3 ((S 7 0 3) + 1))) 7 0 (upd (upd (S 7 0) 3 ((S 7 0 3) + 1)) 3 (((S 7 0 3) + 1) + 1))) ((10 * (m_X2_digitHere S)) + (m_X2_digitHere (su S 7 0 (upd (S 7 0) 3 ((S 7 0 3) + 1))))) 200) S))))
theorem t_X2_readHeight (S : XS) : f_X2_readHeight S = m_X2_readHeight S := (e_X2_readHeight S).trans (by simp only [t_X2_digitHere, t_X2_readHeight_k1, t_X2_withDigit]; rfl)
def m_X2_readWire_k5 (z5 : Int32 × XS) (z1 : Int32 × XS) (z2 : Int32 × XS) (z3 : Int32 × XS) (z4 : Int32 × XS) (S : XS) : Int32 × XS := (if z5.1 = (-1) then (0, z5.2) else (if (z5.2 7 0 4) < 20 then (1, (su (su (su (su z5.2 7 2 (upd (z5.2 7 2) (z5.2 7 0 4).toNatClampNeg z1.1)) 7 3 (upd (z5.2 7 3) (z5.2 7 0 4).toNatClampNeg z3.1)) 7 4 (upd (z5.2 7 4) (z5.2 7 0 4).toNatClampNeg z5.1)) 7 0 (upd (z5.2 7 0) 4 ((z5.2 7 0 4) + 1)))) else (0, z5.2)))
theorem t_X2_readWire_k5 (z5 : Int32 × XS) (z1 : Int32 × XS) (z2 : Int32 × XS) (z3 : Int32 × XS) (z4 : Int32 × XS) (S : XS) : f_X2_readWire_k5 z5 z1 z2 z3 z4 S = m_X2_readWire_k5 z5 z1 z2 z3 z4 S := e_X2_readWire_k5 z5 z1 z2 z3 z4 S
def m_X2_readWire_k4 (z4 : Int32 × XS) (z1 : Int32 × XS) (z2 : Int32 × XS) (z3 : Int32 × XS) (S : XS) : Int32 × XS := (if z4.1 = 0 then (if (z4.2 7 0 4) < 20 then (1, (su (su (su (su z4.2 7 2 (upd (z4.2 7 2) (z4.2 7 0 4).toNatClampNeg z1.1)) 7 3 (upd (z4.2 7 3) (z4.2 7 0 4).toNatClampNeg z3.1)) 7 4 (upd (z4.2 7 4) (z4.2 7 0 4).toNatClampNeg 60)) 7 0 (upd (z4.2 7 0) 4 ((z4.2 7 0 4) + 1)))) else (0, z4.2)) else (m_X2_readWire_k5 (m_X2_readHeight z4.2) z1 z2 z3 z4 S))
theorem t_X2_readWire_k4 (z4 : Int32 × XS) (z1 : Int32 × XS) (z2 : Int32 × XS) (z3 : Int32 × XS) (S : XS) : f_X2_readWire_k4 z4 z1 z2 z3 S = m_X2_readWire_k4 z4 z1 z2 z3 S := (e_X2_readWire_k4 z4 z1 z2 z3 S).trans (by simp only [t_X2_readWire_k5, t_X2_readHeight]; rfl)
def m_X2_readWire_k3 (z3 : Int32 × XS) (z1 : Int32 × XS) (z2 : Int32 × XS) (S : XS) : Int32 × XS := (if z3.1 = (-1) then (0, z3.2) else (m_X2_readWire_k4 (m_X2_passBy z3.2 58) z1 z2 z3 S))
theorem t_X2_readWire_k3 (z3 : Int32 × XS) (z1 : Int32 × XS) (z2 : Int32 × XS) (S : XS) : f_X2_readWire_k3 z3 z1 z2 S = m_X2_readWire_k3 z3 z1 z2 S := (e_X2_readWire_k3 z3 z1 z2 S).trans (by simp only [t_X2_readWire_k4, t_X2_passBy]; rfl)
def m_X2_readWire_k2 (z2 : Int32 × XS) (z1 : Int32 × XS) (S : XS) : Int32 × XS := (if z2.1 = 0 then (0, z2.2) else (m_X2_readWire_k3 (m_X2_readNumber z2.2 15) z1 z2 S))
theorem t_X2_readWire_k2 (z2 : Int32 × XS) (z1 : Int32 × XS) (S : XS) : f_X2_readWire_k2 z2 z1 S = m_X2_readWire_k2 z2 z1 S := (e_X2_readWire_k2 z2 z1 S).trans (by simp only [t_X2_readWire_k3, t_X2_readNumber]; rfl)
def m_X2_readWire_k1 (z1 : Int32 × XS) (S : XS) : Int32 × XS := (if z1.1 = (-1) then (0, z1.2) else (m_X2_readWire_k2 (m_X2_passBy z1.2 45) z1 S))
theorem t_X2_readWire_k1 (z1 : Int32 × XS) (S : XS) : f_X2_readWire_k1 z1 S = m_X2_readWire_k1 z1 S := (e_X2_readWire_k1 z1 S).trans (by simp only [t_X2_readWire_k2, t_X2_passBy]; rfl)
def m_X2_readWire (S : XS) : Int32 × XS := (m_X2_readWire_k1 (m_X2_readNumber S 11) S)
theorem t_X2_readWire (S : XS) : f_X2_readWire S = m_X2_readWire S := (e_X2_readWire S).trans (by simp only [t_X2_readWire_k1, t_X2_readNumber]; rfl)
def n_X2_read_12  : Nat → Nat → XS → Int32 × XS
  | 0, k, S1 => (0, S1)
  | n + 1, k, S1 => (if 20 ≤ (nI k) then ((S1 7 0 3), S1) else (if ((m_X2_readWire S1).1) = 0 then ((((m_X2_readWire S1).2 7 0) 3), (m_X2_readWire S1).2) else (if (((m_X2_readWire S1).2 7 0) 3) < (((m_X2_readWire S1).2 7 0) 2) then (if ((m_X2_passBy (m_X2_readWire S1).2 44).1) = 0 then ((((m_X2_passBy (m_X2_readWire S1).2 44).2 7 0) 3), (m_X2_passBy (m_X2_readWire S1).2 44).2) else (n_X2_read_12 n (k + 1) ((m_X2_passBy (m_X2_readWire S1).2 44).2))) else ((-1), (m_X2_readWire S1).2))))
theorem u_X2_read_12  : ∀ (n : Nat) (k : Nat) (S1 : XS), g_X2_read_12  n k S1 = n_X2_read_12  n k S1 := by
  intro n
  induction n with
  | zero => intro k S1; rfl
  | succ n ih =>
    intro k S1
    refine (ge_X2_read_12 n k S1).trans ?_
    simp only [t_X2_readWire, t_X2_passBy, ih]
    rfl
def m_X2_read (S : XS) : Int32 × XS := (n_X2_read_12 21 0 (su (su S 7 0 (upd (S 7 0) 3 0)) 7 0 (upd (upd (S 7 0) 3 0) 4 0)))
theorem t_X2_read (S : XS) : f_X2_read S = m_X2_read S := (e_X2_read S).trans (by simp only [u_X2_read_12]; rfl)
def m_X1_states (S : XS) : Int32 := (S 7 0 1)
theorem t_X1_states (S : XS) : f_X1_states S = m_X1_states S := e_X1_states S
def n_X0_addListed_2  : Nat → Nat → XS → Int32 × XS
  | 0, k, S1 => (0, S1)
  | n + 1, k, S1 => (if (m_X2_listed S1) ≤ (nI k) then (0, S1) else (if (m_X0_errorOfLaying S1 (m_X2_listedPad S1 (nI k)) (m_X2_listedLead S1 (nI k))) = 0 then (n_X0_addListed_2 n (k + 1) (m_X0_addWire S1 (m_X2_listedPad S1 (nI k)) (m_X2_listedLead S1 (nI k)) (m_X2_listedHeight S1 (nI k)))) else ((m_X0_errorOfLaying S1 (m_X2_listedPad S1 (nI k)) (m_X2_listedLead S1 (nI k))), S1)))
theorem u_X0_addListed_2  : ∀ (n : Nat) (k : Nat) (S1 : XS), g_X0_addListed_2  n k S1 = n_X0_addListed_2  n k S1 := by
  intro n
  induction n with
  | zero => intro k S1; rfl
  | succ n ih =>
    intro k S1
    refine (ge_X0_addListed_2 n k S1).trans ?_
    simp only [t_X2_listed, t_X0_errorOfLaying, t_X2_listedPad, t_X2_listedLead, t_X0_addWire, t_X2_listedHeight, ih]
    rfl
def m_X0_addListed (S : XS) : Int32 × XS := (n_X0_addListed_2 21 0 S)
theorem t_X0_addListed (S : XS) : f_X0_addListed S = m_X0_addListed S := (e_X0_addListed S).trans (by simp only [u_X0_addListed_2]; rfl)
def m_X3_lay_k2 (z2 : XS) (z1 : XS) (S : XS) (p0 p1 p2 : Int32) : Int32 × XS := ((m_X0_strengthOf z2 p0), z2)
theorem t_X3_lay_k2 (z2 : XS) (z1 : XS) (S : XS) (p0 p1 p2 : Int32) : f_X3_lay_k2 z2 z1 S p0 p1 p2 = m_X3_lay_k2 z2 z1 S p0 p1 p2 := (e_X3_lay_k2 z2 z1 S p0 p1 p2).trans (by simp only [t_X0_strengthOf]; rfl)
def m_X3_lay_k1 (z1 : XS) (S : XS) (p0 p1 p2 : Int32) : Int32 × XS := (m_X3_lay_k2 (m_X0_addWire z1 p0 p1 p2) z1 S p0 p1 p2)
theorem t_X3_lay_k1 (z1 : XS) (S : XS) (p0 p1 p2 : Int32) : f_X3_lay_k1 z1 S p0 p1 p2 = m_X3_lay_k1 z1 S p0 p1 p2 := (e_X3_lay_k1 z1 S p0 p1 p2).trans (by simp only [t_X3_lay_k2, t_X0_addWire]; rfl)
def m_X3_lay (S : XS) (p0 p1 p2 : Int32) : Int32 × XS := (if (m_X3_isPad p0) = 0 then ((-1), S) else (if (m_X3_isLead p1) = 0 then ((-1), S) else (if (m_X3_isHeight p2) = 0 then ((-2), S) else (if (m_X0_errorOfLaying S p0 p1) = 0 then (m_X3_lay_k1 (recS S 0) S p0 p1 p2) else ((m_X0_errorOfLaying S p0 p1), S)))))
theorem t_X3_lay (S : XS) (p0 p1 p2 : Int32) : f_X3_lay S p0 p1 p2 = m_X3_lay S p0 p1 p2 := (e_X3_lay S p0 p1 p2).trans (by simp only [t_X3_isPad, t_X3_isLead, t_X3_isHeight, t_X0_errorOfLaying, t_X3_lay_k1]; rfl)
def m_X3_takeOff_k2 (z2 : XS) (z1 : XS) (S : XS) (p0 : Int32) : Int32 × XS := ((m_X0_strengthOf z1 p0), z2)
theorem t_X3_takeOff_k2 (z2 : XS) (z1 : XS) (S : XS) (p0 : Int32) : f_X3_takeOff_k2 z2 z1 S p0 = m_X3_takeOff_k2 z2 z1 S p0 := (e_X3_takeOff_k2 z2 z1 S p0).trans (by simp only [t_X0_strengthOf]; rfl)
def m_X3_takeOff_k1 (z1 : XS) (S : XS) (p0 : Int32) : Int32 × XS := (m_X3_takeOff_k2 (m_X0_removeWire z1 p0) z1 S p0)
theorem t_X3_takeOff_k1 (z1 : XS) (S : XS) (p0 : Int32) : f_X3_takeOff_k1 z1 S p0 = m_X3_takeOff_k1 z1 S p0 := (e_X3_takeOff_k1 z1 S p0).trans (by simp only [t_X3_takeOff_k2, t_X0_removeWire]; rfl)
def m_X3_takeOff (S : XS) (p0 : Int32) : Int32 × XS := (if (m_X0_hasWire S p0) = 0 then ((-1), S) else (m_X3_takeOff_k1 (recS S 0) S p0))
theorem t_X3_takeOff (S : XS) (p0 : Int32) : f_X3_takeOff S p0 = m_X3_takeOff S p0 := (e_X3_takeOff S p0).trans (by simp only [t_X0_hasWire, t_X3_takeOff_k1]; rfl)
def m_X3_bend_k2 (z2 : XS) (z1 : XS) (S : XS) (p0 p1 : Int32) : Int32 × XS := ((m_X0_heightOf S p0), z2)
theorem t_X3_bend_k2 (z2 : XS) (z1 : XS) (S : XS) (p0 p1 : Int32) : f_X3_bend_k2 z2 z1 S p0 p1 = m_X3_bend_k2 z2 z1 S p0 p1 := (e_X3_bend_k2 z2 z1 S p0 p1).trans (by simp only [t_X0_heightOf]; rfl)
def m_X3_bend_k1 (z1 : XS) (S : XS) (p0 p1 : Int32) : Int32 × XS := (m_X3_bend_k2 (m_X0_changeHeight z1 p0 p1) z1 S p0 p1)
theorem t_X3_bend_k1 (z1 : XS) (S : XS) (p0 p1 : Int32) : f_X3_bend_k1 z1 S p0 p1 = m_X3_bend_k1 z1 S p0 p1 := (e_X3_bend_k1 z1 S p0 p1).trans (by simp only [t_X3_bend_k2, t_X0_changeHeight]; rfl)
def m_X3_bend (S : XS) (p0 p1 : Int32) : Int32 × XS := (if (m_X0_hasWire S p0) = 0 then ((-1), S) else (if (m_X3_isHeight p1) = 0 then ((-2), S) else (if (m_X0_heightOf S p0) = p1 then ((-5), S) else (m_X3_bend_k1 (recS S 0) S p0 p1))))
theorem t_X3_bend (S : XS) (p0 p1 : Int32) : f_X3_bend S p0 p1 = m_X3_bend S p0 p1 := (e_X3_bend S p0 p1).trans (by simp only [t_X0_hasWire, t_X3_isHeight, t_X0_heightOf, t_X3_bend_k1]; rfl)
def m_X3_moveLead_k2 (z2 : XS) (z1 : XS) (S : XS) (p0 p1 : Int32) : Int32 × XS := ((m_X0_xOfLead S p0), z2)
theorem t_X3_moveLead_k2 (z2 : XS) (z1 : XS) (S : XS) (p0 p1 : Int32) : f_X3_moveLead_k2 z2 z1 S p0 p1 = m_X3_moveLead_k2 z2 z1 S p0 p1 := (e_X3_moveLead_k2 z2 z1 S p0 p1).trans (by simp only [t_X0_xOfLead]; rfl)
def m_X3_moveLead_k1 (z1 : XS) (S : XS) (p0 p1 : Int32) : Int32 × XS := (m_X3_moveLead_k2 (m_X0_placeLead z1 p0 p1) z1 S p0 p1)
theorem t_X3_moveLead_k1 (z1 : XS) (S : XS) (p0 p1 : Int32) : f_X3_moveLead_k1 z1 S p0 p1 = m_X3_moveLead_k1 z1 S p0 p1 := (e_X3_moveLead_k1 z1 S p0 p1).trans (by simp only [t_X3_moveLead_k2, t_X0_placeLead]; rfl)
def m_X3_moveLead (S : XS) (p0 p1 : Int32) : Int32 × XS := (if (m_X3_isLead p0) = 0 then ((-1), S) else (if (m_X3_isWithin p1 0 600) = 0 then ((-2), S) else (if (m_X0_padAtLead S p0) = (-5) then (if (m_X0_xOfLead S p0) = p1 then ((-5), S) else (m_X3_moveLead_k1 (recS S 0) S p0 p1)) else ((-4), S))))
theorem t_X3_moveLead (S : XS) (p0 p1 : Int32) : f_X3_moveLead S p0 p1 = m_X3_moveLead S p0 p1 := (e_X3_moveLead S p0 p1).trans (by simp only [t_X3_isLead, t_X3_isWithin, t_X0_padAtLead, t_X0_xOfLead, t_X3_moveLead_k1]; rfl)
def m_X3_setWidth_k1 (z1 : XS) (S : XS) (p0 : Int32) : Int32 × XS := ((S 0 0 1), (su z1 0 0 (upd (z1 0 0) 1 p0)))
theorem t_X3_setWidth_k1 (z1 : XS) (S : XS) (p0 : Int32) : f_X3_setWidth_k1 z1 S p0 = m_X3_setWidth_k1 z1 S p0 := e_X3_setWidth_k1 z1 S p0
def m_X3_setWidth (S : XS) (p0 : Int32) : Int32 × XS := (if (m_X3_isWithin p0 1 50) = 0 then ((-2), S) else (if (S 0 0 1) = p0 then ((-5), S) else (m_X3_setWidth_k1 (recS S 0) S p0)))
theorem t_X3_setWidth (S : XS) (p0 : Int32) : f_X3_setWidth S p0 = m_X3_setWidth S p0 := (e_X3_setWidth S p0).trans (by simp only [t_X3_isWithin, t_X3_setWidth_k1]; rfl)
def m_X3_changeTool_k1 (z1 : XS) (S : XS) : Int32 × XS := ((S 0 0 2), (su (su z1 0 0 (upd (z1 0 0) 2 0)) 0 0 (upd (upd (z1 0 0) 2 0) 3 ((z1 0 0 3) + 1))))
theorem t_X3_changeTool_k1 (z1 : XS) (S : XS) : f_X3_changeTool_k1 z1 S = m_X3_changeTool_k1 z1 S := e_X3_changeTool_k1 z1 S
def m_X3_changeTool (S : XS) : Int32 × XS := (if (S 0 0 2) = 0 then ((-5), S) else (m_X3_changeTool_k1 (recS S 0) S))
theorem t_X3_changeTool (S : XS) : f_X3_changeTool S = m_X3_changeTool S := (e_X3_changeTool S).trans (by simp only [t_X3_changeTool_k1]; rfl)
def m_X3_thread_k1 (z1 : XS) (S : XS) : Int32 × XS := ((z1 0 0 5), (su z1 0 0 (upd (z1 0 0) 4 0)))
theorem t_X3_thread_k1 (z1 : XS) (S : XS) : f_X3_thread_k1 z1 S = m_X3_thread_k1 z1 S := e_X3_thread_k1 z1 S
def m_X3_thread (S : XS) : Int32 × XS := (if (S 0 0 4) = 0 then ((-5), S) else (m_X3_thread_k1 (recS S 0) S))
theorem t_X3_thread (S : XS) : f_X3_thread S = m_X3_thread S := (e_X3_thread S).trans (by simp only [t_X3_thread_k1]; rfl)
def m_X3_pull_k2 (z2 : Int32 × XS) (z1 : XS) (S : XS) (p0 p1 : Int32) : Int32 × XS := (if z2.1 = 0 then ((m_X0_strengthOf z2.2 p0), z2.2) else (1000, z2.2))
theorem t_X3_pull_k2 (z2 : Int32 × XS) (z1 : XS) (S : XS) (p0 p1 : Int32) : f_X3_pull_k2 z2 z1 S p0 p1 = m_X3_pull_k2 z2 z1 S p0 p1 := (e_X3_pull_k2 z2 z1 S p0 p1).trans (by simp only [t_X0_strengthOf]; rfl)
def m_X3_pull_k1 (z1 : XS) (S : XS) (p0 p1 : Int32) : Int32 × XS := (m_X3_pull_k2 (m_X0_breaksUnder z1 p0 p1) z1 S p0 p1)
theorem t_X3_pull_k1 (z1 : XS) (S : XS) (p0 p1 : Int32) : f_X3_pull_k1 z1 S p0 p1 = m_X3_pull_k1 z1 S p0 p1 := (e_X3_pull_k1 z1 S p0 p1).trans (by simp only [t_X3_pull_k2, t_X0_breaksUnder]; rfl)
def m_X3_pull (S : XS) (p0 p1 : Int32) : Int32 × XS := (if (m_X0_hasWire S p0) = 0 then ((-1), S) else (if (m_X3_isWithin p1 1 100) = 0 then ((-2), S) else (m_X3_pull_k1 (recS S 0) S p0 p1)))
theorem t_X3_pull (S : XS) (p0 p1 : Int32) : f_X3_pull S p0 p1 = m_X3_pull S p0 p1 := (e_X3_pull S p0 p1).trans (by simp only [t_X0_hasWire, t_X3_isWithin, t_X3_pull_k1]; rfl)
def m_X3_sample_k2 (z2 : Int32 × XS) (z1 : XS) (S : XS) (p0 p1 : Int32) : Int32 × XS := (z2.1, z2.2)
theorem t_X3_sample_k2 (z2 : Int32 × XS) (z1 : XS) (S : XS) (p0 p1 : Int32) : f_X3_sample_k2 z2 z1 S p0 p1 = m_X3_sample_k2 z2 z1 S p0 p1 := e_X3_sample_k2 z2 z1 S p0 p1
def m_X3_sample_k1 (z1 : XS) (S : XS) (p0 p1 : Int32) : Int32 × XS := (m_X3_sample_k2 (m_X0_breakingOfSample z1 p0 p1) z1 S p0 p1)
theorem t_X3_sample_k1 (z1 : XS) (S : XS) (p0 p1 : Int32) : f_X3_sample_k1 z1 S p0 p1 = m_X3_sample_k1 z1 S p0 p1 := (e_X3_sample_k1 z1 S p0 p1).trans (by simp only [t_X3_sample_k2, t_X0_breakingOfSample]; rfl)
def m_X3_sample (S : XS) (p0 p1 : Int32) : Int32 × XS := (if (m_X3_isWithin p0 1 12) = 0 then ((-2), S) else (if (m_X3_isWithin p1 1 100) = 0 then ((-2), S) else (if (m_X0_wires S) = 0 then ((-5), S) else (m_X3_sample_k1 (recS S 0) S p0 p1))))
theorem t_X3_sample (S : XS) (p0 p1 : Int32) : f_X3_sample S p0 p1 = m_X3_sample S p0 p1 := (e_X3_sample S p0 p1).trans (by simp only [t_X3_isWithin, t_X0_wires, t_X3_sample_k1]; rfl)
def m_X3_type_k1 (z1 : Int32 × XS) (S : XS) (p0 : Int32) : Int32 × XS := (if z1.1 = 0 then ((-3), z1.2) else ((m_X2_length z1.2), z1.2))
theorem t_X3_type_k1 (z1 : Int32 × XS) (S : XS) (p0 : Int32) : f_X3_type_k1 z1 S p0 = m_X3_type_k1 z1 S p0 := (e_X3_type_k1 z1 S p0).trans (by simp only [t_X2_length]; rfl)
def m_X3_type (S : XS) (p0 : Int32) : Int32 × XS := (m_X3_type_k1 (m_X2_append S p0) S p0)
theorem t_X3_type (S : XS) (p0 : Int32) : f_X3_type S p0 = m_X3_type S p0 := (e_X3_type S p0).trans (by simp only [t_X3_type_k1, t_X2_append]; rfl)
def m_X3_clearText_k1 (z1 : XS) (S : XS) : Int32 × XS := ((m_X2_length S), z1)
theorem t_X3_clearText_k1 (z1 : XS) (S : XS) : f_X3_clearText_k1 z1 S = m_X3_clearText_k1 z1 S := (e_X3_clearText_k1 z1 S).trans (by simp only [t_X2_length]; rfl)
def m_X3_clearText (S : XS) : Int32 × XS := (m_X3_clearText_k1 (m_X2_empty S) S)
theorem t_X3_clearText (S : XS) : f_X3_clearText S = m_X3_clearText S := (e_X3_clearText S).trans (by simp only [t_X3_clearText_k1, t_X2_empty]; rfl)
def m_X3_undo_k1 (z1 : XS) (S : XS) : Int32 × XS := ((m_X1_states z1), z1)
theorem t_X3_undo_k1 (z1 : XS) (S : XS) : f_X3_undo_k1 z1 S = m_X3_undo_k1 z1 S := (e_X3_undo_k1 z1 S).trans (by simp only [t_X1_states]; rfl)
def m_X3_undo (S : XS) : Int32 × XS := (if (m_X1_states S) = 0 then ((-5), S) else (m_X3_undo_k1 (tkS S) S))
theorem t_X3_undo (S : XS) : f_X3_undo S = m_X3_undo S := (e_X3_undo S).trans (by simp only [t_X1_states, t_X3_undo_k1]; rfl)
def m_X3_keep_k1 (z1 : XS) (S : XS) : Int32 × XS := ((m_X0_wires (su z1 7 0 (upd (z1 7 0) 0 1))), (su z1 7 0 (upd (z1 7 0) 0 1)))
theorem t_X3_keep_k1 (z1 : XS) (S : XS) : f_X3_keep_k1 z1 S = m_X3_keep_k1 z1 S := (e_X3_keep_k1 z1 S).trans (by simp only [t_X0_wires]; rfl)
def m_X3_keep (S : XS) : Int32 × XS := (m_X3_keep_k1 (f_X0_copyFrom_2_0 S) S)
theorem t_X3_keep (S : XS) : f_X3_keep S = m_X3_keep S := (e_X3_keep S).trans (by simp only [t_X3_keep_k1]; rfl)
def m_X3_restore_k2 (z2 : XS) (z1 : XS) (S : XS) : Int32 × XS := ((m_X0_wires z2), z2)
theorem t_X3_restore_k2 (z2 : XS) (z1 : XS) (S : XS) : f_X3_restore_k2 z2 z1 S = m_X3_restore_k2 z2 z1 S := (e_X3_restore_k2 z2 z1 S).trans (by simp only [t_X0_wires]; rfl)
def m_X3_restore_k1 (z1 : XS) (S : XS) : Int32 × XS := (m_X3_restore_k2 (f_X0_copyFrom_0_2 z1) z1 S)
theorem t_X3_restore_k1 (z1 : XS) (S : XS) : f_X3_restore_k1 z1 S = m_X3_restore_k1 z1 S := (e_X3_restore_k1 z1 S).trans (by simp only [t_X3_restore_k2]; rfl)
def m_X3_restore (S : XS) : Int32 × XS := (if (S 7 0 0) = 0 then ((-5), S) else (m_X3_restore_k1 (recS S 0) S))
theorem t_X3_restore (S : XS) : f_X3_restore S = m_X3_restore S := (e_X3_restore S).trans (by simp only [t_X3_restore_k1]; rfl)
def m_X3_layAll_k4 (z4 : XS) (z1 : Int32 × XS) (z2 : XS) (z3 : Int32 × XS) (S : XS) : Int32 × XS := ((m_X0_wires z4), z4)
theorem t_X3_layAll_k4 (z4 : XS) (z1 : Int32 × XS) (z2 : XS) (z3 : Int32 × XS) (S : XS) : f_X3_layAll_k4 z4 z1 z2 z3 S = m_X3_layAll_k4 z4 z1 z2 z3 S := (e_X3_layAll_k4 z4 z1 z2 z3 S).trans (by simp only [t_X0_wires]; rfl)
def m_X3_layAll_k5 (z5 : XS) (z1 : Int32 × XS) (z2 : XS) (z3 : Int32 × XS) (S : XS) : Int32 × XS := (z3.1, z5)
theorem t_X3_layAll_k5 (z5 : XS) (z1 : Int32 × XS) (z2 : XS) (z3 : Int32 × XS) (S : XS) : f_X3_layAll_k5 z5 z1 z2 z3 S = m_X3_layAll_k5 z5 z1 z2 z3 S := e_X3_layAll_k5 z5 z1 z2 z3 S
def m_X3_layAll_k3 (z3 : Int32 × XS) (z1 : Int32 × XS) (z2 : XS) (S : XS) : Int32 × XS := (if z3.1 = 0 then (m_X3_layAll_k4 (recS z3.2 1) z1 z2 z3 S) else (m_X3_layAll_k5 (f_X0_copyFrom_0_1 z3.2) z1 z2 z3 S))
theorem t_X3_layAll_k3 (z3 : Int32 × XS) (z1 : Int32 × XS) (z2 : XS) (S : XS) : f_X3_layAll_k3 z3 z1 z2 S = m_X3_layAll_k3 z3 z1 z2 S := (e_X3_layAll_k3 z3 z1 z2 S).trans (by simp only [t_X3_layAll_k4, t_X3_layAll_k5]; rfl)
def m_X3_layAll_k2 (z2 : XS) (z1 : Int32 × XS) (S : XS) : Int32 × XS := (m_X3_layAll_k3 (m_X0_addListed z2) z1 z2 S)
theorem t_X3_layAll_k2 (z2 : XS) (z1 : Int32 × XS) (S : XS) : f_X3_layAll_k2 z2 z1 S = m_X3_layAll_k2 z2 z1 S := (e_X3_layAll_k2 z2 z1 S).trans (by simp only [t_X3_layAll_k3, t_X0_addListed]; rfl)
def m_X3_layAll_k1 (z1 : Int32 × XS) (S : XS) : Int32 × XS := (if z1.1 = (-1) then (m_X3_layAll_k2 (f_X0_copyFrom_1_0 z1.2) z1 S) else (((-100) - z1.1), z1.2))
theorem t_X3_layAll_k1 (z1 : Int32 × XS) (S : XS) : f_X3_layAll_k1 z1 S = m_X3_layAll_k1 z1 S := (e_X3_layAll_k1 z1 S).trans (by simp only [t_X3_layAll_k2]; rfl)
def m_X3_layAll (S : XS) : Int32 × XS := (m_X3_layAll_k1 (m_X2_read S) S)
theorem t_X3_layAll (S : XS) : f_X3_layAll S = m_X3_layAll S := (e_X3_layAll S).trans (by simp only [t_X3_layAll_k1, t_X2_read]; rfl)
def m_X3_wire (S : XS) (p0 p1 : Int32) : Int32 := (if (m_X0_hasWire S p0) = 0 then (-1) else (if p1 = 0 then (m_X0_leadAtPad S p0) else (if p1 = 1 then (m_X0_heightOf S p0) else (if p1 = 2 then (m_X0_strengthOf S p0) else (if p1 = 3 then (m_X0_crossingsOf S p0) else (if p1 = 4 then (m_X0_shortOnes S p0 (m_X0_heightOf S p0)) else (if p1 = 5 then (m_X0_leastGap S p0) else (if p1 = 6 then (m_X0_numberOf S p0) else (-2)))))))))
theorem t_X3_wire (S : XS) (p0 p1 : Int32) : f_X3_wire S p0 p1 = m_X3_wire S p0 p1 := (e_X3_wire S p0 p1).trans (by simp only [t_X0_hasWire, t_X0_leadAtPad, t_X0_heightOf, t_X0_strengthOf, t_X0_crossingsOf, t_X0_shortOnes, t_X0_leastGap, t_X0_numberOf]; rfl)
def m_X3_heightAt (S : XS) (p0 p1 : Int32) : Int32 := (if (m_X0_hasWire S p0) = 0 then (-1) else (if (m_X3_isWithin p1 0 200) = 0 then (-2) else (m_X3_loopAt (m_X0_heightOf S p0) p1)))
theorem t_X3_heightAt (S : XS) (p0 p1 : Int32) : f_X3_heightAt S p0 p1 = m_X3_heightAt S p0 p1 := (e_X3_heightAt S p0 p1).trans (by simp only [t_X0_hasWire, t_X3_isWithin, t_X3_loopAt, t_X0_heightOf]; rfl)
def m_X3_crossing (S : XS) (p0 p1 p2 : Int32) : Int32 := (if (m_X0_hasWire S p0) = 0 then (-1) else (if (m_X0_hasWire S p1) = 0 then (-1) else (if (m_X3_isWithin p2 0 2) = 0 then (-2) else (if (m_X0_cross S p0 p1) = 0 then (-5) else (if p2 = 0 then (m_X0_crossingY S p0 p1) else (if p2 = 1 then (m_X0_gap S p0 (m_X0_heightOf S p0) p1) else (if (m_X0_isShort S p0 (m_X0_heightOf S p0) p1) = 0 then 0 else 1)))))))
theorem t_X3_crossing (S : XS) (p0 p1 p2 : Int32) : f_X3_crossing S p0 p1 p2 = m_X3_crossing S p0 p1 p2 := (e_X3_crossing S p0 p1 p2).trans (by simp only [t_X0_hasWire, t_X3_isWithin, t_X0_cross, t_X0_crossingY, t_X0_gap, t_X0_heightOf, t_X0_isShort]; rfl)
def m_X3_lead (S : XS) (p0 p1 : Int32) : Int32 := (if (m_X3_isLead p0) = 0 then (-1) else (if p1 = 0 then (m_X0_xOfLead S p0) else (if p1 = 1 then (m_X0_padAtLead S p0) else (-2))))
theorem t_X3_lead (S : XS) (p0 p1 : Int32) : f_X3_lead S p0 p1 = m_X3_lead S p0 p1 := (e_X3_lead S p0 p1).trans (by simp only [t_X3_isLead, t_X0_xOfLead, t_X0_padAtLead]; rfl)
def m_X3_bestHeight (S : XS) (p0 p1 : Int32) : Int32 := (if (m_X0_hasWire S p0) = 0 then (-1) else (if (m_X3_isWithin p1 0 1) = 0 then (-2) else (if p1 = 0 then (m_X0_clearestHeight S p0) else (m_X0_shortOnes S p0 (m_X0_clearestHeight S p0)))))
theorem t_X3_bestHeight (S : XS) (p0 p1 : Int32) : f_X3_bestHeight S p0 p1 = m_X3_bestHeight S p0 p1 := (e_X3_bestHeight S p0 p1).trans (by simp only [t_X0_hasWire, t_X3_isWithin, t_X0_clearestHeight, t_X0_shortOnes]; rfl)
def m_X3_laysLeft (S : XS) (p0 : Int32) : Int32 := (if (m_X3_isHeight p0) = 0 then (-2) else (m_X0_laysUntilStop S p0))
theorem t_X3_laysLeft (S : XS) (p0 : Int32) : f_X3_laysLeft S p0 = m_X3_laysLeft S p0 := (e_X3_laysLeft S p0).trans (by simp only [t_X3_isHeight, t_X0_laysUntilStop]; rfl)
def m_X3_count (S : XS) (p0 : Int32) : Int32 := (if p0 = 0 then (m_X0_wires S) else (if p0 = 1 then (S 0 0 0) else (if p0 = 2 then (m_X0_allCrossings S) else (if p0 = 3 then (m_X0_allShortOnes S) else (if p0 = 4 then (S 0 0 2) else (if p0 = 5 then (if (S 0 0 4) = 0 then 0 else 1) else (if p0 = 6 then (S 0 0 5) else (if p0 = 7 then (S 0 0 1) else (if p0 = 8 then (S 0 0 6) else (if p0 = 9 then (m_X0_weakestPad S) else (if p0 = 10 then (m_X0_allStrengths S) else (if p0 = 11 then (S 0 0 3) else (if p0 = 12 then (m_X1_states S) else (if p0 = 13 then (m_X2_length S) else (-2)))))))))))))))
theorem t_X3_count (S : XS) (p0 : Int32) : f_X3_count S p0 = m_X3_count S p0 := (e_X3_count S p0).trans (by simp only [t_X0_wires, t_X0_allCrossings, t_X0_allShortOnes, t_X0_weakestPad, t_X0_allStrengths, t_X1_states, t_X2_length]; rfl)
