/-! contracts with a given answer -/
theorem k_X3_lay (l : Launch) (G : GG) (A : Nat → Nat) {S S1 : XS} {v : Int32} (p0 p1 p2 : Int32) (hI : Iv S) (h : f_X3_lay S p0 p1 p2 = (v, S1)) : Mm l yX3_lay wsX3_lay ({ frames := 4, cells := 0, slots := 0, locals := 88 } : Room) G [.ref (A 42), .int p0, .int p1, .int p2] (wX G A S (rot S)) v (wX G A S1 (rot S1)) := by
  obtain ⟨⟨q, hq, hq4⟩, hbs, hle⟩ := hI
  have h1 := c_X3_lay l G A S p0 p1 p2 q hq hq4 hbs
  rw [h] at h1
  exact h1
theorem k_X3_takeOff (l : Launch) (G : GG) (A : Nat → Nat) {S S1 : XS} {v : Int32} (p0 : Int32) (hI : Iv S) (h : f_X3_takeOff S p0 = (v, S1)) : Mm l yX3_takeOff wsX3_takeOff ({ frames := 3, cells := 0, slots := 0, locals := 69 } : Room) G [.ref (A 42), .int p0] (wX G A S (rot S)) v (wX G A S1 (rot S1)) := by
  obtain ⟨⟨q, hq, hq4⟩, hbs, hle⟩ := hI
  have h1 := c_X3_takeOff l G A S p0 q hq hq4 hbs
  rw [h] at h1
  exact h1
theorem k_X3_bend (l : Launch) (G : GG) (A : Nat → Nat) {S S1 : XS} {v : Int32} (p0 p1 : Int32) (hI : Iv S) (h : f_X3_bend S p0 p1 = (v, S1)) : Mm l yX3_bend wsX3_bend ({ frames := 3, cells := 0, slots := 0, locals := 69 } : Room) G [.ref (A 42), .int p0, .int p1] (wX G A S (rot S)) v (wX G A S1 (rot S1)) := by
  obtain ⟨⟨q, hq, hq4⟩, hbs, hle⟩ := hI
  have h1 := c_X3_bend l G A S p0 p1 q hq hq4 hbs
  rw [h] at h1
  exact h1
theorem k_X3_moveLead (l : Launch) (G : GG) (A : Nat → Nat) {S S1 : XS} {v : Int32} (p0 p1 : Int32) (hI : Iv S) (h : f_X3_moveLead S p0 p1 = (v, S1)) : Mm l yX3_moveLead wsX3_moveLead ({ frames := 3, cells := 0, slots := 0, locals := 69 } : Room) G [.ref (A 42), .int p0, .int p1] (wX G A S (rot S)) v (wX G A S1 (rot S1)) := by
  obtain ⟨⟨q, hq, hq4⟩, hbs, hle⟩ := hI
  have h1 := c_X3_moveLead l G A S p0 p1 q hq hq4 hbs
  rw [h] at h1
  exact h1
theorem k_X3_setWidth (l : Launch) (G : GG) (A : Nat → Nat) {S S1 : XS} {v : Int32} (p0 : Int32) (hI : Iv S) (h : f_X3_setWidth S p0 = (v, S1)) : Mm l yX3_setWidth wsX3_setWidth ({ frames := 3, cells := 0, slots := 0, locals := 69 } : Room) G [.ref (A 42), .int p0] (wX G A S (rot S)) v (wX G A S1 (rot S1)) := by
  obtain ⟨⟨q, hq, hq4⟩, hbs, hle⟩ := hI
  have h1 := c_X3_setWidth l G A S p0 q hq hq4 hbs
  rw [h] at h1
  exact h1
theorem k_X3_changeTool (l : Launch) (G : GG) (A : Nat → Nat) {S S1 : XS} {v : Int32} (hI : Iv S) (h : f_X3_changeTool S = (v, S1)) : Mm l yX3_changeTool wsX3_changeTool ({ frames := 3, cells := 0, slots := 0, locals := 69 } : Room) G [.ref (A 42)] (wX G A S (rot S)) v (wX G A S1 (rot S1)) := by
  obtain ⟨⟨q, hq, hq4⟩, hbs, hle⟩ := hI
  have h1 := c_X3_changeTool l G A S q hq hq4 hbs
  rw [h] at h1
  exact h1
theorem k_X3_thread (l : Launch) (G : GG) (A : Nat → Nat) {S S1 : XS} {v : Int32} (hI : Iv S) (h : f_X3_thread S = (v, S1)) : Mm l yX3_thread wsX3_thread ({ frames := 3, cells := 0, slots := 0, locals := 69 } : Room) G [.ref (A 42)] (wX G A S (rot S)) v (wX G A S1 (rot S1)) := by
  obtain ⟨⟨q, hq, hq4⟩, hbs, hle⟩ := hI
  have h1 := c_X3_thread l G A S q hq hq4 hbs
  rw [h] at h1
  exact h1
theorem k_X3_pull (l : Launch) (G : GG) (A : Nat → Nat) {S S1 : XS} {v : Int32} (p0 p1 : Int32) (hI : Iv S) (h : f_X3_pull S p0 p1 = (v, S1)) : Mm l yX3_pull wsX3_pull ({ frames := 3, cells := 0, slots := 0, locals := 69 } : Room) G [.ref (A 42), .int p0, .int p1] (wX G A S (rot S)) v (wX G A S1 (rot S1)) := by
  obtain ⟨⟨q, hq, hq4⟩, hbs, hle⟩ := hI
  have h1 := c_X3_pull l G A S p0 p1 q hq hq4 hbs
  rw [h] at h1
  exact h1
theorem k_X3_sample (l : Launch) (G : GG) (A : Nat → Nat) {S S1 : XS} {v : Int32} (p0 p1 : Int32) (hI : Iv S) (h : f_X3_sample S p0 p1 = (v, S1)) : Mm l yX3_sample wsX3_sample ({ frames := 4, cells := 0, slots := 0, locals := 88 } : Room) G [.ref (A 42), .int p0, .int p1] (wX G A S (rot S)) v (wX G A S1 (rot S1)) := by
  obtain ⟨⟨q, hq, hq4⟩, hbs, hle⟩ := hI
  have h1 := c_X3_sample l G A S p0 p1 q hq hq4 hbs
  rw [h] at h1
  exact h1
theorem k_X3_type (l : Launch) (G : GG) (A : Nat → Nat) {S S1 : XS} {v : Int32} (p0 : Int32) (hI : Iv S) (h : f_X3_type S p0 = (v, S1)) : Mm l yX3_type wsX3_type ({ frames := 1, cells := 0, slots := 0, locals := 21 } : Room) G [.ref (A 42), .int p0] (wX G A S (rot S)) v (wX G A S1 (rot S1)) := by
  obtain ⟨⟨q, hq, hq4⟩, hbs, hle⟩ := hI
  have h1 := c_X3_type l G A S p0 hle
  rw [h] at h1
  exact h1
theorem k_X3_clearText (l : Launch) (G : GG) (A : Nat → Nat) {S S1 : XS} {v : Int32} (hI : Iv S) (h : f_X3_clearText S = (v, S1)) : Mm l yX3_clearText wsX3_clearText ({ frames := 1, cells := 0, slots := 0, locals := 20 } : Room) G [.ref (A 42)] (wX G A S (rot S)) v (wX G A S1 (rot S1)) := by
  obtain ⟨⟨q, hq, hq4⟩, hbs, hle⟩ := hI
  have h1 := c_X3_clearText l G A S 
  rw [h] at h1
  exact h1
theorem k_X3_undo (l : Launch) (G : GG) (A : Nat → Nat) {S S1 : XS} {v : Int32} (hI : Iv S) (h : f_X3_undo S = (v, S1)) : Mm l yX3_undo wsX3_undo ({ frames := 3, cells := 0, slots := 0, locals := 69 } : Room) G [.ref (A 42)] (wX G A S (rot S)) v (wX G A S1 (rot S1)) := by
  obtain ⟨⟨q, hq, hq4⟩, hbs, hle⟩ := hI
  have h1 := c_X3_undo l G A S q hq hq4 hbs
  rw [h] at h1
  exact h1
theorem k_X3_keep (l : Launch) (G : GG) (A : Nat → Nat) {S S1 : XS} {v : Int32} (hI : Iv S) (h : f_X3_keep S = (v, S1)) : Mm l yX3_keep wsX3_keep ({ frames := 3, cells := 0, slots := 0, locals := 63 } : Room) G [.ref (A 42)] (wX G A S (rot S)) v (wX G A S1 (rot S1)) := by
  obtain ⟨⟨q, hq, hq4⟩, hbs, hle⟩ := hI
  have h1 := c_X3_keep l G A S q hq hq4 hbs
  rw [h] at h1
  exact h1
theorem k_X3_restore (l : Launch) (G : GG) (A : Nat → Nat) {S S1 : XS} {v : Int32} (hI : Iv S) (h : f_X3_restore S = (v, S1)) : Mm l yX3_restore wsX3_restore ({ frames := 3, cells := 0, slots := 0, locals := 69 } : Room) G [.ref (A 42)] (wX G A S (rot S)) v (wX G A S1 (rot S1)) := by
  obtain ⟨⟨q, hq, hq4⟩, hbs, hle⟩ := hI
  have h1 := c_X3_restore l G A S q hq hq4 hbs
  rw [h] at h1
  exact h1
theorem k_X3_layAll (l : Launch) (G : GG) (A : Nat → Nat) {S S1 : XS} {v : Int32} (hI : Iv S) (h : f_X3_layAll S = (v, S1)) : Mm l yX3_layAll wsX3_layAll ({ frames := 6, cells := 0, slots := 0, locals := 132 } : Room) G [.ref (A 42)] (wX G A S (rot S)) v (wX G A S1 (rot S1)) := by
  obtain ⟨⟨q, hq, hq4⟩, hbs, hle⟩ := hI
  have h1 := c_X3_layAll l G A S q hq hq4 hbs
  rw [h] at h1
  exact h1
theorem k_X3_wire (l : Launch) (G : GG) (A : Nat → Nat) (S : XS) {v : Int32} (p0 p1 : Int32) (h : f_X3_wire S p0 p1 = v) : Mp l yX3_wire wsX3_wire ({ frames := 5, cells := 0, slots := 0, locals := 118 } : Room) G [.ref (A 42), .int p0, .int p1] (wX G A S (rot S)) v := by
  have h1 := c_X3_wire l G A S (rot S) p0 p1
  rw [h] at h1
  exact h1
theorem k_X3_heightAt (l : Launch) (G : GG) (A : Nat → Nat) (S : XS) {v : Int32} (p0 p1 : Int32) (h : f_X3_heightAt S p0 p1 = v) : Mp l yX3_heightAt wsX3_heightAt ({ frames := 2, cells := 0, slots := 0, locals := 41 } : Room) G [.ref (A 42), .int p0, .int p1] (wX G A S (rot S)) v := by
  have h1 := c_X3_heightAt l G A S (rot S) p0 p1
  rw [h] at h1
  exact h1
theorem k_X3_crossing (l : Launch) (G : GG) (A : Nat → Nat) (S : XS) {v : Int32} (p0 p1 p2 : Int32) (h : f_X3_crossing S p0 p1 p2 = v) : Mp l yX3_crossing wsX3_crossing ({ frames := 4, cells := 0, slots := 0, locals := 94 } : Room) G [.ref (A 42), .int p0, .int p1, .int p2] (wX G A S (rot S)) v := by
  have h1 := c_X3_crossing l G A S (rot S) p0 p1 p2
  rw [h] at h1
  exact h1
theorem k_X3_lead (l : Launch) (G : GG) (A : Nat → Nat) (S : XS) {v : Int32} (p0 p1 : Int32) (h : f_X3_lead S p0 p1 = v) : Mp l yX3_lead wsX3_lead ({ frames := 3, cells := 0, slots := 0, locals := 63 } : Room) G [.ref (A 42), .int p0, .int p1] (wX G A S (rot S)) v := by
  have h1 := c_X3_lead l G A S (rot S) p0 p1
  rw [h] at h1
  exact h1
theorem k_X3_bestHeight (l : Launch) (G : GG) (A : Nat → Nat) (S : XS) {v : Int32} (p0 p1 : Int32) (h : f_X3_bestHeight S p0 p1 = v) : Mp l yX3_bestHeight wsX3_bestHeight ({ frames := 6, cells := 0, slots := 0, locals := 143 } : Room) G [.ref (A 42), .int p0, .int p1] (wX G A S (rot S)) v := by
  have h1 := c_X3_bestHeight l G A S (rot S) p0 p1
  rw [h] at h1
  exact h1
theorem k_X3_laysLeft (l : Launch) (G : GG) (A : Nat → Nat) (S : XS) {v : Int32} (p0 : Int32) (h : f_X3_laysLeft S p0 = v) : Mp l yX3_laysLeft wsX3_laysLeft ({ frames := 2, cells := 0, slots := 0, locals := 44 } : Room) G [.ref (A 42), .int p0] (wX G A S (rot S)) v := by
  have h1 := c_X3_laysLeft l G A S (rot S) p0
  rw [h] at h1
  exact h1
theorem k_X3_count (l : Launch) (G : GG) (A : Nat → Nat) (S : XS) {v : Int32} (p0 : Int32) (h : f_X3_count S p0 = v) : Mp l yX3_count wsX3_count ({ frames := 5, cells := 0, slots := 0, locals := 117 } : Room) G [.ref (A 42), .int p0] (wX G A S (rot S)) v := by
  have h1 := c_X3_count l G A S (rot S) p0
  rw [h] at h1
  exact h1
