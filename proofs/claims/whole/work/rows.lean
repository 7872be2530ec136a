section
-- ===== PART A: goes FIRST, ahead of the names: the tables' words, and 'selects' of the private methods out of them =====
/-- a private method of a class that the tables say can be made, by its rows of tables_1 -/
def lw_okq (q : MethodName × Nat) : Prop := (q.1.cls ≠ "java/lang/invoke/MethodHandle" ∧ q.1.cls ≠ "java/lang/invoke/VarHandle") ∧ Cond.instantiable q.1.cls q.2 ∈ tables_1 ∧ Cond.privateMethod q.1 ∈ tables_1 ∧ Cond.instanceMethod q.1 ∈ tables_1
theorem lw_p0 : lw_okq (⟨"WireLoops$History", "dropOldest", "()V"⟩, 2) := ⟨⟨by decide +kernel, by decide +kernel⟩, List.mem_of_getElem? (i := 72) (by decide +kernel), List.mem_of_getElem? (i := 169) (by decide +kernel), List.mem_of_getElem? (i := 170) (by decide +kernel)⟩
theorem lw_p1 : lw_okq (⟨"WireLoops$History", "placeAt", "(I)LWireLoops$Chip;"⟩, 2) := ⟨⟨by decide +kernel, by decide +kernel⟩, List.mem_of_getElem? (i := 72) (by decide +kernel), List.mem_of_getElem? (i := 173) (by decide +kernel), List.mem_of_getElem? (i := 174) (by decide +kernel)⟩
theorem lw_p2 : lw_okq (⟨"WireLoops$Chip", "newStrength", "(II)I"⟩, 12) := ⟨⟨by decide +kernel, by decide +kernel⟩, List.mem_of_getElem? (i := 18) (by decide +kernel), List.mem_of_getElem? (i := 190) (by decide +kernel), List.mem_of_getElem? (i := 191) (by decide +kernel)⟩
theorem lw_p3 : lw_okq (⟨"WireLoops$WireList", "readWire", "()Z"⟩, 7) := ⟨⟨by decide +kernel, by decide +kernel⟩, List.mem_of_getElem? (i := 88) (by decide +kernel), List.mem_of_getElem? (i := 225) (by decide +kernel), List.mem_of_getElem? (i := 226) (by decide +kernel)⟩
theorem lw_p4 : lw_okq (⟨"WireLoops$WireList", "readNumber", "(I)I"⟩, 7) := ⟨⟨by decide +kernel, by decide +kernel⟩, List.mem_of_getElem? (i := 88) (by decide +kernel), List.mem_of_getElem? (i := 229) (by decide +kernel), List.mem_of_getElem? (i := 230) (by decide +kernel)⟩
theorem lw_p5 : lw_okq (⟨"WireLoops$WireList", "digitHere", "()I"⟩, 7) := ⟨⟨by decide +kernel, by decide +kernel⟩, List.mem_of_getElem? (i := 88) (by decide +kernel), List.mem_of_getElem? (i := 233) (by decide +kernel), List.mem_of_getElem? (i := 234) (by decide +kernel)⟩
theorem lw_p6 : lw_okq (⟨"WireLoops$WireList", "isAtCharacter", "()Z"⟩, 7) := ⟨⟨by decide +kernel, by decide +kernel⟩, List.mem_of_getElem? (i := 88) (by decide +kernel), List.mem_of_getElem? (i := 237) (by decide +kernel), List.mem_of_getElem? (i := 238) (by decide +kernel)⟩
theorem lw_p7 : lw_okq (⟨"WireLoops$WireList", "withDigit", "(II)I"⟩, 7) := ⟨⟨by decide +kernel, by decide +kernel⟩, List.mem_of_getElem? (i := 88) (by decide +kernel), List.mem_of_getElem? (i := 242) (by decide +kernel), List.mem_of_getElem? (i := 243) (by decide +kernel)⟩
theorem lw_p8 : lw_okq (⟨"WireLoops$WireList", "passBy", "(C)Z"⟩, 7) := ⟨⟨by decide +kernel, by decide +kernel⟩, List.mem_of_getElem? (i := 88) (by decide +kernel), List.mem_of_getElem? (i := 246) (by decide +kernel), List.mem_of_getElem? (i := 247) (by decide +kernel)⟩
theorem lw_p9 : lw_okq (⟨"WireLoops$WireList", "readHeight", "()I"⟩, 7) := ⟨⟨by decide +kernel, by decide +kernel⟩, List.mem_of_getElem? (i := 88) (by decide +kernel), List.mem_of_getElem? (i := 250) (by decide +kernel), List.mem_of_getElem? (i := 251) (by decide +kernel)⟩
theorem lw_p10 : lw_okq (⟨"WireLoops$WireList", "isListed", "(I)Z"⟩, 7) := ⟨⟨by decide +kernel, by decide +kernel⟩, List.mem_of_getElem? (i := 88) (by decide +kernel), List.mem_of_getElem? (i := 267) (by decide +kernel), List.mem_of_getElem? (i := 268) (by decide +kernel)⟩
theorem lw_p11 : lw_okq (⟨"WireLoops$Chip", "endX", "(I)I"⟩, 12) := ⟨⟨by decide +kernel, by decide +kernel⟩, List.mem_of_getElem? (i := 18) (by decide +kernel), List.mem_of_getElem? (i := 402) (by decide +kernel), List.mem_of_getElem? (i := 403) (by decide +kernel)⟩
theorem lw_p12 : lw_okq (⟨"WireLoopsModel", "records", "()V"⟩, 11) := ⟨⟨by decide +kernel, by decide +kernel⟩, List.mem_of_getElem? (i := 493) (by decide +kernel), List.mem_of_getElem? (i := 558) (by decide +kernel), List.mem_of_getElem? (i := 559) (by decide +kernel)⟩
theorem lw_p13 : lw_okq (⟨"WireLoopsModel", "fault", "()I"⟩, 11) := ⟨⟨by decide +kernel, by decide +kernel⟩, List.mem_of_getElem? (i := 493) (by decide +kernel), List.mem_of_getElem? (i := 581) (by decide +kernel), List.mem_of_getElem? (i := 582) (by decide +kernel)⟩
theorem lw_p14 : lw_okq (⟨"WireLoopsModel", "isWire", "()Z"⟩, 11) := ⟨⟨by decide +kernel, by decide +kernel⟩, List.mem_of_getElem? (i := 493) (by decide +kernel), List.mem_of_getElem? (i := 585) (by decide +kernel), List.mem_of_getElem? (i := 586) (by decide +kernel)⟩
theorem lw_p15 : lw_okq (⟨"WireLoopsModel", "isNumber", "(III)Z"⟩, 11) := ⟨⟨by decide +kernel, by decide +kernel⟩, List.mem_of_getElem? (i := 493) (by decide +kernel), List.mem_of_getElem? (i := 589) (by decide +kernel), List.mem_of_getElem? (i := 590) (by decide +kernel)⟩
def lw_privs_1 : List (MethodName × Nat) := [(⟨"WireLoops$History", "dropOldest", "()V"⟩, 2), (⟨"WireLoops$History", "placeAt", "(I)LWireLoops$Chip;"⟩, 2), (⟨"WireLoops$Chip", "newStrength", "(II)I"⟩, 12), (⟨"WireLoops$WireList", "readWire", "()Z"⟩, 7), (⟨"WireLoops$WireList", "readNumber", "(I)I"⟩, 7), (⟨"WireLoops$WireList", "digitHere", "()I"⟩, 7), (⟨"WireLoops$WireList", "isAtCharacter", "()Z"⟩, 7), (⟨"WireLoops$WireList", "withDigit", "(II)I"⟩, 7), (⟨"WireLoops$WireList", "passBy", "(C)Z"⟩, 7), (⟨"WireLoops$WireList", "readHeight", "()I"⟩, 7), (⟨"WireLoops$WireList", "isListed", "(I)Z"⟩, 7), (⟨"WireLoops$Chip", "endX", "(I)I"⟩, 12), (⟨"WireLoopsModel", "records", "()V"⟩, 11), (⟨"WireLoopsModel", "fault", "()I"⟩, 11), (⟨"WireLoopsModel", "isWire", "()Z"⟩, 11), (⟨"WireLoopsModel", "isNumber", "(III)Z"⟩, 11)]
theorem lw_r1 : ∀ q ∈ lw_privs_1, lw_okq q := List.forall_mem_cons.mpr ⟨lw_p0, List.forall_mem_cons.mpr ⟨lw_p1, List.forall_mem_cons.mpr ⟨lw_p2, List.forall_mem_cons.mpr ⟨lw_p3, List.forall_mem_cons.mpr ⟨lw_p4, List.forall_mem_cons.mpr ⟨lw_p5, List.forall_mem_cons.mpr ⟨lw_p6, List.forall_mem_cons.mpr ⟨lw_p7, List.forall_mem_cons.mpr ⟨lw_p8, List.forall_mem_cons.mpr ⟨lw_p9, List.forall_mem_cons.mpr ⟨lw_p10, List.forall_mem_cons.mpr ⟨lw_p11, List.forall_mem_cons.mpr ⟨lw_p12, List.forall_mem_cons.mpr ⟨lw_p13, List.forall_mem_cons.mpr ⟨lw_p14, List.forall_mem_cons.mpr ⟨lw_p15, fun _ h => absurd h List.not_mem_nil⟩⟩⟩⟩⟩⟩⟩⟩⟩⟩⟩⟩⟩⟩⟩⟩
theorem lw_p16 : lw_okq (⟨"WireLoopsModel", "sees", "(II)Z"⟩, 11) := ⟨⟨by decide +kernel, by decide +kernel⟩, List.mem_of_getElem? (i := 493) (by decide +kernel), List.mem_of_getElem? (i := 593) (by decide +kernel), List.mem_of_getElem? (i := 594) (by decide +kernel)⟩
theorem lw_p17 : lw_okq (⟨"WireLoopsModel", "takes", "(I)Z"⟩, 11) := ⟨⟨by decide +kernel, by decide +kernel⟩, List.mem_of_getElem? (i := 493) (by decide +kernel), List.mem_of_getElem? (i := 597) (by decide +kernel), List.mem_of_getElem? (i := 598) (by decide +kernel)⟩
theorem lw_p18 : lw_okq (⟨"WireLoopsModel", "wires", "()I"⟩, 11) := ⟨⟨by decide +kernel, by decide +kernel⟩, List.mem_of_getElem? (i := 493) (by decide +kernel), List.mem_of_getElem? (i := 601) (by decide +kernel), List.mem_of_getElem? (i := 602) (by decide +kernel)⟩
theorem lw_p19 : lw_okq (⟨"WireLoopsModel", "hasWire", "(I)Z"⟩, 11) := ⟨⟨by decide +kernel, by decide +kernel⟩, List.mem_of_getElem? (i := 493) (by decide +kernel), List.mem_of_getElem? (i := 605) (by decide +kernel), List.mem_of_getElem? (i := 606) (by decide +kernel)⟩
theorem lw_p20 : lw_okq (⟨"WireLoopsModel", "goes", "(I)V"⟩, 11) := ⟨⟨by decide +kernel, by decide +kernel⟩, List.mem_of_getElem? (i := 493) (by decide +kernel), List.mem_of_getElem? (i := 613) (by decide +kernel), List.mem_of_getElem? (i := 614) (by decide +kernel)⟩
theorem lw_p21 : lw_okq (⟨"WireLoopsModel", "becomes", "(II)I"⟩, 11) := ⟨⟨by decide +kernel, by decide +kernel⟩, List.mem_of_getElem? (i := 493) (by decide +kernel), List.mem_of_getElem? (i := 621) (by decide +kernel), List.mem_of_getElem? (i := 622) (by decide +kernel)⟩
theorem lw_p22 : lw_okq (⟨"WireLoopsModel", "pulls", "(II)I"⟩, 11) := ⟨⟨by decide +kernel, by decide +kernel⟩, List.mem_of_getElem? (i := 493) (by decide +kernel), List.mem_of_getElem? (i := 645) (by decide +kernel), List.mem_of_getElem? (i := 646) (by decide +kernel)⟩
theorem lw_p23 : lw_okq (⟨"WireLoopsModel", "crossings", "(I)I"⟩, 11) := ⟨⟨by decide +kernel, by decide +kernel⟩, List.mem_of_getElem? (i := 493) (by decide +kernel), List.mem_of_getElem? (i := 677) (by decide +kernel), List.mem_of_getElem? (i := 678) (by decide +kernel)⟩
theorem lw_p24 : lw_okq (⟨"WireLoopsModel", "cross", "(II)Z"⟩, 11) := ⟨⟨by decide +kernel, by decide +kernel⟩, List.mem_of_getElem? (i := 493) (by decide +kernel), List.mem_of_getElem? (i := 681) (by decide +kernel), List.mem_of_getElem? (i := 682) (by decide +kernel)⟩
theorem lw_p25 : lw_okq (⟨"WireLoopsModel", "crossingY", "(II)I"⟩, 11) := ⟨⟨by decide +kernel, by decide +kernel⟩, List.mem_of_getElem? (i := 493) (by decide +kernel), List.mem_of_getElem? (i := 685) (by decide +kernel), List.mem_of_getElem? (i := 686) (by decide +kernel)⟩
theorem lw_p26 : lw_okq (⟨"WireLoopsModel", "shortOnes", "(II)I"⟩, 11) := ⟨⟨by decide +kernel, by decide +kernel⟩, List.mem_of_getElem? (i := 493) (by decide +kernel), List.mem_of_getElem? (i := 689) (by decide +kernel), List.mem_of_getElem? (i := 690) (by decide +kernel)⟩
theorem lw_p27 : lw_okq (⟨"WireLoopsModel", "gap", "(III)I"⟩, 11) := ⟨⟨by decide +kernel, by decide +kernel⟩, List.mem_of_getElem? (i := 493) (by decide +kernel), List.mem_of_getElem? (i := 693) (by decide +kernel), List.mem_of_getElem? (i := 694) (by decide +kernel)⟩
theorem lw_p28 : lw_okq (⟨"WireLoopsModel", "leastGap", "(I)I"⟩, 11) := ⟨⟨by decide +kernel, by decide +kernel⟩, List.mem_of_getElem? (i := 493) (by decide +kernel), List.mem_of_getElem? (i := 701) (by decide +kernel), List.mem_of_getElem? (i := 702) (by decide +kernel)⟩
theorem lw_p29 : lw_okq (⟨"WireLoopsModel", "all", "(Z)I"⟩, 11) := ⟨⟨by decide +kernel, by decide +kernel⟩, List.mem_of_getElem? (i := 493) (by decide +kernel), List.mem_of_getElem? (i := 729) (by decide +kernel), List.mem_of_getElem? (i := 730) (by decide +kernel)⟩
theorem lw_p30 : lw_okq (⟨"WireLoopsModel", "weakest", "()I"⟩, 11) := ⟨⟨by decide +kernel, by decide +kernel⟩, List.mem_of_getElem? (i := 493) (by decide +kernel), List.mem_of_getElem? (i := 733) (by decide +kernel), List.mem_of_getElem? (i := 734) (by decide +kernel)⟩
theorem lw_p31 : lw_okq (⟨"WireLoopsModel", "strengths", "()I"⟩, 11) := ⟨⟨by decide +kernel, by decide +kernel⟩, List.mem_of_getElem? (i := 493) (by decide +kernel), List.mem_of_getElem? (i := 737) (by decide +kernel), List.mem_of_getElem? (i := 738) (by decide +kernel)⟩
def lw_privs_2 : List (MethodName × Nat) := [(⟨"WireLoopsModel", "sees", "(II)Z"⟩, 11), (⟨"WireLoopsModel", "takes", "(I)Z"⟩, 11), (⟨"WireLoopsModel", "wires", "()I"⟩, 11), (⟨"WireLoopsModel", "hasWire", "(I)Z"⟩, 11), (⟨"WireLoopsModel", "goes", "(I)V"⟩, 11), (⟨"WireLoopsModel", "becomes", "(II)I"⟩, 11), (⟨"WireLoopsModel", "pulls", "(II)I"⟩, 11), (⟨"WireLoopsModel", "crossings", "(I)I"⟩, 11), (⟨"WireLoopsModel", "cross", "(II)Z"⟩, 11), (⟨"WireLoopsModel", "crossingY", "(II)I"⟩, 11), (⟨"WireLoopsModel", "shortOnes", "(II)I"⟩, 11), (⟨"WireLoopsModel", "gap", "(III)I"⟩, 11), (⟨"WireLoopsModel", "leastGap", "(I)I"⟩, 11), (⟨"WireLoopsModel", "all", "(Z)I"⟩, 11), (⟨"WireLoopsModel", "weakest", "()I"⟩, 11), (⟨"WireLoopsModel", "strengths", "()I"⟩, 11)]
theorem lw_r2 : ∀ q ∈ lw_privs_2, lw_okq q := List.forall_mem_cons.mpr ⟨lw_p16, List.forall_mem_cons.mpr ⟨lw_p17, List.forall_mem_cons.mpr ⟨lw_p18, List.forall_mem_cons.mpr ⟨lw_p19, List.forall_mem_cons.mpr ⟨lw_p20, List.forall_mem_cons.mpr ⟨lw_p21, List.forall_mem_cons.mpr ⟨lw_p22, List.forall_mem_cons.mpr ⟨lw_p23, List.forall_mem_cons.mpr ⟨lw_p24, List.forall_mem_cons.mpr ⟨lw_p25, List.forall_mem_cons.mpr ⟨lw_p26, List.forall_mem_cons.mpr ⟨lw_p27, List.forall_mem_cons.mpr ⟨lw_p28, List.forall_mem_cons.mpr ⟨lw_p29, List.forall_mem_cons.mpr ⟨lw_p30, List.forall_mem_cons.mpr ⟨lw_p31, fun _ h => absurd h List.not_mem_nil⟩⟩⟩⟩⟩⟩⟩⟩⟩⟩⟩⟩⟩⟩⟩⟩
def lw_privs : List (MethodName × Nat) := lw_privs_1 ++ (lw_privs_2)
def lw_tbl : List Cond := k2_sels lw_privs ++ tables_1
theorem lw_privs_ok : ∀ q ∈ lw_privs, lw_okq q := by
  show ∀ q ∈ lw_privs_1 ++ (lw_privs_2), lw_okq q
  exact List.forall_mem_append.mpr ⟨lw_r1, lw_r2⟩
/-! ===== BEGIN words of one list among another's, by their places ===== -/
theorem goodIn_r {big : List Cond} (ws : List Cond) (ps : List Nat) (hp : ws = ps.filterMap (fun i => big[i]?)) (h : ws.all goodWord = true) : GoodIn big ws := by
  intro w hw
  have h1 := List.all_eq_true.mp h w hw
  rw [hp] at hw
  obtain ⟨i, -, hi⟩ := List.mem_filterMap.mp hw
  have hm : w ∈ big := by first | exact List.mem_of_getElem? hi | exact List.getElem?_mem hi
  exact ⟨hm, good_of_word h1⟩
theorem goodIn_app {big a b : List Cond} (ha : GoodIn big a) (hb : GoodIn big b) : GoodIn big (a ++ b) := fun w h => (List.mem_append.mp h).elim (ha w) (hb w)
theorem goodIn_ca {big a b : List Cond} {c : Cond} (ha : GoodIn big (c :: a)) (hb : GoodIn big b) : GoodIn big (c :: (a ++ b)) := fun w h => (List.mem_cons.mp h).elim (fun e => ha w (List.mem_cons.mpr (Or.inl e))) (fun h => (List.mem_append.mp h).elim (fun h => ha w (List.mem_cons.mpr (Or.inr h))) (hb w))
theorem goodIn_sub {big ws : List Cond} (hm : ∀ w ∈ ws, w ∈ big) (h : ws.all goodWord = true) : GoodIn big ws := fun w hw => ⟨hm w hw, good_of_word (List.all_eq_true.mp h w hw)⟩
/-! ===== END ===== -/

/-! ===== BEGIN printed: names, fields, word lists, decode rows ===== -/
def RX0 : String := "WireLoops$Chip"
def TX0 : u_T := fun k => match k with
  | 0 => ("WireLoops$Chip", "leadX", "[I", true)
  | 1 => ("WireLoops$Chip", "leadOf", "[I", true)
  | 2 => ("WireLoops$Chip", "height", "[I", true)
  | 3 => ("WireLoops$Chip", "strength", "[I", true)
  | 4 => ("WireLoops$Chip", "number", "[I", true)
  | 5 => ("WireLoops$Chip", "laid", "I", false)
  | 6 => ("WireLoops$Chip", "width", "I", false)
  | 7 => ("WireLoops$Chip", "wear", "I", false)
  | 8 => ("WireLoops$Chip", "toolsChanged", "I", false)
  | 9 => ("WireLoops$Chip", "tailLost", "Z", false)
  | 10 => ("WireLoops$Chip", "tailsLost", "I", false)
  | _ => ("WireLoops$Chip", "broken", "I", false)
def tyX0 : Nat → FieldType := fun k => match k with
  | 0 => .array .int
  | 1 => .array .int
  | 2 => .array .int
  | 3 => .array .int
  | 4 => .array .int
  | 5 => .int
  | 6 => .int
  | 7 => .int
  | 8 => .int
  | 9 => .boolean
  | 10 => .int
  | _ => .int
abbrev wsX00 : List Cond := u_ws RX0 TX0 12
theorem nmX0 : ∀ a, a < 12 → ∀ b, b < 12 → a ≠ b → (TX0 a).2.1 ≠ (TX0 b).2.1 := by decide +kernel
theorem tyX0_ok : ∀ k, k < 12 → parseFieldDescriptor (TX0 k).2.2.1 = some (tyX0 k) := by decide +kernel
abbrev cX0_init : ByteArray := prog_2_method_1_code
def yX0_init : MethodName := ⟨RX0, "<init>", "()V"⟩
abbrev cX0_copyFrom : ByteArray := prog_2_method_2_code
def yX0_copyFrom : MethodName := ⟨RX0, "copyFrom", "(LWireLoops$Chip;)V"⟩
abbrev cX0_hasWire : ByteArray := prog_2_method_3_code
def yX0_hasWire : MethodName := ⟨RX0, "hasWire", "(I)Z"⟩
abbrev cX0_leadAtPad : ByteArray := prog_2_method_4_code
def yX0_leadAtPad : MethodName := ⟨RX0, "leadAtPad", "(I)I"⟩
abbrev cX0_heightOf : ByteArray := prog_2_method_5_code
def yX0_heightOf : MethodName := ⟨RX0, "heightOf", "(I)I"⟩
abbrev cX0_strengthOf : ByteArray := prog_2_method_6_code
def yX0_strengthOf : MethodName := ⟨RX0, "strengthOf", "(I)I"⟩
abbrev cX0_numberOf : ByteArray := prog_2_method_7_code
def yX0_numberOf : MethodName := ⟨RX0, "numberOf", "(I)I"⟩
abbrev cX0_xOfLead : ByteArray := prog_2_method_8_code
def yX0_xOfLead : MethodName := ⟨RX0, "xOfLead", "(I)I"⟩
abbrev cX0_padAtLead : ByteArray := prog_2_method_9_code
def yX0_padAtLead : MethodName := ⟨RX0, "padAtLead", "(I)I"⟩
abbrev cX0_endX : ByteArray := prog_2_method_10_code
def yX0_endX : MethodName := ⟨RX0, "endX", "(I)I"⟩
abbrev cX0_changeHeight : ByteArray := prog_2_method_11_code
def yX0_changeHeight : MethodName := ⟨RX0, "changeHeight", "(II)V"⟩
abbrev cX0_placeLead : ByteArray := prog_2_method_12_code
def yX0_placeLead : MethodName := ⟨RX0, "placeLead", "(II)V"⟩
abbrev cX0_errorOfLaying : ByteArray := prog_2_method_13_code
def yX0_errorOfLaying : MethodName := ⟨RX0, "errorOfLaying", "(II)I"⟩
abbrev cX0_addWire : ByteArray := prog_2_method_14_code
def yX0_addWire : MethodName := ⟨RX0, "addWire", "(III)V"⟩
abbrev cX0_addListed : ByteArray := prog_2_method_15_code
def yX0_addListed : MethodName := ⟨RX0, "addListed", "(LWireLoops$WireList;)I"⟩
abbrev cX0_newStrength : ByteArray := prog_2_method_16_code
def yX0_newStrength : MethodName := ⟨RX0, "newStrength", "(II)I"⟩
abbrev cX0_wearOfLaying : ByteArray := prog_2_method_17_code
def yX0_wearOfLaying : MethodName := ⟨RX0, "wearOfLaying", "(I)I"⟩
abbrev cX0_losesTail : ByteArray := prog_2_method_18_code
def yX0_losesTail : MethodName := ⟨RX0, "losesTail", "(I)Z"⟩
abbrev cX0_laysUntilStop : ByteArray := prog_2_method_19_code
def yX0_laysUntilStop : MethodName := ⟨RX0, "laysUntilStop", "(I)I"⟩
abbrev cX0_removeWire : ByteArray := prog_2_method_20_code
def yX0_removeWire : MethodName := ⟨RX0, "removeWire", "(I)V"⟩
abbrev cX0_breaksUnder : ByteArray := prog_2_method_21_code
def yX0_breaksUnder : MethodName := ⟨RX0, "breaksUnder", "(II)Z"⟩
abbrev cX0_breakingOfSample : ByteArray := prog_2_method_22_code
def yX0_breakingOfSample : MethodName := ⟨RX0, "breakingOfSample", "(II)I"⟩
abbrev cX0_cross : ByteArray := prog_2_method_23_code
def yX0_cross : MethodName := ⟨RX0, "cross", "(II)Z"⟩
abbrev cX0_crossingY : ByteArray := prog_2_method_24_code
def yX0_crossingY : MethodName := ⟨RX0, "crossingY", "(II)I"⟩
abbrev cX0_gap : ByteArray := prog_2_method_25_code
def yX0_gap : MethodName := ⟨RX0, "gap", "(III)I"⟩
abbrev cX0_isShort : ByteArray := prog_2_method_26_code
def yX0_isShort : MethodName := ⟨RX0, "isShort", "(III)Z"⟩
abbrev cX0_crossingsOf : ByteArray := prog_2_method_27_code
def yX0_crossingsOf : MethodName := ⟨RX0, "crossingsOf", "(I)I"⟩
abbrev cX0_shortOnes : ByteArray := prog_2_method_28_code
def yX0_shortOnes : MethodName := ⟨RX0, "shortOnes", "(II)I"⟩
abbrev cX0_leastGap : ByteArray := prog_2_method_29_code
def yX0_leastGap : MethodName := ⟨RX0, "leastGap", "(I)I"⟩
abbrev cX0_clearestHeight : ByteArray := prog_2_method_30_code
def yX0_clearestHeight : MethodName := ⟨RX0, "clearestHeight", "(I)I"⟩
abbrev cX0_wires : ByteArray := prog_2_method_31_code
def yX0_wires : MethodName := ⟨RX0, "wires", "()I"⟩
abbrev cX0_allCrossings : ByteArray := prog_2_method_32_code
def yX0_allCrossings : MethodName := ⟨RX0, "allCrossings", "()I"⟩
abbrev cX0_allShortOnes : ByteArray := prog_2_method_33_code
def yX0_allShortOnes : MethodName := ⟨RX0, "allShortOnes", "()I"⟩
abbrev cX0_allStrengths : ByteArray := prog_2_method_34_code
def yX0_allStrengths : MethodName := ⟨RX0, "allStrengths", "()I"⟩
abbrev cX0_weakestPad : ByteArray := prog_2_method_35_code
def yX0_weakestPad : MethodName := ⟨RX0, "weakestPad", "()I"⟩
def RX1 : String := "WireLoops$History"
def TX1 : u_T := fun k => match k with
  | 0 => ("WireLoops$History", "kept", "[LWireLoops$Chip;", true)
  | _ => ("WireLoops$History", "states", "I", false)
def tyX1 : Nat → FieldType := fun k => match k with
  | 0 => .array (.object "WireLoops$Chip")
  | _ => .int
abbrev wsX10 : List Cond := u_ws RX1 TX1 2
theorem nmX1 : ∀ a, a < 2 → ∀ b, b < 2 → a ≠ b → (TX1 a).2.1 ≠ (TX1 b).2.1 := by decide +kernel
theorem tyX1_ok : ∀ k, k < 2 → parseFieldDescriptor (TX1 k).2.2.1 = some (tyX1 k) := by decide +kernel
abbrev cX1_init : ByteArray := prog_3_method_1_code
def yX1_init : MethodName := ⟨RX1, "<init>", "()V"⟩
abbrev cX1_states : ByteArray := prog_3_method_2_code
def yX1_states : MethodName := ⟨RX1, "states", "()I"⟩
abbrev cX1_record : ByteArray := prog_3_method_3_code
def yX1_record : MethodName := ⟨RX1, "record", "(LWireLoops$Chip;)V"⟩
abbrev cX1_takeLatest : ByteArray := prog_3_method_4_code
def yX1_takeLatest : MethodName := ⟨RX1, "takeLatest", "(LWireLoops$Chip;)V"⟩
abbrev cX1_placeAt : ByteArray := prog_3_method_5_code
def yX1_placeAt : MethodName := ⟨RX1, "placeAt", "(I)LWireLoops$Chip;"⟩
abbrev cX1_dropOldest : ByteArray := prog_3_method_6_code
def yX1_dropOldest : MethodName := ⟨RX1, "dropOldest", "()V"⟩
def RX2 : String := "WireLoops$WireList"
def TX2 : u_T := fun k => match k with
  | 0 => ("WireLoops$WireList", "characters", "[C", true)
  | 1 => ("WireLoops$WireList", "length", "I", false)
  | 2 => ("WireLoops$WireList", "at", "I", false)
  | 3 => ("WireLoops$WireList", "pads", "[I", true)
  | 4 => ("WireLoops$WireList", "leads", "[I", true)
  | 5 => ("WireLoops$WireList", "heights", "[I", true)
  | _ => ("WireLoops$WireList", "listed", "I", false)
def tyX2 : Nat → FieldType := fun k => match k with
  | 0 => .array .char
  | 1 => .int
  | 2 => .int
  | 3 => .array .int
  | 4 => .array .int
  | 5 => .array .int
  | _ => .int
abbrev wsX20 : List Cond := u_ws RX2 TX2 7
theorem nmX2 : ∀ a, a < 7 → ∀ b, b < 7 → a ≠ b → (TX2 a).2.1 ≠ (TX2 b).2.1 := by decide +kernel
theorem tyX2_ok : ∀ k, k < 7 → parseFieldDescriptor (TX2 k).2.2.1 = some (tyX2 k) := by decide +kernel
abbrev cX2_init : ByteArray := prog_4_method_1_code
def yX2_init : MethodName := ⟨RX2, "<init>", "()V"⟩
abbrev cX2_length : ByteArray := prog_4_method_2_code
def yX2_length : MethodName := ⟨RX2, "length", "()I"⟩
abbrev cX2_append : ByteArray := prog_4_method_3_code
def yX2_append : MethodName := ⟨RX2, "append", "(C)Z"⟩
abbrev cX2_empty : ByteArray := prog_4_method_4_code
def yX2_empty : MethodName := ⟨RX2, "empty", "()V"⟩
abbrev cX2_listed : ByteArray := prog_4_method_5_code
def yX2_listed : MethodName := ⟨RX2, "listed", "()I"⟩
abbrev cX2_listedPad : ByteArray := prog_4_method_6_code
def yX2_listedPad : MethodName := ⟨RX2, "listedPad", "(I)I"⟩
abbrev cX2_listedLead : ByteArray := prog_4_method_7_code
def yX2_listedLead : MethodName := ⟨RX2, "listedLead", "(I)I"⟩
abbrev cX2_listedHeight : ByteArray := prog_4_method_8_code
def yX2_listedHeight : MethodName := ⟨RX2, "listedHeight", "(I)I"⟩
abbrev cX2_isListed : ByteArray := prog_4_method_9_code
def yX2_isListed : MethodName := ⟨RX2, "isListed", "(I)Z"⟩
abbrev cX2_read : ByteArray := prog_4_method_10_code
def yX2_read : MethodName := ⟨RX2, "read", "()I"⟩
abbrev cX2_readWire : ByteArray := prog_4_method_11_code
def yX2_readWire : MethodName := ⟨RX2, "readWire", "()Z"⟩
abbrev cX2_readNumber : ByteArray := prog_4_method_12_code
def yX2_readNumber : MethodName := ⟨RX2, "readNumber", "(I)I"⟩
abbrev cX2_readHeight : ByteArray := prog_4_method_13_code
def yX2_readHeight : MethodName := ⟨RX2, "readHeight", "()I"⟩
abbrev cX2_withDigit : ByteArray := prog_4_method_14_code
def yX2_withDigit : MethodName := ⟨RX2, "withDigit", "(II)I"⟩
abbrev cX2_digitHere : ByteArray := prog_4_method_15_code
def yX2_digitHere : MethodName := ⟨RX2, "digitHere", "()I"⟩
abbrev cX2_passBy : ByteArray := prog_4_method_16_code
def yX2_passBy : MethodName := ⟨RX2, "passBy", "(C)Z"⟩
abbrev cX2_isAtCharacter : ByteArray := prog_4_method_17_code
def yX2_isAtCharacter : MethodName := ⟨RX2, "isAtCharacter", "()Z"⟩
def RX3 : String := "WireLoops"
def TX3 : u_T := fun k => match k with
  | 0 => ("WireLoops", "chip", "LWireLoops$Chip;", true)
  | 1 => ("WireLoops", "beforeList", "LWireLoops$Chip;", true)
  | 2 => ("WireLoops", "snapshot", "LWireLoops$Chip;", true)
  | 3 => ("WireLoops", "hasSnapshot", "Z", false)
  | 4 => ("WireLoops", "history", "LWireLoops$History;", true)
  | _ => ("WireLoops", "text", "LWireLoops$WireList;", true)
def tyX3 : Nat → FieldType := fun k => match k with
  | 0 => .object "WireLoops$Chip"
  | 1 => .object "WireLoops$Chip"
  | 2 => .object "WireLoops$Chip"
  | 3 => .boolean
  | 4 => .object "WireLoops$History"
  | _ => .object "WireLoops$WireList"
abbrev wsX30 : List Cond := u_ws RX3 TX3 6
theorem nmX3 : ∀ a, a < 6 → ∀ b, b < 6 → a ≠ b → (TX3 a).2.1 ≠ (TX3 b).2.1 := by decide +kernel
theorem tyX3_ok : ∀ k, k < 6 → parseFieldDescriptor (TX3 k).2.2.1 = some (tyX3 k) := by decide +kernel
abbrev cX3_init : ByteArray := prog_1_method_1_code
def yX3_init : MethodName := ⟨RX3, "<init>", "()V"⟩
abbrev cX3_lay : ByteArray := prog_1_method_2_code
def yX3_lay : MethodName := ⟨RX3, "lay", "(III)I"⟩
abbrev cX3_layAll : ByteArray := prog_1_method_3_code
def yX3_layAll : MethodName := ⟨RX3, "layAll", "()I"⟩
abbrev cX3_takeOff : ByteArray := prog_1_method_4_code
def yX3_takeOff : MethodName := ⟨RX3, "takeOff", "(I)I"⟩
abbrev cX3_bend : ByteArray := prog_1_method_5_code
def yX3_bend : MethodName := ⟨RX3, "bend", "(II)I"⟩
abbrev cX3_moveLead : ByteArray := prog_1_method_6_code
def yX3_moveLead : MethodName := ⟨RX3, "moveLead", "(II)I"⟩
abbrev cX3_setWidth : ByteArray := prog_1_method_7_code
def yX3_setWidth : MethodName := ⟨RX3, "setWidth", "(I)I"⟩
abbrev cX3_changeTool : ByteArray := prog_1_method_8_code
def yX3_changeTool : MethodName := ⟨RX3, "changeTool", "()I"⟩
abbrev cX3_thread : ByteArray := prog_1_method_9_code
def yX3_thread : MethodName := ⟨RX3, "thread", "()I"⟩
abbrev cX3_pull : ByteArray := prog_1_method_10_code
def yX3_pull : MethodName := ⟨RX3, "pull", "(II)I"⟩
abbrev cX3_sample : ByteArray := prog_1_method_11_code
def yX3_sample : MethodName := ⟨RX3, "sample", "(II)I"⟩
abbrev cX3_type : ByteArray := prog_1_method_12_code
def yX3_type : MethodName := ⟨RX3, "type", "(C)I"⟩
abbrev cX3_clearText : ByteArray := prog_1_method_13_code
def yX3_clearText : MethodName := ⟨RX3, "clearText", "()I"⟩
abbrev cX3_undo : ByteArray := prog_1_method_14_code
def yX3_undo : MethodName := ⟨RX3, "undo", "()I"⟩
abbrev cX3_keep : ByteArray := prog_1_method_15_code
def yX3_keep : MethodName := ⟨RX3, "keep", "()I"⟩
abbrev cX3_restore : ByteArray := prog_1_method_16_code
def yX3_restore : MethodName := ⟨RX3, "restore", "()I"⟩
abbrev cX3_wire : ByteArray := prog_1_method_17_code
def yX3_wire : MethodName := ⟨RX3, "wire", "(II)I"⟩
abbrev cX3_heightAt : ByteArray := prog_1_method_18_code
def yX3_heightAt : MethodName := ⟨RX3, "heightAt", "(II)I"⟩
abbrev cX3_crossing : ByteArray := prog_1_method_19_code
def yX3_crossing : MethodName := ⟨RX3, "crossing", "(III)I"⟩
abbrev cX3_lead : ByteArray := prog_1_method_20_code
def yX3_lead : MethodName := ⟨RX3, "lead", "(II)I"⟩
abbrev cX3_bestHeight : ByteArray := prog_1_method_21_code
def yX3_bestHeight : MethodName := ⟨RX3, "bestHeight", "(II)I"⟩
abbrev cX3_laysLeft : ByteArray := prog_1_method_22_code
def yX3_laysLeft : MethodName := ⟨RX3, "laysLeft", "(I)I"⟩
abbrev cX3_count : ByteArray := prog_1_method_23_code
def yX3_count : MethodName := ⟨RX3, "count", "(I)I"⟩
abbrev cX3_isWithin : ByteArray := prog_1_method_24_code
def yX3_isWithin : MethodName := ⟨RX3, "isWithin", "(III)Z"⟩
abbrev cX3_isPad : ByteArray := prog_1_method_25_code
def yX3_isPad : MethodName := ⟨RX3, "isPad", "(I)Z"⟩
abbrev cX3_isLead : ByteArray := prog_1_method_26_code
def yX3_isLead : MethodName := ⟨RX3, "isLead", "(I)Z"⟩
abbrev cX3_isHeight : ByteArray := prog_1_method_27_code
def yX3_isHeight : MethodName := ⟨RX3, "isHeight", "(I)Z"⟩
abbrev cX3_padX : ByteArray := prog_1_method_28_code
def yX3_padX : MethodName := ⟨RX3, "padX", "(I)I"⟩
abbrev cX3_loopAt : ByteArray := prog_1_method_29_code
def yX3_loopAt : MethodName := ⟨RX3, "loopAt", "(II)I"⟩
def RX4 : String := "WireLoopsModel"
def TX4 : u_T := fun k => match k with
  | 0 => ("WireLoopsModel", "now", "[I", true)
  | 1 => ("WireLoopsModel", "then", "[I", true)
  | 2 => ("WireLoopsModel", "past", "[I", true)
  | 3 => ("WireLoopsModel", "states", "I", false)
  | 4 => ("WireLoopsModel", "snapshot", "[I", true)
  | 5 => ("WireLoopsModel", "isKept", "Z", false)
  | 6 => ("WireLoopsModel", "text", "[C", true)
  | 7 => ("WireLoopsModel", "length", "I", false)
  | 8 => ("WireLoopsModel", "spot", "I", false)
  | 9 => ("WireLoopsModel", "told", "[I", true)
  | _ => ("WireLoopsModel", "toldMany", "I", false)
def tyX4 : Nat → FieldType := fun k => match k with
  | 0 => .array .int
  | 1 => .array .int
  | 2 => .array .int
  | 3 => .int
  | 4 => .array .int
  | 5 => .boolean
  | 6 => .array .char
  | 7 => .int
  | 8 => .int
  | 9 => .array .int
  | _ => .int
abbrev wsX40 : List Cond := u_ws RX4 TX4 11
theorem nmX4 : ∀ a, a < 11 → ∀ b, b < 11 → a ≠ b → (TX4 a).2.1 ≠ (TX4 b).2.1 := by decide +kernel
theorem tyX4_ok : ∀ k, k < 11 → parseFieldDescriptor (TX4 k).2.2.1 = some (tyX4 k) := by decide +kernel
abbrev cX4_init : ByteArray := prog_6_method_1_code
def yX4_init : MethodName := ⟨RX4, "<init>", "()V"⟩
abbrev cX4_in : ByteArray := prog_6_method_3_code
def yX4_in : MethodName := ⟨RX4, "in", "(III)Z"⟩
abbrev cX4_lays : ByteArray := prog_6_method_4_code
def yX4_lays : MethodName := ⟨RX4, "lays", "([II[II)V"⟩
abbrev cX4_records : ByteArray := prog_6_method_5_code
def yX4_records : MethodName := ⟨RX4, "records", "()V"⟩
abbrev cX4_isPad : ByteArray := prog_6_method_6_code
def yX4_isPad : MethodName := ⟨RX4, "isPad", "(I)Z"⟩
abbrev cX4_isLead : ByteArray := prog_6_method_7_code
def yX4_isLead : MethodName := ⟨RX4, "isLead", "(I)Z"⟩
abbrev cX4_isHeight : ByteArray := prog_6_method_8_code
def yX4_isHeight : MethodName := ⟨RX4, "isHeight", "(I)Z"⟩
abbrev cX4_of : ByteArray := prog_6_method_9_code
def yX4_of : MethodName := ⟨RX4, "of", "([III)I"⟩
abbrev cX4_hasWire : ByteArray := prog_6_method_10_code
def yX4_hasWire : MethodName := ⟨RX4, "hasWire", "(I)Z"⟩
abbrev cX4_padOf : ByteArray := prog_6_method_11_code
def yX4_padOf : MethodName := ⟨RX4, "padOf", "([II)I"⟩
abbrev cX4_wires : ByteArray := prog_6_method_12_code
def yX4_wires : MethodName := ⟨RX4, "wires", "()I"⟩
abbrev cX4_padX : ByteArray := prog_6_method_13_code
def yX4_padX : MethodName := ⟨RX4, "padX", "(I)I"⟩
abbrev cX4_apart : ByteArray := prog_6_method_14_code
def yX4_apart : MethodName := ⟨RX4, "apart", "(II)I"⟩
abbrev cX4_mayLay : ByteArray := prog_6_method_15_code
def yX4_mayLay : MethodName := ⟨RX4, "mayLay", "([III)I"⟩
abbrev cX4_strengthFor : ByteArray := prog_6_method_16_code
def yX4_strengthFor : MethodName := ⟨RX4, "strengthFor", "([III)I"⟩
abbrev cX4_laid : ByteArray := prog_6_method_17_code
def yX4_laid : MethodName := ⟨RX4, "laid", "([IIII)I"⟩
abbrev cX4_goes : ByteArray := prog_6_method_18_code
def yX4_goes : MethodName := ⟨RX4, "goes", "(I)V"⟩
abbrev cX4_lay : ByteArray := prog_6_method_19_code
def yX4_lay : MethodName := ⟨RX4, "lay", "(III)I"⟩
abbrev cX4_layAll : ByteArray := prog_6_method_20_code
def yX4_layAll : MethodName := ⟨RX4, "layAll", "()I"⟩
abbrev cX4_takeOff : ByteArray := prog_6_method_21_code
def yX4_takeOff : MethodName := ⟨RX4, "takeOff", "(I)I"⟩
abbrev cX4_bend : ByteArray := prog_6_method_22_code
def yX4_bend : MethodName := ⟨RX4, "bend", "(II)I"⟩
abbrev cX4_becomes : ByteArray := prog_6_method_23_code
def yX4_becomes : MethodName := ⟨RX4, "becomes", "(II)I"⟩
abbrev cX4_moveLead : ByteArray := prog_6_method_24_code
def yX4_moveLead : MethodName := ⟨RX4, "moveLead", "(II)I"⟩
abbrev cX4_setWidth : ByteArray := prog_6_method_25_code
def yX4_setWidth : MethodName := ⟨RX4, "setWidth", "(I)I"⟩
abbrev cX4_changeTool : ByteArray := prog_6_method_26_code
def yX4_changeTool : MethodName := ⟨RX4, "changeTool", "()I"⟩
abbrev cX4_thread : ByteArray := prog_6_method_27_code
def yX4_thread : MethodName := ⟨RX4, "thread", "()I"⟩
abbrev cX4_pulls : ByteArray := prog_6_method_28_code
def yX4_pulls : MethodName := ⟨RX4, "pulls", "(II)I"⟩
abbrev cX4_pull : ByteArray := prog_6_method_29_code
def yX4_pull : MethodName := ⟨RX4, "pull", "(II)I"⟩
abbrev cX4_sample : ByteArray := prog_6_method_30_code
def yX4_sample : MethodName := ⟨RX4, "sample", "(II)I"⟩
abbrev cX4_heightOf : ByteArray := prog_6_method_31_code
def yX4_heightOf : MethodName := ⟨RX4, "heightOf", "(II)I"⟩
abbrev cX4_crossingY : ByteArray := prog_6_method_32_code
def yX4_crossingY : MethodName := ⟨RX4, "crossingY", "(II)I"⟩
abbrev cX4_gap : ByteArray := prog_6_method_33_code
def yX4_gap : MethodName := ⟨RX4, "gap", "(III)I"⟩
abbrev cX4_cross : ByteArray := prog_6_method_34_code
def yX4_cross : MethodName := ⟨RX4, "cross", "(II)Z"⟩
abbrev cX4_crossings : ByteArray := prog_6_method_35_code
def yX4_crossings : MethodName := ⟨RX4, "crossings", "(I)I"⟩
abbrev cX4_shortOnes : ByteArray := prog_6_method_36_code
def yX4_shortOnes : MethodName := ⟨RX4, "shortOnes", "(II)I"⟩
abbrev cX4_leastGap : ByteArray := prog_6_method_37_code
def yX4_leastGap : MethodName := ⟨RX4, "leastGap", "(I)I"⟩
abbrev cX4_type : ByteArray := prog_6_method_38_code
def yX4_type : MethodName := ⟨RX4, "type", "(C)I"⟩
abbrev cX4_clearText : ByteArray := prog_6_method_39_code
def yX4_clearText : MethodName := ⟨RX4, "clearText", "()I"⟩
abbrev cX4_sees : ByteArray := prog_6_method_40_code
def yX4_sees : MethodName := ⟨RX4, "sees", "(II)Z"⟩
abbrev cX4_takes : ByteArray := prog_6_method_41_code
def yX4_takes : MethodName := ⟨RX4, "takes", "(I)Z"⟩
abbrev cX4_isNumber : ByteArray := prog_6_method_42_code
def yX4_isNumber : MethodName := ⟨RX4, "isNumber", "(III)Z"⟩
abbrev cX4_isWire : ByteArray := prog_6_method_43_code
def yX4_isWire : MethodName := ⟨RX4, "isWire", "()Z"⟩
abbrev cX4_fault : ByteArray := prog_6_method_44_code
def yX4_fault : MethodName := ⟨RX4, "fault", "()I"⟩
abbrev cX4_undo : ByteArray := prog_6_method_45_code
def yX4_undo : MethodName := ⟨RX4, "undo", "()I"⟩
abbrev cX4_keep : ByteArray := prog_6_method_46_code
def yX4_keep : MethodName := ⟨RX4, "keep", "()I"⟩
abbrev cX4_restore : ByteArray := prog_6_method_47_code
def yX4_restore : MethodName := ⟨RX4, "restore", "()I"⟩
abbrev cX4_wire : ByteArray := prog_6_method_48_code
def yX4_wire : MethodName := ⟨RX4, "wire", "(II)I"⟩
abbrev cX4_heightAt : ByteArray := prog_6_method_49_code
def yX4_heightAt : MethodName := ⟨RX4, "heightAt", "(II)I"⟩
abbrev cX4_crossing : ByteArray := prog_6_method_50_code
def yX4_crossing : MethodName := ⟨RX4, "crossing", "(III)I"⟩
abbrev cX4_lead : ByteArray := prog_6_method_51_code
def yX4_lead : MethodName := ⟨RX4, "lead", "(II)I"⟩
abbrev cX4_bestHeight : ByteArray := prog_6_method_52_code
def yX4_bestHeight : MethodName := ⟨RX4, "bestHeight", "(II)I"⟩
abbrev cX4_laysLeft : ByteArray := prog_6_method_53_code
def yX4_laysLeft : MethodName := ⟨RX4, "laysLeft", "(I)I"⟩
abbrev cX4_all : ByteArray := prog_6_method_54_code
def yX4_all : MethodName := ⟨RX4, "all", "(Z)I"⟩
abbrev cX4_weakest : ByteArray := prog_6_method_55_code
def yX4_weakest : MethodName := ⟨RX4, "weakest", "()I"⟩
abbrev cX4_strengths : ByteArray := prog_6_method_56_code
def yX4_strengths : MethodName := ⟨RX4, "strengths", "()I"⟩
abbrev cX4_count : ByteArray := prog_6_method_57_code
def yX4_count : MethodName := ⟨RX4, "count", "(I)I"⟩
def RJ9 : String := "java/lang/Math"
def TJ9 : u_T := fun k => match k with
  | _ => ("", "", "", false)
def tyJ9 : Nat → FieldType := fun k => match k with
  | _ => .int
abbrev wsJ90 : List Cond := u_ws RJ9 TJ9 0
theorem nmJ9 : ∀ a, a < 0 → ∀ b, b < 0 → a ≠ b → (TJ9 a).2.1 ≠ (TJ9 b).2.1 := by decide +kernel
theorem tyJ9_ok : ∀ k, k < 0 → parseFieldDescriptor (TJ9 k).2.2.1 = some (tyJ9 k) := by decide +kernel
abbrev cJ9_abs_0f7a4 : ByteArray := prog_7_method_59_code
def yJ9_abs_0f7a4 : MethodName := ⟨RJ9, "abs", "(I)I"⟩
abbrev cJ9_max_7cf53 : ByteArray := prog_7_method_65_code
def yJ9_max_7cf53 : MethodName := ⟨RJ9, "max", "(II)I"⟩
abbrev cJ9_min_7cf53 : ByteArray := prog_7_method_69_code
def yJ9_min_7cf53 : MethodName := ⟨RJ9, "min", "(II)I"⟩
def RJ10 : String := "java/lang/System"
def TJ10 : u_T := fun k => match k with
  | _ => ("", "", "", false)
def tyJ10 : Nat → FieldType := fun k => match k with
  | _ => .int
abbrev wsJ100 : List Cond := u_ws RJ10 TJ10 0
theorem nmJ10 : ∀ a, a < 0 → ∀ b, b < 0 → a ≠ b → (TJ10 a).2.1 ≠ (TJ10 b).2.1 := by decide +kernel
theorem tyJ10_ok : ∀ k, k < 0 → parseFieldDescriptor (TJ10 k).2.2.1 = some (tyJ10 k) := by decide +kernel
def RJ7 : String := "java/util/Arrays"
def TJ7 : u_T := fun k => match k with
  | _ => ("", "", "", false)
def tyJ7 : Nat → FieldType := fun k => match k with
  | _ => .int
abbrev wsJ70 : List Cond := u_ws RJ7 TJ7 0
theorem nmJ7 : ∀ a, a < 0 → ∀ b, b < 0 → a ≠ b → (TJ7 a).2.1 ≠ (TJ7 b).2.1 := by decide +kernel
theorem tyJ7_ok : ∀ k, k < 0 → parseFieldDescriptor (TJ7 k).2.2.1 = some (tyJ7 k) := by decide +kernel
abbrev cJ7_fill_53178 : ByteArray := prog_9_method_103_code
def yJ7_fill_53178 : MethodName := ⟨RJ7, "fill", "([II)V"⟩
def RL : String := "WireLoopsLaw"
abbrev cL_law : ByteArray := code
def yL_law : MethodName := ⟨RL, "law", "([I)Z"⟩
def wsJ7_fill_53178 : List Cond := .code yJ7_fill_53178 cJ7_fill_53178 4 none :: ([])
def wsX0_init : List Cond := .code yX0_init cX0_init 2 none :: ([.methodLink RX0 3 objectInit, .instanceMethod objectInit, .code objectInit ⟨#[0xb1]⟩ 1 none, .arrayClass .int, .fieldLink RX0 9 "WireLoops$Chip" "leadX" "[I", .fieldLink RX0 15 "WireLoops$Chip" "leadOf" "[I", .fieldLink RX0 18 "WireLoops$Chip" "height" "[I", .fieldLink RX0 21 "WireLoops$Chip" "strength" "[I", .fieldLink RX0 24 "WireLoops$Chip" "number" "[I", .fieldLink RX0 33 "WireLoops$Chip" "width" "I", .methodLink RX0 27 yJ7_fill_53178, .static yJ7_fill_53178, .initialized RJ7, .code yJ7_fill_53178 cJ7_fill_53178 4 none] ++ wsX00)
def wsX0_copyFrom : List Cond := .code yX0_copyFrom cX0_copyFrom 2 none :: ([.fieldLink RX0 9 "WireLoops$Chip" "leadX" "[I", .methodLink RX0 37 arraycopyName, .native arraycopyName, .static arraycopyName, .initialized "java/lang/System", .fieldLink RX0 15 "WireLoops$Chip" "leadOf" "[I", .fieldLink RX0 18 "WireLoops$Chip" "height" "[I", .fieldLink RX0 21 "WireLoops$Chip" "strength" "[I", .fieldLink RX0 24 "WireLoops$Chip" "number" "[I", .fieldLink RX0 43 "WireLoops$Chip" "laid" "I", .fieldLink RX0 33 "WireLoops$Chip" "width" "I", .fieldLink RX0 46 "WireLoops$Chip" "wear" "I", .fieldLink RX0 49 "WireLoops$Chip" "toolsChanged" "I", .fieldLink RX0 52 "WireLoops$Chip" "tailLost" "Z", .fieldLink RX0 56 "WireLoops$Chip" "tailsLost" "I", .fieldLink RX0 59 "WireLoops$Chip" "broken" "I"] ++ wsX00)
def wsX3_isPad : List Cond := .code yX3_isPad cX3_isPad 1 (some .boolean) :: ([])
def wsX0_hasWire : List Cond := .code yX0_hasWire cX0_hasWire 2 (some .boolean) :: ([.fieldLink RX0 15 "WireLoops$Chip" "leadOf" "[I", .static yX3_isPad, .initialized RX3, .code yX3_isPad cX3_isPad 1 (some .boolean)] ++ wsX00)
def wsX0_leadAtPad : List Cond := .code yX0_leadAtPad cX0_leadAtPad 2 (some .int) :: ([.fieldLink RX0 15 "WireLoops$Chip" "leadOf" "[I", .static yX3_isPad, .initialized RX3, .code yX3_isPad cX3_isPad 1 (some .boolean)] ++ wsX00)
def wsX0_heightOf : List Cond := .code yX0_heightOf cX0_heightOf 2 (some .int) :: ([.fieldLink RX0 18 "WireLoops$Chip" "height" "[I", .static yX3_isPad, .initialized RX3, .code yX3_isPad cX3_isPad 1 (some .boolean)] ++ wsX00)
def wsX0_strengthOf : List Cond := .code yX0_strengthOf cX0_strengthOf 2 (some .int) :: ([.fieldLink RX0 21 "WireLoops$Chip" "strength" "[I", .static yX3_isPad, .initialized RX3, .code yX3_isPad cX3_isPad 1 (some .boolean)] ++ wsX00)
def wsX0_numberOf : List Cond := .code yX0_numberOf cX0_numberOf 2 (some .int) :: ([.fieldLink RX0 24 "WireLoops$Chip" "number" "[I", .static yX3_isPad, .initialized RX3, .code yX3_isPad cX3_isPad 1 (some .boolean)] ++ wsX00)
def wsX3_isLead : List Cond := .code yX3_isLead cX3_isLead 1 (some .boolean) :: ([])
def wsX0_xOfLead : List Cond := .code yX0_xOfLead cX0_xOfLead 2 (some .int) :: ([.fieldLink RX0 9 "WireLoops$Chip" "leadX" "[I", .static yX3_isLead, .initialized RX3, .code yX3_isLead cX3_isLead 1 (some .boolean)] ++ wsX00)
def wsX0_padAtLead : List Cond := .code yX0_padAtLead cX0_padAtLead 3 (some .int) :: ([.fieldLink RX0 15 "WireLoops$Chip" "leadOf" "[I", .methodLink RX0 69 yX0_hasWire, .instanceMethod yX0_hasWire, .selects RX0 yX0_hasWire yX0_hasWire, .initialized RX0, .code yX0_hasWire cX0_hasWire 2 (some .boolean), .static yX3_isPad, .initialized RX3, .code yX3_isPad cX3_isPad 1 (some .boolean)] ++ wsX00)
def wsX0_endX : List Cond := .code yX0_endX cX0_endX 3 (some .int) :: ([.fieldLink RX0 15 "WireLoops$Chip" "leadOf" "[I", .fieldLink RX0 9 "WireLoops$Chip" "leadX" "[I"] ++ wsX00)
def wsX0_changeHeight : List Cond := .code yX0_changeHeight cX0_changeHeight 3 none :: ([.fieldLink RX0 18 "WireLoops$Chip" "height" "[I", .static yX3_isPad, .initialized RX3, .code yX3_isPad cX3_isPad 1 (some .boolean)] ++ wsX00)
def wsX0_placeLead : List Cond := .code yX0_placeLead cX0_placeLead 3 none :: ([.fieldLink RX0 9 "WireLoops$Chip" "leadX" "[I", .static yX3_isLead, .initialized RX3, .code yX3_isLead cX3_isLead 1 (some .boolean)] ++ wsX00)
def wsX0_errorOfLaying : List Cond := .code yX0_errorOfLaying cX0_errorOfLaying 3 (some .int) :: ([.fieldLink RX0 52 "WireLoops$Chip" "tailLost" "Z", .fieldLink RX0 46 "WireLoops$Chip" "wear" "I", .methodLink RX0 69 yX0_hasWire, .instanceMethod yX0_hasWire, .selects RX0 yX0_hasWire yX0_hasWire, .initialized RX0, .code yX0_hasWire cX0_hasWire 2 (some .boolean), .fieldLink RX0 15 "WireLoops$Chip" "leadOf" "[I", .static yX3_isPad, .initialized RX3, .code yX3_isPad cX3_isPad 1 (some .boolean), .methodLink RX0 72 yX0_padAtLead, .instanceMethod yX0_padAtLead, .selects RX0 yX0_padAtLead yX0_padAtLead, .code yX0_padAtLead cX0_padAtLead 3 (some .int)] ++ wsX00)
def wsX3_padX : List Cond := .code yX3_padX cX3_padX 1 (some .int) :: ([])
def wsX0_newStrength : List Cond := .code yX0_newStrength cX0_newStrength 5 (some .int) :: ([.fieldLink RX0 46 "WireLoops$Chip" "wear" "I", .methodLink RX0 108 Lib.Math.max.name, .static Lib.Math.max.name, .initialized "java/lang/Math", .code Lib.Math.max.name Lib.Math.max.code 2 (some .int), .methodLink RX0 119 Lib.Math.abs.name, .static Lib.Math.abs.name, .code Lib.Math.abs.name Lib.Math.abs.code 1 (some .int), .static yX3_padX, .initialized RX3, .code yX3_padX cX3_padX 1 (some .int), .methodLink RX0 116 yX0_xOfLead, .instanceMethod yX0_xOfLead, .selects RX0 yX0_xOfLead yX0_xOfLead, .initialized RX0, .code yX0_xOfLead cX0_xOfLead 2 (some .int), .fieldLink RX0 9 "WireLoops$Chip" "leadX" "[I", .static yX3_isLead, .code yX3_isLead cX3_isLead 1 (some .boolean)] ++ wsX00)
def wsX0_wearOfLaying : List Cond := .code yX0_wearOfLaying cX0_wearOfLaying 1 (some .int) :: ([])
def wsX0_losesTail : List Cond := .code yX0_losesTail cX0_losesTail 1 (some .boolean) :: ([])
def wsX0_addWire_r1 : List Cond := [Cond.fieldLink RX0 15 "WireLoops$Chip" "leadOf" "[I", Cond.fieldLink RX0 18 "WireLoops$Chip" "height" "[I", Cond.fieldLink RX0 21 "WireLoops$Chip" "strength" "[I", Cond.fieldLink RX0 24 "WireLoops$Chip" "number" "[I", Cond.fieldLink RX0 43 "WireLoops$Chip" "laid" "I", Cond.fieldLink RX0 46 "WireLoops$Chip" "wear" "I", Cond.fieldLink RX0 52 "WireLoops$Chip" "tailLost" "Z", Cond.fieldLink RX0 56 "WireLoops$Chip" "tailsLost" "I", Cond.static yX3_isPad, Cond.initialized RX3, Cond.code yX3_isPad cX3_isPad 1 (some .boolean), Cond.static yX3_isLead, Cond.code yX3_isLead cX3_isLead 1 (some .boolean), Cond.methodLink RX0 76 yX0_newStrength, Cond.instanceMethod yX0_newStrength, Cond.selects RX0 yX0_newStrength yX0_newStrength, Cond.initialized RX0, Cond.code yX0_newStrength cX0_newStrength 5 (some .int), Cond.methodLink RX0 108 Lib.Math.max.name, Cond.static Lib.Math.max.name, Cond.initialized "java/lang/Math", Cond.code Lib.Math.max.name Lib.Math.max.code 2 (some .int), Cond.methodLink RX0 119 Lib.Math.abs.name, Cond.static Lib.Math.abs.name]
def wsX0_addWire_r2 : List Cond := [Cond.code Lib.Math.abs.name Lib.Math.abs.code 1 (some .int), Cond.static yX3_padX, Cond.code yX3_padX cX3_padX 1 (some .int), Cond.methodLink RX0 116 yX0_xOfLead, Cond.instanceMethod yX0_xOfLead, Cond.selects RX0 yX0_xOfLead yX0_xOfLead, Cond.code yX0_xOfLead cX0_xOfLead 2 (some .int), Cond.fieldLink RX0 9 "WireLoops$Chip" "leadX" "[I", Cond.methodLink RX0 80 yX0_wearOfLaying, Cond.static yX0_wearOfLaying, Cond.code yX0_wearOfLaying cX0_wearOfLaying 1 (some .int), Cond.methodLink RX0 83 yX0_losesTail, Cond.static yX0_losesTail, Cond.code yX0_losesTail cX0_losesTail 1 (some .boolean)]
def wsX0_addWire : List Cond := .code yX0_addWire cX0_addWire 4 none :: ((wsX0_addWire_r1 ++ wsX0_addWire_r2) ++ wsX00)
def wsX2_listed : List Cond := .code yX2_listed cX2_listed 1 (some .int) :: ([.fieldLink RX2 29 "WireLoops$WireList" "listed" "I"] ++ wsX20)
def wsX3_isWithin : List Cond := .code yX3_isWithin cX3_isWithin 3 (some .boolean) :: ([])
def wsX2_isListed : List Cond := .code yX2_isListed cX2_isListed 2 (some .boolean) :: ([.fieldLink RX2 29 "WireLoops$WireList" "listed" "I", .static yX3_isWithin, .initialized RX3, .code yX3_isWithin cX3_isWithin 3 (some .boolean)] ++ wsX20)
def wsX2_listedPad : List Cond := .code yX2_listedPad cX2_listedPad 2 (some .int) :: ([.fieldLink RX2 15 "WireLoops$WireList" "pads" "[I", .methodLink RX2 32 yX2_isListed, .instanceMethod yX2_isListed, .selects RX2 yX2_isListed yX2_isListed, .initialized RX2, .code yX2_isListed cX2_isListed 2 (some .boolean), .fieldLink RX2 29 "WireLoops$WireList" "listed" "I", .static yX3_isWithin, .initialized RX3, .code yX3_isWithin cX3_isWithin 3 (some .boolean)] ++ wsX20)
def wsX2_listedLead : List Cond := .code yX2_listedLead cX2_listedLead 2 (some .int) :: ([.fieldLink RX2 19 "WireLoops$WireList" "leads" "[I", .methodLink RX2 32 yX2_isListed, .instanceMethod yX2_isListed, .selects RX2 yX2_isListed yX2_isListed, .initialized RX2, .code yX2_isListed cX2_isListed 2 (some .boolean), .fieldLink RX2 29 "WireLoops$WireList" "listed" "I", .static yX3_isWithin, .initialized RX3, .code yX3_isWithin cX3_isWithin 3 (some .boolean)] ++ wsX20)
def wsX2_listedHeight : List Cond := .code yX2_listedHeight cX2_listedHeight 2 (some .int) :: ([.fieldLink RX2 22 "WireLoops$WireList" "heights" "[I", .methodLink RX2 32 yX2_isListed, .instanceMethod yX2_isListed, .selects RX2 yX2_isListed yX2_isListed, .initialized RX2, .code yX2_isListed cX2_isListed 2 (some .boolean), .fieldLink RX2 29 "WireLoops$WireList" "listed" "I", .static yX3_isWithin, .initialized RX3, .code yX3_isWithin cX3_isWithin 3 (some .boolean)] ++ wsX20)
def wsX0_addListed_r1 : List Cond := [Cond.methodLink RX0 86 yX2_listed, Cond.instanceMethod yX2_listed, Cond.selects RX2 yX2_listed yX2_listed, Cond.initialized RX2, Cond.code yX2_listed cX2_listed 1 (some .int), Cond.fieldLink RX2 29 "WireLoops$WireList" "listed" "I", Cond.methodLink RX0 92 yX2_listedPad, Cond.instanceMethod yX2_listedPad, Cond.selects RX2 yX2_listedPad yX2_listedPad, Cond.code yX2_listedPad cX2_listedPad 2 (some .int), Cond.fieldLink RX2 15 "WireLoops$WireList" "pads" "[I", Cond.methodLink RX2 32 yX2_isListed, Cond.instanceMethod yX2_isListed, Cond.selects RX2 yX2_isListed yX2_isListed, Cond.code yX2_isListed cX2_isListed 2 (some .boolean), Cond.static yX3_isWithin, Cond.initialized RX3, Cond.code yX3_isWithin cX3_isWithin 3 (some .boolean), Cond.methodLink RX0 95 yX2_listedLead, Cond.instanceMethod yX2_listedLead, Cond.selects RX2 yX2_listedLead yX2_listedLead, Cond.code yX2_listedLead cX2_listedLead 2 (some .int), Cond.fieldLink RX2 19 "WireLoops$WireList" "leads" "[I", Cond.methodLink RX0 98 yX0_errorOfLaying]
def wsX0_addListed_r2 : List Cond := [Cond.instanceMethod yX0_errorOfLaying, Cond.selects RX0 yX0_errorOfLaying yX0_errorOfLaying, Cond.initialized RX0, Cond.code yX0_errorOfLaying cX0_errorOfLaying 3 (some .int), Cond.fieldLink RX0 52 "WireLoops$Chip" "tailLost" "Z", Cond.fieldLink RX0 46 "WireLoops$Chip" "wear" "I", Cond.methodLink RX0 69 yX0_hasWire, Cond.instanceMethod yX0_hasWire, Cond.selects RX0 yX0_hasWire yX0_hasWire, Cond.code yX0_hasWire cX0_hasWire 2 (some .boolean), Cond.fieldLink RX0 15 "WireLoops$Chip" "leadOf" "[I", Cond.static yX3_isPad, Cond.code yX3_isPad cX3_isPad 1 (some .boolean), Cond.methodLink RX0 72 yX0_padAtLead, Cond.instanceMethod yX0_padAtLead, Cond.selects RX0 yX0_padAtLead yX0_padAtLead, Cond.code yX0_padAtLead cX0_padAtLead 3 (some .int), Cond.methodLink RX0 101 yX2_listedHeight, Cond.instanceMethod yX2_listedHeight, Cond.selects RX2 yX2_listedHeight yX2_listedHeight, Cond.code yX2_listedHeight cX2_listedHeight 2 (some .int), Cond.fieldLink RX2 22 "WireLoops$WireList" "heights" "[I", Cond.methodLink RX0 104 yX0_addWire, Cond.instanceMethod yX0_addWire]
def wsX0_addListed_r3 : List Cond := [Cond.selects RX0 yX0_addWire yX0_addWire, Cond.code yX0_addWire cX0_addWire 4 none, Cond.fieldLink RX0 18 "WireLoops$Chip" "height" "[I", Cond.fieldLink RX0 21 "WireLoops$Chip" "strength" "[I", Cond.fieldLink RX0 24 "WireLoops$Chip" "number" "[I", Cond.fieldLink RX0 43 "WireLoops$Chip" "laid" "I", Cond.fieldLink RX0 56 "WireLoops$Chip" "tailsLost" "I", Cond.static yX3_isLead, Cond.code yX3_isLead cX3_isLead 1 (some .boolean), Cond.methodLink RX0 76 yX0_newStrength, Cond.instanceMethod yX0_newStrength, Cond.selects RX0 yX0_newStrength yX0_newStrength, Cond.code yX0_newStrength cX0_newStrength 5 (some .int), Cond.methodLink RX0 108 Lib.Math.max.name, Cond.static Lib.Math.max.name, Cond.initialized "java/lang/Math", Cond.code Lib.Math.max.name Lib.Math.max.code 2 (some .int), Cond.methodLink RX0 119 Lib.Math.abs.name, Cond.static Lib.Math.abs.name, Cond.code Lib.Math.abs.name Lib.Math.abs.code 1 (some .int), Cond.static yX3_padX, Cond.code yX3_padX cX3_padX 1 (some .int), Cond.methodLink RX0 116 yX0_xOfLead, Cond.instanceMethod yX0_xOfLead]
def wsX0_addListed_r4 : List Cond := [Cond.selects RX0 yX0_xOfLead yX0_xOfLead, Cond.code yX0_xOfLead cX0_xOfLead 2 (some .int), Cond.fieldLink RX0 9 "WireLoops$Chip" "leadX" "[I", Cond.methodLink RX0 80 yX0_wearOfLaying, Cond.static yX0_wearOfLaying, Cond.code yX0_wearOfLaying cX0_wearOfLaying 1 (some .int), Cond.methodLink RX0 83 yX0_losesTail, Cond.static yX0_losesTail, Cond.code yX0_losesTail cX0_losesTail 1 (some .boolean)]
def wsX0_addListed : List Cond := .code yX0_addListed cX0_addListed 6 (some .int) :: ((wsX0_addListed_r1 ++ (wsX0_addListed_r2 ++ (wsX0_addListed_r3 ++ wsX0_addListed_r4))) ++ wsX20 ++ wsX00)
def wsX0_laysUntilStop : List Cond := .code yX0_laysUntilStop cX0_laysUntilStop 5 (some .int) :: ([.fieldLink RX0 46 "WireLoops$Chip" "wear" "I", .fieldLink RX0 52 "WireLoops$Chip" "tailLost" "Z", .fieldLink RX0 43 "WireLoops$Chip" "laid" "I", .methodLink RX0 80 yX0_wearOfLaying, .static yX0_wearOfLaying, .initialized RX0, .code yX0_wearOfLaying cX0_wearOfLaying 1 (some .int), .methodLink RX0 83 yX0_losesTail, .static yX0_losesTail, .code yX0_losesTail cX0_losesTail 1 (some .boolean)] ++ wsX00)
def wsX0_removeWire : List Cond := .code yX0_removeWire cX0_removeWire 2 none :: ([.fieldLink RX0 15 "WireLoops$Chip" "leadOf" "[I", .static yX3_isPad, .initialized RX3, .code yX3_isPad cX3_isPad 1 (some .boolean)] ++ wsX00)
def wsX0_breaksUnder : List Cond := .code yX0_breaksUnder cX0_breaksUnder 3 (some .boolean) :: ([.fieldLink RX0 21 "WireLoops$Chip" "strength" "[I", .fieldLink RX0 59 "WireLoops$Chip" "broken" "I", .methodLink RX0 108 Lib.Math.max.name, .static Lib.Math.max.name, .initialized "java/lang/Math", .code Lib.Math.max.name Lib.Math.max.code 2 (some .int), .methodLink RX0 69 yX0_hasWire, .instanceMethod yX0_hasWire, .selects RX0 yX0_hasWire yX0_hasWire, .initialized RX0, .code yX0_hasWire cX0_hasWire 2 (some .boolean), .fieldLink RX0 15 "WireLoops$Chip" "leadOf" "[I", .static yX3_isPad, .initialized RX3, .code yX3_isPad cX3_isPad 1 (some .boolean), .methodLink RX0 122 yX0_removeWire, .instanceMethod yX0_removeWire, .selects RX0 yX0_removeWire yX0_removeWire, .code yX0_removeWire cX0_removeWire 2 none] ++ wsX00)
def wsX0_breakingOfSample : List Cond := .code yX0_breakingOfSample cX0_breakingOfSample 6 (some .int) :: ([.methodLink RX0 69 yX0_hasWire, .instanceMethod yX0_hasWire, .selects RX0 yX0_hasWire yX0_hasWire, .initialized RX0, .code yX0_hasWire cX0_hasWire 2 (some .boolean), .fieldLink RX0 15 "WireLoops$Chip" "leadOf" "[I", .static yX3_isPad, .initialized RX3, .code yX3_isPad cX3_isPad 1 (some .boolean), .methodLink RX0 126 yX0_breaksUnder, .instanceMethod yX0_breaksUnder, .selects RX0 yX0_breaksUnder yX0_breaksUnder, .code yX0_breaksUnder cX0_breaksUnder 3 (some .boolean), .fieldLink RX0 21 "WireLoops$Chip" "strength" "[I", .fieldLink RX0 59 "WireLoops$Chip" "broken" "I", .methodLink RX0 108 Lib.Math.max.name, .static Lib.Math.max.name, .initialized "java/lang/Math", .code Lib.Math.max.name Lib.Math.max.code 2 (some .int), .methodLink RX0 122 yX0_removeWire, .instanceMethod yX0_removeWire, .selects RX0 yX0_removeWire yX0_removeWire, .code yX0_removeWire cX0_removeWire 2 none] ++ wsX00)
def wsX0_cross : List Cond := .code yX0_cross cX0_cross 3 (some .boolean) :: ([.methodLink RX0 69 yX0_hasWire, .instanceMethod yX0_hasWire, .selects RX0 yX0_hasWire yX0_hasWire, .initialized RX0, .code yX0_hasWire cX0_hasWire 2 (some .boolean), .fieldLink RX0 15 "WireLoops$Chip" "leadOf" "[I", .static yX3_isPad, .initialized RX3, .code yX3_isPad cX3_isPad 1 (some .boolean), .methodLink RX0 130 yX0_endX, .instanceMethod yX0_endX, .selects RX0 yX0_endX yX0_endX, .code yX0_endX cX0_endX 3 (some .int), .fieldLink RX0 9 "WireLoops$Chip" "leadX" "[I"] ++ wsX00)
def wsX0_crossingY : List Cond := .code yX0_crossingY cX0_crossingY 6 (some .int) :: ([.methodLink RX0 119 Lib.Math.abs.name, .static Lib.Math.abs.name, .initialized "java/lang/Math", .code Lib.Math.abs.name Lib.Math.abs.code 1 (some .int), .static yX3_padX, .initialized RX3, .code yX3_padX cX3_padX 1 (some .int), .methodLink RX0 130 yX0_endX, .instanceMethod yX0_endX, .selects RX0 yX0_endX yX0_endX, .initialized RX0, .code yX0_endX cX0_endX 3 (some .int), .fieldLink RX0 15 "WireLoops$Chip" "leadOf" "[I", .fieldLink RX0 9 "WireLoops$Chip" "leadX" "[I"] ++ wsX00)
def wsX3_loopAt : List Cond := .code yX3_loopAt cX3_loopAt 2 (some .int) :: ([.constant RX3 201 (40000)])
def wsX0_gap_r1 : List Cond := [Cond.methodLink RX0 119 Lib.Math.abs.name, Cond.static Lib.Math.abs.name, Cond.initialized "java/lang/Math", Cond.code Lib.Math.abs.name Lib.Math.abs.code 1 (some .int), Cond.methodLink RX0 133 yX0_crossingY, Cond.instanceMethod yX0_crossingY, Cond.selects RX0 yX0_crossingY yX0_crossingY, Cond.initialized RX0, Cond.code yX0_crossingY cX0_crossingY 6 (some .int), Cond.static yX3_padX, Cond.initialized RX3, Cond.code yX3_padX cX3_padX 1 (some .int), Cond.methodLink RX0 130 yX0_endX, Cond.instanceMethod yX0_endX, Cond.selects RX0 yX0_endX yX0_endX, Cond.code yX0_endX cX0_endX 3 (some .int), Cond.fieldLink RX0 15 "WireLoops$Chip" "leadOf" "[I", Cond.fieldLink RX0 9 "WireLoops$Chip" "leadX" "[I", Cond.static yX3_loopAt, Cond.code yX3_loopAt cX3_loopAt 2 (some .int), Cond.constant RX3 201 (40000), Cond.methodLink RX0 139 yX0_heightOf, Cond.instanceMethod yX0_heightOf, Cond.selects RX0 yX0_heightOf yX0_heightOf]
def wsX0_gap_r2 : List Cond := [Cond.code yX0_heightOf cX0_heightOf 2 (some .int), Cond.fieldLink RX0 18 "WireLoops$Chip" "height" "[I", Cond.static yX3_isPad, Cond.code yX3_isPad cX3_isPad 1 (some .boolean)]
def wsX0_gap : List Cond := .code yX0_gap cX0_gap 5 (some .int) :: ((wsX0_gap_r1 ++ wsX0_gap_r2) ++ wsX00)
def wsX0_isShort_r1 : List Cond := [Cond.fieldLink RX0 33 "WireLoops$Chip" "width" "I", Cond.methodLink RX0 142 yX0_cross, Cond.instanceMethod yX0_cross, Cond.selects RX0 yX0_cross yX0_cross, Cond.initialized RX0, Cond.code yX0_cross cX0_cross 3 (some .boolean), Cond.methodLink RX0 69 yX0_hasWire, Cond.instanceMethod yX0_hasWire, Cond.selects RX0 yX0_hasWire yX0_hasWire, Cond.code yX0_hasWire cX0_hasWire 2 (some .boolean), Cond.fieldLink RX0 15 "WireLoops$Chip" "leadOf" "[I", Cond.static yX3_isPad, Cond.initialized RX3, Cond.code yX3_isPad cX3_isPad 1 (some .boolean), Cond.methodLink RX0 130 yX0_endX, Cond.instanceMethod yX0_endX, Cond.selects RX0 yX0_endX yX0_endX, Cond.code yX0_endX cX0_endX 3 (some .int), Cond.fieldLink RX0 9 "WireLoops$Chip" "leadX" "[I", Cond.methodLink RX0 145 yX0_gap, Cond.instanceMethod yX0_gap, Cond.selects RX0 yX0_gap yX0_gap, Cond.code yX0_gap cX0_gap 5 (some .int), Cond.methodLink RX0 119 Lib.Math.abs.name]
def wsX0_isShort_r2 : List Cond := [Cond.static Lib.Math.abs.name, Cond.initialized "java/lang/Math", Cond.code Lib.Math.abs.name Lib.Math.abs.code 1 (some .int), Cond.methodLink RX0 133 yX0_crossingY, Cond.instanceMethod yX0_crossingY, Cond.selects RX0 yX0_crossingY yX0_crossingY, Cond.code yX0_crossingY cX0_crossingY 6 (some .int), Cond.static yX3_padX, Cond.code yX3_padX cX3_padX 1 (some .int), Cond.static yX3_loopAt, Cond.code yX3_loopAt cX3_loopAt 2 (some .int), Cond.constant RX3 201 (40000), Cond.methodLink RX0 139 yX0_heightOf, Cond.instanceMethod yX0_heightOf, Cond.selects RX0 yX0_heightOf yX0_heightOf, Cond.code yX0_heightOf cX0_heightOf 2 (some .int), Cond.fieldLink RX0 18 "WireLoops$Chip" "height" "[I"]
def wsX0_isShort : List Cond := .code yX0_isShort cX0_isShort 4 (some .boolean) :: ((wsX0_isShort_r1 ++ wsX0_isShort_r2) ++ wsX00)
def wsX0_crossingsOf : List Cond := .code yX0_crossingsOf cX0_crossingsOf 4 (some .int) :: ([.methodLink RX0 142 yX0_cross, .instanceMethod yX0_cross, .selects RX0 yX0_cross yX0_cross, .initialized RX0, .code yX0_cross cX0_cross 3 (some .boolean), .methodLink RX0 69 yX0_hasWire, .instanceMethod yX0_hasWire, .selects RX0 yX0_hasWire yX0_hasWire, .code yX0_hasWire cX0_hasWire 2 (some .boolean), .fieldLink RX0 15 "WireLoops$Chip" "leadOf" "[I", .static yX3_isPad, .initialized RX3, .code yX3_isPad cX3_isPad 1 (some .boolean), .methodLink RX0 130 yX0_endX, .instanceMethod yX0_endX, .selects RX0 yX0_endX yX0_endX, .code yX0_endX cX0_endX 3 (some .int), .fieldLink RX0 9 "WireLoops$Chip" "leadX" "[I"] ++ wsX00)
def wsX0_shortOnes_r1 : List Cond := [Cond.methodLink RX0 149 yX0_isShort, Cond.instanceMethod yX0_isShort, Cond.selects RX0 yX0_isShort yX0_isShort, Cond.initialized RX0, Cond.code yX0_isShort cX0_isShort 4 (some .boolean), Cond.fieldLink RX0 33 "WireLoops$Chip" "width" "I", Cond.methodLink RX0 142 yX0_cross, Cond.instanceMethod yX0_cross, Cond.selects RX0 yX0_cross yX0_cross, Cond.code yX0_cross cX0_cross 3 (some .boolean), Cond.methodLink RX0 69 yX0_hasWire, Cond.instanceMethod yX0_hasWire, Cond.selects RX0 yX0_hasWire yX0_hasWire, Cond.code yX0_hasWire cX0_hasWire 2 (some .boolean), Cond.fieldLink RX0 15 "WireLoops$Chip" "leadOf" "[I", Cond.static yX3_isPad, Cond.initialized RX3, Cond.code yX3_isPad cX3_isPad 1 (some .boolean), Cond.methodLink RX0 130 yX0_endX, Cond.instanceMethod yX0_endX, Cond.selects RX0 yX0_endX yX0_endX, Cond.code yX0_endX cX0_endX 3 (some .int), Cond.fieldLink RX0 9 "WireLoops$Chip" "leadX" "[I", Cond.methodLink RX0 145 yX0_gap]
def wsX0_shortOnes_r2 : List Cond := [Cond.instanceMethod yX0_gap, Cond.selects RX0 yX0_gap yX0_gap, Cond.code yX0_gap cX0_gap 5 (some .int), Cond.methodLink RX0 119 Lib.Math.abs.name, Cond.static Lib.Math.abs.name, Cond.initialized "java/lang/Math", Cond.code Lib.Math.abs.name Lib.Math.abs.code 1 (some .int), Cond.methodLink RX0 133 yX0_crossingY, Cond.instanceMethod yX0_crossingY, Cond.selects RX0 yX0_crossingY yX0_crossingY, Cond.code yX0_crossingY cX0_crossingY 6 (some .int), Cond.static yX3_padX, Cond.code yX3_padX cX3_padX 1 (some .int), Cond.static yX3_loopAt, Cond.code yX3_loopAt cX3_loopAt 2 (some .int), Cond.constant RX3 201 (40000), Cond.methodLink RX0 139 yX0_heightOf, Cond.instanceMethod yX0_heightOf, Cond.selects RX0 yX0_heightOf yX0_heightOf, Cond.code yX0_heightOf cX0_heightOf 2 (some .int), Cond.fieldLink RX0 18 "WireLoops$Chip" "height" "[I"]
def wsX0_shortOnes : List Cond := .code yX0_shortOnes cX0_shortOnes 5 (some .int) :: ((wsX0_shortOnes_r1 ++ wsX0_shortOnes_r2) ++ wsX00)
def wsX0_leastGap_r1 : List Cond := [Cond.methodLink RX0 153 Lib.Math.min.name, Cond.static Lib.Math.min.name, Cond.initialized "java/lang/Math", Cond.code Lib.Math.min.name Lib.Math.min.code 2 (some .int), Cond.methodLink RX0 142 yX0_cross, Cond.instanceMethod yX0_cross, Cond.selects RX0 yX0_cross yX0_cross, Cond.initialized RX0, Cond.code yX0_cross cX0_cross 3 (some .boolean), Cond.methodLink RX0 69 yX0_hasWire, Cond.instanceMethod yX0_hasWire, Cond.selects RX0 yX0_hasWire yX0_hasWire, Cond.code yX0_hasWire cX0_hasWire 2 (some .boolean), Cond.fieldLink RX0 15 "WireLoops$Chip" "leadOf" "[I", Cond.static yX3_isPad, Cond.initialized RX3, Cond.code yX3_isPad cX3_isPad 1 (some .boolean), Cond.methodLink RX0 130 yX0_endX, Cond.instanceMethod yX0_endX, Cond.selects RX0 yX0_endX yX0_endX, Cond.code yX0_endX cX0_endX 3 (some .int), Cond.fieldLink RX0 9 "WireLoops$Chip" "leadX" "[I", Cond.methodLink RX0 139 yX0_heightOf, Cond.instanceMethod yX0_heightOf]
def wsX0_leastGap_r2 : List Cond := [Cond.selects RX0 yX0_heightOf yX0_heightOf, Cond.code yX0_heightOf cX0_heightOf 2 (some .int), Cond.fieldLink RX0 18 "WireLoops$Chip" "height" "[I", Cond.methodLink RX0 145 yX0_gap, Cond.instanceMethod yX0_gap, Cond.selects RX0 yX0_gap yX0_gap, Cond.code yX0_gap cX0_gap 5 (some .int), Cond.methodLink RX0 119 Lib.Math.abs.name, Cond.static Lib.Math.abs.name, Cond.code Lib.Math.abs.name Lib.Math.abs.code 1 (some .int), Cond.methodLink RX0 133 yX0_crossingY, Cond.instanceMethod yX0_crossingY, Cond.selects RX0 yX0_crossingY yX0_crossingY, Cond.code yX0_crossingY cX0_crossingY 6 (some .int), Cond.static yX3_padX, Cond.code yX3_padX cX3_padX 1 (some .int), Cond.static yX3_loopAt, Cond.code yX3_loopAt cX3_loopAt 2 (some .int), Cond.constant RX3 201 (40000)]
def wsX0_leastGap : List Cond := .code yX0_leastGap cX0_leastGap 5 (some .int) :: ((wsX0_leastGap_r1 ++ wsX0_leastGap_r2) ++ wsX00)
def wsX0_clearestHeight_r1 : List Cond := [Cond.methodLink RX0 156 yX0_shortOnes, Cond.instanceMethod yX0_shortOnes, Cond.selects RX0 yX0_shortOnes yX0_shortOnes, Cond.initialized RX0, Cond.code yX0_shortOnes cX0_shortOnes 5 (some .int), Cond.methodLink RX0 149 yX0_isShort, Cond.instanceMethod yX0_isShort, Cond.selects RX0 yX0_isShort yX0_isShort, Cond.code yX0_isShort cX0_isShort 4 (some .boolean), Cond.fieldLink RX0 33 "WireLoops$Chip" "width" "I", Cond.methodLink RX0 142 yX0_cross, Cond.instanceMethod yX0_cross, Cond.selects RX0 yX0_cross yX0_cross, Cond.code yX0_cross cX0_cross 3 (some .boolean), Cond.methodLink RX0 69 yX0_hasWire, Cond.instanceMethod yX0_hasWire, Cond.selects RX0 yX0_hasWire yX0_hasWire, Cond.code yX0_hasWire cX0_hasWire 2 (some .boolean), Cond.fieldLink RX0 15 "WireLoops$Chip" "leadOf" "[I", Cond.static yX3_isPad, Cond.initialized RX3, Cond.code yX3_isPad cX3_isPad 1 (some .boolean), Cond.methodLink RX0 130 yX0_endX, Cond.instanceMethod yX0_endX]
def wsX0_clearestHeight_r2 : List Cond := [Cond.selects RX0 yX0_endX yX0_endX, Cond.code yX0_endX cX0_endX 3 (some .int), Cond.fieldLink RX0 9 "WireLoops$Chip" "leadX" "[I", Cond.methodLink RX0 145 yX0_gap, Cond.instanceMethod yX0_gap, Cond.selects RX0 yX0_gap yX0_gap, Cond.code yX0_gap cX0_gap 5 (some .int), Cond.methodLink RX0 119 Lib.Math.abs.name, Cond.static Lib.Math.abs.name, Cond.initialized "java/lang/Math", Cond.code Lib.Math.abs.name Lib.Math.abs.code 1 (some .int), Cond.methodLink RX0 133 yX0_crossingY, Cond.instanceMethod yX0_crossingY, Cond.selects RX0 yX0_crossingY yX0_crossingY, Cond.code yX0_crossingY cX0_crossingY 6 (some .int), Cond.static yX3_padX, Cond.code yX3_padX cX3_padX 1 (some .int), Cond.static yX3_loopAt, Cond.code yX3_loopAt cX3_loopAt 2 (some .int), Cond.constant RX3 201 (40000), Cond.methodLink RX0 139 yX0_heightOf, Cond.instanceMethod yX0_heightOf, Cond.selects RX0 yX0_heightOf yX0_heightOf, Cond.code yX0_heightOf cX0_heightOf 2 (some .int)]
def wsX0_clearestHeight_r3 : List Cond := [Cond.fieldLink RX0 18 "WireLoops$Chip" "height" "[I"]
def wsX0_clearestHeight : List Cond := .code yX0_clearestHeight cX0_clearestHeight 6 (some .int) :: ((wsX0_clearestHeight_r1 ++ (wsX0_clearestHeight_r2 ++ wsX0_clearestHeight_r3)) ++ wsX00)
def wsX0_wires : List Cond := .code yX0_wires cX0_wires 3 (some .int) :: ([.methodLink RX0 69 yX0_hasWire, .instanceMethod yX0_hasWire, .selects RX0 yX0_hasWire yX0_hasWire, .initialized RX0, .code yX0_hasWire cX0_hasWire 2 (some .boolean), .fieldLink RX0 15 "WireLoops$Chip" "leadOf" "[I", .static yX3_isPad, .initialized RX3, .code yX3_isPad cX3_isPad 1 (some .boolean)] ++ wsX00)
def wsX0_allCrossings : List Cond := .code yX0_allCrossings cX0_allCrossings 4 (some .int) :: ([.methodLink RX0 142 yX0_cross, .instanceMethod yX0_cross, .selects RX0 yX0_cross yX0_cross, .initialized RX0, .code yX0_cross cX0_cross 3 (some .boolean), .methodLink RX0 69 yX0_hasWire, .instanceMethod yX0_hasWire, .selects RX0 yX0_hasWire yX0_hasWire, .code yX0_hasWire cX0_hasWire 2 (some .boolean), .fieldLink RX0 15 "WireLoops$Chip" "leadOf" "[I", .static yX3_isPad, .initialized RX3, .code yX3_isPad cX3_isPad 1 (some .boolean), .methodLink RX0 130 yX0_endX, .instanceMethod yX0_endX, .selects RX0 yX0_endX yX0_endX, .code yX0_endX cX0_endX 3 (some .int), .fieldLink RX0 9 "WireLoops$Chip" "leadX" "[I"] ++ wsX00)
def wsX0_allShortOnes_r1 : List Cond := [Cond.methodLink RX0 139 yX0_heightOf, Cond.instanceMethod yX0_heightOf, Cond.selects RX0 yX0_heightOf yX0_heightOf, Cond.initialized RX0, Cond.code yX0_heightOf cX0_heightOf 2 (some .int), Cond.fieldLink RX0 18 "WireLoops$Chip" "height" "[I", Cond.static yX3_isPad, Cond.initialized RX3, Cond.code yX3_isPad cX3_isPad 1 (some .boolean), Cond.methodLink RX0 149 yX0_isShort, Cond.instanceMethod yX0_isShort, Cond.selects RX0 yX0_isShort yX0_isShort, Cond.code yX0_isShort cX0_isShort 4 (some .boolean), Cond.fieldLink RX0 33 "WireLoops$Chip" "width" "I", Cond.methodLink RX0 142 yX0_cross, Cond.instanceMethod yX0_cross, Cond.selects RX0 yX0_cross yX0_cross, Cond.code yX0_cross cX0_cross 3 (some .boolean), Cond.methodLink RX0 69 yX0_hasWire, Cond.instanceMethod yX0_hasWire, Cond.selects RX0 yX0_hasWire yX0_hasWire, Cond.code yX0_hasWire cX0_hasWire 2 (some .boolean), Cond.fieldLink RX0 15 "WireLoops$Chip" "leadOf" "[I", Cond.methodLink RX0 130 yX0_endX]
def wsX0_allShortOnes_r2 : List Cond := [Cond.instanceMethod yX0_endX, Cond.selects RX0 yX0_endX yX0_endX, Cond.code yX0_endX cX0_endX 3 (some .int), Cond.fieldLink RX0 9 "WireLoops$Chip" "leadX" "[I", Cond.methodLink RX0 145 yX0_gap, Cond.instanceMethod yX0_gap, Cond.selects RX0 yX0_gap yX0_gap, Cond.code yX0_gap cX0_gap 5 (some .int), Cond.methodLink RX0 119 Lib.Math.abs.name, Cond.static Lib.Math.abs.name, Cond.initialized "java/lang/Math", Cond.code Lib.Math.abs.name Lib.Math.abs.code 1 (some .int), Cond.methodLink RX0 133 yX0_crossingY, Cond.instanceMethod yX0_crossingY, Cond.selects RX0 yX0_crossingY yX0_crossingY, Cond.code yX0_crossingY cX0_crossingY 6 (some .int), Cond.static yX3_padX, Cond.code yX3_padX cX3_padX 1 (some .int), Cond.static yX3_loopAt, Cond.code yX3_loopAt cX3_loopAt 2 (some .int), Cond.constant RX3 201 (40000)]
def wsX0_allShortOnes : List Cond := .code yX0_allShortOnes cX0_allShortOnes 4 (some .int) :: ((wsX0_allShortOnes_r1 ++ wsX0_allShortOnes_r2) ++ wsX00)
def wsX0_allStrengths : List Cond := .code yX0_allStrengths cX0_allStrengths 3 (some .int) :: ([.fieldLink RX0 21 "WireLoops$Chip" "strength" "[I", .methodLink RX0 69 yX0_hasWire, .instanceMethod yX0_hasWire, .selects RX0 yX0_hasWire yX0_hasWire, .initialized RX0, .code yX0_hasWire cX0_hasWire 2 (some .boolean), .fieldLink RX0 15 "WireLoops$Chip" "leadOf" "[I", .static yX3_isPad, .initialized RX3, .code yX3_isPad cX3_isPad 1 (some .boolean)] ++ wsX00)
def wsX0_weakestPad : List Cond := .code yX0_weakestPad cX0_weakestPad 3 (some .int) :: ([.fieldLink RX0 21 "WireLoops$Chip" "strength" "[I", .methodLink RX0 69 yX0_hasWire, .instanceMethod yX0_hasWire, .selects RX0 yX0_hasWire yX0_hasWire, .initialized RX0, .code yX0_hasWire cX0_hasWire 2 (some .boolean), .fieldLink RX0 15 "WireLoops$Chip" "leadOf" "[I", .static yX3_isPad, .initialized RX3, .code yX3_isPad cX3_isPad 1 (some .boolean), .methodLink RX0 159 yX0_strengthOf, .instanceMethod yX0_strengthOf, .selects RX0 yX0_strengthOf yX0_strengthOf, .code yX0_strengthOf cX0_strengthOf 2 (some .int)] ++ wsX00)
def wsX1_init : List Cond := .code yX1_init cX1_init 2 none :: ([.methodLink RX1 3 objectInit, .instanceMethod objectInit, .code objectInit ⟨#[0xb1]⟩ 1 none, .classLink RX1 9 RX0, .fieldLink RX1 11 "WireLoops$History" "kept" "[LWireLoops$Chip;", .instantiable RX0 12, .initialized RX0, .fieldLink RX1 18 "WireLoops$History" "states" "I", .methodLink RX1 17 yX0_init, .instanceMethod yX0_init, .code yX0_init cX0_init 2 none, .methodLink RX0 3 objectInit, .arrayClass .int, .fieldLink RX0 9 "WireLoops$Chip" "leadX" "[I", .fieldLink RX0 15 "WireLoops$Chip" "leadOf" "[I", .fieldLink RX0 18 "WireLoops$Chip" "height" "[I", .fieldLink RX0 21 "WireLoops$Chip" "strength" "[I", .fieldLink RX0 24 "WireLoops$Chip" "number" "[I", .fieldLink RX0 33 "WireLoops$Chip" "width" "I", .methodLink RX0 27 yJ7_fill_53178, .static yJ7_fill_53178, .initialized RJ7, .code yJ7_fill_53178 cJ7_fill_53178 4 none] ++ wsX10 ++ wsX00)
def wsX1_states : List Cond := .code yX1_states cX1_states 1 (some .int) :: ([.fieldLink RX1 18 "WireLoops$History" "states" "I"] ++ wsX10)
def wsX1_dropOldest : List Cond := .code yX1_dropOldest cX1_dropOldest 3 none :: ([.fieldLink RX1 11 "WireLoops$History" "kept" "[LWireLoops$Chip;", .fieldLink RX1 18 "WireLoops$History" "states" "I"] ++ wsX10)
def wsX1_placeAt : List Cond := .code yX1_placeAt cX1_placeAt 2 (some (.object "WireLoops$Chip")) :: ([.fieldLink RX1 11 "WireLoops$History" "kept" "[LWireLoops$Chip;", .static yX3_isWithin, .initialized RX3, .code yX3_isWithin cX3_isWithin 3 (some .boolean)] ++ wsX10)
def wsX1_record_r1 : List Cond := [Cond.fieldLink RX1 18 "WireLoops$History" "states" "I", Cond.methodLink RX1 22 yX1_dropOldest, Cond.instanceMethod yX1_dropOldest, Cond.selects RX1 yX1_dropOldest yX1_dropOldest, Cond.initialized RX1, Cond.code yX1_dropOldest cX1_dropOldest 3 none, Cond.fieldLink RX1 11 "WireLoops$History" "kept" "[LWireLoops$Chip;", Cond.methodLink RX1 25 yX1_placeAt, Cond.instanceMethod yX1_placeAt, Cond.selects RX1 yX1_placeAt yX1_placeAt, Cond.code yX1_placeAt cX1_placeAt 2 (some (.object "WireLoops$Chip")), Cond.static yX3_isWithin, Cond.initialized RX3, Cond.code yX3_isWithin cX3_isWithin 3 (some .boolean), Cond.methodLink RX1 29 yX0_copyFrom, Cond.instanceMethod yX0_copyFrom, Cond.selects RX0 yX0_copyFrom yX0_copyFrom, Cond.initialized RX0, Cond.code yX0_copyFrom cX0_copyFrom 2 none, Cond.fieldLink RX0 9 "WireLoops$Chip" "leadX" "[I", Cond.methodLink RX0 37 arraycopyName, Cond.native arraycopyName, Cond.static arraycopyName, Cond.initialized "java/lang/System"]
def wsX1_record_r2 : List Cond := [Cond.fieldLink RX0 15 "WireLoops$Chip" "leadOf" "[I", Cond.fieldLink RX0 18 "WireLoops$Chip" "height" "[I", Cond.fieldLink RX0 21 "WireLoops$Chip" "strength" "[I", Cond.fieldLink RX0 24 "WireLoops$Chip" "number" "[I", Cond.fieldLink RX0 43 "WireLoops$Chip" "laid" "I", Cond.fieldLink RX0 33 "WireLoops$Chip" "width" "I", Cond.fieldLink RX0 46 "WireLoops$Chip" "wear" "I", Cond.fieldLink RX0 49 "WireLoops$Chip" "toolsChanged" "I", Cond.fieldLink RX0 52 "WireLoops$Chip" "tailLost" "Z", Cond.fieldLink RX0 56 "WireLoops$Chip" "tailsLost" "I", Cond.fieldLink RX0 59 "WireLoops$Chip" "broken" "I"]
def wsX1_record : List Cond := .code yX1_record cX1_record 3 none :: ((wsX1_record_r1 ++ wsX1_record_r2) ++ wsX10 ++ wsX00)
def wsX1_takeLatest_r1 : List Cond := [Cond.fieldLink RX1 18 "WireLoops$History" "states" "I", Cond.methodLink RX1 25 yX1_placeAt, Cond.instanceMethod yX1_placeAt, Cond.selects RX1 yX1_placeAt yX1_placeAt, Cond.initialized RX1, Cond.code yX1_placeAt cX1_placeAt 2 (some (.object "WireLoops$Chip")), Cond.fieldLink RX1 11 "WireLoops$History" "kept" "[LWireLoops$Chip;", Cond.static yX3_isWithin, Cond.initialized RX3, Cond.code yX3_isWithin cX3_isWithin 3 (some .boolean), Cond.methodLink RX1 29 yX0_copyFrom, Cond.instanceMethod yX0_copyFrom, Cond.selects RX0 yX0_copyFrom yX0_copyFrom, Cond.initialized RX0, Cond.code yX0_copyFrom cX0_copyFrom 2 none, Cond.fieldLink RX0 9 "WireLoops$Chip" "leadX" "[I", Cond.methodLink RX0 37 arraycopyName, Cond.native arraycopyName, Cond.static arraycopyName, Cond.initialized "java/lang/System", Cond.fieldLink RX0 15 "WireLoops$Chip" "leadOf" "[I", Cond.fieldLink RX0 18 "WireLoops$Chip" "height" "[I", Cond.fieldLink RX0 21 "WireLoops$Chip" "strength" "[I", Cond.fieldLink RX0 24 "WireLoops$Chip" "number" "[I"]
def wsX1_takeLatest_r2 : List Cond := [Cond.fieldLink RX0 43 "WireLoops$Chip" "laid" "I", Cond.fieldLink RX0 33 "WireLoops$Chip" "width" "I", Cond.fieldLink RX0 46 "WireLoops$Chip" "wear" "I", Cond.fieldLink RX0 49 "WireLoops$Chip" "toolsChanged" "I", Cond.fieldLink RX0 52 "WireLoops$Chip" "tailLost" "Z", Cond.fieldLink RX0 56 "WireLoops$Chip" "tailsLost" "I", Cond.fieldLink RX0 59 "WireLoops$Chip" "broken" "I"]
def wsX1_takeLatest : List Cond := .code yX1_takeLatest cX1_takeLatest 3 none :: ((wsX1_takeLatest_r1 ++ wsX1_takeLatest_r2) ++ wsX10 ++ wsX00)
def wsX2_init : List Cond := .code yX2_init cX2_init 1 none :: ([.methodLink RX2 3 objectInit, .instanceMethod objectInit, .code objectInit ⟨#[0xb1]⟩ 1 none, .arrayClass .char, .fieldLink RX2 9 "WireLoops$WireList" "characters" "[C", .arrayClass .int, .fieldLink RX2 15 "WireLoops$WireList" "pads" "[I", .fieldLink RX2 19 "WireLoops$WireList" "leads" "[I", .fieldLink RX2 22 "WireLoops$WireList" "heights" "[I"] ++ wsX20)
def wsX2_length : List Cond := .code yX2_length cX2_length 1 (some .int) :: ([.fieldLink RX2 25 "WireLoops$WireList" "length" "I"] ++ wsX20)
def wsX2_append : List Cond := .code yX2_append cX2_append 2 (some .boolean) :: ([.fieldLink RX2 25 "WireLoops$WireList" "length" "I", .fieldLink RX2 9 "WireLoops$WireList" "characters" "[C"] ++ wsX20)
def wsX2_empty : List Cond := .code yX2_empty cX2_empty 1 none :: ([.fieldLink RX2 25 "WireLoops$WireList" "length" "I"] ++ wsX20)
def wsX2_isAtCharacter : List Cond := .code yX2_isAtCharacter cX2_isAtCharacter 1 (some .boolean) :: ([.fieldLink RX2 40 "WireLoops$WireList" "at" "I", .fieldLink RX2 25 "WireLoops$WireList" "length" "I"] ++ wsX20)
def wsX2_digitHere : List Cond := .code yX2_digitHere cX2_digitHere 2 (some .int) :: ([.fieldLink RX2 9 "WireLoops$WireList" "characters" "[C", .fieldLink RX2 40 "WireLoops$WireList" "at" "I", .methodLink RX2 66 yX2_isAtCharacter, .instanceMethod yX2_isAtCharacter, .selects RX2 yX2_isAtCharacter yX2_isAtCharacter, .initialized RX2, .code yX2_isAtCharacter cX2_isAtCharacter 1 (some .boolean), .fieldLink RX2 25 "WireLoops$WireList" "length" "I", .static yX3_isWithin, .initialized RX3, .code yX3_isWithin cX3_isWithin 3 (some .boolean)] ++ wsX20)
def wsX2_withDigit : List Cond := .code yX2_withDigit cX2_withDigit 4 (some .int) :: ([.fieldLink RX2 40 "WireLoops$WireList" "at" "I", .methodLink RX2 59 yX2_digitHere, .instanceMethod yX2_digitHere, .selects RX2 yX2_digitHere yX2_digitHere, .initialized RX2, .code yX2_digitHere cX2_digitHere 2 (some .int), .fieldLink RX2 9 "WireLoops$WireList" "characters" "[C", .methodLink RX2 66 yX2_isAtCharacter, .instanceMethod yX2_isAtCharacter, .selects RX2 yX2_isAtCharacter yX2_isAtCharacter, .code yX2_isAtCharacter cX2_isAtCharacter 1 (some .boolean), .fieldLink RX2 25 "WireLoops$WireList" "length" "I", .static yX3_isWithin, .initialized RX3, .code yX3_isWithin cX3_isWithin 3 (some .boolean)] ++ wsX20)
def wsX2_readNumber : List Cond := .code yX2_readNumber cX2_readNumber 3 (some .int) :: ([.fieldLink RX2 40 "WireLoops$WireList" "at" "I", .methodLink RX2 59 yX2_digitHere, .instanceMethod yX2_digitHere, .selects RX2 yX2_digitHere yX2_digitHere, .initialized RX2, .code yX2_digitHere cX2_digitHere 2 (some .int), .fieldLink RX2 9 "WireLoops$WireList" "characters" "[C", .methodLink RX2 66 yX2_isAtCharacter, .instanceMethod yX2_isAtCharacter, .selects RX2 yX2_isAtCharacter yX2_isAtCharacter, .code yX2_isAtCharacter cX2_isAtCharacter 1 (some .boolean), .fieldLink RX2 25 "WireLoops$WireList" "length" "I", .static yX3_isWithin, .initialized RX3, .code yX3_isWithin cX3_isWithin 3 (some .boolean), .methodLink RX2 62 yX2_withDigit, .instanceMethod yX2_withDigit, .selects RX2 yX2_withDigit yX2_withDigit, .code yX2_withDigit cX2_withDigit 4 (some .int)] ++ wsX20)
def wsX2_passBy : List Cond := .code yX2_passBy cX2_passBy 2 (some .boolean) :: ([.fieldLink RX2 9 "WireLoops$WireList" "characters" "[C", .fieldLink RX2 40 "WireLoops$WireList" "at" "I", .methodLink RX2 66 yX2_isAtCharacter, .instanceMethod yX2_isAtCharacter, .selects RX2 yX2_isAtCharacter yX2_isAtCharacter, .initialized RX2, .code yX2_isAtCharacter cX2_isAtCharacter 1 (some .boolean), .fieldLink RX2 25 "WireLoops$WireList" "length" "I"] ++ wsX20)
def wsX2_readHeight : List Cond := .code yX2_readHeight cX2_readHeight 3 (some .int) :: ([.fieldLink RX2 40 "WireLoops$WireList" "at" "I", .methodLink RX2 59 yX2_digitHere, .instanceMethod yX2_digitHere, .selects RX2 yX2_digitHere yX2_digitHere, .initialized RX2, .code yX2_digitHere cX2_digitHere 2 (some .int), .fieldLink RX2 9 "WireLoops$WireList" "characters" "[C", .methodLink RX2 66 yX2_isAtCharacter, .instanceMethod yX2_isAtCharacter, .selects RX2 yX2_isAtCharacter yX2_isAtCharacter, .code yX2_isAtCharacter cX2_isAtCharacter 1 (some .boolean), .fieldLink RX2 25 "WireLoops$WireList" "length" "I", .static yX3_isWithin, .initialized RX3, .code yX3_isWithin cX3_isWithin 3 (some .boolean), .methodLink RX2 62 yX2_withDigit, .instanceMethod yX2_withDigit, .selects RX2 yX2_withDigit yX2_withDigit, .code yX2_withDigit cX2_withDigit 4 (some .int)] ++ wsX20)
def wsX2_readWire_r1 : List Cond := [Cond.fieldLink RX2 29 "WireLoops$WireList" "listed" "I", Cond.fieldLink RX2 15 "WireLoops$WireList" "pads" "[I", Cond.fieldLink RX2 19 "WireLoops$WireList" "leads" "[I", Cond.fieldLink RX2 22 "WireLoops$WireList" "heights" "[I", Cond.methodLink RX2 51 yX2_readNumber, Cond.instanceMethod yX2_readNumber, Cond.selects RX2 yX2_readNumber yX2_readNumber, Cond.initialized RX2, Cond.code yX2_readNumber cX2_readNumber 3 (some .int), Cond.fieldLink RX2 40 "WireLoops$WireList" "at" "I", Cond.methodLink RX2 59 yX2_digitHere, Cond.instanceMethod yX2_digitHere, Cond.selects RX2 yX2_digitHere yX2_digitHere, Cond.code yX2_digitHere cX2_digitHere 2 (some .int), Cond.fieldLink RX2 9 "WireLoops$WireList" "characters" "[C", Cond.methodLink RX2 66 yX2_isAtCharacter, Cond.instanceMethod yX2_isAtCharacter, Cond.selects RX2 yX2_isAtCharacter yX2_isAtCharacter, Cond.code yX2_isAtCharacter cX2_isAtCharacter 1 (some .boolean), Cond.fieldLink RX2 25 "WireLoops$WireList" "length" "I", Cond.static yX3_isWithin, Cond.initialized RX3, Cond.code yX3_isWithin cX3_isWithin 3 (some .boolean), Cond.methodLink RX2 62 yX2_withDigit]
def wsX2_readWire_r2 : List Cond := [Cond.instanceMethod yX2_withDigit, Cond.selects RX2 yX2_withDigit yX2_withDigit, Cond.code yX2_withDigit cX2_withDigit 4 (some .int), Cond.methodLink RX2 47 yX2_passBy, Cond.instanceMethod yX2_passBy, Cond.selects RX2 yX2_passBy yX2_passBy, Cond.code yX2_passBy cX2_passBy 2 (some .boolean), Cond.methodLink RX2 55 yX2_readHeight, Cond.instanceMethod yX2_readHeight, Cond.selects RX2 yX2_readHeight yX2_readHeight, Cond.code yX2_readHeight cX2_readHeight 3 (some .int)]
def wsX2_readWire : List Cond := .code yX2_readWire cX2_readWire 4 (some .boolean) :: ((wsX2_readWire_r1 ++ wsX2_readWire_r2) ++ wsX20)
def wsX2_read_r1 : List Cond := [Cond.fieldLink RX2 40 "WireLoops$WireList" "at" "I", Cond.fieldLink RX2 29 "WireLoops$WireList" "listed" "I", Cond.fieldLink RX2 25 "WireLoops$WireList" "length" "I", Cond.methodLink RX2 43 yX2_readWire, Cond.instanceMethod yX2_readWire, Cond.selects RX2 yX2_readWire yX2_readWire, Cond.initialized RX2, Cond.code yX2_readWire cX2_readWire 4 (some .boolean), Cond.fieldLink RX2 15 "WireLoops$WireList" "pads" "[I", Cond.fieldLink RX2 19 "WireLoops$WireList" "leads" "[I", Cond.fieldLink RX2 22 "WireLoops$WireList" "heights" "[I", Cond.methodLink RX2 51 yX2_readNumber, Cond.instanceMethod yX2_readNumber, Cond.selects RX2 yX2_readNumber yX2_readNumber, Cond.code yX2_readNumber cX2_readNumber 3 (some .int), Cond.methodLink RX2 59 yX2_digitHere, Cond.instanceMethod yX2_digitHere, Cond.selects RX2 yX2_digitHere yX2_digitHere, Cond.code yX2_digitHere cX2_digitHere 2 (some .int), Cond.fieldLink RX2 9 "WireLoops$WireList" "characters" "[C", Cond.methodLink RX2 66 yX2_isAtCharacter, Cond.instanceMethod yX2_isAtCharacter, Cond.selects RX2 yX2_isAtCharacter yX2_isAtCharacter, Cond.code yX2_isAtCharacter cX2_isAtCharacter 1 (some .boolean)]
def wsX2_read_r2 : List Cond := [Cond.static yX3_isWithin, Cond.initialized RX3, Cond.code yX3_isWithin cX3_isWithin 3 (some .boolean), Cond.methodLink RX2 62 yX2_withDigit, Cond.instanceMethod yX2_withDigit, Cond.selects RX2 yX2_withDigit yX2_withDigit, Cond.code yX2_withDigit cX2_withDigit 4 (some .int), Cond.methodLink RX2 47 yX2_passBy, Cond.instanceMethod yX2_passBy, Cond.selects RX2 yX2_passBy yX2_passBy, Cond.code yX2_passBy cX2_passBy 2 (some .boolean), Cond.methodLink RX2 55 yX2_readHeight, Cond.instanceMethod yX2_readHeight, Cond.selects RX2 yX2_readHeight yX2_readHeight, Cond.code yX2_readHeight cX2_readHeight 3 (some .int)]
def wsX2_read : List Cond := .code yX2_read cX2_read 2 (some .int) :: ((wsX2_read_r1 ++ wsX2_read_r2) ++ wsX20)
def wsX3_init_r1 : List Cond := [Cond.methodLink RX3 1 objectInit, Cond.instanceMethod objectInit, Cond.code objectInit ⟨#[0xb1]⟩ 1 none, Cond.classLink RX3 7 RX0, Cond.instantiable RX0 12, Cond.initialized RX0, Cond.fieldLink RX3 10 "WireLoops" "chip" "LWireLoops$Chip;", Cond.fieldLink RX3 16 "WireLoops" "beforeList" "LWireLoops$Chip;", Cond.fieldLink RX3 19 "WireLoops" "snapshot" "LWireLoops$Chip;", Cond.fieldLink RX3 22 "WireLoops" "hasSnapshot" "Z", Cond.classLink RX3 26 RX1, Cond.instantiable RX1 2, Cond.initialized RX1, Cond.fieldLink RX3 29 "WireLoops" "history" "LWireLoops$History;", Cond.classLink RX3 33 RX2, Cond.instantiable RX2 7, Cond.initialized RX2, Cond.fieldLink RX3 36 "WireLoops" "text" "LWireLoops$WireList;", Cond.methodLink RX3 9 yX0_init, Cond.instanceMethod yX0_init, Cond.code yX0_init cX0_init 2 none, Cond.methodLink RX0 3 objectInit, Cond.arrayClass .int, Cond.fieldLink RX0 9 "WireLoops$Chip" "leadX" "[I"]
def wsX3_init_r2 : List Cond := [Cond.fieldLink RX0 15 "WireLoops$Chip" "leadOf" "[I", Cond.fieldLink RX0 18 "WireLoops$Chip" "height" "[I", Cond.fieldLink RX0 21 "WireLoops$Chip" "strength" "[I", Cond.fieldLink RX0 24 "WireLoops$Chip" "number" "[I", Cond.fieldLink RX0 33 "WireLoops$Chip" "width" "I", Cond.methodLink RX0 27 yJ7_fill_53178, Cond.static yJ7_fill_53178, Cond.initialized RJ7, Cond.code yJ7_fill_53178 cJ7_fill_53178 4 none, Cond.methodLink RX3 28 yX1_init, Cond.instanceMethod yX1_init, Cond.code yX1_init cX1_init 2 none, Cond.methodLink RX1 3 objectInit, Cond.classLink RX1 9 RX0, Cond.fieldLink RX1 11 "WireLoops$History" "kept" "[LWireLoops$Chip;", Cond.fieldLink RX1 18 "WireLoops$History" "states" "I", Cond.methodLink RX1 17 yX0_init, Cond.instanceMethod yX2_init, Cond.code yX2_init cX2_init 1 none, Cond.methodLink RX2 3 objectInit, Cond.arrayClass .char, Cond.fieldLink RX2 9 "WireLoops$WireList" "characters" "[C", Cond.fieldLink RX2 15 "WireLoops$WireList" "pads" "[I", Cond.fieldLink RX2 19 "WireLoops$WireList" "leads" "[I"]
def wsX3_init_r3 : List Cond := [Cond.fieldLink RX2 22 "WireLoops$WireList" "heights" "[I"]
def wsX3_init : List Cond := .code yX3_init cX3_init 1 none :: ((wsX3_init_r1 ++ (wsX3_init_r2 ++ wsX3_init_r3)) ++ wsX00 ++ wsX30 ++ wsX10 ++ wsX20)
def wsX3_isHeight : List Cond := .code yX3_isHeight cX3_isHeight 1 (some .boolean) :: ([.methodLink RX3 94 yX3_isWithin, .static yX3_isWithin, .initialized RX3, .code yX3_isWithin cX3_isWithin 3 (some .boolean)])
def wsX3_lay_r1 : List Cond := [Cond.fieldLink RX3 10 "WireLoops" "chip" "LWireLoops$Chip;", Cond.fieldLink RX3 29 "WireLoops" "history" "LWireLoops$History;", Cond.methodLink RX3 40 yX3_isPad, Cond.static yX3_isPad, Cond.initialized RX3, Cond.code yX3_isPad cX3_isPad 1 (some .boolean), Cond.methodLink RX3 44 yX3_isLead, Cond.static yX3_isLead, Cond.code yX3_isLead cX3_isLead 1 (some .boolean), Cond.methodLink RX3 47 yX3_isHeight, Cond.static yX3_isHeight, Cond.code yX3_isHeight cX3_isHeight 1 (some .boolean), Cond.methodLink RX3 94 yX3_isWithin, Cond.static yX3_isWithin, Cond.code yX3_isWithin cX3_isWithin 3 (some .boolean), Cond.methodLink RX3 50 yX0_errorOfLaying, Cond.instanceMethod yX0_errorOfLaying, Cond.selects RX0 yX0_errorOfLaying yX0_errorOfLaying, Cond.initialized RX0, Cond.code yX0_errorOfLaying cX0_errorOfLaying 3 (some .int), Cond.fieldLink RX0 52 "WireLoops$Chip" "tailLost" "Z", Cond.fieldLink RX0 46 "WireLoops$Chip" "wear" "I", Cond.methodLink RX0 69 yX0_hasWire, Cond.instanceMethod yX0_hasWire]
def wsX3_lay_r2 : List Cond := [Cond.selects RX0 yX0_hasWire yX0_hasWire, Cond.code yX0_hasWire cX0_hasWire 2 (some .boolean), Cond.fieldLink RX0 15 "WireLoops$Chip" "leadOf" "[I", Cond.methodLink RX0 72 yX0_padAtLead, Cond.instanceMethod yX0_padAtLead, Cond.selects RX0 yX0_padAtLead yX0_padAtLead, Cond.code yX0_padAtLead cX0_padAtLead 3 (some .int), Cond.methodLink RX3 54 yX1_record, Cond.instanceMethod yX1_record, Cond.selects RX1 yX1_record yX1_record, Cond.initialized RX1, Cond.code yX1_record cX1_record 3 none, Cond.fieldLink RX1 18 "WireLoops$History" "states" "I", Cond.methodLink RX1 22 yX1_dropOldest, Cond.instanceMethod yX1_dropOldest, Cond.selects RX1 yX1_dropOldest yX1_dropOldest, Cond.code yX1_dropOldest cX1_dropOldest 3 none, Cond.fieldLink RX1 11 "WireLoops$History" "kept" "[LWireLoops$Chip;", Cond.methodLink RX1 25 yX1_placeAt, Cond.instanceMethod yX1_placeAt, Cond.selects RX1 yX1_placeAt yX1_placeAt, Cond.code yX1_placeAt cX1_placeAt 2 (some (.object "WireLoops$Chip")), Cond.methodLink RX1 29 yX0_copyFrom, Cond.instanceMethod yX0_copyFrom]
def wsX3_lay_r3 : List Cond := [Cond.selects RX0 yX0_copyFrom yX0_copyFrom, Cond.code yX0_copyFrom cX0_copyFrom 2 none, Cond.fieldLink RX0 9 "WireLoops$Chip" "leadX" "[I", Cond.methodLink RX0 37 arraycopyName, Cond.native arraycopyName, Cond.static arraycopyName, Cond.initialized "java/lang/System", Cond.fieldLink RX0 18 "WireLoops$Chip" "height" "[I", Cond.fieldLink RX0 21 "WireLoops$Chip" "strength" "[I", Cond.fieldLink RX0 24 "WireLoops$Chip" "number" "[I", Cond.fieldLink RX0 43 "WireLoops$Chip" "laid" "I", Cond.fieldLink RX0 33 "WireLoops$Chip" "width" "I", Cond.fieldLink RX0 49 "WireLoops$Chip" "toolsChanged" "I", Cond.fieldLink RX0 56 "WireLoops$Chip" "tailsLost" "I", Cond.fieldLink RX0 59 "WireLoops$Chip" "broken" "I", Cond.methodLink RX3 58 yX0_addWire, Cond.instanceMethod yX0_addWire, Cond.selects RX0 yX0_addWire yX0_addWire, Cond.code yX0_addWire cX0_addWire 4 none, Cond.methodLink RX0 76 yX0_newStrength, Cond.instanceMethod yX0_newStrength, Cond.selects RX0 yX0_newStrength yX0_newStrength, Cond.code yX0_newStrength cX0_newStrength 5 (some .int), Cond.methodLink RX0 108 Lib.Math.max.name]
def wsX3_lay_r4 : List Cond := [Cond.static Lib.Math.max.name, Cond.initialized "java/lang/Math", Cond.code Lib.Math.max.name Lib.Math.max.code 2 (some .int), Cond.methodLink RX0 119 Lib.Math.abs.name, Cond.static Lib.Math.abs.name, Cond.code Lib.Math.abs.name Lib.Math.abs.code 1 (some .int), Cond.static yX3_padX, Cond.code yX3_padX cX3_padX 1 (some .int), Cond.methodLink RX0 116 yX0_xOfLead, Cond.instanceMethod yX0_xOfLead, Cond.selects RX0 yX0_xOfLead yX0_xOfLead, Cond.code yX0_xOfLead cX0_xOfLead 2 (some .int), Cond.methodLink RX0 80 yX0_wearOfLaying, Cond.static yX0_wearOfLaying, Cond.code yX0_wearOfLaying cX0_wearOfLaying 1 (some .int), Cond.methodLink RX0 83 yX0_losesTail, Cond.static yX0_losesTail, Cond.code yX0_losesTail cX0_losesTail 1 (some .boolean), Cond.methodLink RX3 62 yX0_strengthOf, Cond.instanceMethod yX0_strengthOf, Cond.selects RX0 yX0_strengthOf yX0_strengthOf, Cond.code yX0_strengthOf cX0_strengthOf 2 (some .int)]
def wsX3_lay : List Cond := .code yX3_lay cX3_lay 5 (some .int) :: ((wsX3_lay_r1 ++ (wsX3_lay_r2 ++ (wsX3_lay_r3 ++ wsX3_lay_r4))) ++ wsX30 ++ wsX00 ++ wsX10)
def wsX3_layAll_r1 : List Cond := [Cond.fieldLink RX3 36 "WireLoops" "text" "LWireLoops$WireList;", Cond.fieldLink RX3 16 "WireLoops" "beforeList" "LWireLoops$Chip;", Cond.fieldLink RX3 10 "WireLoops" "chip" "LWireLoops$Chip;", Cond.fieldLink RX3 29 "WireLoops" "history" "LWireLoops$History;", Cond.methodLink RX3 66 yX2_read, Cond.instanceMethod yX2_read, Cond.selects RX2 yX2_read yX2_read, Cond.initialized RX2, Cond.code yX2_read cX2_read 2 (some .int), Cond.fieldLink RX2 40 "WireLoops$WireList" "at" "I", Cond.fieldLink RX2 29 "WireLoops$WireList" "listed" "I", Cond.fieldLink RX2 25 "WireLoops$WireList" "length" "I", Cond.methodLink RX2 43 yX2_readWire, Cond.instanceMethod yX2_readWire, Cond.selects RX2 yX2_readWire yX2_readWire, Cond.code yX2_readWire cX2_readWire 4 (some .boolean), Cond.fieldLink RX2 15 "WireLoops$WireList" "pads" "[I", Cond.fieldLink RX2 19 "WireLoops$WireList" "leads" "[I", Cond.fieldLink RX2 22 "WireLoops$WireList" "heights" "[I", Cond.methodLink RX2 51 yX2_readNumber, Cond.instanceMethod yX2_readNumber, Cond.selects RX2 yX2_readNumber yX2_readNumber, Cond.code yX2_readNumber cX2_readNumber 3 (some .int), Cond.methodLink RX2 59 yX2_digitHere]
def wsX3_layAll_r2 : List Cond := [Cond.instanceMethod yX2_digitHere, Cond.selects RX2 yX2_digitHere yX2_digitHere, Cond.code yX2_digitHere cX2_digitHere 2 (some .int), Cond.fieldLink RX2 9 "WireLoops$WireList" "characters" "[C", Cond.methodLink RX2 66 yX2_isAtCharacter, Cond.instanceMethod yX2_isAtCharacter, Cond.selects RX2 yX2_isAtCharacter yX2_isAtCharacter, Cond.code yX2_isAtCharacter cX2_isAtCharacter 1 (some .boolean), Cond.static yX3_isWithin, Cond.initialized RX3, Cond.code yX3_isWithin cX3_isWithin 3 (some .boolean), Cond.methodLink RX2 62 yX2_withDigit, Cond.instanceMethod yX2_withDigit, Cond.selects RX2 yX2_withDigit yX2_withDigit, Cond.code yX2_withDigit cX2_withDigit 4 (some .int), Cond.methodLink RX2 47 yX2_passBy, Cond.instanceMethod yX2_passBy, Cond.selects RX2 yX2_passBy yX2_passBy, Cond.code yX2_passBy cX2_passBy 2 (some .boolean), Cond.methodLink RX2 55 yX2_readHeight, Cond.instanceMethod yX2_readHeight, Cond.selects RX2 yX2_readHeight yX2_readHeight, Cond.code yX2_readHeight cX2_readHeight 3 (some .int), Cond.methodLink RX3 70 yX0_copyFrom]
def wsX3_layAll_r3 : List Cond := [Cond.instanceMethod yX0_copyFrom, Cond.selects RX0 yX0_copyFrom yX0_copyFrom, Cond.initialized RX0, Cond.code yX0_copyFrom cX0_copyFrom 2 none, Cond.fieldLink RX0 9 "WireLoops$Chip" "leadX" "[I", Cond.methodLink RX0 37 arraycopyName, Cond.native arraycopyName, Cond.static arraycopyName, Cond.initialized "java/lang/System", Cond.fieldLink RX0 15 "WireLoops$Chip" "leadOf" "[I", Cond.fieldLink RX0 18 "WireLoops$Chip" "height" "[I", Cond.fieldLink RX0 21 "WireLoops$Chip" "strength" "[I", Cond.fieldLink RX0 24 "WireLoops$Chip" "number" "[I", Cond.fieldLink RX0 43 "WireLoops$Chip" "laid" "I", Cond.fieldLink RX0 33 "WireLoops$Chip" "width" "I", Cond.fieldLink RX0 46 "WireLoops$Chip" "wear" "I", Cond.fieldLink RX0 49 "WireLoops$Chip" "toolsChanged" "I", Cond.fieldLink RX0 52 "WireLoops$Chip" "tailLost" "Z", Cond.fieldLink RX0 56 "WireLoops$Chip" "tailsLost" "I", Cond.fieldLink RX0 59 "WireLoops$Chip" "broken" "I", Cond.methodLink RX3 73 yX0_addListed, Cond.instanceMethod yX0_addListed, Cond.selects RX0 yX0_addListed yX0_addListed, Cond.code yX0_addListed cX0_addListed 6 (some .int)]
def wsX3_layAll_r4 : List Cond := [Cond.methodLink RX0 86 yX2_listed, Cond.instanceMethod yX2_listed, Cond.selects RX2 yX2_listed yX2_listed, Cond.code yX2_listed cX2_listed 1 (some .int), Cond.methodLink RX0 92 yX2_listedPad, Cond.instanceMethod yX2_listedPad, Cond.selects RX2 yX2_listedPad yX2_listedPad, Cond.code yX2_listedPad cX2_listedPad 2 (some .int), Cond.methodLink RX2 32 yX2_isListed, Cond.instanceMethod yX2_isListed, Cond.selects RX2 yX2_isListed yX2_isListed, Cond.code yX2_isListed cX2_isListed 2 (some .boolean), Cond.methodLink RX0 95 yX2_listedLead, Cond.instanceMethod yX2_listedLead, Cond.selects RX2 yX2_listedLead yX2_listedLead, Cond.code yX2_listedLead cX2_listedLead 2 (some .int), Cond.methodLink RX0 98 yX0_errorOfLaying, Cond.instanceMethod yX0_errorOfLaying, Cond.selects RX0 yX0_errorOfLaying yX0_errorOfLaying, Cond.code yX0_errorOfLaying cX0_errorOfLaying 3 (some .int), Cond.methodLink RX0 69 yX0_hasWire, Cond.instanceMethod yX0_hasWire, Cond.selects RX0 yX0_hasWire yX0_hasWire, Cond.code yX0_hasWire cX0_hasWire 2 (some .boolean)]
def wsX3_layAll_r5 : List Cond := [Cond.static yX3_isPad, Cond.code yX3_isPad cX3_isPad 1 (some .boolean), Cond.methodLink RX0 72 yX0_padAtLead, Cond.instanceMethod yX0_padAtLead, Cond.selects RX0 yX0_padAtLead yX0_padAtLead, Cond.code yX0_padAtLead cX0_padAtLead 3 (some .int), Cond.methodLink RX0 101 yX2_listedHeight, Cond.instanceMethod yX2_listedHeight, Cond.selects RX2 yX2_listedHeight yX2_listedHeight, Cond.code yX2_listedHeight cX2_listedHeight 2 (some .int), Cond.methodLink RX0 104 yX0_addWire, Cond.instanceMethod yX0_addWire, Cond.selects RX0 yX0_addWire yX0_addWire, Cond.code yX0_addWire cX0_addWire 4 none, Cond.static yX3_isLead, Cond.code yX3_isLead cX3_isLead 1 (some .boolean), Cond.methodLink RX0 76 yX0_newStrength, Cond.instanceMethod yX0_newStrength, Cond.selects RX0 yX0_newStrength yX0_newStrength, Cond.code yX0_newStrength cX0_newStrength 5 (some .int), Cond.methodLink RX0 108 Lib.Math.max.name, Cond.static Lib.Math.max.name, Cond.initialized "java/lang/Math", Cond.code Lib.Math.max.name Lib.Math.max.code 2 (some .int)]
def wsX3_layAll_r6 : List Cond := [Cond.methodLink RX0 119 Lib.Math.abs.name, Cond.static Lib.Math.abs.name, Cond.code Lib.Math.abs.name Lib.Math.abs.code 1 (some .int), Cond.static yX3_padX, Cond.code yX3_padX cX3_padX 1 (some .int), Cond.methodLink RX0 116 yX0_xOfLead, Cond.instanceMethod yX0_xOfLead, Cond.selects RX0 yX0_xOfLead yX0_xOfLead, Cond.code yX0_xOfLead cX0_xOfLead 2 (some .int), Cond.methodLink RX0 80 yX0_wearOfLaying, Cond.static yX0_wearOfLaying, Cond.code yX0_wearOfLaying cX0_wearOfLaying 1 (some .int), Cond.methodLink RX0 83 yX0_losesTail, Cond.static yX0_losesTail, Cond.code yX0_losesTail cX0_losesTail 1 (some .boolean), Cond.methodLink RX3 54 yX1_record, Cond.instanceMethod yX1_record, Cond.selects RX1 yX1_record yX1_record, Cond.initialized RX1, Cond.code yX1_record cX1_record 3 none, Cond.fieldLink RX1 18 "WireLoops$History" "states" "I", Cond.methodLink RX1 22 yX1_dropOldest, Cond.instanceMethod yX1_dropOldest, Cond.selects RX1 yX1_dropOldest yX1_dropOldest]
def wsX3_layAll_r7 : List Cond := [Cond.code yX1_dropOldest cX1_dropOldest 3 none, Cond.fieldLink RX1 11 "WireLoops$History" "kept" "[LWireLoops$Chip;", Cond.methodLink RX1 25 yX1_placeAt, Cond.instanceMethod yX1_placeAt, Cond.selects RX1 yX1_placeAt yX1_placeAt, Cond.code yX1_placeAt cX1_placeAt 2 (some (.object "WireLoops$Chip")), Cond.methodLink RX1 29 yX0_copyFrom, Cond.methodLink RX3 77 yX0_wires, Cond.instanceMethod yX0_wires, Cond.selects RX0 yX0_wires yX0_wires, Cond.code yX0_wires cX0_wires 3 (some .int)]
def wsX3_layAll : List Cond := .code yX3_layAll cX3_layAll 3 (some .int) :: ((wsX3_layAll_r1 ++ (wsX3_layAll_r2 ++ (wsX3_layAll_r3 ++ (wsX3_layAll_r4 ++ (wsX3_layAll_r5 ++ (wsX3_layAll_r6 ++ wsX3_layAll_r7)))))) ++ wsX30 ++ wsX20 ++ wsX00 ++ wsX10)
def wsX3_takeOff_r1 : List Cond := [Cond.fieldLink RX3 10 "WireLoops" "chip" "LWireLoops$Chip;", Cond.fieldLink RX3 29 "WireLoops" "history" "LWireLoops$History;", Cond.methodLink RX3 80 yX0_hasWire, Cond.instanceMethod yX0_hasWire, Cond.selects RX0 yX0_hasWire yX0_hasWire, Cond.initialized RX0, Cond.code yX0_hasWire cX0_hasWire 2 (some .boolean), Cond.fieldLink RX0 15 "WireLoops$Chip" "leadOf" "[I", Cond.static yX3_isPad, Cond.initialized RX3, Cond.code yX3_isPad cX3_isPad 1 (some .boolean), Cond.methodLink RX3 54 yX1_record, Cond.instanceMethod yX1_record, Cond.selects RX1 yX1_record yX1_record, Cond.initialized RX1, Cond.code yX1_record cX1_record 3 none, Cond.fieldLink RX1 18 "WireLoops$History" "states" "I", Cond.methodLink RX1 22 yX1_dropOldest, Cond.instanceMethod yX1_dropOldest, Cond.selects RX1 yX1_dropOldest yX1_dropOldest, Cond.code yX1_dropOldest cX1_dropOldest 3 none, Cond.fieldLink RX1 11 "WireLoops$History" "kept" "[LWireLoops$Chip;", Cond.methodLink RX1 25 yX1_placeAt, Cond.instanceMethod yX1_placeAt]
def wsX3_takeOff_r2 : List Cond := [Cond.selects RX1 yX1_placeAt yX1_placeAt, Cond.code yX1_placeAt cX1_placeAt 2 (some (.object "WireLoops$Chip")), Cond.static yX3_isWithin, Cond.code yX3_isWithin cX3_isWithin 3 (some .boolean), Cond.methodLink RX1 29 yX0_copyFrom, Cond.instanceMethod yX0_copyFrom, Cond.selects RX0 yX0_copyFrom yX0_copyFrom, Cond.code yX0_copyFrom cX0_copyFrom 2 none, Cond.fieldLink RX0 9 "WireLoops$Chip" "leadX" "[I", Cond.methodLink RX0 37 arraycopyName, Cond.native arraycopyName, Cond.static arraycopyName, Cond.initialized "java/lang/System", Cond.fieldLink RX0 18 "WireLoops$Chip" "height" "[I", Cond.fieldLink RX0 21 "WireLoops$Chip" "strength" "[I", Cond.fieldLink RX0 24 "WireLoops$Chip" "number" "[I", Cond.fieldLink RX0 43 "WireLoops$Chip" "laid" "I", Cond.fieldLink RX0 33 "WireLoops$Chip" "width" "I", Cond.fieldLink RX0 46 "WireLoops$Chip" "wear" "I", Cond.fieldLink RX0 49 "WireLoops$Chip" "toolsChanged" "I", Cond.fieldLink RX0 52 "WireLoops$Chip" "tailLost" "Z", Cond.fieldLink RX0 56 "WireLoops$Chip" "tailsLost" "I", Cond.fieldLink RX0 59 "WireLoops$Chip" "broken" "I", Cond.methodLink RX3 62 yX0_strengthOf]
def wsX3_takeOff_r3 : List Cond := [Cond.instanceMethod yX0_strengthOf, Cond.selects RX0 yX0_strengthOf yX0_strengthOf, Cond.code yX0_strengthOf cX0_strengthOf 2 (some .int), Cond.methodLink RX3 83 yX0_removeWire, Cond.instanceMethod yX0_removeWire, Cond.selects RX0 yX0_removeWire yX0_removeWire, Cond.code yX0_removeWire cX0_removeWire 2 none]
def wsX3_takeOff : List Cond := .code yX3_takeOff cX3_takeOff 3 (some .int) :: ((wsX3_takeOff_r1 ++ (wsX3_takeOff_r2 ++ wsX3_takeOff_r3)) ++ wsX30 ++ wsX00 ++ wsX10)
def wsX3_bend_r1 : List Cond := [Cond.fieldLink RX3 10 "WireLoops" "chip" "LWireLoops$Chip;", Cond.fieldLink RX3 29 "WireLoops" "history" "LWireLoops$History;", Cond.methodLink RX3 80 yX0_hasWire, Cond.instanceMethod yX0_hasWire, Cond.selects RX0 yX0_hasWire yX0_hasWire, Cond.initialized RX0, Cond.code yX0_hasWire cX0_hasWire 2 (some .boolean), Cond.fieldLink RX0 15 "WireLoops$Chip" "leadOf" "[I", Cond.static yX3_isPad, Cond.initialized RX3, Cond.code yX3_isPad cX3_isPad 1 (some .boolean), Cond.methodLink RX3 47 yX3_isHeight, Cond.static yX3_isHeight, Cond.code yX3_isHeight cX3_isHeight 1 (some .boolean), Cond.methodLink RX3 94 yX3_isWithin, Cond.static yX3_isWithin, Cond.code yX3_isWithin cX3_isWithin 3 (some .boolean), Cond.methodLink RX3 87 yX0_heightOf, Cond.instanceMethod yX0_heightOf, Cond.selects RX0 yX0_heightOf yX0_heightOf, Cond.code yX0_heightOf cX0_heightOf 2 (some .int), Cond.fieldLink RX0 18 "WireLoops$Chip" "height" "[I", Cond.methodLink RX3 54 yX1_record, Cond.instanceMethod yX1_record]
def wsX3_bend_r2 : List Cond := [Cond.selects RX1 yX1_record yX1_record, Cond.initialized RX1, Cond.code yX1_record cX1_record 3 none, Cond.fieldLink RX1 18 "WireLoops$History" "states" "I", Cond.methodLink RX1 22 yX1_dropOldest, Cond.instanceMethod yX1_dropOldest, Cond.selects RX1 yX1_dropOldest yX1_dropOldest, Cond.code yX1_dropOldest cX1_dropOldest 3 none, Cond.fieldLink RX1 11 "WireLoops$History" "kept" "[LWireLoops$Chip;", Cond.methodLink RX1 25 yX1_placeAt, Cond.instanceMethod yX1_placeAt, Cond.selects RX1 yX1_placeAt yX1_placeAt, Cond.code yX1_placeAt cX1_placeAt 2 (some (.object "WireLoops$Chip")), Cond.methodLink RX1 29 yX0_copyFrom, Cond.instanceMethod yX0_copyFrom, Cond.selects RX0 yX0_copyFrom yX0_copyFrom, Cond.code yX0_copyFrom cX0_copyFrom 2 none, Cond.fieldLink RX0 9 "WireLoops$Chip" "leadX" "[I", Cond.methodLink RX0 37 arraycopyName, Cond.native arraycopyName, Cond.static arraycopyName, Cond.initialized "java/lang/System", Cond.fieldLink RX0 21 "WireLoops$Chip" "strength" "[I", Cond.fieldLink RX0 24 "WireLoops$Chip" "number" "[I"]
def wsX3_bend_r3 : List Cond := [Cond.fieldLink RX0 43 "WireLoops$Chip" "laid" "I", Cond.fieldLink RX0 33 "WireLoops$Chip" "width" "I", Cond.fieldLink RX0 46 "WireLoops$Chip" "wear" "I", Cond.fieldLink RX0 49 "WireLoops$Chip" "toolsChanged" "I", Cond.fieldLink RX0 52 "WireLoops$Chip" "tailLost" "Z", Cond.fieldLink RX0 56 "WireLoops$Chip" "tailsLost" "I", Cond.fieldLink RX0 59 "WireLoops$Chip" "broken" "I", Cond.methodLink RX3 90 yX0_changeHeight, Cond.instanceMethod yX0_changeHeight, Cond.selects RX0 yX0_changeHeight yX0_changeHeight, Cond.code yX0_changeHeight cX0_changeHeight 3 none]
def wsX3_bend : List Cond := .code yX3_bend cX3_bend 4 (some .int) :: ((wsX3_bend_r1 ++ (wsX3_bend_r2 ++ wsX3_bend_r3)) ++ wsX30 ++ wsX00 ++ wsX10)
def wsX3_moveLead_r1 : List Cond := [Cond.fieldLink RX3 10 "WireLoops" "chip" "LWireLoops$Chip;", Cond.fieldLink RX3 29 "WireLoops" "history" "LWireLoops$History;", Cond.methodLink RX3 44 yX3_isLead, Cond.static yX3_isLead, Cond.initialized RX3, Cond.code yX3_isLead cX3_isLead 1 (some .boolean), Cond.methodLink RX3 94 yX3_isWithin, Cond.static yX3_isWithin, Cond.code yX3_isWithin cX3_isWithin 3 (some .boolean), Cond.methodLink RX3 98 yX0_padAtLead, Cond.instanceMethod yX0_padAtLead, Cond.selects RX0 yX0_padAtLead yX0_padAtLead, Cond.initialized RX0, Cond.code yX0_padAtLead cX0_padAtLead 3 (some .int), Cond.fieldLink RX0 15 "WireLoops$Chip" "leadOf" "[I", Cond.methodLink RX0 69 yX0_hasWire, Cond.instanceMethod yX0_hasWire, Cond.selects RX0 yX0_hasWire yX0_hasWire, Cond.code yX0_hasWire cX0_hasWire 2 (some .boolean), Cond.static yX3_isPad, Cond.code yX3_isPad cX3_isPad 1 (some .boolean), Cond.methodLink RX3 101 yX0_xOfLead, Cond.instanceMethod yX0_xOfLead, Cond.selects RX0 yX0_xOfLead yX0_xOfLead]
def wsX3_moveLead_r2 : List Cond := [Cond.code yX0_xOfLead cX0_xOfLead 2 (some .int), Cond.fieldLink RX0 9 "WireLoops$Chip" "leadX" "[I", Cond.methodLink RX3 54 yX1_record, Cond.instanceMethod yX1_record, Cond.selects RX1 yX1_record yX1_record, Cond.initialized RX1, Cond.code yX1_record cX1_record 3 none, Cond.fieldLink RX1 18 "WireLoops$History" "states" "I", Cond.methodLink RX1 22 yX1_dropOldest, Cond.instanceMethod yX1_dropOldest, Cond.selects RX1 yX1_dropOldest yX1_dropOldest, Cond.code yX1_dropOldest cX1_dropOldest 3 none, Cond.fieldLink RX1 11 "WireLoops$History" "kept" "[LWireLoops$Chip;", Cond.methodLink RX1 25 yX1_placeAt, Cond.instanceMethod yX1_placeAt, Cond.selects RX1 yX1_placeAt yX1_placeAt, Cond.code yX1_placeAt cX1_placeAt 2 (some (.object "WireLoops$Chip")), Cond.methodLink RX1 29 yX0_copyFrom, Cond.instanceMethod yX0_copyFrom, Cond.selects RX0 yX0_copyFrom yX0_copyFrom, Cond.code yX0_copyFrom cX0_copyFrom 2 none, Cond.methodLink RX0 37 arraycopyName, Cond.native arraycopyName, Cond.static arraycopyName]
def wsX3_moveLead_r3 : List Cond := [Cond.initialized "java/lang/System", Cond.fieldLink RX0 18 "WireLoops$Chip" "height" "[I", Cond.fieldLink RX0 21 "WireLoops$Chip" "strength" "[I", Cond.fieldLink RX0 24 "WireLoops$Chip" "number" "[I", Cond.fieldLink RX0 43 "WireLoops$Chip" "laid" "I", Cond.fieldLink RX0 33 "WireLoops$Chip" "width" "I", Cond.fieldLink RX0 46 "WireLoops$Chip" "wear" "I", Cond.fieldLink RX0 49 "WireLoops$Chip" "toolsChanged" "I", Cond.fieldLink RX0 52 "WireLoops$Chip" "tailLost" "Z", Cond.fieldLink RX0 56 "WireLoops$Chip" "tailsLost" "I", Cond.fieldLink RX0 59 "WireLoops$Chip" "broken" "I", Cond.methodLink RX3 104 yX0_placeLead, Cond.instanceMethod yX0_placeLead, Cond.selects RX0 yX0_placeLead yX0_placeLead, Cond.code yX0_placeLead cX0_placeLead 3 none]
def wsX3_moveLead : List Cond := .code yX3_moveLead cX3_moveLead 4 (some .int) :: ((wsX3_moveLead_r1 ++ (wsX3_moveLead_r2 ++ wsX3_moveLead_r3)) ++ wsX30 ++ wsX00 ++ wsX10)
def wsX3_setWidth_r1 : List Cond := [Cond.fieldLink RX3 10 "WireLoops" "chip" "LWireLoops$Chip;", Cond.fieldLink RX3 29 "WireLoops" "history" "LWireLoops$History;", Cond.methodLink RX3 94 yX3_isWithin, Cond.static yX3_isWithin, Cond.initialized RX3, Cond.code yX3_isWithin cX3_isWithin 3 (some .boolean), Cond.methodLink RX3 54 yX1_record, Cond.instanceMethod yX1_record, Cond.selects RX1 yX1_record yX1_record, Cond.initialized RX1, Cond.code yX1_record cX1_record 3 none, Cond.fieldLink RX1 18 "WireLoops$History" "states" "I", Cond.methodLink RX1 22 yX1_dropOldest, Cond.instanceMethod yX1_dropOldest, Cond.selects RX1 yX1_dropOldest yX1_dropOldest, Cond.code yX1_dropOldest cX1_dropOldest 3 none, Cond.fieldLink RX1 11 "WireLoops$History" "kept" "[LWireLoops$Chip;", Cond.methodLink RX1 25 yX1_placeAt, Cond.instanceMethod yX1_placeAt, Cond.selects RX1 yX1_placeAt yX1_placeAt, Cond.code yX1_placeAt cX1_placeAt 2 (some (.object "WireLoops$Chip")), Cond.methodLink RX1 29 yX0_copyFrom, Cond.instanceMethod yX0_copyFrom, Cond.selects RX0 yX0_copyFrom yX0_copyFrom]
def wsX3_setWidth_r2 : List Cond := [Cond.initialized RX0, Cond.code yX0_copyFrom cX0_copyFrom 2 none, Cond.fieldLink RX0 9 "WireLoops$Chip" "leadX" "[I", Cond.methodLink RX0 37 arraycopyName, Cond.native arraycopyName, Cond.static arraycopyName, Cond.initialized "java/lang/System", Cond.fieldLink RX0 15 "WireLoops$Chip" "leadOf" "[I", Cond.fieldLink RX0 18 "WireLoops$Chip" "height" "[I", Cond.fieldLink RX0 21 "WireLoops$Chip" "strength" "[I", Cond.fieldLink RX0 24 "WireLoops$Chip" "number" "[I", Cond.fieldLink RX0 43 "WireLoops$Chip" "laid" "I", Cond.fieldLink RX0 33 "WireLoops$Chip" "width" "I", Cond.fieldLink RX0 46 "WireLoops$Chip" "wear" "I", Cond.fieldLink RX0 49 "WireLoops$Chip" "toolsChanged" "I", Cond.fieldLink RX0 52 "WireLoops$Chip" "tailLost" "Z", Cond.fieldLink RX0 56 "WireLoops$Chip" "tailsLost" "I", Cond.fieldLink RX0 59 "WireLoops$Chip" "broken" "I"]
def wsX3_setWidth : List Cond := .code yX3_setWidth cX3_setWidth 3 (some .int) :: ((wsX3_setWidth_r1 ++ wsX3_setWidth_r2) ++ wsX30 ++ wsX00 ++ wsX10)
def wsX3_changeTool_r1 : List Cond := [Cond.fieldLink RX3 10 "WireLoops" "chip" "LWireLoops$Chip;", Cond.fieldLink RX3 29 "WireLoops" "history" "LWireLoops$History;", Cond.methodLink RX3 54 yX1_record, Cond.instanceMethod yX1_record, Cond.selects RX1 yX1_record yX1_record, Cond.initialized RX1, Cond.code yX1_record cX1_record 3 none, Cond.fieldLink RX1 18 "WireLoops$History" "states" "I", Cond.methodLink RX1 22 yX1_dropOldest, Cond.instanceMethod yX1_dropOldest, Cond.selects RX1 yX1_dropOldest yX1_dropOldest, Cond.code yX1_dropOldest cX1_dropOldest 3 none, Cond.fieldLink RX1 11 "WireLoops$History" "kept" "[LWireLoops$Chip;", Cond.methodLink RX1 25 yX1_placeAt, Cond.instanceMethod yX1_placeAt, Cond.selects RX1 yX1_placeAt yX1_placeAt, Cond.code yX1_placeAt cX1_placeAt 2 (some (.object "WireLoops$Chip")), Cond.static yX3_isWithin, Cond.initialized RX3, Cond.code yX3_isWithin cX3_isWithin 3 (some .boolean), Cond.methodLink RX1 29 yX0_copyFrom, Cond.instanceMethod yX0_copyFrom, Cond.selects RX0 yX0_copyFrom yX0_copyFrom, Cond.initialized RX0]
def wsX3_changeTool_r2 : List Cond := [Cond.code yX0_copyFrom cX0_copyFrom 2 none, Cond.fieldLink RX0 9 "WireLoops$Chip" "leadX" "[I", Cond.methodLink RX0 37 arraycopyName, Cond.native arraycopyName, Cond.static arraycopyName, Cond.initialized "java/lang/System", Cond.fieldLink RX0 15 "WireLoops$Chip" "leadOf" "[I", Cond.fieldLink RX0 18 "WireLoops$Chip" "height" "[I", Cond.fieldLink RX0 21 "WireLoops$Chip" "strength" "[I", Cond.fieldLink RX0 24 "WireLoops$Chip" "number" "[I", Cond.fieldLink RX0 43 "WireLoops$Chip" "laid" "I", Cond.fieldLink RX0 33 "WireLoops$Chip" "width" "I", Cond.fieldLink RX0 46 "WireLoops$Chip" "wear" "I", Cond.fieldLink RX0 49 "WireLoops$Chip" "toolsChanged" "I", Cond.fieldLink RX0 52 "WireLoops$Chip" "tailLost" "Z", Cond.fieldLink RX0 56 "WireLoops$Chip" "tailsLost" "I", Cond.fieldLink RX0 59 "WireLoops$Chip" "broken" "I"]
def wsX3_changeTool : List Cond := .code yX3_changeTool cX3_changeTool 2 (some .int) :: ((wsX3_changeTool_r1 ++ wsX3_changeTool_r2) ++ wsX30 ++ wsX00 ++ wsX10)
def wsX3_thread_r1 : List Cond := [Cond.fieldLink RX3 10 "WireLoops" "chip" "LWireLoops$Chip;", Cond.fieldLink RX3 29 "WireLoops" "history" "LWireLoops$History;", Cond.methodLink RX3 54 yX1_record, Cond.instanceMethod yX1_record, Cond.selects RX1 yX1_record yX1_record, Cond.initialized RX1, Cond.code yX1_record cX1_record 3 none, Cond.fieldLink RX1 18 "WireLoops$History" "states" "I", Cond.methodLink RX1 22 yX1_dropOldest, Cond.instanceMethod yX1_dropOldest, Cond.selects RX1 yX1_dropOldest yX1_dropOldest, Cond.code yX1_dropOldest cX1_dropOldest 3 none, Cond.fieldLink RX1 11 "WireLoops$History" "kept" "[LWireLoops$Chip;", Cond.methodLink RX1 25 yX1_placeAt, Cond.instanceMethod yX1_placeAt, Cond.selects RX1 yX1_placeAt yX1_placeAt, Cond.code yX1_placeAt cX1_placeAt 2 (some (.object "WireLoops$Chip")), Cond.static yX3_isWithin, Cond.initialized RX3, Cond.code yX3_isWithin cX3_isWithin 3 (some .boolean), Cond.methodLink RX1 29 yX0_copyFrom, Cond.instanceMethod yX0_copyFrom, Cond.selects RX0 yX0_copyFrom yX0_copyFrom, Cond.initialized RX0]
def wsX3_thread_r2 : List Cond := [Cond.code yX0_copyFrom cX0_copyFrom 2 none, Cond.fieldLink RX0 9 "WireLoops$Chip" "leadX" "[I", Cond.methodLink RX0 37 arraycopyName, Cond.native arraycopyName, Cond.static arraycopyName, Cond.initialized "java/lang/System", Cond.fieldLink RX0 15 "WireLoops$Chip" "leadOf" "[I", Cond.fieldLink RX0 18 "WireLoops$Chip" "height" "[I", Cond.fieldLink RX0 21 "WireLoops$Chip" "strength" "[I", Cond.fieldLink RX0 24 "WireLoops$Chip" "number" "[I", Cond.fieldLink RX0 43 "WireLoops$Chip" "laid" "I", Cond.fieldLink RX0 33 "WireLoops$Chip" "width" "I", Cond.fieldLink RX0 46 "WireLoops$Chip" "wear" "I", Cond.fieldLink RX0 49 "WireLoops$Chip" "toolsChanged" "I", Cond.fieldLink RX0 52 "WireLoops$Chip" "tailLost" "Z", Cond.fieldLink RX0 56 "WireLoops$Chip" "tailsLost" "I", Cond.fieldLink RX0 59 "WireLoops$Chip" "broken" "I"]
def wsX3_thread : List Cond := .code yX3_thread cX3_thread 1 (some .int) :: ((wsX3_thread_r1 ++ wsX3_thread_r2) ++ wsX30 ++ wsX00 ++ wsX10)
def wsX3_pull_r1 : List Cond := [Cond.fieldLink RX3 10 "WireLoops" "chip" "LWireLoops$Chip;", Cond.fieldLink RX3 29 "WireLoops" "history" "LWireLoops$History;", Cond.methodLink RX3 80 yX0_hasWire, Cond.instanceMethod yX0_hasWire, Cond.selects RX0 yX0_hasWire yX0_hasWire, Cond.initialized RX0, Cond.code yX0_hasWire cX0_hasWire 2 (some .boolean), Cond.fieldLink RX0 15 "WireLoops$Chip" "leadOf" "[I", Cond.static yX3_isPad, Cond.initialized RX3, Cond.code yX3_isPad cX3_isPad 1 (some .boolean), Cond.methodLink RX3 94 yX3_isWithin, Cond.static yX3_isWithin, Cond.code yX3_isWithin cX3_isWithin 3 (some .boolean), Cond.methodLink RX3 54 yX1_record, Cond.instanceMethod yX1_record, Cond.selects RX1 yX1_record yX1_record, Cond.initialized RX1, Cond.code yX1_record cX1_record 3 none, Cond.fieldLink RX1 18 "WireLoops$History" "states" "I", Cond.methodLink RX1 22 yX1_dropOldest, Cond.instanceMethod yX1_dropOldest, Cond.selects RX1 yX1_dropOldest yX1_dropOldest, Cond.code yX1_dropOldest cX1_dropOldest 3 none]
def wsX3_pull_r2 : List Cond := [Cond.fieldLink RX1 11 "WireLoops$History" "kept" "[LWireLoops$Chip;", Cond.methodLink RX1 25 yX1_placeAt, Cond.instanceMethod yX1_placeAt, Cond.selects RX1 yX1_placeAt yX1_placeAt, Cond.code yX1_placeAt cX1_placeAt 2 (some (.object "WireLoops$Chip")), Cond.methodLink RX1 29 yX0_copyFrom, Cond.instanceMethod yX0_copyFrom, Cond.selects RX0 yX0_copyFrom yX0_copyFrom, Cond.code yX0_copyFrom cX0_copyFrom 2 none, Cond.fieldLink RX0 9 "WireLoops$Chip" "leadX" "[I", Cond.methodLink RX0 37 arraycopyName, Cond.native arraycopyName, Cond.static arraycopyName, Cond.initialized "java/lang/System", Cond.fieldLink RX0 18 "WireLoops$Chip" "height" "[I", Cond.fieldLink RX0 21 "WireLoops$Chip" "strength" "[I", Cond.fieldLink RX0 24 "WireLoops$Chip" "number" "[I", Cond.fieldLink RX0 43 "WireLoops$Chip" "laid" "I", Cond.fieldLink RX0 33 "WireLoops$Chip" "width" "I", Cond.fieldLink RX0 46 "WireLoops$Chip" "wear" "I", Cond.fieldLink RX0 49 "WireLoops$Chip" "toolsChanged" "I", Cond.fieldLink RX0 52 "WireLoops$Chip" "tailLost" "Z", Cond.fieldLink RX0 56 "WireLoops$Chip" "tailsLost" "I", Cond.fieldLink RX0 59 "WireLoops$Chip" "broken" "I"]
def wsX3_pull_r3 : List Cond := [Cond.methodLink RX3 123 yX0_breaksUnder, Cond.instanceMethod yX0_breaksUnder, Cond.selects RX0 yX0_breaksUnder yX0_breaksUnder, Cond.code yX0_breaksUnder cX0_breaksUnder 3 (some .boolean), Cond.methodLink RX0 108 Lib.Math.max.name, Cond.static Lib.Math.max.name, Cond.initialized "java/lang/Math", Cond.code Lib.Math.max.name Lib.Math.max.code 2 (some .int), Cond.methodLink RX0 69 yX0_hasWire, Cond.methodLink RX0 122 yX0_removeWire, Cond.instanceMethod yX0_removeWire, Cond.selects RX0 yX0_removeWire yX0_removeWire, Cond.code yX0_removeWire cX0_removeWire 2 none, Cond.methodLink RX3 62 yX0_strengthOf, Cond.instanceMethod yX0_strengthOf, Cond.selects RX0 yX0_strengthOf yX0_strengthOf, Cond.code yX0_strengthOf cX0_strengthOf 2 (some .int)]
def wsX3_pull : List Cond := .code yX3_pull cX3_pull 3 (some .int) :: ((wsX3_pull_r1 ++ (wsX3_pull_r2 ++ wsX3_pull_r3)) ++ wsX30 ++ wsX00 ++ wsX10)
def wsX3_sample_r1 : List Cond := [Cond.fieldLink RX3 10 "WireLoops" "chip" "LWireLoops$Chip;", Cond.fieldLink RX3 29 "WireLoops" "history" "LWireLoops$History;", Cond.methodLink RX3 94 yX3_isWithin, Cond.static yX3_isWithin, Cond.initialized RX3, Cond.code yX3_isWithin cX3_isWithin 3 (some .boolean), Cond.methodLink RX3 77 yX0_wires, Cond.instanceMethod yX0_wires, Cond.selects RX0 yX0_wires yX0_wires, Cond.initialized RX0, Cond.code yX0_wires cX0_wires 3 (some .int), Cond.methodLink RX0 69 yX0_hasWire, Cond.instanceMethod yX0_hasWire, Cond.selects RX0 yX0_hasWire yX0_hasWire, Cond.code yX0_hasWire cX0_hasWire 2 (some .boolean), Cond.fieldLink RX0 15 "WireLoops$Chip" "leadOf" "[I", Cond.static yX3_isPad, Cond.code yX3_isPad cX3_isPad 1 (some .boolean), Cond.methodLink RX3 54 yX1_record, Cond.instanceMethod yX1_record, Cond.selects RX1 yX1_record yX1_record, Cond.initialized RX1, Cond.code yX1_record cX1_record 3 none, Cond.fieldLink RX1 18 "WireLoops$History" "states" "I"]
def wsX3_sample_r2 : List Cond := [Cond.methodLink RX1 22 yX1_dropOldest, Cond.instanceMethod yX1_dropOldest, Cond.selects RX1 yX1_dropOldest yX1_dropOldest, Cond.code yX1_dropOldest cX1_dropOldest 3 none, Cond.fieldLink RX1 11 "WireLoops$History" "kept" "[LWireLoops$Chip;", Cond.methodLink RX1 25 yX1_placeAt, Cond.instanceMethod yX1_placeAt, Cond.selects RX1 yX1_placeAt yX1_placeAt, Cond.code yX1_placeAt cX1_placeAt 2 (some (.object "WireLoops$Chip")), Cond.methodLink RX1 29 yX0_copyFrom, Cond.instanceMethod yX0_copyFrom, Cond.selects RX0 yX0_copyFrom yX0_copyFrom, Cond.code yX0_copyFrom cX0_copyFrom 2 none, Cond.fieldLink RX0 9 "WireLoops$Chip" "leadX" "[I", Cond.methodLink RX0 37 arraycopyName, Cond.native arraycopyName, Cond.static arraycopyName, Cond.initialized "java/lang/System", Cond.fieldLink RX0 18 "WireLoops$Chip" "height" "[I", Cond.fieldLink RX0 21 "WireLoops$Chip" "strength" "[I", Cond.fieldLink RX0 24 "WireLoops$Chip" "number" "[I", Cond.fieldLink RX0 43 "WireLoops$Chip" "laid" "I", Cond.fieldLink RX0 33 "WireLoops$Chip" "width" "I", Cond.fieldLink RX0 46 "WireLoops$Chip" "wear" "I"]
def wsX3_sample_r3 : List Cond := [Cond.fieldLink RX0 49 "WireLoops$Chip" "toolsChanged" "I", Cond.fieldLink RX0 52 "WireLoops$Chip" "tailLost" "Z", Cond.fieldLink RX0 56 "WireLoops$Chip" "tailsLost" "I", Cond.fieldLink RX0 59 "WireLoops$Chip" "broken" "I", Cond.methodLink RX3 127 yX0_breakingOfSample, Cond.instanceMethod yX0_breakingOfSample, Cond.selects RX0 yX0_breakingOfSample yX0_breakingOfSample, Cond.code yX0_breakingOfSample cX0_breakingOfSample 6 (some .int), Cond.methodLink RX0 126 yX0_breaksUnder, Cond.instanceMethod yX0_breaksUnder, Cond.selects RX0 yX0_breaksUnder yX0_breaksUnder, Cond.code yX0_breaksUnder cX0_breaksUnder 3 (some .boolean), Cond.methodLink RX0 108 Lib.Math.max.name, Cond.static Lib.Math.max.name, Cond.initialized "java/lang/Math", Cond.code Lib.Math.max.name Lib.Math.max.code 2 (some .int), Cond.methodLink RX0 122 yX0_removeWire, Cond.instanceMethod yX0_removeWire, Cond.selects RX0 yX0_removeWire yX0_removeWire, Cond.code yX0_removeWire cX0_removeWire 2 none]
def wsX3_sample : List Cond := .code yX3_sample cX3_sample 3 (some .int) :: ((wsX3_sample_r1 ++ (wsX3_sample_r2 ++ wsX3_sample_r3)) ++ wsX30 ++ wsX00 ++ wsX10)
def wsX3_type : List Cond := .code yX3_type cX3_type 2 (some .int) :: ([.fieldLink RX3 36 "WireLoops" "text" "LWireLoops$WireList;", .methodLink RX3 130 yX2_append, .instanceMethod yX2_append, .selects RX2 yX2_append yX2_append, .initialized RX2, .code yX2_append cX2_append 2 (some .boolean), .fieldLink RX2 25 "WireLoops$WireList" "length" "I", .fieldLink RX2 9 "WireLoops$WireList" "characters" "[C", .methodLink RX3 134 yX2_length, .instanceMethod yX2_length, .selects RX2 yX2_length yX2_length, .code yX2_length cX2_length 1 (some .int)] ++ wsX30 ++ wsX20)
def wsX3_clearText : List Cond := .code yX3_clearText cX3_clearText 2 (some .int) :: ([.fieldLink RX3 36 "WireLoops" "text" "LWireLoops$WireList;", .methodLink RX3 134 yX2_length, .instanceMethod yX2_length, .selects RX2 yX2_length yX2_length, .initialized RX2, .code yX2_length cX2_length 1 (some .int), .fieldLink RX2 25 "WireLoops$WireList" "length" "I", .methodLink RX3 137 yX2_empty, .instanceMethod yX2_empty, .selects RX2 yX2_empty yX2_empty, .code yX2_empty cX2_empty 1 none] ++ wsX30 ++ wsX20)
def wsX3_undo_r1 : List Cond := [Cond.fieldLink RX3 29 "WireLoops" "history" "LWireLoops$History;", Cond.fieldLink RX3 10 "WireLoops" "chip" "LWireLoops$Chip;", Cond.methodLink RX3 140 yX1_states, Cond.instanceMethod yX1_states, Cond.selects RX1 yX1_states yX1_states, Cond.initialized RX1, Cond.code yX1_states cX1_states 1 (some .int), Cond.fieldLink RX1 18 "WireLoops$History" "states" "I", Cond.methodLink RX3 143 yX1_takeLatest, Cond.instanceMethod yX1_takeLatest, Cond.selects RX1 yX1_takeLatest yX1_takeLatest, Cond.code yX1_takeLatest cX1_takeLatest 3 none, Cond.methodLink RX1 25 yX1_placeAt, Cond.instanceMethod yX1_placeAt, Cond.selects RX1 yX1_placeAt yX1_placeAt, Cond.code yX1_placeAt cX1_placeAt 2 (some (.object "WireLoops$Chip")), Cond.fieldLink RX1 11 "WireLoops$History" "kept" "[LWireLoops$Chip;", Cond.static yX3_isWithin, Cond.initialized RX3, Cond.code yX3_isWithin cX3_isWithin 3 (some .boolean), Cond.methodLink RX1 29 yX0_copyFrom, Cond.instanceMethod yX0_copyFrom, Cond.selects RX0 yX0_copyFrom yX0_copyFrom, Cond.initialized RX0]
def wsX3_undo_r2 : List Cond := [Cond.code yX0_copyFrom cX0_copyFrom 2 none, Cond.fieldLink RX0 9 "WireLoops$Chip" "leadX" "[I", Cond.methodLink RX0 37 arraycopyName, Cond.native arraycopyName, Cond.static arraycopyName, Cond.initialized "java/lang/System", Cond.fieldLink RX0 15 "WireLoops$Chip" "leadOf" "[I", Cond.fieldLink RX0 18 "WireLoops$Chip" "height" "[I", Cond.fieldLink RX0 21 "WireLoops$Chip" "strength" "[I", Cond.fieldLink RX0 24 "WireLoops$Chip" "number" "[I", Cond.fieldLink RX0 43 "WireLoops$Chip" "laid" "I", Cond.fieldLink RX0 33 "WireLoops$Chip" "width" "I", Cond.fieldLink RX0 46 "WireLoops$Chip" "wear" "I", Cond.fieldLink RX0 49 "WireLoops$Chip" "toolsChanged" "I", Cond.fieldLink RX0 52 "WireLoops$Chip" "tailLost" "Z", Cond.fieldLink RX0 56 "WireLoops$Chip" "tailsLost" "I", Cond.fieldLink RX0 59 "WireLoops$Chip" "broken" "I"]
def wsX3_undo : List Cond := .code yX3_undo cX3_undo 1 (some .int) :: ((wsX3_undo_r1 ++ wsX3_undo_r2) ++ wsX30 ++ wsX10 ++ wsX00)
def wsX3_keep_r1 : List Cond := [Cond.fieldLink RX3 19 "WireLoops" "snapshot" "LWireLoops$Chip;", Cond.fieldLink RX3 10 "WireLoops" "chip" "LWireLoops$Chip;", Cond.fieldLink RX3 22 "WireLoops" "hasSnapshot" "Z", Cond.methodLink RX3 70 yX0_copyFrom, Cond.instanceMethod yX0_copyFrom, Cond.selects RX0 yX0_copyFrom yX0_copyFrom, Cond.initialized RX0, Cond.code yX0_copyFrom cX0_copyFrom 2 none, Cond.fieldLink RX0 9 "WireLoops$Chip" "leadX" "[I", Cond.methodLink RX0 37 arraycopyName, Cond.native arraycopyName, Cond.static arraycopyName, Cond.initialized "java/lang/System", Cond.fieldLink RX0 15 "WireLoops$Chip" "leadOf" "[I", Cond.fieldLink RX0 18 "WireLoops$Chip" "height" "[I", Cond.fieldLink RX0 21 "WireLoops$Chip" "strength" "[I", Cond.fieldLink RX0 24 "WireLoops$Chip" "number" "[I", Cond.fieldLink RX0 43 "WireLoops$Chip" "laid" "I", Cond.fieldLink RX0 33 "WireLoops$Chip" "width" "I", Cond.fieldLink RX0 46 "WireLoops$Chip" "wear" "I", Cond.fieldLink RX0 49 "WireLoops$Chip" "toolsChanged" "I", Cond.fieldLink RX0 52 "WireLoops$Chip" "tailLost" "Z", Cond.fieldLink RX0 56 "WireLoops$Chip" "tailsLost" "I", Cond.fieldLink RX0 59 "WireLoops$Chip" "broken" "I"]
def wsX3_keep_r2 : List Cond := [Cond.methodLink RX3 77 yX0_wires, Cond.instanceMethod yX0_wires, Cond.selects RX0 yX0_wires yX0_wires, Cond.code yX0_wires cX0_wires 3 (some .int), Cond.methodLink RX0 69 yX0_hasWire, Cond.instanceMethod yX0_hasWire, Cond.selects RX0 yX0_hasWire yX0_hasWire, Cond.code yX0_hasWire cX0_hasWire 2 (some .boolean), Cond.static yX3_isPad, Cond.initialized RX3, Cond.code yX3_isPad cX3_isPad 1 (some .boolean)]
def wsX3_keep : List Cond := .code yX3_keep cX3_keep 1 (some .int) :: ((wsX3_keep_r1 ++ wsX3_keep_r2) ++ wsX30 ++ wsX00)
def wsX3_restore_r1 : List Cond := [Cond.fieldLink RX3 22 "WireLoops" "hasSnapshot" "Z", Cond.fieldLink RX3 29 "WireLoops" "history" "LWireLoops$History;", Cond.fieldLink RX3 10 "WireLoops" "chip" "LWireLoops$Chip;", Cond.fieldLink RX3 19 "WireLoops" "snapshot" "LWireLoops$Chip;", Cond.methodLink RX3 54 yX1_record, Cond.instanceMethod yX1_record, Cond.selects RX1 yX1_record yX1_record, Cond.initialized RX1, Cond.code yX1_record cX1_record 3 none, Cond.fieldLink RX1 18 "WireLoops$History" "states" "I", Cond.methodLink RX1 22 yX1_dropOldest, Cond.instanceMethod yX1_dropOldest, Cond.selects RX1 yX1_dropOldest yX1_dropOldest, Cond.code yX1_dropOldest cX1_dropOldest 3 none, Cond.fieldLink RX1 11 "WireLoops$History" "kept" "[LWireLoops$Chip;", Cond.methodLink RX1 25 yX1_placeAt, Cond.instanceMethod yX1_placeAt, Cond.selects RX1 yX1_placeAt yX1_placeAt, Cond.code yX1_placeAt cX1_placeAt 2 (some (.object "WireLoops$Chip")), Cond.static yX3_isWithin, Cond.initialized RX3, Cond.code yX3_isWithin cX3_isWithin 3 (some .boolean), Cond.methodLink RX1 29 yX0_copyFrom, Cond.instanceMethod yX0_copyFrom]
def wsX3_restore_r2 : List Cond := [Cond.selects RX0 yX0_copyFrom yX0_copyFrom, Cond.initialized RX0, Cond.code yX0_copyFrom cX0_copyFrom 2 none, Cond.fieldLink RX0 9 "WireLoops$Chip" "leadX" "[I", Cond.methodLink RX0 37 arraycopyName, Cond.native arraycopyName, Cond.static arraycopyName, Cond.initialized "java/lang/System", Cond.fieldLink RX0 15 "WireLoops$Chip" "leadOf" "[I", Cond.fieldLink RX0 18 "WireLoops$Chip" "height" "[I", Cond.fieldLink RX0 21 "WireLoops$Chip" "strength" "[I", Cond.fieldLink RX0 24 "WireLoops$Chip" "number" "[I", Cond.fieldLink RX0 43 "WireLoops$Chip" "laid" "I", Cond.fieldLink RX0 33 "WireLoops$Chip" "width" "I", Cond.fieldLink RX0 46 "WireLoops$Chip" "wear" "I", Cond.fieldLink RX0 49 "WireLoops$Chip" "toolsChanged" "I", Cond.fieldLink RX0 52 "WireLoops$Chip" "tailLost" "Z", Cond.fieldLink RX0 56 "WireLoops$Chip" "tailsLost" "I", Cond.fieldLink RX0 59 "WireLoops$Chip" "broken" "I", Cond.methodLink RX3 70 yX0_copyFrom, Cond.methodLink RX3 77 yX0_wires, Cond.instanceMethod yX0_wires, Cond.selects RX0 yX0_wires yX0_wires, Cond.code yX0_wires cX0_wires 3 (some .int)]
def wsX3_restore_r3 : List Cond := [Cond.methodLink RX0 69 yX0_hasWire, Cond.instanceMethod yX0_hasWire, Cond.selects RX0 yX0_hasWire yX0_hasWire, Cond.code yX0_hasWire cX0_hasWire 2 (some .boolean), Cond.static yX3_isPad, Cond.code yX3_isPad cX3_isPad 1 (some .boolean)]
def wsX3_restore : List Cond := .code yX3_restore cX3_restore 1 (some .int) :: ((wsX3_restore_r1 ++ (wsX3_restore_r2 ++ wsX3_restore_r3)) ++ wsX30 ++ wsX10 ++ wsX00)
def wsX3_wire_r1 : List Cond := [Cond.fieldLink RX3 10 "WireLoops" "chip" "LWireLoops$Chip;", Cond.methodLink RX3 80 yX0_hasWire, Cond.instanceMethod yX0_hasWire, Cond.selects RX0 yX0_hasWire yX0_hasWire, Cond.initialized RX0, Cond.code yX0_hasWire cX0_hasWire 2 (some .boolean), Cond.fieldLink RX0 15 "WireLoops$Chip" "leadOf" "[I", Cond.static yX3_isPad, Cond.initialized RX3, Cond.code yX3_isPad cX3_isPad 1 (some .boolean), Cond.methodLink RX3 146 yX0_leadAtPad, Cond.instanceMethod yX0_leadAtPad, Cond.selects RX0 yX0_leadAtPad yX0_leadAtPad, Cond.code yX0_leadAtPad cX0_leadAtPad 2 (some .int), Cond.methodLink RX3 87 yX0_heightOf, Cond.instanceMethod yX0_heightOf, Cond.selects RX0 yX0_heightOf yX0_heightOf, Cond.code yX0_heightOf cX0_heightOf 2 (some .int), Cond.fieldLink RX0 18 "WireLoops$Chip" "height" "[I", Cond.methodLink RX3 62 yX0_strengthOf, Cond.instanceMethod yX0_strengthOf, Cond.selects RX0 yX0_strengthOf yX0_strengthOf, Cond.code yX0_strengthOf cX0_strengthOf 2 (some .int), Cond.fieldLink RX0 21 "WireLoops$Chip" "strength" "[I"]
def wsX3_wire_r2 : List Cond := [Cond.methodLink RX3 149 yX0_crossingsOf, Cond.instanceMethod yX0_crossingsOf, Cond.selects RX0 yX0_crossingsOf yX0_crossingsOf, Cond.code yX0_crossingsOf cX0_crossingsOf 4 (some .int), Cond.methodLink RX0 142 yX0_cross, Cond.instanceMethod yX0_cross, Cond.selects RX0 yX0_cross yX0_cross, Cond.code yX0_cross cX0_cross 3 (some .boolean), Cond.methodLink RX0 69 yX0_hasWire, Cond.methodLink RX0 130 yX0_endX, Cond.instanceMethod yX0_endX, Cond.selects RX0 yX0_endX yX0_endX, Cond.code yX0_endX cX0_endX 3 (some .int), Cond.fieldLink RX0 9 "WireLoops$Chip" "leadX" "[I", Cond.methodLink RX3 152 yX0_shortOnes, Cond.instanceMethod yX0_shortOnes, Cond.selects RX0 yX0_shortOnes yX0_shortOnes, Cond.code yX0_shortOnes cX0_shortOnes 5 (some .int), Cond.methodLink RX0 149 yX0_isShort, Cond.instanceMethod yX0_isShort, Cond.selects RX0 yX0_isShort yX0_isShort, Cond.code yX0_isShort cX0_isShort 4 (some .boolean), Cond.fieldLink RX0 33 "WireLoops$Chip" "width" "I", Cond.methodLink RX0 145 yX0_gap]
def wsX3_wire_r3 : List Cond := [Cond.instanceMethod yX0_gap, Cond.selects RX0 yX0_gap yX0_gap, Cond.code yX0_gap cX0_gap 5 (some .int), Cond.methodLink RX0 119 Lib.Math.abs.name, Cond.static Lib.Math.abs.name, Cond.initialized "java/lang/Math", Cond.code Lib.Math.abs.name Lib.Math.abs.code 1 (some .int), Cond.methodLink RX0 133 yX0_crossingY, Cond.instanceMethod yX0_crossingY, Cond.selects RX0 yX0_crossingY yX0_crossingY, Cond.code yX0_crossingY cX0_crossingY 6 (some .int), Cond.static yX3_padX, Cond.code yX3_padX cX3_padX 1 (some .int), Cond.static yX3_loopAt, Cond.code yX3_loopAt cX3_loopAt 2 (some .int), Cond.constant RX3 201 (40000), Cond.methodLink RX0 139 yX0_heightOf, Cond.methodLink RX3 155 yX0_leastGap, Cond.instanceMethod yX0_leastGap, Cond.selects RX0 yX0_leastGap yX0_leastGap, Cond.code yX0_leastGap cX0_leastGap 5 (some .int), Cond.methodLink RX0 153 Lib.Math.min.name, Cond.static Lib.Math.min.name, Cond.code Lib.Math.min.name Lib.Math.min.code 2 (some .int)]
def wsX3_wire_r4 : List Cond := [Cond.methodLink RX3 158 yX0_numberOf, Cond.instanceMethod yX0_numberOf, Cond.selects RX0 yX0_numberOf yX0_numberOf, Cond.code yX0_numberOf cX0_numberOf 2 (some .int), Cond.fieldLink RX0 24 "WireLoops$Chip" "number" "[I"]
def wsX3_wire : List Cond := .code yX3_wire cX3_wire 3 (some .int) :: ((wsX3_wire_r1 ++ (wsX3_wire_r2 ++ (wsX3_wire_r3 ++ wsX3_wire_r4))) ++ wsX30 ++ wsX00)
def wsX3_heightAt : List Cond := .code yX3_heightAt cX3_heightAt 3 (some .int) :: ([.fieldLink RX3 10 "WireLoops" "chip" "LWireLoops$Chip;", .methodLink RX3 80 yX0_hasWire, .instanceMethod yX0_hasWire, .selects RX0 yX0_hasWire yX0_hasWire, .initialized RX0, .code yX0_hasWire cX0_hasWire 2 (some .boolean), .fieldLink RX0 15 "WireLoops$Chip" "leadOf" "[I", .static yX3_isPad, .initialized RX3, .code yX3_isPad cX3_isPad 1 (some .boolean), .methodLink RX3 94 yX3_isWithin, .static yX3_isWithin, .code yX3_isWithin cX3_isWithin 3 (some .boolean), .methodLink RX3 87 yX0_heightOf, .instanceMethod yX0_heightOf, .selects RX0 yX0_heightOf yX0_heightOf, .code yX0_heightOf cX0_heightOf 2 (some .int), .fieldLink RX0 18 "WireLoops$Chip" "height" "[I", .methodLink RX3 161 yX3_loopAt, .static yX3_loopAt, .code yX3_loopAt cX3_loopAt 2 (some .int), .constant RX3 201 (40000)] ++ wsX30 ++ wsX00)
def wsX3_crossing_r1 : List Cond := [Cond.fieldLink RX3 10 "WireLoops" "chip" "LWireLoops$Chip;", Cond.methodLink RX3 80 yX0_hasWire, Cond.instanceMethod yX0_hasWire, Cond.selects RX0 yX0_hasWire yX0_hasWire, Cond.initialized RX0, Cond.code yX0_hasWire cX0_hasWire 2 (some .boolean), Cond.fieldLink RX0 15 "WireLoops$Chip" "leadOf" "[I", Cond.static yX3_isPad, Cond.initialized RX3, Cond.code yX3_isPad cX3_isPad 1 (some .boolean), Cond.methodLink RX3 94 yX3_isWithin, Cond.static yX3_isWithin, Cond.code yX3_isWithin cX3_isWithin 3 (some .boolean), Cond.methodLink RX3 164 yX0_cross, Cond.instanceMethod yX0_cross, Cond.selects RX0 yX0_cross yX0_cross, Cond.code yX0_cross cX0_cross 3 (some .boolean), Cond.methodLink RX0 69 yX0_hasWire, Cond.methodLink RX0 130 yX0_endX, Cond.instanceMethod yX0_endX, Cond.selects RX0 yX0_endX yX0_endX, Cond.code yX0_endX cX0_endX 3 (some .int), Cond.fieldLink RX0 9 "WireLoops$Chip" "leadX" "[I", Cond.methodLink RX3 167 yX0_crossingY]
def wsX3_crossing_r2 : List Cond := [Cond.instanceMethod yX0_crossingY, Cond.selects RX0 yX0_crossingY yX0_crossingY, Cond.code yX0_crossingY cX0_crossingY 6 (some .int), Cond.methodLink RX0 119 Lib.Math.abs.name, Cond.static Lib.Math.abs.name, Cond.initialized "java/lang/Math", Cond.code Lib.Math.abs.name Lib.Math.abs.code 1 (some .int), Cond.static yX3_padX, Cond.code yX3_padX cX3_padX 1 (some .int), Cond.methodLink RX3 87 yX0_heightOf, Cond.instanceMethod yX0_heightOf, Cond.selects RX0 yX0_heightOf yX0_heightOf, Cond.code yX0_heightOf cX0_heightOf 2 (some .int), Cond.fieldLink RX0 18 "WireLoops$Chip" "height" "[I", Cond.methodLink RX3 170 yX0_gap, Cond.instanceMethod yX0_gap, Cond.selects RX0 yX0_gap yX0_gap, Cond.code yX0_gap cX0_gap 5 (some .int), Cond.methodLink RX0 133 yX0_crossingY, Cond.static yX3_loopAt, Cond.code yX3_loopAt cX3_loopAt 2 (some .int), Cond.constant RX3 201 (40000), Cond.methodLink RX0 139 yX0_heightOf, Cond.methodLink RX3 174 yX0_isShort]
def wsX3_crossing_r3 : List Cond := [Cond.instanceMethod yX0_isShort, Cond.selects RX0 yX0_isShort yX0_isShort, Cond.code yX0_isShort cX0_isShort 4 (some .boolean), Cond.fieldLink RX0 33 "WireLoops$Chip" "width" "I", Cond.methodLink RX0 142 yX0_cross, Cond.methodLink RX0 145 yX0_gap]
def wsX3_crossing : List Cond := .code yX3_crossing cX3_crossing 4 (some .int) :: ((wsX3_crossing_r1 ++ (wsX3_crossing_r2 ++ wsX3_crossing_r3)) ++ wsX30 ++ wsX00)
def wsX3_lead : List Cond := .code yX3_lead cX3_lead 3 (some .int) :: ([.fieldLink RX3 10 "WireLoops" "chip" "LWireLoops$Chip;", .methodLink RX3 44 yX3_isLead, .static yX3_isLead, .initialized RX3, .code yX3_isLead cX3_isLead 1 (some .boolean), .methodLink RX3 101 yX0_xOfLead, .instanceMethod yX0_xOfLead, .selects RX0 yX0_xOfLead yX0_xOfLead, .initialized RX0, .code yX0_xOfLead cX0_xOfLead 2 (some .int), .fieldLink RX0 9 "WireLoops$Chip" "leadX" "[I", .methodLink RX3 98 yX0_padAtLead, .instanceMethod yX0_padAtLead, .selects RX0 yX0_padAtLead yX0_padAtLead, .code yX0_padAtLead cX0_padAtLead 3 (some .int), .fieldLink RX0 15 "WireLoops$Chip" "leadOf" "[I", .methodLink RX0 69 yX0_hasWire, .instanceMethod yX0_hasWire, .selects RX0 yX0_hasWire yX0_hasWire, .code yX0_hasWire cX0_hasWire 2 (some .boolean), .static yX3_isPad, .code yX3_isPad cX3_isPad 1 (some .boolean)] ++ wsX30 ++ wsX00)
def wsX3_bestHeight_r1 : List Cond := [Cond.fieldLink RX3 10 "WireLoops" "chip" "LWireLoops$Chip;", Cond.methodLink RX3 80 yX0_hasWire, Cond.instanceMethod yX0_hasWire, Cond.selects RX0 yX0_hasWire yX0_hasWire, Cond.initialized RX0, Cond.code yX0_hasWire cX0_hasWire 2 (some .boolean), Cond.fieldLink RX0 15 "WireLoops$Chip" "leadOf" "[I", Cond.static yX3_isPad, Cond.initialized RX3, Cond.code yX3_isPad cX3_isPad 1 (some .boolean), Cond.methodLink RX3 94 yX3_isWithin, Cond.static yX3_isWithin, Cond.code yX3_isWithin cX3_isWithin 3 (some .boolean), Cond.methodLink RX3 177 yX0_clearestHeight, Cond.instanceMethod yX0_clearestHeight, Cond.selects RX0 yX0_clearestHeight yX0_clearestHeight, Cond.code yX0_clearestHeight cX0_clearestHeight 6 (some .int), Cond.methodLink RX0 156 yX0_shortOnes, Cond.instanceMethod yX0_shortOnes, Cond.selects RX0 yX0_shortOnes yX0_shortOnes, Cond.code yX0_shortOnes cX0_shortOnes 5 (some .int), Cond.methodLink RX0 149 yX0_isShort, Cond.instanceMethod yX0_isShort, Cond.selects RX0 yX0_isShort yX0_isShort]
def wsX3_bestHeight_r2 : List Cond := [Cond.code yX0_isShort cX0_isShort 4 (some .boolean), Cond.fieldLink RX0 33 "WireLoops$Chip" "width" "I", Cond.methodLink RX0 142 yX0_cross, Cond.instanceMethod yX0_cross, Cond.selects RX0 yX0_cross yX0_cross, Cond.code yX0_cross cX0_cross 3 (some .boolean), Cond.methodLink RX0 69 yX0_hasWire, Cond.methodLink RX0 130 yX0_endX, Cond.instanceMethod yX0_endX, Cond.selects RX0 yX0_endX yX0_endX, Cond.code yX0_endX cX0_endX 3 (some .int), Cond.fieldLink RX0 9 "WireLoops$Chip" "leadX" "[I", Cond.methodLink RX0 145 yX0_gap, Cond.instanceMethod yX0_gap, Cond.selects RX0 yX0_gap yX0_gap, Cond.code yX0_gap cX0_gap 5 (some .int), Cond.methodLink RX0 119 Lib.Math.abs.name, Cond.static Lib.Math.abs.name, Cond.initialized "java/lang/Math", Cond.code Lib.Math.abs.name Lib.Math.abs.code 1 (some .int), Cond.methodLink RX0 133 yX0_crossingY, Cond.instanceMethod yX0_crossingY, Cond.selects RX0 yX0_crossingY yX0_crossingY, Cond.code yX0_crossingY cX0_crossingY 6 (some .int)]
def wsX3_bestHeight_r3 : List Cond := [Cond.static yX3_padX, Cond.code yX3_padX cX3_padX 1 (some .int), Cond.static yX3_loopAt, Cond.code yX3_loopAt cX3_loopAt 2 (some .int), Cond.constant RX3 201 (40000), Cond.methodLink RX0 139 yX0_heightOf, Cond.instanceMethod yX0_heightOf, Cond.selects RX0 yX0_heightOf yX0_heightOf, Cond.code yX0_heightOf cX0_heightOf 2 (some .int), Cond.fieldLink RX0 18 "WireLoops$Chip" "height" "[I", Cond.methodLink RX3 152 yX0_shortOnes]
def wsX3_bestHeight : List Cond := .code yX3_bestHeight cX3_bestHeight 4 (some .int) :: ((wsX3_bestHeight_r1 ++ (wsX3_bestHeight_r2 ++ wsX3_bestHeight_r3)) ++ wsX30 ++ wsX00)
def wsX3_laysLeft : List Cond := .code yX3_laysLeft cX3_laysLeft 2 (some .int) :: ([.fieldLink RX3 10 "WireLoops" "chip" "LWireLoops$Chip;", .methodLink RX3 47 yX3_isHeight, .static yX3_isHeight, .initialized RX3, .code yX3_isHeight cX3_isHeight 1 (some .boolean), .methodLink RX3 94 yX3_isWithin, .static yX3_isWithin, .code yX3_isWithin cX3_isWithin 3 (some .boolean), .methodLink RX3 180 yX0_laysUntilStop, .instanceMethod yX0_laysUntilStop, .selects RX0 yX0_laysUntilStop yX0_laysUntilStop, .initialized RX0, .code yX0_laysUntilStop cX0_laysUntilStop 5 (some .int), .fieldLink RX0 46 "WireLoops$Chip" "wear" "I", .fieldLink RX0 52 "WireLoops$Chip" "tailLost" "Z", .fieldLink RX0 43 "WireLoops$Chip" "laid" "I", .methodLink RX0 80 yX0_wearOfLaying, .static yX0_wearOfLaying, .code yX0_wearOfLaying cX0_wearOfLaying 1 (some .int), .methodLink RX0 83 yX0_losesTail, .static yX0_losesTail, .code yX0_losesTail cX0_losesTail 1 (some .boolean)] ++ wsX30 ++ wsX00)
def wsX3_count_r1 : List Cond := [Cond.fieldLink RX3 10 "WireLoops" "chip" "LWireLoops$Chip;", Cond.fieldLink RX3 29 "WireLoops" "history" "LWireLoops$History;", Cond.fieldLink RX3 36 "WireLoops" "text" "LWireLoops$WireList;", Cond.methodLink RX3 77 yX0_wires, Cond.instanceMethod yX0_wires, Cond.selects RX0 yX0_wires yX0_wires, Cond.initialized RX0, Cond.code yX0_wires cX0_wires 3 (some .int), Cond.methodLink RX0 69 yX0_hasWire, Cond.instanceMethod yX0_hasWire, Cond.selects RX0 yX0_hasWire yX0_hasWire, Cond.code yX0_hasWire cX0_hasWire 2 (some .boolean), Cond.fieldLink RX0 15 "WireLoops$Chip" "leadOf" "[I", Cond.static yX3_isPad, Cond.initialized RX3, Cond.code yX3_isPad cX3_isPad 1 (some .boolean), Cond.methodLink RX3 186 yX0_allCrossings, Cond.instanceMethod yX0_allCrossings, Cond.selects RX0 yX0_allCrossings yX0_allCrossings, Cond.code yX0_allCrossings cX0_allCrossings 4 (some .int), Cond.methodLink RX0 142 yX0_cross, Cond.instanceMethod yX0_cross, Cond.selects RX0 yX0_cross yX0_cross, Cond.code yX0_cross cX0_cross 3 (some .boolean)]
def wsX3_count_r2 : List Cond := [Cond.methodLink RX0 130 yX0_endX, Cond.instanceMethod yX0_endX, Cond.selects RX0 yX0_endX yX0_endX, Cond.code yX0_endX cX0_endX 3 (some .int), Cond.fieldLink RX0 9 "WireLoops$Chip" "leadX" "[I", Cond.methodLink RX3 189 yX0_allShortOnes, Cond.instanceMethod yX0_allShortOnes, Cond.selects RX0 yX0_allShortOnes yX0_allShortOnes, Cond.code yX0_allShortOnes cX0_allShortOnes 4 (some .int), Cond.methodLink RX0 139 yX0_heightOf, Cond.instanceMethod yX0_heightOf, Cond.selects RX0 yX0_heightOf yX0_heightOf, Cond.code yX0_heightOf cX0_heightOf 2 (some .int), Cond.fieldLink RX0 18 "WireLoops$Chip" "height" "[I", Cond.methodLink RX0 149 yX0_isShort, Cond.instanceMethod yX0_isShort, Cond.selects RX0 yX0_isShort yX0_isShort, Cond.code yX0_isShort cX0_isShort 4 (some .boolean), Cond.fieldLink RX0 33 "WireLoops$Chip" "width" "I", Cond.methodLink RX0 145 yX0_gap, Cond.instanceMethod yX0_gap, Cond.selects RX0 yX0_gap yX0_gap, Cond.code yX0_gap cX0_gap 5 (some .int), Cond.methodLink RX0 119 Lib.Math.abs.name]
def wsX3_count_r3 : List Cond := [Cond.static Lib.Math.abs.name, Cond.initialized "java/lang/Math", Cond.code Lib.Math.abs.name Lib.Math.abs.code 1 (some .int), Cond.methodLink RX0 133 yX0_crossingY, Cond.instanceMethod yX0_crossingY, Cond.selects RX0 yX0_crossingY yX0_crossingY, Cond.code yX0_crossingY cX0_crossingY 6 (some .int), Cond.static yX3_padX, Cond.code yX3_padX cX3_padX 1 (some .int), Cond.static yX3_loopAt, Cond.code yX3_loopAt cX3_loopAt 2 (some .int), Cond.constant RX3 201 (40000), Cond.methodLink RX3 195 yX0_weakestPad, Cond.instanceMethod yX0_weakestPad, Cond.selects RX0 yX0_weakestPad yX0_weakestPad, Cond.code yX0_weakestPad cX0_weakestPad 3 (some .int), Cond.fieldLink RX0 21 "WireLoops$Chip" "strength" "[I", Cond.methodLink RX0 159 yX0_strengthOf, Cond.instanceMethod yX0_strengthOf, Cond.selects RX0 yX0_strengthOf yX0_strengthOf, Cond.code yX0_strengthOf cX0_strengthOf 2 (some .int), Cond.methodLink RX3 198 yX0_allStrengths, Cond.instanceMethod yX0_allStrengths, Cond.selects RX0 yX0_allStrengths yX0_allStrengths]
def wsX3_count_r4 : List Cond := [Cond.code yX0_allStrengths cX0_allStrengths 3 (some .int), Cond.methodLink RX3 140 yX1_states, Cond.instanceMethod yX1_states, Cond.selects RX1 yX1_states yX1_states, Cond.initialized RX1, Cond.code yX1_states cX1_states 1 (some .int), Cond.fieldLink RX1 18 "WireLoops$History" "states" "I", Cond.methodLink RX3 134 yX2_length, Cond.instanceMethod yX2_length, Cond.selects RX2 yX2_length yX2_length, Cond.initialized RX2, Cond.code yX2_length cX2_length 1 (some .int), Cond.fieldLink RX2 25 "WireLoops$WireList" "length" "I"]
def wsX3_count : List Cond := .code yX3_count cX3_count 2 (some .int) :: ((wsX3_count_r1 ++ (wsX3_count_r2 ++ (wsX3_count_r3 ++ wsX3_count_r4))) ++ wsX30 ++ wsX00 ++ wsX10 ++ wsX20)
def wsX4_init : List Cond := .code yX4_init cX4_init 2 none :: ([.methodLink RX4 1 objectInit, .instanceMethod objectInit, .code objectInit ⟨#[0xb1]⟩ 1 none, .arrayClass .int, .fieldLink RX4 7 "WireLoopsModel" "now" "[I", .fieldLink RX4 13 "WireLoopsModel" "then" "[I", .fieldLink RX4 16 "WireLoopsModel" "past" "[I", .fieldLink RX4 19 "WireLoopsModel" "snapshot" "[I", .arrayClass .char, .fieldLink RX4 22 "WireLoopsModel" "text" "[C", .fieldLink RX4 26 "WireLoopsModel" "told" "[I"] ++ wsX40)
def wsX4_in : List Cond := .code yX4_in cX4_in 3 (some .boolean) :: ([])
def wsX4_lays : List Cond := .code yX4_lays cX4_lays 5 none :: ([])
def wsX4_records : List Cond := .code yX4_records cX4_records 2 none :: ([.fieldLink RX4 29 "WireLoopsModel" "states" "I", .fieldLink RX4 16 "WireLoopsModel" "past" "[I", .fieldLink RX4 7 "WireLoopsModel" "now" "[I", .methodLink RX4 33 yX4_lays, .static yX4_lays, .initialized RX4, .code yX4_lays cX4_lays 5 none] ++ wsX40)
def wsX4_isPad : List Cond := .code yX4_isPad cX4_isPad 1 (some .boolean) :: ([.methodLink RX4 37 yX4_in, .static yX4_in, .initialized RX4, .code yX4_in cX4_in 3 (some .boolean)])
def wsX4_isLead : List Cond := .code yX4_isLead cX4_isLead 1 (some .boolean) :: ([.methodLink RX4 37 yX4_in, .static yX4_in, .initialized RX4, .code yX4_in cX4_in 3 (some .boolean)])
def wsX4_isHeight : List Cond := .code yX4_isHeight cX4_isHeight 1 (some .boolean) :: ([.methodLink RX4 37 yX4_in, .static yX4_in, .initialized RX4, .code yX4_in cX4_in 3 (some .boolean)])
def wsX4_of : List Cond := .code yX4_of cX4_of 3 (some .int) :: ([])
def wsX4_hasWire : List Cond := .code yX4_hasWire cX4_hasWire 2 (some .boolean) :: ([.fieldLink RX4 7 "WireLoopsModel" "now" "[I", .methodLink RX4 41 yX4_isPad, .static yX4_isPad, .initialized RX4, .code yX4_isPad cX4_isPad 1 (some .boolean), .methodLink RX4 37 yX4_in, .static yX4_in, .code yX4_in cX4_in 3 (some .boolean), .methodLink RX4 45 yX4_of, .static yX4_of, .code yX4_of cX4_of 3 (some .int)] ++ wsX40)
def wsX4_padOf : List Cond := .code yX4_padOf cX4_padOf 4 (some .int) :: ([.methodLink RX4 45 yX4_of, .static yX4_of, .initialized RX4, .code yX4_of cX4_of 3 (some .int)])
def wsX4_wires : List Cond := .code yX4_wires cX4_wires 3 (some .int) :: ([.methodLink RX4 49 yX4_hasWire, .instanceMethod yX4_hasWire, .selects RX4 yX4_hasWire yX4_hasWire, .initialized RX4, .code yX4_hasWire cX4_hasWire 2 (some .boolean), .fieldLink RX4 7 "WireLoopsModel" "now" "[I", .methodLink RX4 41 yX4_isPad, .static yX4_isPad, .code yX4_isPad cX4_isPad 1 (some .boolean), .methodLink RX4 37 yX4_in, .static yX4_in, .code yX4_in cX4_in 3 (some .boolean), .methodLink RX4 45 yX4_of, .static yX4_of, .code yX4_of cX4_of 3 (some .int)] ++ wsX40)
def wsX4_padX : List Cond := .code yX4_padX cX4_padX 1 (some .int) :: ([])
def wsX4_apart : List Cond := .code yX4_apart cX4_apart 2 (some .int) :: ([])
def wsX4_mayLay : List Cond := .code yX4_mayLay cX4_mayLay 3 (some .int) :: ([.methodLink RX4 45 yX4_of, .static yX4_of, .initialized RX4, .code yX4_of cX4_of 3 (some .int), .methodLink RX4 52 yX4_padOf, .static yX4_padOf, .code yX4_padOf cX4_padOf 4 (some .int)])
def wsX4_strengthFor : List Cond := .code yX4_strengthFor cX4_strengthFor 5 (some .int) :: ([.methodLink RX4 56 yX4_padX, .static yX4_padX, .initialized RX4, .code yX4_padX cX4_padX 1 (some .int), .methodLink RX4 60 yX4_apart, .static yX4_apart, .code yX4_apart cX4_apart 2 (some .int)])
def wsX4_laid : List Cond := .code yX4_laid cX4_laid 7 (some .int) :: ([.methodLink RX4 64 yX4_strengthFor, .static yX4_strengthFor, .initialized RX4, .code yX4_strengthFor cX4_strengthFor 5 (some .int), .methodLink RX4 56 yX4_padX, .static yX4_padX, .code yX4_padX cX4_padX 1 (some .int), .methodLink RX4 60 yX4_apart, .static yX4_apart, .code yX4_apart cX4_apart 2 (some .int)])
def wsX4_goes : List Cond := .code yX4_goes cX4_goes 3 none :: ([.fieldLink RX4 7 "WireLoopsModel" "now" "[I"] ++ wsX40)
def wsX4_lay_r1 : List Cond := [Cond.fieldLink RX4 7 "WireLoopsModel" "now" "[I", Cond.methodLink RX4 41 yX4_isPad, Cond.static yX4_isPad, Cond.initialized RX4, Cond.code yX4_isPad cX4_isPad 1 (some .boolean), Cond.methodLink RX4 37 yX4_in, Cond.static yX4_in, Cond.code yX4_in cX4_in 3 (some .boolean), Cond.methodLink RX4 67 yX4_isLead, Cond.static yX4_isLead, Cond.code yX4_isLead cX4_isLead 1 (some .boolean), Cond.methodLink RX4 70 yX4_isHeight, Cond.static yX4_isHeight, Cond.code yX4_isHeight cX4_isHeight 1 (some .boolean), Cond.methodLink RX4 73 yX4_mayLay, Cond.static yX4_mayLay, Cond.code yX4_mayLay cX4_mayLay 3 (some .int), Cond.methodLink RX4 45 yX4_of, Cond.static yX4_of, Cond.code yX4_of cX4_of 3 (some .int), Cond.methodLink RX4 52 yX4_padOf, Cond.static yX4_padOf, Cond.code yX4_padOf cX4_padOf 4 (some .int), Cond.methodLink RX4 76 yX4_records]
def wsX4_lay_r2 : List Cond := [Cond.instanceMethod yX4_records, Cond.selects RX4 yX4_records yX4_records, Cond.code yX4_records cX4_records 2 none, Cond.fieldLink RX4 29 "WireLoopsModel" "states" "I", Cond.fieldLink RX4 16 "WireLoopsModel" "past" "[I", Cond.methodLink RX4 33 yX4_lays, Cond.static yX4_lays, Cond.code yX4_lays cX4_lays 5 none, Cond.methodLink RX4 79 yX4_laid, Cond.static yX4_laid, Cond.code yX4_laid cX4_laid 7 (some .int), Cond.methodLink RX4 64 yX4_strengthFor, Cond.static yX4_strengthFor, Cond.code yX4_strengthFor cX4_strengthFor 5 (some .int), Cond.methodLink RX4 56 yX4_padX, Cond.static yX4_padX, Cond.code yX4_padX cX4_padX 1 (some .int), Cond.methodLink RX4 60 yX4_apart, Cond.static yX4_apart, Cond.code yX4_apart cX4_apart 2 (some .int)]
def wsX4_lay : List Cond := .code yX4_lay cX4_lay 5 (some .int) :: ((wsX4_lay_r1 ++ wsX4_lay_r2) ++ wsX40)
def wsX4_sees : List Cond := .code yX4_sees cX4_sees 3 (some .boolean) :: ([.fieldLink RX4 121 "WireLoopsModel" "spot" "I", .fieldLink RX4 118 "WireLoopsModel" "length" "I", .fieldLink RX4 22 "WireLoopsModel" "text" "[C", .methodLink RX4 37 yX4_in, .static yX4_in, .initialized RX4, .code yX4_in cX4_in 3 (some .boolean)] ++ wsX40)
def wsX4_isNumber : List Cond := .code yX4_isNumber cX4_isNumber 5 (some .boolean) :: ([.fieldLink RX4 22 "WireLoopsModel" "text" "[C", .fieldLink RX4 121 "WireLoopsModel" "spot" "I", .fieldLink RX4 26 "WireLoopsModel" "told" "[I", .fieldLink RX4 87 "WireLoopsModel" "toldMany" "I", .methodLink RX4 124 yX4_sees, .instanceMethod yX4_sees, .selects RX4 yX4_sees yX4_sees, .initialized RX4, .code yX4_sees cX4_sees 3 (some .boolean), .fieldLink RX4 118 "WireLoopsModel" "length" "I", .methodLink RX4 37 yX4_in, .static yX4_in, .code yX4_in cX4_in 3 (some .boolean)] ++ wsX40)
def wsX4_takes : List Cond := .code yX4_takes cX4_takes 3 (some .boolean) :: ([.fieldLink RX4 121 "WireLoopsModel" "spot" "I", .methodLink RX4 124 yX4_sees, .instanceMethod yX4_sees, .selects RX4 yX4_sees yX4_sees, .initialized RX4, .code yX4_sees cX4_sees 3 (some .boolean), .fieldLink RX4 118 "WireLoopsModel" "length" "I", .fieldLink RX4 22 "WireLoopsModel" "text" "[C", .methodLink RX4 37 yX4_in, .static yX4_in, .code yX4_in cX4_in 3 (some .boolean)] ++ wsX40)
def wsX4_isWire : List Cond := .code yX4_isWire cX4_isWire 2 (some .boolean) :: ([.fieldLink RX4 26 "WireLoopsModel" "told" "[I", .fieldLink RX4 87 "WireLoopsModel" "toldMany" "I", .methodLink RX4 127 yX4_isNumber, .instanceMethod yX4_isNumber, .selects RX4 yX4_isNumber yX4_isNumber, .initialized RX4, .code yX4_isNumber cX4_isNumber 5 (some .boolean), .fieldLink RX4 22 "WireLoopsModel" "text" "[C", .fieldLink RX4 121 "WireLoopsModel" "spot" "I", .methodLink RX4 124 yX4_sees, .instanceMethod yX4_sees, .selects RX4 yX4_sees yX4_sees, .code yX4_sees cX4_sees 3 (some .boolean), .fieldLink RX4 118 "WireLoopsModel" "length" "I", .methodLink RX4 37 yX4_in, .static yX4_in, .code yX4_in cX4_in 3 (some .boolean), .methodLink RX4 130 yX4_takes, .instanceMethod yX4_takes, .selects RX4 yX4_takes yX4_takes, .code yX4_takes cX4_takes 3 (some .boolean)] ++ wsX40)
def wsX4_fault_r1 : List Cond := [Cond.fieldLink RX4 121 "WireLoopsModel" "spot" "I", Cond.fieldLink RX4 87 "WireLoopsModel" "toldMany" "I", Cond.fieldLink RX4 118 "WireLoopsModel" "length" "I", Cond.methodLink RX4 133 yX4_isWire, Cond.instanceMethod yX4_isWire, Cond.selects RX4 yX4_isWire yX4_isWire, Cond.initialized RX4, Cond.code yX4_isWire cX4_isWire 2 (some .boolean), Cond.fieldLink RX4 26 "WireLoopsModel" "told" "[I", Cond.methodLink RX4 127 yX4_isNumber, Cond.instanceMethod yX4_isNumber, Cond.selects RX4 yX4_isNumber yX4_isNumber, Cond.code yX4_isNumber cX4_isNumber 5 (some .boolean), Cond.fieldLink RX4 22 "WireLoopsModel" "text" "[C", Cond.methodLink RX4 124 yX4_sees, Cond.instanceMethod yX4_sees, Cond.selects RX4 yX4_sees yX4_sees, Cond.code yX4_sees cX4_sees 3 (some .boolean), Cond.methodLink RX4 37 yX4_in, Cond.static yX4_in, Cond.code yX4_in cX4_in 3 (some .boolean), Cond.methodLink RX4 130 yX4_takes, Cond.instanceMethod yX4_takes, Cond.selects RX4 yX4_takes yX4_takes]
def wsX4_fault_r2 : List Cond := [Cond.code yX4_takes cX4_takes 3 (some .boolean)]
def wsX4_fault : List Cond := .code yX4_fault cX4_fault 2 (some .int) :: ((wsX4_fault_r1 ++ wsX4_fault_r2) ++ wsX40)
def wsX4_layAll_r1 : List Cond := [Cond.fieldLink RX4 7 "WireLoopsModel" "now" "[I", Cond.fieldLink RX4 13 "WireLoopsModel" "then" "[I", Cond.fieldLink RX4 87 "WireLoopsModel" "toldMany" "I", Cond.fieldLink RX4 26 "WireLoopsModel" "told" "[I", Cond.methodLink RX4 83 yX4_fault, Cond.instanceMethod yX4_fault, Cond.selects RX4 yX4_fault yX4_fault, Cond.initialized RX4, Cond.code yX4_fault cX4_fault 2 (some .int), Cond.fieldLink RX4 121 "WireLoopsModel" "spot" "I", Cond.fieldLink RX4 118 "WireLoopsModel" "length" "I", Cond.methodLink RX4 133 yX4_isWire, Cond.instanceMethod yX4_isWire, Cond.selects RX4 yX4_isWire yX4_isWire, Cond.code yX4_isWire cX4_isWire 2 (some .boolean), Cond.methodLink RX4 127 yX4_isNumber, Cond.instanceMethod yX4_isNumber, Cond.selects RX4 yX4_isNumber yX4_isNumber, Cond.code yX4_isNumber cX4_isNumber 5 (some .boolean), Cond.fieldLink RX4 22 "WireLoopsModel" "text" "[C", Cond.methodLink RX4 124 yX4_sees, Cond.instanceMethod yX4_sees, Cond.selects RX4 yX4_sees yX4_sees, Cond.code yX4_sees cX4_sees 3 (some .boolean)]
def wsX4_layAll_r2 : List Cond := [Cond.methodLink RX4 37 yX4_in, Cond.static yX4_in, Cond.code yX4_in cX4_in 3 (some .boolean), Cond.methodLink RX4 130 yX4_takes, Cond.instanceMethod yX4_takes, Cond.selects RX4 yX4_takes yX4_takes, Cond.code yX4_takes cX4_takes 3 (some .boolean), Cond.methodLink RX4 33 yX4_lays, Cond.static yX4_lays, Cond.code yX4_lays cX4_lays 5 none, Cond.methodLink RX4 73 yX4_mayLay, Cond.static yX4_mayLay, Cond.code yX4_mayLay cX4_mayLay 3 (some .int), Cond.methodLink RX4 45 yX4_of, Cond.static yX4_of, Cond.code yX4_of cX4_of 3 (some .int), Cond.methodLink RX4 52 yX4_padOf, Cond.static yX4_padOf, Cond.code yX4_padOf cX4_padOf 4 (some .int), Cond.methodLink RX4 79 yX4_laid, Cond.static yX4_laid, Cond.code yX4_laid cX4_laid 7 (some .int), Cond.methodLink RX4 64 yX4_strengthFor, Cond.static yX4_strengthFor]
def wsX4_layAll_r3 : List Cond := [Cond.code yX4_strengthFor cX4_strengthFor 5 (some .int), Cond.methodLink RX4 56 yX4_padX, Cond.static yX4_padX, Cond.code yX4_padX cX4_padX 1 (some .int), Cond.methodLink RX4 60 yX4_apart, Cond.static yX4_apart, Cond.code yX4_apart cX4_apart 2 (some .int), Cond.methodLink RX4 76 yX4_records, Cond.instanceMethod yX4_records, Cond.selects RX4 yX4_records yX4_records, Cond.code yX4_records cX4_records 2 none, Cond.fieldLink RX4 29 "WireLoopsModel" "states" "I", Cond.fieldLink RX4 16 "WireLoopsModel" "past" "[I", Cond.methodLink RX4 90 yX4_wires, Cond.instanceMethod yX4_wires, Cond.selects RX4 yX4_wires yX4_wires, Cond.code yX4_wires cX4_wires 3 (some .int), Cond.methodLink RX4 49 yX4_hasWire, Cond.instanceMethod yX4_hasWire, Cond.selects RX4 yX4_hasWire yX4_hasWire, Cond.code yX4_hasWire cX4_hasWire 2 (some .boolean), Cond.methodLink RX4 41 yX4_isPad, Cond.static yX4_isPad, Cond.code yX4_isPad cX4_isPad 1 (some .boolean)]
def wsX4_layAll : List Cond := .code yX4_layAll cX4_layAll 4 (some .int) :: ((wsX4_layAll_r1 ++ (wsX4_layAll_r2 ++ wsX4_layAll_r3)) ++ wsX40)
def wsX4_takeOff_r1 : List Cond := [Cond.fieldLink RX4 7 "WireLoopsModel" "now" "[I", Cond.methodLink RX4 49 yX4_hasWire, Cond.instanceMethod yX4_hasWire, Cond.selects RX4 yX4_hasWire yX4_hasWire, Cond.initialized RX4, Cond.code yX4_hasWire cX4_hasWire 2 (some .boolean), Cond.methodLink RX4 41 yX4_isPad, Cond.static yX4_isPad, Cond.code yX4_isPad cX4_isPad 1 (some .boolean), Cond.methodLink RX4 37 yX4_in, Cond.static yX4_in, Cond.code yX4_in cX4_in 3 (some .boolean), Cond.methodLink RX4 45 yX4_of, Cond.static yX4_of, Cond.code yX4_of cX4_of 3 (some .int), Cond.methodLink RX4 76 yX4_records, Cond.instanceMethod yX4_records, Cond.selects RX4 yX4_records yX4_records, Cond.code yX4_records cX4_records 2 none, Cond.fieldLink RX4 29 "WireLoopsModel" "states" "I", Cond.fieldLink RX4 16 "WireLoopsModel" "past" "[I", Cond.methodLink RX4 33 yX4_lays, Cond.static yX4_lays, Cond.code yX4_lays cX4_lays 5 none]
def wsX4_takeOff_r2 : List Cond := [Cond.methodLink RX4 93 yX4_goes, Cond.instanceMethod yX4_goes, Cond.selects RX4 yX4_goes yX4_goes, Cond.code yX4_goes cX4_goes 3 none]
def wsX4_takeOff : List Cond := .code yX4_takeOff cX4_takeOff 3 (some .int) :: ((wsX4_takeOff_r1 ++ wsX4_takeOff_r2) ++ wsX40)
def wsX4_becomes : List Cond := .code yX4_becomes cX4_becomes 4 (some .int) :: ([.fieldLink RX4 7 "WireLoopsModel" "now" "[I", .methodLink RX4 76 yX4_records, .instanceMethod yX4_records, .selects RX4 yX4_records yX4_records, .initialized RX4, .code yX4_records cX4_records 2 none, .fieldLink RX4 29 "WireLoopsModel" "states" "I", .fieldLink RX4 16 "WireLoopsModel" "past" "[I", .methodLink RX4 33 yX4_lays, .static yX4_lays, .code yX4_lays cX4_lays 5 none] ++ wsX40)
def wsX4_bend_r1 : List Cond := [Cond.methodLink RX4 49 yX4_hasWire, Cond.instanceMethod yX4_hasWire, Cond.selects RX4 yX4_hasWire yX4_hasWire, Cond.initialized RX4, Cond.code yX4_hasWire cX4_hasWire 2 (some .boolean), Cond.fieldLink RX4 7 "WireLoopsModel" "now" "[I", Cond.methodLink RX4 41 yX4_isPad, Cond.static yX4_isPad, Cond.code yX4_isPad cX4_isPad 1 (some .boolean), Cond.methodLink RX4 37 yX4_in, Cond.static yX4_in, Cond.code yX4_in cX4_in 3 (some .boolean), Cond.methodLink RX4 45 yX4_of, Cond.static yX4_of, Cond.code yX4_of cX4_of 3 (some .int), Cond.methodLink RX4 70 yX4_isHeight, Cond.static yX4_isHeight, Cond.code yX4_isHeight cX4_isHeight 1 (some .boolean), Cond.methodLink RX4 97 yX4_becomes, Cond.instanceMethod yX4_becomes, Cond.selects RX4 yX4_becomes yX4_becomes, Cond.code yX4_becomes cX4_becomes 4 (some .int), Cond.methodLink RX4 76 yX4_records, Cond.instanceMethod yX4_records]
def wsX4_bend_r2 : List Cond := [Cond.selects RX4 yX4_records yX4_records, Cond.code yX4_records cX4_records 2 none, Cond.fieldLink RX4 29 "WireLoopsModel" "states" "I", Cond.fieldLink RX4 16 "WireLoopsModel" "past" "[I", Cond.methodLink RX4 33 yX4_lays, Cond.static yX4_lays, Cond.code yX4_lays cX4_lays 5 none]
def wsX4_bend : List Cond := .code yX4_bend cX4_bend 3 (some .int) :: ((wsX4_bend_r1 ++ wsX4_bend_r2) ++ wsX40)
def wsX4_moveLead_r1 : List Cond := [Cond.fieldLink RX4 7 "WireLoopsModel" "now" "[I", Cond.methodLink RX4 67 yX4_isLead, Cond.static yX4_isLead, Cond.initialized RX4, Cond.code yX4_isLead cX4_isLead 1 (some .boolean), Cond.methodLink RX4 37 yX4_in, Cond.static yX4_in, Cond.code yX4_in cX4_in 3 (some .boolean), Cond.methodLink RX4 52 yX4_padOf, Cond.static yX4_padOf, Cond.code yX4_padOf cX4_padOf 4 (some .int), Cond.methodLink RX4 45 yX4_of, Cond.static yX4_of, Cond.code yX4_of cX4_of 3 (some .int), Cond.methodLink RX4 97 yX4_becomes, Cond.instanceMethod yX4_becomes, Cond.selects RX4 yX4_becomes yX4_becomes, Cond.code yX4_becomes cX4_becomes 4 (some .int), Cond.methodLink RX4 76 yX4_records, Cond.instanceMethod yX4_records, Cond.selects RX4 yX4_records yX4_records, Cond.code yX4_records cX4_records 2 none, Cond.fieldLink RX4 29 "WireLoopsModel" "states" "I", Cond.fieldLink RX4 16 "WireLoopsModel" "past" "[I"]
def wsX4_moveLead_r2 : List Cond := [Cond.methodLink RX4 33 yX4_lays, Cond.static yX4_lays, Cond.code yX4_lays cX4_lays 5 none]
def wsX4_moveLead : List Cond := .code yX4_moveLead cX4_moveLead 3 (some .int) :: ((wsX4_moveLead_r1 ++ wsX4_moveLead_r2) ++ wsX40)
def wsX4_setWidth : List Cond := .code yX4_setWidth cX4_setWidth 2 (some .int) :: ([.methodLink RX4 37 yX4_in, .static yX4_in, .initialized RX4, .code yX4_in cX4_in 3 (some .boolean), .methodLink RX4 97 yX4_becomes, .instanceMethod yX4_becomes, .selects RX4 yX4_becomes yX4_becomes, .code yX4_becomes cX4_becomes 4 (some .int), .fieldLink RX4 7 "WireLoopsModel" "now" "[I", .methodLink RX4 76 yX4_records, .instanceMethod yX4_records, .selects RX4 yX4_records yX4_records, .code yX4_records cX4_records 2 none, .fieldLink RX4 29 "WireLoopsModel" "states" "I", .fieldLink RX4 16 "WireLoopsModel" "past" "[I", .methodLink RX4 33 yX4_lays, .static yX4_lays, .code yX4_lays cX4_lays 5 none] ++ wsX40)
def wsX4_changeTool : List Cond := .code yX4_changeTool cX4_changeTool 2 (some .int) :: ([.fieldLink RX4 7 "WireLoopsModel" "now" "[I", .methodLink RX4 76 yX4_records, .instanceMethod yX4_records, .selects RX4 yX4_records yX4_records, .initialized RX4, .code yX4_records cX4_records 2 none, .fieldLink RX4 29 "WireLoopsModel" "states" "I", .fieldLink RX4 16 "WireLoopsModel" "past" "[I", .methodLink RX4 33 yX4_lays, .static yX4_lays, .code yX4_lays cX4_lays 5 none] ++ wsX40)
def wsX4_thread : List Cond := .code yX4_thread cX4_thread 1 (some .int) :: ([.fieldLink RX4 7 "WireLoopsModel" "now" "[I", .methodLink RX4 76 yX4_records, .instanceMethod yX4_records, .selects RX4 yX4_records yX4_records, .initialized RX4, .code yX4_records cX4_records 2 none, .fieldLink RX4 29 "WireLoopsModel" "states" "I", .fieldLink RX4 16 "WireLoopsModel" "past" "[I", .methodLink RX4 33 yX4_lays, .static yX4_lays, .code yX4_lays cX4_lays 5 none] ++ wsX40)
def wsX4_pulls : List Cond := .code yX4_pulls cX4_pulls 4 (some .int) :: ([.fieldLink RX4 7 "WireLoopsModel" "now" "[I", .methodLink RX4 93 yX4_goes, .instanceMethod yX4_goes, .selects RX4 yX4_goes yX4_goes, .initialized RX4, .code yX4_goes cX4_goes 3 none] ++ wsX40)
def wsX4_pull_r1 : List Cond := [Cond.methodLink RX4 49 yX4_hasWire, Cond.instanceMethod yX4_hasWire, Cond.selects RX4 yX4_hasWire yX4_hasWire, Cond.initialized RX4, Cond.code yX4_hasWire cX4_hasWire 2 (some .boolean), Cond.fieldLink RX4 7 "WireLoopsModel" "now" "[I", Cond.methodLink RX4 41 yX4_isPad, Cond.static yX4_isPad, Cond.code yX4_isPad cX4_isPad 1 (some .boolean), Cond.methodLink RX4 37 yX4_in, Cond.static yX4_in, Cond.code yX4_in cX4_in 3 (some .boolean), Cond.methodLink RX4 45 yX4_of, Cond.static yX4_of, Cond.code yX4_of cX4_of 3 (some .int), Cond.methodLink RX4 76 yX4_records, Cond.instanceMethod yX4_records, Cond.selects RX4 yX4_records yX4_records, Cond.code yX4_records cX4_records 2 none, Cond.fieldLink RX4 29 "WireLoopsModel" "states" "I", Cond.fieldLink RX4 16 "WireLoopsModel" "past" "[I", Cond.methodLink RX4 33 yX4_lays, Cond.static yX4_lays, Cond.code yX4_lays cX4_lays 5 none]
def wsX4_pull_r2 : List Cond := [Cond.methodLink RX4 100 yX4_pulls, Cond.instanceMethod yX4_pulls, Cond.selects RX4 yX4_pulls yX4_pulls, Cond.code yX4_pulls cX4_pulls 4 (some .int), Cond.methodLink RX4 93 yX4_goes, Cond.instanceMethod yX4_goes, Cond.selects RX4 yX4_goes yX4_goes, Cond.code yX4_goes cX4_goes 3 none]
def wsX4_pull : List Cond := .code yX4_pull cX4_pull 3 (some .int) :: ((wsX4_pull_r1 ++ wsX4_pull_r2) ++ wsX40)
def wsX4_sample_r1 : List Cond := [Cond.methodLink RX4 37 yX4_in, Cond.static yX4_in, Cond.initialized RX4, Cond.code yX4_in cX4_in 3 (some .boolean), Cond.methodLink RX4 90 yX4_wires, Cond.instanceMethod yX4_wires, Cond.selects RX4 yX4_wires yX4_wires, Cond.code yX4_wires cX4_wires 3 (some .int), Cond.methodLink RX4 49 yX4_hasWire, Cond.instanceMethod yX4_hasWire, Cond.selects RX4 yX4_hasWire yX4_hasWire, Cond.code yX4_hasWire cX4_hasWire 2 (some .boolean), Cond.fieldLink RX4 7 "WireLoopsModel" "now" "[I", Cond.methodLink RX4 41 yX4_isPad, Cond.static yX4_isPad, Cond.code yX4_isPad cX4_isPad 1 (some .boolean), Cond.methodLink RX4 45 yX4_of, Cond.static yX4_of, Cond.code yX4_of cX4_of 3 (some .int), Cond.methodLink RX4 76 yX4_records, Cond.instanceMethod yX4_records, Cond.selects RX4 yX4_records yX4_records, Cond.code yX4_records cX4_records 2 none, Cond.fieldLink RX4 29 "WireLoopsModel" "states" "I"]
def wsX4_sample_r2 : List Cond := [Cond.fieldLink RX4 16 "WireLoopsModel" "past" "[I", Cond.methodLink RX4 33 yX4_lays, Cond.static yX4_lays, Cond.code yX4_lays cX4_lays 5 none, Cond.methodLink RX4 100 yX4_pulls, Cond.instanceMethod yX4_pulls, Cond.selects RX4 yX4_pulls yX4_pulls, Cond.code yX4_pulls cX4_pulls 4 (some .int), Cond.methodLink RX4 93 yX4_goes, Cond.instanceMethod yX4_goes, Cond.selects RX4 yX4_goes yX4_goes, Cond.code yX4_goes cX4_goes 3 none]
def wsX4_sample : List Cond := .code yX4_sample cX4_sample 6 (some .int) :: ((wsX4_sample_r1 ++ wsX4_sample_r2) ++ wsX40)
def wsX4_heightOf : List Cond := .code yX4_heightOf cX4_heightOf 2 (some .int) :: ([.constant RX4 103 (40000)])
def wsX4_crossingY : List Cond := .code yX4_crossingY cX4_crossingY 7 (some .int) :: ([.fieldLink RX4 7 "WireLoopsModel" "now" "[I", .methodLink RX4 45 yX4_of, .static yX4_of, .initialized RX4, .code yX4_of cX4_of 3 (some .int), .methodLink RX4 56 yX4_padX, .static yX4_padX, .code yX4_padX cX4_padX 1 (some .int)] ++ wsX40)
def wsX4_gap : List Cond := .code yX4_gap cX4_gap 5 (some .int) :: ([.fieldLink RX4 7 "WireLoopsModel" "now" "[I", .methodLink RX4 104 yX4_crossingY, .instanceMethod yX4_crossingY, .selects RX4 yX4_crossingY yX4_crossingY, .initialized RX4, .code yX4_crossingY cX4_crossingY 7 (some .int), .methodLink RX4 45 yX4_of, .static yX4_of, .code yX4_of cX4_of 3 (some .int), .methodLink RX4 56 yX4_padX, .static yX4_padX, .code yX4_padX cX4_padX 1 (some .int), .methodLink RX4 107 yX4_heightOf, .static yX4_heightOf, .code yX4_heightOf cX4_heightOf 2 (some .int), .constant RX4 103 (40000), .methodLink RX4 60 yX4_apart, .static yX4_apart, .code yX4_apart cX4_apart 2 (some .int)] ++ wsX40)
def wsX4_cross : List Cond := .code yX4_cross cX4_cross 3 (some .boolean) :: ([.methodLink RX4 49 yX4_hasWire, .instanceMethod yX4_hasWire, .selects RX4 yX4_hasWire yX4_hasWire, .initialized RX4, .code yX4_hasWire cX4_hasWire 2 (some .boolean), .fieldLink RX4 7 "WireLoopsModel" "now" "[I", .methodLink RX4 41 yX4_isPad, .static yX4_isPad, .code yX4_isPad cX4_isPad 1 (some .boolean), .methodLink RX4 37 yX4_in, .static yX4_in, .code yX4_in cX4_in 3 (some .boolean), .methodLink RX4 45 yX4_of, .static yX4_of, .code yX4_of cX4_of 3 (some .int), .methodLink RX4 104 yX4_crossingY, .instanceMethod yX4_crossingY, .selects RX4 yX4_crossingY yX4_crossingY, .code yX4_crossingY cX4_crossingY 7 (some .int), .methodLink RX4 56 yX4_padX, .static yX4_padX, .code yX4_padX cX4_padX 1 (some .int)] ++ wsX40)
def wsX4_crossings_r1 : List Cond := [Cond.methodLink RX4 110 yX4_cross, Cond.instanceMethod yX4_cross, Cond.selects RX4 yX4_cross yX4_cross, Cond.initialized RX4, Cond.code yX4_cross cX4_cross 3 (some .boolean), Cond.methodLink RX4 49 yX4_hasWire, Cond.instanceMethod yX4_hasWire, Cond.selects RX4 yX4_hasWire yX4_hasWire, Cond.code yX4_hasWire cX4_hasWire 2 (some .boolean), Cond.fieldLink RX4 7 "WireLoopsModel" "now" "[I", Cond.methodLink RX4 41 yX4_isPad, Cond.static yX4_isPad, Cond.code yX4_isPad cX4_isPad 1 (some .boolean), Cond.methodLink RX4 37 yX4_in, Cond.static yX4_in, Cond.code yX4_in cX4_in 3 (some .boolean), Cond.methodLink RX4 45 yX4_of, Cond.static yX4_of, Cond.code yX4_of cX4_of 3 (some .int), Cond.methodLink RX4 104 yX4_crossingY, Cond.instanceMethod yX4_crossingY, Cond.selects RX4 yX4_crossingY yX4_crossingY, Cond.code yX4_crossingY cX4_crossingY 7 (some .int), Cond.methodLink RX4 56 yX4_padX]
def wsX4_crossings_r2 : List Cond := [Cond.static yX4_padX, Cond.code yX4_padX cX4_padX 1 (some .int)]
def wsX4_crossings : List Cond := .code yX4_crossings cX4_crossings 4 (some .int) :: ((wsX4_crossings_r1 ++ wsX4_crossings_r2) ++ wsX40)
def wsX4_shortOnes_r1 : List Cond := [Cond.fieldLink RX4 7 "WireLoopsModel" "now" "[I", Cond.methodLink RX4 110 yX4_cross, Cond.instanceMethod yX4_cross, Cond.selects RX4 yX4_cross yX4_cross, Cond.initialized RX4, Cond.code yX4_cross cX4_cross 3 (some .boolean), Cond.methodLink RX4 49 yX4_hasWire, Cond.instanceMethod yX4_hasWire, Cond.selects RX4 yX4_hasWire yX4_hasWire, Cond.code yX4_hasWire cX4_hasWire 2 (some .boolean), Cond.methodLink RX4 41 yX4_isPad, Cond.static yX4_isPad, Cond.code yX4_isPad cX4_isPad 1 (some .boolean), Cond.methodLink RX4 37 yX4_in, Cond.static yX4_in, Cond.code yX4_in cX4_in 3 (some .boolean), Cond.methodLink RX4 45 yX4_of, Cond.static yX4_of, Cond.code yX4_of cX4_of 3 (some .int), Cond.methodLink RX4 104 yX4_crossingY, Cond.instanceMethod yX4_crossingY, Cond.selects RX4 yX4_crossingY yX4_crossingY, Cond.code yX4_crossingY cX4_crossingY 7 (some .int), Cond.methodLink RX4 56 yX4_padX]
def wsX4_shortOnes_r2 : List Cond := [Cond.static yX4_padX, Cond.code yX4_padX cX4_padX 1 (some .int), Cond.methodLink RX4 114 yX4_gap, Cond.instanceMethod yX4_gap, Cond.selects RX4 yX4_gap yX4_gap, Cond.code yX4_gap cX4_gap 5 (some .int), Cond.methodLink RX4 107 yX4_heightOf, Cond.static yX4_heightOf, Cond.code yX4_heightOf cX4_heightOf 2 (some .int), Cond.constant RX4 103 (40000), Cond.methodLink RX4 60 yX4_apart, Cond.static yX4_apart, Cond.code yX4_apart cX4_apart 2 (some .int)]
def wsX4_shortOnes : List Cond := .code yX4_shortOnes cX4_shortOnes 5 (some .int) :: ((wsX4_shortOnes_r1 ++ wsX4_shortOnes_r2) ++ wsX40)
def wsX4_leastGap_r1 : List Cond := [Cond.fieldLink RX4 7 "WireLoopsModel" "now" "[I", Cond.methodLink RX4 110 yX4_cross, Cond.instanceMethod yX4_cross, Cond.selects RX4 yX4_cross yX4_cross, Cond.initialized RX4, Cond.code yX4_cross cX4_cross 3 (some .boolean), Cond.methodLink RX4 49 yX4_hasWire, Cond.instanceMethod yX4_hasWire, Cond.selects RX4 yX4_hasWire yX4_hasWire, Cond.code yX4_hasWire cX4_hasWire 2 (some .boolean), Cond.methodLink RX4 41 yX4_isPad, Cond.static yX4_isPad, Cond.code yX4_isPad cX4_isPad 1 (some .boolean), Cond.methodLink RX4 37 yX4_in, Cond.static yX4_in, Cond.code yX4_in cX4_in 3 (some .boolean), Cond.methodLink RX4 45 yX4_of, Cond.static yX4_of, Cond.code yX4_of cX4_of 3 (some .int), Cond.methodLink RX4 104 yX4_crossingY, Cond.instanceMethod yX4_crossingY, Cond.selects RX4 yX4_crossingY yX4_crossingY, Cond.code yX4_crossingY cX4_crossingY 7 (some .int), Cond.methodLink RX4 56 yX4_padX]
def wsX4_leastGap_r2 : List Cond := [Cond.static yX4_padX, Cond.code yX4_padX cX4_padX 1 (some .int), Cond.methodLink RX4 114 yX4_gap, Cond.instanceMethod yX4_gap, Cond.selects RX4 yX4_gap yX4_gap, Cond.code yX4_gap cX4_gap 5 (some .int), Cond.methodLink RX4 107 yX4_heightOf, Cond.static yX4_heightOf, Cond.code yX4_heightOf cX4_heightOf 2 (some .int), Cond.constant RX4 103 (40000), Cond.methodLink RX4 60 yX4_apart, Cond.static yX4_apart, Cond.code yX4_apart cX4_apart 2 (some .int)]
def wsX4_leastGap : List Cond := .code yX4_leastGap cX4_leastGap 5 (some .int) :: ((wsX4_leastGap_r1 ++ wsX4_leastGap_r2) ++ wsX40)
def wsX4_type : List Cond := .code yX4_type cX4_type 2 (some .int) :: ([.fieldLink RX4 118 "WireLoopsModel" "length" "I", .fieldLink RX4 22 "WireLoopsModel" "text" "[C"] ++ wsX40)
def wsX4_clearText : List Cond := .code yX4_clearText cX4_clearText 2 (some .int) :: ([.fieldLink RX4 118 "WireLoopsModel" "length" "I"] ++ wsX40)
def wsX4_undo : List Cond := .code yX4_undo cX4_undo 1 (some .int) :: ([.fieldLink RX4 29 "WireLoopsModel" "states" "I", .fieldLink RX4 16 "WireLoopsModel" "past" "[I", .fieldLink RX4 7 "WireLoopsModel" "now" "[I", .methodLink RX4 33 yX4_lays, .static yX4_lays, .initialized RX4, .code yX4_lays cX4_lays 5 none] ++ wsX40)
def wsX4_keep : List Cond := .code yX4_keep cX4_keep 1 (some .int) :: ([.fieldLink RX4 7 "WireLoopsModel" "now" "[I", .fieldLink RX4 19 "WireLoopsModel" "snapshot" "[I", .fieldLink RX4 137 "WireLoopsModel" "isKept" "Z", .methodLink RX4 33 yX4_lays, .static yX4_lays, .initialized RX4, .code yX4_lays cX4_lays 5 none, .methodLink RX4 90 yX4_wires, .instanceMethod yX4_wires, .selects RX4 yX4_wires yX4_wires, .code yX4_wires cX4_wires 3 (some .int), .methodLink RX4 49 yX4_hasWire, .instanceMethod yX4_hasWire, .selects RX4 yX4_hasWire yX4_hasWire, .code yX4_hasWire cX4_hasWire 2 (some .boolean), .methodLink RX4 41 yX4_isPad, .static yX4_isPad, .code yX4_isPad cX4_isPad 1 (some .boolean), .methodLink RX4 37 yX4_in, .static yX4_in, .code yX4_in cX4_in 3 (some .boolean), .methodLink RX4 45 yX4_of, .static yX4_of, .code yX4_of cX4_of 3 (some .int)] ++ wsX40)
def wsX4_restore_r1 : List Cond := [Cond.fieldLink RX4 137 "WireLoopsModel" "isKept" "Z", Cond.fieldLink RX4 19 "WireLoopsModel" "snapshot" "[I", Cond.fieldLink RX4 7 "WireLoopsModel" "now" "[I", Cond.methodLink RX4 76 yX4_records, Cond.instanceMethod yX4_records, Cond.selects RX4 yX4_records yX4_records, Cond.initialized RX4, Cond.code yX4_records cX4_records 2 none, Cond.fieldLink RX4 29 "WireLoopsModel" "states" "I", Cond.fieldLink RX4 16 "WireLoopsModel" "past" "[I", Cond.methodLink RX4 33 yX4_lays, Cond.static yX4_lays, Cond.code yX4_lays cX4_lays 5 none, Cond.methodLink RX4 90 yX4_wires, Cond.instanceMethod yX4_wires, Cond.selects RX4 yX4_wires yX4_wires, Cond.code yX4_wires cX4_wires 3 (some .int), Cond.methodLink RX4 49 yX4_hasWire, Cond.instanceMethod yX4_hasWire, Cond.selects RX4 yX4_hasWire yX4_hasWire, Cond.code yX4_hasWire cX4_hasWire 2 (some .boolean), Cond.methodLink RX4 41 yX4_isPad, Cond.static yX4_isPad, Cond.code yX4_isPad cX4_isPad 1 (some .boolean)]
def wsX4_restore_r2 : List Cond := [Cond.methodLink RX4 37 yX4_in, Cond.static yX4_in, Cond.code yX4_in cX4_in 3 (some .boolean), Cond.methodLink RX4 45 yX4_of, Cond.static yX4_of, Cond.code yX4_of cX4_of 3 (some .int)]
def wsX4_restore : List Cond := .code yX4_restore cX4_restore 1 (some .int) :: ((wsX4_restore_r1 ++ wsX4_restore_r2) ++ wsX40)
def wsX4_wire_r1 : List Cond := [Cond.fieldLink RX4 7 "WireLoopsModel" "now" "[I", Cond.methodLink RX4 49 yX4_hasWire, Cond.instanceMethod yX4_hasWire, Cond.selects RX4 yX4_hasWire yX4_hasWire, Cond.initialized RX4, Cond.code yX4_hasWire cX4_hasWire 2 (some .boolean), Cond.methodLink RX4 41 yX4_isPad, Cond.static yX4_isPad, Cond.code yX4_isPad cX4_isPad 1 (some .boolean), Cond.methodLink RX4 37 yX4_in, Cond.static yX4_in, Cond.code yX4_in cX4_in 3 (some .boolean), Cond.methodLink RX4 45 yX4_of, Cond.static yX4_of, Cond.code yX4_of cX4_of 3 (some .int), Cond.methodLink RX4 141 yX4_crossings, Cond.instanceMethod yX4_crossings, Cond.selects RX4 yX4_crossings yX4_crossings, Cond.code yX4_crossings cX4_crossings 4 (some .int), Cond.methodLink RX4 110 yX4_cross, Cond.instanceMethod yX4_cross, Cond.selects RX4 yX4_cross yX4_cross, Cond.code yX4_cross cX4_cross 3 (some .boolean), Cond.methodLink RX4 104 yX4_crossingY]
def wsX4_wire_r2 : List Cond := [Cond.instanceMethod yX4_crossingY, Cond.selects RX4 yX4_crossingY yX4_crossingY, Cond.code yX4_crossingY cX4_crossingY 7 (some .int), Cond.methodLink RX4 56 yX4_padX, Cond.static yX4_padX, Cond.code yX4_padX cX4_padX 1 (some .int), Cond.methodLink RX4 144 yX4_shortOnes, Cond.instanceMethod yX4_shortOnes, Cond.selects RX4 yX4_shortOnes yX4_shortOnes, Cond.code yX4_shortOnes cX4_shortOnes 5 (some .int), Cond.methodLink RX4 114 yX4_gap, Cond.instanceMethod yX4_gap, Cond.selects RX4 yX4_gap yX4_gap, Cond.code yX4_gap cX4_gap 5 (some .int), Cond.methodLink RX4 107 yX4_heightOf, Cond.static yX4_heightOf, Cond.code yX4_heightOf cX4_heightOf 2 (some .int), Cond.constant RX4 103 (40000), Cond.methodLink RX4 60 yX4_apart, Cond.static yX4_apart, Cond.code yX4_apart cX4_apart 2 (some .int), Cond.methodLink RX4 147 yX4_leastGap, Cond.instanceMethod yX4_leastGap, Cond.selects RX4 yX4_leastGap yX4_leastGap]
def wsX4_wire_r3 : List Cond := [Cond.code yX4_leastGap cX4_leastGap 5 (some .int)]
def wsX4_wire : List Cond := .code yX4_wire cX4_wire 3 (some .int) :: ((wsX4_wire_r1 ++ (wsX4_wire_r2 ++ wsX4_wire_r3)) ++ wsX40)
def wsX4_heightAt : List Cond := .code yX4_heightAt cX4_heightAt 3 (some .int) :: ([.fieldLink RX4 7 "WireLoopsModel" "now" "[I", .methodLink RX4 49 yX4_hasWire, .instanceMethod yX4_hasWire, .selects RX4 yX4_hasWire yX4_hasWire, .initialized RX4, .code yX4_hasWire cX4_hasWire 2 (some .boolean), .methodLink RX4 41 yX4_isPad, .static yX4_isPad, .code yX4_isPad cX4_isPad 1 (some .boolean), .methodLink RX4 37 yX4_in, .static yX4_in, .code yX4_in cX4_in 3 (some .boolean), .methodLink RX4 45 yX4_of, .static yX4_of, .code yX4_of cX4_of 3 (some .int), .methodLink RX4 107 yX4_heightOf, .static yX4_heightOf, .code yX4_heightOf cX4_heightOf 2 (some .int), .constant RX4 103 (40000)] ++ wsX40)
def wsX4_crossing_r1 : List Cond := [Cond.fieldLink RX4 7 "WireLoopsModel" "now" "[I", Cond.methodLink RX4 49 yX4_hasWire, Cond.instanceMethod yX4_hasWire, Cond.selects RX4 yX4_hasWire yX4_hasWire, Cond.initialized RX4, Cond.code yX4_hasWire cX4_hasWire 2 (some .boolean), Cond.methodLink RX4 41 yX4_isPad, Cond.static yX4_isPad, Cond.code yX4_isPad cX4_isPad 1 (some .boolean), Cond.methodLink RX4 37 yX4_in, Cond.static yX4_in, Cond.code yX4_in cX4_in 3 (some .boolean), Cond.methodLink RX4 45 yX4_of, Cond.static yX4_of, Cond.code yX4_of cX4_of 3 (some .int), Cond.methodLink RX4 104 yX4_crossingY, Cond.instanceMethod yX4_crossingY, Cond.selects RX4 yX4_crossingY yX4_crossingY, Cond.code yX4_crossingY cX4_crossingY 7 (some .int), Cond.methodLink RX4 56 yX4_padX, Cond.static yX4_padX, Cond.code yX4_padX cX4_padX 1 (some .int), Cond.methodLink RX4 114 yX4_gap, Cond.instanceMethod yX4_gap]
def wsX4_crossing_r2 : List Cond := [Cond.selects RX4 yX4_gap yX4_gap, Cond.code yX4_gap cX4_gap 5 (some .int), Cond.methodLink RX4 107 yX4_heightOf, Cond.static yX4_heightOf, Cond.code yX4_heightOf cX4_heightOf 2 (some .int), Cond.constant RX4 103 (40000), Cond.methodLink RX4 60 yX4_apart, Cond.static yX4_apart, Cond.code yX4_apart cX4_apart 2 (some .int)]
def wsX4_crossing : List Cond := .code yX4_crossing cX4_crossing 6 (some .int) :: ((wsX4_crossing_r1 ++ wsX4_crossing_r2) ++ wsX40)
def wsX4_lead : List Cond := .code yX4_lead cX4_lead 3 (some .int) :: ([.fieldLink RX4 7 "WireLoopsModel" "now" "[I", .methodLink RX4 67 yX4_isLead, .static yX4_isLead, .initialized RX4, .code yX4_isLead cX4_isLead 1 (some .boolean), .methodLink RX4 37 yX4_in, .static yX4_in, .code yX4_in cX4_in 3 (some .boolean), .methodLink RX4 52 yX4_padOf, .static yX4_padOf, .code yX4_padOf cX4_padOf 4 (some .int), .methodLink RX4 45 yX4_of, .static yX4_of, .code yX4_of cX4_of 3 (some .int)] ++ wsX40)
def wsX4_bestHeight_r1 : List Cond := [Cond.methodLink RX4 49 yX4_hasWire, Cond.instanceMethod yX4_hasWire, Cond.selects RX4 yX4_hasWire yX4_hasWire, Cond.initialized RX4, Cond.code yX4_hasWire cX4_hasWire 2 (some .boolean), Cond.fieldLink RX4 7 "WireLoopsModel" "now" "[I", Cond.methodLink RX4 41 yX4_isPad, Cond.static yX4_isPad, Cond.code yX4_isPad cX4_isPad 1 (some .boolean), Cond.methodLink RX4 37 yX4_in, Cond.static yX4_in, Cond.code yX4_in cX4_in 3 (some .boolean), Cond.methodLink RX4 45 yX4_of, Cond.static yX4_of, Cond.code yX4_of cX4_of 3 (some .int), Cond.methodLink RX4 144 yX4_shortOnes, Cond.instanceMethod yX4_shortOnes, Cond.selects RX4 yX4_shortOnes yX4_shortOnes, Cond.code yX4_shortOnes cX4_shortOnes 5 (some .int), Cond.methodLink RX4 110 yX4_cross, Cond.instanceMethod yX4_cross, Cond.selects RX4 yX4_cross yX4_cross, Cond.code yX4_cross cX4_cross 3 (some .boolean), Cond.methodLink RX4 104 yX4_crossingY]
def wsX4_bestHeight_r2 : List Cond := [Cond.instanceMethod yX4_crossingY, Cond.selects RX4 yX4_crossingY yX4_crossingY, Cond.code yX4_crossingY cX4_crossingY 7 (some .int), Cond.methodLink RX4 56 yX4_padX, Cond.static yX4_padX, Cond.code yX4_padX cX4_padX 1 (some .int), Cond.methodLink RX4 114 yX4_gap, Cond.instanceMethod yX4_gap, Cond.selects RX4 yX4_gap yX4_gap, Cond.code yX4_gap cX4_gap 5 (some .int), Cond.methodLink RX4 107 yX4_heightOf, Cond.static yX4_heightOf, Cond.code yX4_heightOf cX4_heightOf 2 (some .int), Cond.constant RX4 103 (40000), Cond.methodLink RX4 60 yX4_apart, Cond.static yX4_apart, Cond.code yX4_apart cX4_apart 2 (some .int)]
def wsX4_bestHeight : List Cond := .code yX4_bestHeight cX4_bestHeight 7 (some .int) :: ((wsX4_bestHeight_r1 ++ wsX4_bestHeight_r2) ++ wsX40)
def wsX4_laysLeft : List Cond := .code yX4_laysLeft cX4_laysLeft 5 (some .int) :: ([.fieldLink RX4 7 "WireLoopsModel" "now" "[I", .methodLink RX4 70 yX4_isHeight, .static yX4_isHeight, .initialized RX4, .code yX4_isHeight cX4_isHeight 1 (some .boolean), .methodLink RX4 37 yX4_in, .static yX4_in, .code yX4_in cX4_in 3 (some .boolean)] ++ wsX40)
def wsX4_all_r1 : List Cond := [Cond.fieldLink RX4 7 "WireLoopsModel" "now" "[I", Cond.methodLink RX4 45 yX4_of, Cond.static yX4_of, Cond.initialized RX4, Cond.code yX4_of cX4_of 3 (some .int), Cond.methodLink RX4 144 yX4_shortOnes, Cond.instanceMethod yX4_shortOnes, Cond.selects RX4 yX4_shortOnes yX4_shortOnes, Cond.code yX4_shortOnes cX4_shortOnes 5 (some .int), Cond.methodLink RX4 110 yX4_cross, Cond.instanceMethod yX4_cross, Cond.selects RX4 yX4_cross yX4_cross, Cond.code yX4_cross cX4_cross 3 (some .boolean), Cond.methodLink RX4 49 yX4_hasWire, Cond.instanceMethod yX4_hasWire, Cond.selects RX4 yX4_hasWire yX4_hasWire, Cond.code yX4_hasWire cX4_hasWire 2 (some .boolean), Cond.methodLink RX4 41 yX4_isPad, Cond.static yX4_isPad, Cond.code yX4_isPad cX4_isPad 1 (some .boolean), Cond.methodLink RX4 37 yX4_in, Cond.static yX4_in, Cond.code yX4_in cX4_in 3 (some .boolean), Cond.methodLink RX4 104 yX4_crossingY]
def wsX4_all_r2 : List Cond := [Cond.instanceMethod yX4_crossingY, Cond.selects RX4 yX4_crossingY yX4_crossingY, Cond.code yX4_crossingY cX4_crossingY 7 (some .int), Cond.methodLink RX4 56 yX4_padX, Cond.static yX4_padX, Cond.code yX4_padX cX4_padX 1 (some .int), Cond.methodLink RX4 114 yX4_gap, Cond.instanceMethod yX4_gap, Cond.selects RX4 yX4_gap yX4_gap, Cond.code yX4_gap cX4_gap 5 (some .int), Cond.methodLink RX4 107 yX4_heightOf, Cond.static yX4_heightOf, Cond.code yX4_heightOf cX4_heightOf 2 (some .int), Cond.constant RX4 103 (40000), Cond.methodLink RX4 60 yX4_apart, Cond.static yX4_apart, Cond.code yX4_apart cX4_apart 2 (some .int), Cond.methodLink RX4 141 yX4_crossings, Cond.instanceMethod yX4_crossings, Cond.selects RX4 yX4_crossings yX4_crossings, Cond.code yX4_crossings cX4_crossings 4 (some .int)]
def wsX4_all : List Cond := .code yX4_all cX4_all 4 (some .int) :: ((wsX4_all_r1 ++ wsX4_all_r2) ++ wsX40)
def wsX4_weakest : List Cond := .code yX4_weakest cX4_weakest 3 (some .int) :: ([.fieldLink RX4 7 "WireLoopsModel" "now" "[I", .methodLink RX4 49 yX4_hasWire, .instanceMethod yX4_hasWire, .selects RX4 yX4_hasWire yX4_hasWire, .initialized RX4, .code yX4_hasWire cX4_hasWire 2 (some .boolean), .methodLink RX4 41 yX4_isPad, .static yX4_isPad, .code yX4_isPad cX4_isPad 1 (some .boolean), .methodLink RX4 37 yX4_in, .static yX4_in, .code yX4_in cX4_in 3 (some .boolean), .methodLink RX4 45 yX4_of, .static yX4_of, .code yX4_of cX4_of 3 (some .int)] ++ wsX40)
def wsX4_strengths : List Cond := .code yX4_strengths cX4_strengths 3 (some .int) :: ([.fieldLink RX4 7 "WireLoopsModel" "now" "[I", .methodLink RX4 45 yX4_of, .static yX4_of, .initialized RX4, .code yX4_of cX4_of 3 (some .int)] ++ wsX40)
def wsX4_count_r1 : List Cond := [Cond.fieldLink RX4 7 "WireLoopsModel" "now" "[I", Cond.fieldLink RX4 29 "WireLoopsModel" "states" "I", Cond.fieldLink RX4 118 "WireLoopsModel" "length" "I", Cond.methodLink RX4 90 yX4_wires, Cond.instanceMethod yX4_wires, Cond.selects RX4 yX4_wires yX4_wires, Cond.initialized RX4, Cond.code yX4_wires cX4_wires 3 (some .int), Cond.methodLink RX4 49 yX4_hasWire, Cond.instanceMethod yX4_hasWire, Cond.selects RX4 yX4_hasWire yX4_hasWire, Cond.code yX4_hasWire cX4_hasWire 2 (some .boolean), Cond.methodLink RX4 41 yX4_isPad, Cond.static yX4_isPad, Cond.code yX4_isPad cX4_isPad 1 (some .boolean), Cond.methodLink RX4 37 yX4_in, Cond.static yX4_in, Cond.code yX4_in cX4_in 3 (some .boolean), Cond.methodLink RX4 45 yX4_of, Cond.static yX4_of, Cond.code yX4_of cX4_of 3 (some .int), Cond.methodLink RX4 150 yX4_all, Cond.instanceMethod yX4_all, Cond.selects RX4 yX4_all yX4_all]
def wsX4_count_r2 : List Cond := [Cond.code yX4_all cX4_all 4 (some .int), Cond.methodLink RX4 144 yX4_shortOnes, Cond.instanceMethod yX4_shortOnes, Cond.selects RX4 yX4_shortOnes yX4_shortOnes, Cond.code yX4_shortOnes cX4_shortOnes 5 (some .int), Cond.methodLink RX4 110 yX4_cross, Cond.instanceMethod yX4_cross, Cond.selects RX4 yX4_cross yX4_cross, Cond.code yX4_cross cX4_cross 3 (some .boolean), Cond.methodLink RX4 104 yX4_crossingY, Cond.instanceMethod yX4_crossingY, Cond.selects RX4 yX4_crossingY yX4_crossingY, Cond.code yX4_crossingY cX4_crossingY 7 (some .int), Cond.methodLink RX4 56 yX4_padX, Cond.static yX4_padX, Cond.code yX4_padX cX4_padX 1 (some .int), Cond.methodLink RX4 114 yX4_gap, Cond.instanceMethod yX4_gap, Cond.selects RX4 yX4_gap yX4_gap, Cond.code yX4_gap cX4_gap 5 (some .int), Cond.methodLink RX4 107 yX4_heightOf, Cond.static yX4_heightOf, Cond.code yX4_heightOf cX4_heightOf 2 (some .int), Cond.constant RX4 103 (40000)]
def wsX4_count_r3 : List Cond := [Cond.methodLink RX4 60 yX4_apart, Cond.static yX4_apart, Cond.code yX4_apart cX4_apart 2 (some .int), Cond.methodLink RX4 141 yX4_crossings, Cond.instanceMethod yX4_crossings, Cond.selects RX4 yX4_crossings yX4_crossings, Cond.code yX4_crossings cX4_crossings 4 (some .int), Cond.methodLink RX4 154 yX4_weakest, Cond.instanceMethod yX4_weakest, Cond.selects RX4 yX4_weakest yX4_weakest, Cond.code yX4_weakest cX4_weakest 3 (some .int), Cond.methodLink RX4 157 yX4_strengths, Cond.instanceMethod yX4_strengths, Cond.selects RX4 yX4_strengths yX4_strengths, Cond.code yX4_strengths cX4_strengths 3 (some .int)]
def wsX4_count : List Cond := .code yX4_count cX4_count 2 (some .int) :: ((wsX4_count_r1 ++ (wsX4_count_r2 ++ wsX4_count_r3)) ++ wsX40)
def wsJ9_abs_0f7a4 : List Cond := .code yJ9_abs_0f7a4 cJ9_abs_0f7a4 1 (some .int) :: ([])
def wsJ9_max_7cf53 : List Cond := .code yJ9_max_7cf53 cJ9_max_7cf53 2 (some .int) :: ([])
def wsJ9_min_7cf53 : List Cond := .code yJ9_min_7cf53 cJ9_min_7cf53 2 (some .int) :: ([])
def wsL_law_r1 : List Cond := [Cond.classLink RL 7 RX3, Cond.instantiable RX3 6, Cond.initialized RX3, Cond.classLink RL 10 RX4, Cond.instantiable RX4 11, Cond.initialized RX4, Cond.methodLink RL 9 yX3_init, Cond.instanceMethod yX3_init, Cond.code yX3_init cX3_init 1 none, Cond.methodLink RX3 1 objectInit, Cond.instanceMethod objectInit, Cond.code objectInit ⟨#[0xb1]⟩ 1 none, Cond.classLink RX3 7 RX0, Cond.instantiable RX0 12, Cond.initialized RX0, Cond.fieldLink RX3 10 "WireLoops" "chip" "LWireLoops$Chip;", Cond.fieldLink RX3 16 "WireLoops" "beforeList" "LWireLoops$Chip;", Cond.fieldLink RX3 19 "WireLoops" "snapshot" "LWireLoops$Chip;", Cond.fieldLink RX3 22 "WireLoops" "hasSnapshot" "Z", Cond.classLink RX3 26 RX1, Cond.instantiable RX1 2, Cond.initialized RX1, Cond.fieldLink RX3 29 "WireLoops" "history" "LWireLoops$History;", Cond.classLink RX3 33 RX2]
def wsL_law_r2 : List Cond := [Cond.instantiable RX2 7, Cond.initialized RX2, Cond.fieldLink RX3 36 "WireLoops" "text" "LWireLoops$WireList;", Cond.methodLink RX3 9 yX0_init, Cond.instanceMethod yX0_init, Cond.code yX0_init cX0_init 2 none, Cond.methodLink RX0 3 objectInit, Cond.arrayClass .int, Cond.fieldLink RX0 9 "WireLoops$Chip" "leadX" "[I", Cond.fieldLink RX0 15 "WireLoops$Chip" "leadOf" "[I", Cond.fieldLink RX0 18 "WireLoops$Chip" "height" "[I", Cond.fieldLink RX0 21 "WireLoops$Chip" "strength" "[I", Cond.fieldLink RX0 24 "WireLoops$Chip" "number" "[I", Cond.fieldLink RX0 33 "WireLoops$Chip" "width" "I", Cond.methodLink RX0 27 yJ7_fill_53178, Cond.static yJ7_fill_53178, Cond.initialized RJ7, Cond.code yJ7_fill_53178 cJ7_fill_53178 4 none, Cond.methodLink RX3 28 yX1_init, Cond.instanceMethod yX1_init, Cond.code yX1_init cX1_init 2 none, Cond.methodLink RX1 3 objectInit, Cond.classLink RX1 9 RX0, Cond.fieldLink RX1 11 "WireLoops$History" "kept" "[LWireLoops$Chip;"]
def wsL_law_r3 : List Cond := [Cond.fieldLink RX1 18 "WireLoops$History" "states" "I", Cond.methodLink RX1 17 yX0_init, Cond.instanceMethod yX2_init, Cond.code yX2_init cX2_init 1 none, Cond.methodLink RX2 3 objectInit, Cond.arrayClass .char, Cond.fieldLink RX2 9 "WireLoops$WireList" "characters" "[C", Cond.fieldLink RX2 15 "WireLoops$WireList" "pads" "[I", Cond.fieldLink RX2 19 "WireLoops$WireList" "leads" "[I", Cond.fieldLink RX2 22 "WireLoops$WireList" "heights" "[I", Cond.methodLink RL 12 yX4_init, Cond.instanceMethod yX4_init, Cond.code yX4_init cX4_init 2 none, Cond.methodLink RX4 1 objectInit, Cond.fieldLink RX4 7 "WireLoopsModel" "now" "[I", Cond.fieldLink RX4 13 "WireLoopsModel" "then" "[I", Cond.fieldLink RX4 16 "WireLoopsModel" "past" "[I", Cond.fieldLink RX4 19 "WireLoopsModel" "snapshot" "[I", Cond.fieldLink RX4 22 "WireLoopsModel" "text" "[C", Cond.fieldLink RX4 26 "WireLoopsModel" "told" "[I", Cond.methodLink RL 13 yX3_lay, Cond.instanceMethod yX3_lay, Cond.selects RX3 yX3_lay yX3_lay, Cond.code yX3_lay cX3_lay 5 (some .int)]
def wsL_law_r4 : List Cond := [Cond.methodLink RX3 40 yX3_isPad, Cond.static yX3_isPad, Cond.code yX3_isPad cX3_isPad 1 (some .boolean), Cond.methodLink RX3 44 yX3_isLead, Cond.static yX3_isLead, Cond.code yX3_isLead cX3_isLead 1 (some .boolean), Cond.methodLink RX3 47 yX3_isHeight, Cond.static yX3_isHeight, Cond.code yX3_isHeight cX3_isHeight 1 (some .boolean), Cond.methodLink RX3 94 yX3_isWithin, Cond.static yX3_isWithin, Cond.code yX3_isWithin cX3_isWithin 3 (some .boolean), Cond.methodLink RX3 50 yX0_errorOfLaying, Cond.instanceMethod yX0_errorOfLaying, Cond.selects RX0 yX0_errorOfLaying yX0_errorOfLaying, Cond.code yX0_errorOfLaying cX0_errorOfLaying 3 (some .int), Cond.fieldLink RX0 52 "WireLoops$Chip" "tailLost" "Z", Cond.fieldLink RX0 46 "WireLoops$Chip" "wear" "I", Cond.methodLink RX0 69 yX0_hasWire, Cond.instanceMethod yX0_hasWire, Cond.selects RX0 yX0_hasWire yX0_hasWire, Cond.code yX0_hasWire cX0_hasWire 2 (some .boolean), Cond.methodLink RX0 72 yX0_padAtLead, Cond.instanceMethod yX0_padAtLead]
def wsL_law_r5 : List Cond := [Cond.selects RX0 yX0_padAtLead yX0_padAtLead, Cond.code yX0_padAtLead cX0_padAtLead 3 (some .int), Cond.methodLink RX3 54 yX1_record, Cond.instanceMethod yX1_record, Cond.selects RX1 yX1_record yX1_record, Cond.code yX1_record cX1_record 3 none, Cond.methodLink RX1 22 yX1_dropOldest, Cond.instanceMethod yX1_dropOldest, Cond.selects RX1 yX1_dropOldest yX1_dropOldest, Cond.code yX1_dropOldest cX1_dropOldest 3 none, Cond.methodLink RX1 25 yX1_placeAt, Cond.instanceMethod yX1_placeAt, Cond.selects RX1 yX1_placeAt yX1_placeAt, Cond.code yX1_placeAt cX1_placeAt 2 (some (.object "WireLoops$Chip")), Cond.methodLink RX1 29 yX0_copyFrom, Cond.instanceMethod yX0_copyFrom, Cond.selects RX0 yX0_copyFrom yX0_copyFrom, Cond.code yX0_copyFrom cX0_copyFrom 2 none, Cond.methodLink RX0 37 arraycopyName, Cond.native arraycopyName, Cond.static arraycopyName, Cond.initialized "java/lang/System", Cond.fieldLink RX0 43 "WireLoops$Chip" "laid" "I", Cond.fieldLink RX0 49 "WireLoops$Chip" "toolsChanged" "I"]
def wsL_law_r6 : List Cond := [Cond.fieldLink RX0 56 "WireLoops$Chip" "tailsLost" "I", Cond.fieldLink RX0 59 "WireLoops$Chip" "broken" "I", Cond.methodLink RX3 58 yX0_addWire, Cond.instanceMethod yX0_addWire, Cond.selects RX0 yX0_addWire yX0_addWire, Cond.code yX0_addWire cX0_addWire 4 none, Cond.methodLink RX0 76 yX0_newStrength, Cond.instanceMethod yX0_newStrength, Cond.selects RX0 yX0_newStrength yX0_newStrength, Cond.code yX0_newStrength cX0_newStrength 5 (some .int), Cond.methodLink RX0 108 Lib.Math.max.name, Cond.static Lib.Math.max.name, Cond.initialized "java/lang/Math", Cond.code Lib.Math.max.name Lib.Math.max.code 2 (some .int), Cond.methodLink RX0 119 Lib.Math.abs.name, Cond.static Lib.Math.abs.name, Cond.code Lib.Math.abs.name Lib.Math.abs.code 1 (some .int), Cond.static yX3_padX, Cond.code yX3_padX cX3_padX 1 (some .int), Cond.methodLink RX0 116 yX0_xOfLead, Cond.instanceMethod yX0_xOfLead, Cond.selects RX0 yX0_xOfLead yX0_xOfLead, Cond.code yX0_xOfLead cX0_xOfLead 2 (some .int), Cond.methodLink RX0 80 yX0_wearOfLaying]
def wsL_law_r7 : List Cond := [Cond.static yX0_wearOfLaying, Cond.code yX0_wearOfLaying cX0_wearOfLaying 1 (some .int), Cond.methodLink RX0 83 yX0_losesTail, Cond.static yX0_losesTail, Cond.code yX0_losesTail cX0_losesTail 1 (some .boolean), Cond.methodLink RX3 62 yX0_strengthOf, Cond.instanceMethod yX0_strengthOf, Cond.selects RX0 yX0_strengthOf yX0_strengthOf, Cond.code yX0_strengthOf cX0_strengthOf 2 (some .int), Cond.methodLink RL 17 yX4_lay, Cond.instanceMethod yX4_lay, Cond.selects RX4 yX4_lay yX4_lay, Cond.code yX4_lay cX4_lay 5 (some .int), Cond.methodLink RX4 41 yX4_isPad, Cond.static yX4_isPad, Cond.code yX4_isPad cX4_isPad 1 (some .boolean), Cond.methodLink RX4 37 yX4_in, Cond.static yX4_in, Cond.code yX4_in cX4_in 3 (some .boolean), Cond.methodLink RX4 67 yX4_isLead, Cond.static yX4_isLead, Cond.code yX4_isLead cX4_isLead 1 (some .boolean), Cond.methodLink RX4 70 yX4_isHeight, Cond.static yX4_isHeight]
def wsL_law_r8 : List Cond := [Cond.code yX4_isHeight cX4_isHeight 1 (some .boolean), Cond.methodLink RX4 73 yX4_mayLay, Cond.static yX4_mayLay, Cond.code yX4_mayLay cX4_mayLay 3 (some .int), Cond.methodLink RX4 45 yX4_of, Cond.static yX4_of, Cond.code yX4_of cX4_of 3 (some .int), Cond.methodLink RX4 52 yX4_padOf, Cond.static yX4_padOf, Cond.code yX4_padOf cX4_padOf 4 (some .int), Cond.methodLink RX4 76 yX4_records, Cond.instanceMethod yX4_records, Cond.selects RX4 yX4_records yX4_records, Cond.code yX4_records cX4_records 2 none, Cond.fieldLink RX4 29 "WireLoopsModel" "states" "I", Cond.methodLink RX4 33 yX4_lays, Cond.static yX4_lays, Cond.code yX4_lays cX4_lays 5 none, Cond.methodLink RX4 79 yX4_laid, Cond.static yX4_laid, Cond.code yX4_laid cX4_laid 7 (some .int), Cond.methodLink RX4 64 yX4_strengthFor, Cond.static yX4_strengthFor, Cond.code yX4_strengthFor cX4_strengthFor 5 (some .int)]
def wsL_law_r9 : List Cond := [Cond.methodLink RX4 56 yX4_padX, Cond.static yX4_padX, Cond.code yX4_padX cX4_padX 1 (some .int), Cond.methodLink RX4 60 yX4_apart, Cond.static yX4_apart, Cond.code yX4_apart cX4_apart 2 (some .int), Cond.methodLink RL 18 yX3_layAll, Cond.instanceMethod yX3_layAll, Cond.selects RX3 yX3_layAll yX3_layAll, Cond.code yX3_layAll cX3_layAll 3 (some .int), Cond.methodLink RX3 66 yX2_read, Cond.instanceMethod yX2_read, Cond.selects RX2 yX2_read yX2_read, Cond.code yX2_read cX2_read 2 (some .int), Cond.fieldLink RX2 40 "WireLoops$WireList" "at" "I", Cond.fieldLink RX2 29 "WireLoops$WireList" "listed" "I", Cond.fieldLink RX2 25 "WireLoops$WireList" "length" "I", Cond.methodLink RX2 43 yX2_readWire, Cond.instanceMethod yX2_readWire, Cond.selects RX2 yX2_readWire yX2_readWire, Cond.code yX2_readWire cX2_readWire 4 (some .boolean), Cond.methodLink RX2 51 yX2_readNumber, Cond.instanceMethod yX2_readNumber, Cond.selects RX2 yX2_readNumber yX2_readNumber]
def wsL_law_r10 : List Cond := [Cond.code yX2_readNumber cX2_readNumber 3 (some .int), Cond.methodLink RX2 59 yX2_digitHere, Cond.instanceMethod yX2_digitHere, Cond.selects RX2 yX2_digitHere yX2_digitHere, Cond.code yX2_digitHere cX2_digitHere 2 (some .int), Cond.methodLink RX2 66 yX2_isAtCharacter, Cond.instanceMethod yX2_isAtCharacter, Cond.selects RX2 yX2_isAtCharacter yX2_isAtCharacter, Cond.code yX2_isAtCharacter cX2_isAtCharacter 1 (some .boolean), Cond.methodLink RX2 62 yX2_withDigit, Cond.instanceMethod yX2_withDigit, Cond.selects RX2 yX2_withDigit yX2_withDigit, Cond.code yX2_withDigit cX2_withDigit 4 (some .int), Cond.methodLink RX2 47 yX2_passBy, Cond.instanceMethod yX2_passBy, Cond.selects RX2 yX2_passBy yX2_passBy, Cond.code yX2_passBy cX2_passBy 2 (some .boolean), Cond.methodLink RX2 55 yX2_readHeight, Cond.instanceMethod yX2_readHeight, Cond.selects RX2 yX2_readHeight yX2_readHeight, Cond.code yX2_readHeight cX2_readHeight 3 (some .int), Cond.methodLink RX3 70 yX0_copyFrom, Cond.methodLink RX3 73 yX0_addListed, Cond.instanceMethod yX0_addListed]
def wsL_law_r11 : List Cond := [Cond.selects RX0 yX0_addListed yX0_addListed, Cond.code yX0_addListed cX0_addListed 6 (some .int), Cond.methodLink RX0 86 yX2_listed, Cond.instanceMethod yX2_listed, Cond.selects RX2 yX2_listed yX2_listed, Cond.code yX2_listed cX2_listed 1 (some .int), Cond.methodLink RX0 92 yX2_listedPad, Cond.instanceMethod yX2_listedPad, Cond.selects RX2 yX2_listedPad yX2_listedPad, Cond.code yX2_listedPad cX2_listedPad 2 (some .int), Cond.methodLink RX2 32 yX2_isListed, Cond.instanceMethod yX2_isListed, Cond.selects RX2 yX2_isListed yX2_isListed, Cond.code yX2_isListed cX2_isListed 2 (some .boolean), Cond.methodLink RX0 95 yX2_listedLead, Cond.instanceMethod yX2_listedLead, Cond.selects RX2 yX2_listedLead yX2_listedLead, Cond.code yX2_listedLead cX2_listedLead 2 (some .int), Cond.methodLink RX0 98 yX0_errorOfLaying, Cond.methodLink RX0 101 yX2_listedHeight, Cond.instanceMethod yX2_listedHeight, Cond.selects RX2 yX2_listedHeight yX2_listedHeight, Cond.code yX2_listedHeight cX2_listedHeight 2 (some .int), Cond.methodLink RX0 104 yX0_addWire]
def wsL_law_r12 : List Cond := [Cond.methodLink RX3 77 yX0_wires, Cond.instanceMethod yX0_wires, Cond.selects RX0 yX0_wires yX0_wires, Cond.code yX0_wires cX0_wires 3 (some .int), Cond.methodLink RL 22 yX4_layAll, Cond.instanceMethod yX4_layAll, Cond.selects RX4 yX4_layAll yX4_layAll, Cond.code yX4_layAll cX4_layAll 4 (some .int), Cond.fieldLink RX4 87 "WireLoopsModel" "toldMany" "I", Cond.methodLink RX4 83 yX4_fault, Cond.instanceMethod yX4_fault, Cond.selects RX4 yX4_fault yX4_fault, Cond.code yX4_fault cX4_fault 2 (some .int), Cond.fieldLink RX4 121 "WireLoopsModel" "spot" "I", Cond.fieldLink RX4 118 "WireLoopsModel" "length" "I", Cond.methodLink RX4 133 yX4_isWire, Cond.instanceMethod yX4_isWire, Cond.selects RX4 yX4_isWire yX4_isWire, Cond.code yX4_isWire cX4_isWire 2 (some .boolean), Cond.methodLink RX4 127 yX4_isNumber, Cond.instanceMethod yX4_isNumber, Cond.selects RX4 yX4_isNumber yX4_isNumber, Cond.code yX4_isNumber cX4_isNumber 5 (some .boolean), Cond.methodLink RX4 124 yX4_sees]
def wsL_law_r13 : List Cond := [Cond.instanceMethod yX4_sees, Cond.selects RX4 yX4_sees yX4_sees, Cond.code yX4_sees cX4_sees 3 (some .boolean), Cond.methodLink RX4 130 yX4_takes, Cond.instanceMethod yX4_takes, Cond.selects RX4 yX4_takes yX4_takes, Cond.code yX4_takes cX4_takes 3 (some .boolean), Cond.methodLink RX4 90 yX4_wires, Cond.instanceMethod yX4_wires, Cond.selects RX4 yX4_wires yX4_wires, Cond.code yX4_wires cX4_wires 3 (some .int), Cond.methodLink RX4 49 yX4_hasWire, Cond.instanceMethod yX4_hasWire, Cond.selects RX4 yX4_hasWire yX4_hasWire, Cond.code yX4_hasWire cX4_hasWire 2 (some .boolean), Cond.methodLink RL 23 yX3_takeOff, Cond.instanceMethod yX3_takeOff, Cond.selects RX3 yX3_takeOff yX3_takeOff, Cond.code yX3_takeOff cX3_takeOff 3 (some .int), Cond.methodLink RX3 80 yX0_hasWire, Cond.methodLink RX3 83 yX0_removeWire, Cond.instanceMethod yX0_removeWire, Cond.selects RX0 yX0_removeWire yX0_removeWire, Cond.code yX0_removeWire cX0_removeWire 2 none]
def wsL_law_r14 : List Cond := [Cond.methodLink RL 27 yX4_takeOff, Cond.instanceMethod yX4_takeOff, Cond.selects RX4 yX4_takeOff yX4_takeOff, Cond.code yX4_takeOff cX4_takeOff 3 (some .int), Cond.methodLink RX4 93 yX4_goes, Cond.instanceMethod yX4_goes, Cond.selects RX4 yX4_goes yX4_goes, Cond.code yX4_goes cX4_goes 3 none, Cond.methodLink RL 28 yX3_bend, Cond.instanceMethod yX3_bend, Cond.selects RX3 yX3_bend yX3_bend, Cond.code yX3_bend cX3_bend 4 (some .int), Cond.methodLink RX3 87 yX0_heightOf, Cond.instanceMethod yX0_heightOf, Cond.selects RX0 yX0_heightOf yX0_heightOf, Cond.code yX0_heightOf cX0_heightOf 2 (some .int), Cond.methodLink RX3 90 yX0_changeHeight, Cond.instanceMethod yX0_changeHeight, Cond.selects RX0 yX0_changeHeight yX0_changeHeight, Cond.code yX0_changeHeight cX0_changeHeight 3 none, Cond.methodLink RL 32 yX4_bend, Cond.instanceMethod yX4_bend, Cond.selects RX4 yX4_bend yX4_bend, Cond.code yX4_bend cX4_bend 3 (some .int)]
def wsL_law_r15 : List Cond := [Cond.methodLink RX4 97 yX4_becomes, Cond.instanceMethod yX4_becomes, Cond.selects RX4 yX4_becomes yX4_becomes, Cond.code yX4_becomes cX4_becomes 4 (some .int), Cond.methodLink RL 33 yX3_moveLead, Cond.instanceMethod yX3_moveLead, Cond.selects RX3 yX3_moveLead yX3_moveLead, Cond.code yX3_moveLead cX3_moveLead 4 (some .int), Cond.methodLink RX3 98 yX0_padAtLead, Cond.methodLink RX3 101 yX0_xOfLead, Cond.methodLink RX3 104 yX0_placeLead, Cond.instanceMethod yX0_placeLead, Cond.selects RX0 yX0_placeLead yX0_placeLead, Cond.code yX0_placeLead cX0_placeLead 3 none, Cond.methodLink RL 36 yX4_moveLead, Cond.instanceMethod yX4_moveLead, Cond.selects RX4 yX4_moveLead yX4_moveLead, Cond.code yX4_moveLead cX4_moveLead 3 (some .int), Cond.methodLink RL 37 yX3_setWidth, Cond.instanceMethod yX3_setWidth, Cond.selects RX3 yX3_setWidth yX3_setWidth, Cond.code yX3_setWidth cX3_setWidth 3 (some .int), Cond.methodLink RL 40 yX4_setWidth, Cond.instanceMethod yX4_setWidth]
def wsL_law_r16 : List Cond := [Cond.selects RX4 yX4_setWidth yX4_setWidth, Cond.code yX4_setWidth cX4_setWidth 2 (some .int), Cond.methodLink RL 41 yX3_changeTool, Cond.instanceMethod yX3_changeTool, Cond.selects RX3 yX3_changeTool yX3_changeTool, Cond.code yX3_changeTool cX3_changeTool 2 (some .int), Cond.methodLink RL 44 yX4_changeTool, Cond.instanceMethod yX4_changeTool, Cond.selects RX4 yX4_changeTool yX4_changeTool, Cond.code yX4_changeTool cX4_changeTool 2 (some .int), Cond.methodLink RL 45 yX3_thread, Cond.instanceMethod yX3_thread, Cond.selects RX3 yX3_thread yX3_thread, Cond.code yX3_thread cX3_thread 1 (some .int), Cond.methodLink RL 48 yX4_thread, Cond.instanceMethod yX4_thread, Cond.selects RX4 yX4_thread yX4_thread, Cond.code yX4_thread cX4_thread 1 (some .int), Cond.methodLink RL 49 yX3_pull, Cond.instanceMethod yX3_pull, Cond.selects RX3 yX3_pull yX3_pull, Cond.code yX3_pull cX3_pull 3 (some .int), Cond.methodLink RX3 123 yX0_breaksUnder, Cond.instanceMethod yX0_breaksUnder]
def wsL_law_r17 : List Cond := [Cond.selects RX0 yX0_breaksUnder yX0_breaksUnder, Cond.code yX0_breaksUnder cX0_breaksUnder 3 (some .boolean), Cond.methodLink RX0 122 yX0_removeWire, Cond.methodLink RL 52 yX4_pull, Cond.instanceMethod yX4_pull, Cond.selects RX4 yX4_pull yX4_pull, Cond.code yX4_pull cX4_pull 3 (some .int), Cond.methodLink RX4 100 yX4_pulls, Cond.instanceMethod yX4_pulls, Cond.selects RX4 yX4_pulls yX4_pulls, Cond.code yX4_pulls cX4_pulls 4 (some .int), Cond.methodLink RL 53 yX3_sample, Cond.instanceMethod yX3_sample, Cond.selects RX3 yX3_sample yX3_sample, Cond.code yX3_sample cX3_sample 3 (some .int), Cond.methodLink RX3 127 yX0_breakingOfSample, Cond.instanceMethod yX0_breakingOfSample, Cond.selects RX0 yX0_breakingOfSample yX0_breakingOfSample, Cond.code yX0_breakingOfSample cX0_breakingOfSample 6 (some .int), Cond.methodLink RX0 126 yX0_breaksUnder, Cond.methodLink RL 56 yX4_sample, Cond.instanceMethod yX4_sample, Cond.selects RX4 yX4_sample yX4_sample, Cond.code yX4_sample cX4_sample 6 (some .int)]
def wsL_law_r18 : List Cond := [Cond.methodLink RL 57 yX3_type, Cond.instanceMethod yX3_type, Cond.selects RX3 yX3_type yX3_type, Cond.code yX3_type cX3_type 2 (some .int), Cond.methodLink RX3 130 yX2_append, Cond.instanceMethod yX2_append, Cond.selects RX2 yX2_append yX2_append, Cond.code yX2_append cX2_append 2 (some .boolean), Cond.methodLink RX3 134 yX2_length, Cond.instanceMethod yX2_length, Cond.selects RX2 yX2_length yX2_length, Cond.code yX2_length cX2_length 1 (some .int), Cond.methodLink RL 61 yX4_type, Cond.instanceMethod yX4_type, Cond.selects RX4 yX4_type yX4_type, Cond.code yX4_type cX4_type 2 (some .int), Cond.methodLink RL 62 yX3_clearText, Cond.instanceMethod yX3_clearText, Cond.selects RX3 yX3_clearText yX3_clearText, Cond.code yX3_clearText cX3_clearText 2 (some .int), Cond.methodLink RX3 137 yX2_empty, Cond.instanceMethod yX2_empty, Cond.selects RX2 yX2_empty yX2_empty, Cond.code yX2_empty cX2_empty 1 none]
def wsL_law_r19 : List Cond := [Cond.methodLink RL 65 yX4_clearText, Cond.instanceMethod yX4_clearText, Cond.selects RX4 yX4_clearText yX4_clearText, Cond.code yX4_clearText cX4_clearText 2 (some .int), Cond.methodLink RL 66 yX3_undo, Cond.instanceMethod yX3_undo, Cond.selects RX3 yX3_undo yX3_undo, Cond.code yX3_undo cX3_undo 1 (some .int), Cond.methodLink RX3 140 yX1_states, Cond.instanceMethod yX1_states, Cond.selects RX1 yX1_states yX1_states, Cond.code yX1_states cX1_states 1 (some .int), Cond.methodLink RX3 143 yX1_takeLatest, Cond.instanceMethod yX1_takeLatest, Cond.selects RX1 yX1_takeLatest yX1_takeLatest, Cond.code yX1_takeLatest cX1_takeLatest 3 none, Cond.methodLink RL 69 yX4_undo, Cond.instanceMethod yX4_undo, Cond.selects RX4 yX4_undo yX4_undo, Cond.code yX4_undo cX4_undo 1 (some .int), Cond.methodLink RL 70 yX3_keep, Cond.instanceMethod yX3_keep, Cond.selects RX3 yX3_keep yX3_keep, Cond.code yX3_keep cX3_keep 1 (some .int)]
def wsL_law_r20 : List Cond := [Cond.methodLink RL 73 yX4_keep, Cond.instanceMethod yX4_keep, Cond.selects RX4 yX4_keep yX4_keep, Cond.code yX4_keep cX4_keep 1 (some .int), Cond.fieldLink RX4 137 "WireLoopsModel" "isKept" "Z", Cond.methodLink RL 74 yX3_restore, Cond.instanceMethod yX3_restore, Cond.selects RX3 yX3_restore yX3_restore, Cond.code yX3_restore cX3_restore 1 (some .int), Cond.methodLink RL 77 yX4_restore, Cond.instanceMethod yX4_restore, Cond.selects RX4 yX4_restore yX4_restore, Cond.code yX4_restore cX4_restore 1 (some .int), Cond.methodLink RL 78 yX3_wire, Cond.instanceMethod yX3_wire, Cond.selects RX3 yX3_wire yX3_wire, Cond.code yX3_wire cX3_wire 3 (some .int), Cond.methodLink RX3 146 yX0_leadAtPad, Cond.instanceMethod yX0_leadAtPad, Cond.selects RX0 yX0_leadAtPad yX0_leadAtPad, Cond.code yX0_leadAtPad cX0_leadAtPad 2 (some .int), Cond.methodLink RX3 149 yX0_crossingsOf, Cond.instanceMethod yX0_crossingsOf, Cond.selects RX0 yX0_crossingsOf yX0_crossingsOf]
def wsL_law_r21 : List Cond := [Cond.code yX0_crossingsOf cX0_crossingsOf 4 (some .int), Cond.methodLink RX0 142 yX0_cross, Cond.instanceMethod yX0_cross, Cond.selects RX0 yX0_cross yX0_cross, Cond.code yX0_cross cX0_cross 3 (some .boolean), Cond.methodLink RX0 130 yX0_endX, Cond.instanceMethod yX0_endX, Cond.selects RX0 yX0_endX yX0_endX, Cond.code yX0_endX cX0_endX 3 (some .int), Cond.methodLink RX3 152 yX0_shortOnes, Cond.instanceMethod yX0_shortOnes, Cond.selects RX0 yX0_shortOnes yX0_shortOnes, Cond.code yX0_shortOnes cX0_shortOnes 5 (some .int), Cond.methodLink RX0 149 yX0_isShort, Cond.instanceMethod yX0_isShort, Cond.selects RX0 yX0_isShort yX0_isShort, Cond.code yX0_isShort cX0_isShort 4 (some .boolean), Cond.methodLink RX0 145 yX0_gap, Cond.instanceMethod yX0_gap, Cond.selects RX0 yX0_gap yX0_gap, Cond.code yX0_gap cX0_gap 5 (some .int), Cond.methodLink RX0 133 yX0_crossingY, Cond.instanceMethod yX0_crossingY, Cond.selects RX0 yX0_crossingY yX0_crossingY]
def wsL_law_r22 : List Cond := [Cond.code yX0_crossingY cX0_crossingY 6 (some .int), Cond.static yX3_loopAt, Cond.code yX3_loopAt cX3_loopAt 2 (some .int), Cond.constant RX3 201 (40000), Cond.methodLink RX0 139 yX0_heightOf, Cond.methodLink RX3 155 yX0_leastGap, Cond.instanceMethod yX0_leastGap, Cond.selects RX0 yX0_leastGap yX0_leastGap, Cond.code yX0_leastGap cX0_leastGap 5 (some .int), Cond.methodLink RX0 153 Lib.Math.min.name, Cond.static Lib.Math.min.name, Cond.code Lib.Math.min.name Lib.Math.min.code 2 (some .int), Cond.methodLink RX3 158 yX0_numberOf, Cond.instanceMethod yX0_numberOf, Cond.selects RX0 yX0_numberOf yX0_numberOf, Cond.code yX0_numberOf cX0_numberOf 2 (some .int), Cond.methodLink RL 81 yX4_wire, Cond.instanceMethod yX4_wire, Cond.selects RX4 yX4_wire yX4_wire, Cond.code yX4_wire cX4_wire 3 (some .int), Cond.methodLink RX4 141 yX4_crossings, Cond.instanceMethod yX4_crossings, Cond.selects RX4 yX4_crossings yX4_crossings, Cond.code yX4_crossings cX4_crossings 4 (some .int)]
def wsL_law_r23 : List Cond := [Cond.methodLink RX4 110 yX4_cross, Cond.instanceMethod yX4_cross, Cond.selects RX4 yX4_cross yX4_cross, Cond.code yX4_cross cX4_cross 3 (some .boolean), Cond.methodLink RX4 104 yX4_crossingY, Cond.instanceMethod yX4_crossingY, Cond.selects RX4 yX4_crossingY yX4_crossingY, Cond.code yX4_crossingY cX4_crossingY 7 (some .int), Cond.methodLink RX4 144 yX4_shortOnes, Cond.instanceMethod yX4_shortOnes, Cond.selects RX4 yX4_shortOnes yX4_shortOnes, Cond.code yX4_shortOnes cX4_shortOnes 5 (some .int), Cond.methodLink RX4 114 yX4_gap, Cond.instanceMethod yX4_gap, Cond.selects RX4 yX4_gap yX4_gap, Cond.code yX4_gap cX4_gap 5 (some .int), Cond.methodLink RX4 107 yX4_heightOf, Cond.static yX4_heightOf, Cond.code yX4_heightOf cX4_heightOf 2 (some .int), Cond.constant RX4 103 (40000), Cond.methodLink RX4 147 yX4_leastGap, Cond.instanceMethod yX4_leastGap, Cond.selects RX4 yX4_leastGap yX4_leastGap, Cond.code yX4_leastGap cX4_leastGap 5 (some .int)]
def wsL_law_r24 : List Cond := [Cond.methodLink RL 82 yX3_heightAt, Cond.instanceMethod yX3_heightAt, Cond.selects RX3 yX3_heightAt yX3_heightAt, Cond.code yX3_heightAt cX3_heightAt 3 (some .int), Cond.methodLink RX3 161 yX3_loopAt, Cond.methodLink RL 85 yX4_heightAt, Cond.instanceMethod yX4_heightAt, Cond.selects RX4 yX4_heightAt yX4_heightAt, Cond.code yX4_heightAt cX4_heightAt 3 (some .int), Cond.methodLink RL 86 yX3_crossing, Cond.instanceMethod yX3_crossing, Cond.selects RX3 yX3_crossing yX3_crossing, Cond.code yX3_crossing cX3_crossing 4 (some .int), Cond.methodLink RX3 164 yX0_cross, Cond.methodLink RX3 167 yX0_crossingY, Cond.methodLink RX3 170 yX0_gap, Cond.methodLink RX3 174 yX0_isShort, Cond.methodLink RL 89 yX4_crossing, Cond.instanceMethod yX4_crossing, Cond.selects RX4 yX4_crossing yX4_crossing, Cond.code yX4_crossing cX4_crossing 6 (some .int), Cond.methodLink RL 90 yX3_lead, Cond.instanceMethod yX3_lead, Cond.selects RX3 yX3_lead yX3_lead]
def wsL_law_r25 : List Cond := [Cond.code yX3_lead cX3_lead 3 (some .int), Cond.methodLink RL 93 yX4_lead, Cond.instanceMethod yX4_lead, Cond.selects RX4 yX4_lead yX4_lead, Cond.code yX4_lead cX4_lead 3 (some .int), Cond.methodLink RL 94 yX3_bestHeight, Cond.instanceMethod yX3_bestHeight, Cond.selects RX3 yX3_bestHeight yX3_bestHeight, Cond.code yX3_bestHeight cX3_bestHeight 4 (some .int), Cond.methodLink RX3 177 yX0_clearestHeight, Cond.instanceMethod yX0_clearestHeight, Cond.selects RX0 yX0_clearestHeight yX0_clearestHeight, Cond.code yX0_clearestHeight cX0_clearestHeight 6 (some .int), Cond.methodLink RX0 156 yX0_shortOnes, Cond.methodLink RL 97 yX4_bestHeight, Cond.instanceMethod yX4_bestHeight, Cond.selects RX4 yX4_bestHeight yX4_bestHeight, Cond.code yX4_bestHeight cX4_bestHeight 7 (some .int), Cond.methodLink RL 98 yX3_laysLeft, Cond.instanceMethod yX3_laysLeft, Cond.selects RX3 yX3_laysLeft yX3_laysLeft, Cond.code yX3_laysLeft cX3_laysLeft 2 (some .int), Cond.methodLink RX3 180 yX0_laysUntilStop, Cond.instanceMethod yX0_laysUntilStop]
def wsL_law_r26 : List Cond := [Cond.selects RX0 yX0_laysUntilStop yX0_laysUntilStop, Cond.code yX0_laysUntilStop cX0_laysUntilStop 5 (some .int), Cond.methodLink RL 101 yX4_laysLeft, Cond.instanceMethod yX4_laysLeft, Cond.selects RX4 yX4_laysLeft yX4_laysLeft, Cond.code yX4_laysLeft cX4_laysLeft 5 (some .int), Cond.methodLink RL 102 yX3_count, Cond.instanceMethod yX3_count, Cond.selects RX3 yX3_count yX3_count, Cond.code yX3_count cX3_count 2 (some .int), Cond.methodLink RX3 186 yX0_allCrossings, Cond.instanceMethod yX0_allCrossings, Cond.selects RX0 yX0_allCrossings yX0_allCrossings, Cond.code yX0_allCrossings cX0_allCrossings 4 (some .int), Cond.methodLink RX3 189 yX0_allShortOnes, Cond.instanceMethod yX0_allShortOnes, Cond.selects RX0 yX0_allShortOnes yX0_allShortOnes, Cond.code yX0_allShortOnes cX0_allShortOnes 4 (some .int), Cond.methodLink RX3 195 yX0_weakestPad, Cond.instanceMethod yX0_weakestPad, Cond.selects RX0 yX0_weakestPad yX0_weakestPad, Cond.code yX0_weakestPad cX0_weakestPad 3 (some .int), Cond.methodLink RX0 159 yX0_strengthOf, Cond.methodLink RX3 198 yX0_allStrengths]
def wsL_law_r27 : List Cond := [Cond.instanceMethod yX0_allStrengths, Cond.selects RX0 yX0_allStrengths yX0_allStrengths, Cond.code yX0_allStrengths cX0_allStrengths 3 (some .int), Cond.methodLink RL 105 yX4_count, Cond.instanceMethod yX4_count, Cond.selects RX4 yX4_count yX4_count, Cond.code yX4_count cX4_count 2 (some .int), Cond.methodLink RX4 150 yX4_all, Cond.instanceMethod yX4_all, Cond.selects RX4 yX4_all yX4_all, Cond.code yX4_all cX4_all 4 (some .int), Cond.methodLink RX4 154 yX4_weakest, Cond.instanceMethod yX4_weakest, Cond.selects RX4 yX4_weakest yX4_weakest, Cond.code yX4_weakest cX4_weakest 3 (some .int), Cond.methodLink RX4 157 yX4_strengths, Cond.instanceMethod yX4_strengths, Cond.selects RX4 yX4_strengths yX4_strengths, Cond.code yX4_strengths cX4_strengths 3 (some .int)]
def wsL_law : List Cond := (wsL_law_r1 ++ (wsL_law_r2 ++ (wsL_law_r3 ++ (wsL_law_r4 ++ (wsL_law_r5 ++ (wsL_law_r6 ++ (wsL_law_r7 ++ (wsL_law_r8 ++ (wsL_law_r9 ++ (wsL_law_r10 ++ (wsL_law_r11 ++ (wsL_law_r12 ++ (wsL_law_r13 ++ (wsL_law_r14 ++ (wsL_law_r15 ++ (wsL_law_r16 ++ (wsL_law_r17 ++ (wsL_law_r18 ++ (wsL_law_r19 ++ (wsL_law_r20 ++ (wsL_law_r21 ++ (wsL_law_r22 ++ (wsL_law_r23 ++ (wsL_law_r24 ++ (wsL_law_r25 ++ (wsL_law_r26 ++ wsL_law_r27)))))))))))))))))))))))))) ++ wsX30 ++ wsX40 ++ wsX00 ++ wsX10 ++ wsX20 ++ ([] : List Cond)
end
section
set_option maxRecDepth 20000 in
theorem wsL_law_r1_in : ∀ w ∈ wsL_law_r1, w ∈ lw_tbl := fun w h => (goodIn_p wsL_law_r1 [45, 48] (by decide +kernel) (by decide +kernel) w h).1
set_option maxRecDepth 20000 in
theorem wsL_law_r2_in : ∀ w ∈ wsL_law_r2, w ∈ lw_tbl := fun w h => (goodIn_p wsL_law_r2 [53, 57, 107] (by decide +kernel) (by decide +kernel) w h).1
set_option maxRecDepth 20000 in
theorem wsL_law_r3_in : ∀ w ∈ wsL_law_r3, w ∈ lw_tbl := fun w h => (goodIn_p wsL_law_r3 [123, 528, 170] (by decide +kernel) (by decide +kernel) w h).1
set_option maxRecDepth 20000 in
theorem wsL_law_r4_in : ∀ w ∈ wsL_law_r4, w ∈ lw_tbl := fun w h => (goodIn_p wsL_law_r4 [173, 176, 179, 182, 186, 190] (by decide +kernel) (by decide +kernel) w h).1
set_option maxRecDepth 20000 in
theorem wsL_law_r5_in : ∀ w ∈ wsL_law_r5, w ∈ lw_tbl := fun w h => (goodIn_p wsL_law_r5 [195, 199, 203, 207, 212] (by decide +kernel) (by decide +kernel) w h).1
set_option maxRecDepth 20000 in
theorem wsL_law_r6_in : ∀ w ∈ wsL_law_r6, w ∈ lw_tbl := fun w h => (goodIn_p wsL_law_r6 [219, 224, 227, 237, 230, 234] (by decide +kernel) (by decide +kernel) w h).1
set_option maxRecDepth 20000 in
theorem wsL_law_r7_in : ∀ w ∈ wsL_law_r7, w ∈ lw_tbl := fun w h => (goodIn_p wsL_law_r7 [240, 243, 247, 567, 570, 573, 576] (by decide +kernel) (by decide +kernel) w h).1
set_option maxRecDepth 20000 in
theorem wsL_law_r8_in : ∀ w ∈ wsL_law_r8, w ∈ lw_tbl := fun w h => (goodIn_p wsL_law_r8 [579, 582, 585, 588, 592, 595, 598, 601] (by decide +kernel) (by decide +kernel) w h).1
set_option maxRecDepth 20000 in
theorem wsL_law_r9_in : ∀ w ∈ wsL_law_r9, w ∈ lw_tbl := fun w h => (goodIn_p wsL_law_r9 [604, 607, 251, 255, 259] (by decide +kernel) (by decide +kernel) w h).1
set_option maxRecDepth 20000 in
theorem wsL_law_r10_in : ∀ w ∈ wsL_law_r10, w ∈ lw_tbl := fun w h => (goodIn_p wsL_law_r10 [263, 267, 271, 276, 280, 284] (by decide +kernel) (by decide +kernel) w h).1
set_option maxRecDepth 20000 in
theorem wsL_law_r11_in : ∀ w ∈ wsL_law_r11, w ∈ lw_tbl := fun w h => (goodIn_p wsL_law_r11 [289, 293, 297, 301, 305, 310] (by decide +kernel) (by decide +kernel) w h).1
set_option maxRecDepth 20000 in
theorem wsL_law_r12_in : ∀ w ∈ wsL_law_r12, w ∈ lw_tbl := fun w h => (goodIn_p wsL_law_r12 [315, 611, 615, 619, 623] (by decide +kernel) (by decide +kernel) w h).1
set_option maxRecDepth 20000 in
theorem wsL_law_r13_in : ∀ w ∈ wsL_law_r13, w ∈ lw_tbl := fun w h => (goodIn_p wsL_law_r13 [627, 631, 635, 639, 319, 324] (by decide +kernel) (by decide +kernel) w h).1
set_option maxRecDepth 20000 in
theorem wsL_law_r14_in : ∀ w ∈ wsL_law_r14, w ∈ lw_tbl := fun w h => (goodIn_p wsL_law_r14 [643, 647, 328, 332, 336, 651] (by decide +kernel) (by decide +kernel) w h).1
set_option maxRecDepth 20000 in
theorem wsL_law_r15_in : ∀ w ∈ wsL_law_r15, w ∈ lw_tbl := fun w h => (goodIn_p wsL_law_r15 [655, 340, 346, 659, 350] (by decide +kernel) (by decide +kernel) w h).1
set_option maxRecDepth 20000 in
theorem wsL_law_r16_in : ∀ w ∈ wsL_law_r16, w ∈ lw_tbl := fun w h => (goodIn_p wsL_law_r16 [663, 354, 667, 358, 671, 362] (by decide +kernel) (by decide +kernel) w h).1
set_option maxRecDepth 20000 in
theorem wsL_law_r17_in : ∀ w ∈ wsL_law_r17, w ∈ lw_tbl := fun w h => (goodIn_p wsL_law_r17 [366, 675, 679, 371, 375, 683] (by decide +kernel) (by decide +kernel) w h).1
set_option maxRecDepth 20000 in
theorem wsL_law_r18_in : ∀ w ∈ wsL_law_r18, w ∈ lw_tbl := fun w h => (goodIn_p wsL_law_r18 [380, 384, 388, 687, 392, 396] (by decide +kernel) (by decide +kernel) w h).1
set_option maxRecDepth 20000 in
theorem wsL_law_r19_in : ∀ w ∈ wsL_law_r19, w ∈ lw_tbl := fun w h => (goodIn_p wsL_law_r19 [691, 400, 404, 408, 695, 412] (by decide +kernel) (by decide +kernel) w h).1
set_option maxRecDepth 20000 in
theorem wsL_law_r20_in : ∀ w ∈ wsL_law_r20, w ∈ lw_tbl := fun w h => (goodIn_p wsL_law_r20 [699, 416, 703, 420, 424] (by decide +kernel) (by decide +kernel) w h).1
set_option maxRecDepth 20000 in
theorem wsL_law_r21_in : ∀ w ∈ wsL_law_r21, w ∈ lw_tbl := fun w h => (goodIn_p wsL_law_r21 [428, 432, 436, 440, 444, 448] (by decide +kernel) (by decide +kernel) w h).1
set_option maxRecDepth 20000 in
theorem wsL_law_r22_in : ∀ w ∈ wsL_law_r22, w ∈ lw_tbl := fun w h => (goodIn_p wsL_law_r22 [452, 455, 461, 464, 468, 707, 711] (by decide +kernel) (by decide +kernel) w h).1
set_option maxRecDepth 20000 in
theorem wsL_law_r23_in : ∀ w ∈ wsL_law_r23, w ∈ lw_tbl := fun w h => (goodIn_p wsL_law_r23 [715, 719, 723, 727, 730, 735] (by decide +kernel) (by decide +kernel) w h).1
set_option maxRecDepth 20000 in
theorem wsL_law_r24_in : ∀ w ∈ wsL_law_r24, w ∈ lw_tbl := fun w h => (goodIn_p wsL_law_r24 [472, 739, 477, 743] (by decide +kernel) (by decide +kernel) w h).1
set_option maxRecDepth 20000 in
theorem wsL_law_r25_in : ∀ w ∈ wsL_law_r25, w ∈ lw_tbl := fun w h => (goodIn_p wsL_law_r25 [485, 747, 489, 493, 751, 498] (by decide +kernel) (by decide +kernel) w h).1
set_option maxRecDepth 20000 in
theorem wsL_law_r26_in : ∀ w ∈ wsL_law_r26, w ∈ lw_tbl := fun w h => (goodIn_p wsL_law_r26 [502, 755, 506, 510, 514, 518] (by decide +kernel) (by decide +kernel) w h).1
set_option maxRecDepth 20000 in
theorem wsL_law_r27_in : ∀ w ∈ wsL_law_r27, w ∈ lw_tbl := fun w h => (goodIn_p wsL_law_r27 [523, 759, 763, 767, 771] (by decide +kernel) (by decide +kernel) w h).1
theorem wsX30_in0 : ∀ w ∈ wsX30, w ∈ lw_tbl := by decide +kernel
theorem wsX40_in0 : ∀ w ∈ wsX40, w ∈ lw_tbl := by decide +kernel
theorem wsX00_in0 : ∀ w ∈ wsX00, w ∈ lw_tbl := by decide +kernel
theorem wsX10_in0 : ∀ w ∈ wsX10, w ∈ lw_tbl := by decide +kernel
theorem wsX20_in0 : ∀ w ∈ wsX20, w ∈ lw_tbl := by decide +kernel
theorem in_app {a b c : List Cond} (h1 : ∀ w ∈ a, w ∈ c) (h2 : ∀ w ∈ b, w ∈ c) : ∀ w ∈ a ++ b, w ∈ c := fun w h => (List.mem_append.mp h).elim (h1 w) (h2 w)
theorem wsL_law_in : ∀ w ∈ wsL_law, w ∈ lw_tbl := in_app (in_app (in_app (in_app (in_app (in_app (in_app wsL_law_r1_in (in_app wsL_law_r2_in (in_app wsL_law_r3_in (in_app wsL_law_r4_in (in_app wsL_law_r5_in (in_app wsL_law_r6_in (in_app wsL_law_r7_in (in_app wsL_law_r8_in (in_app wsL_law_r9_in (in_app wsL_law_r10_in (in_app wsL_law_r11_in (in_app wsL_law_r12_in (in_app wsL_law_r13_in (in_app wsL_law_r14_in (in_app wsL_law_r15_in (in_app wsL_law_r16_in (in_app wsL_law_r17_in (in_app wsL_law_r18_in (in_app wsL_law_r19_in (in_app wsL_law_r20_in (in_app wsL_law_r21_in (in_app wsL_law_r22_in (in_app wsL_law_r23_in (in_app wsL_law_r24_in (in_app wsL_law_r25_in (in_app wsL_law_r26_in (wsL_law_r27_in))))))))))))))))))))))))))) wsX30_in0) wsX40_in0) wsX00_in0) wsX10_in0) wsX20_in0) (fun _ h => absurd h List.not_mem_nil)
theorem inlX0 : ∀ w ∈ wsX00, w ∈ wsL_law := fun _ h => List.mem_append_left _ (List.mem_append_left _ (List.mem_append_left _ (List.mem_append_right _ h)))
theorem inX0 : ∀ w ∈ wsX00, w ∈ lw_tbl := fun w h => wsL_law_in w (inlX0 w h)
theorem inlX1 : ∀ w ∈ wsX10, w ∈ wsL_law := fun _ h => List.mem_append_left _ (List.mem_append_left _ (List.mem_append_right _ h))
theorem inX1 : ∀ w ∈ wsX10, w ∈ lw_tbl := fun w h => wsL_law_in w (inlX1 w h)
theorem inlX2 : ∀ w ∈ wsX20, w ∈ wsL_law := fun _ h => List.mem_append_left _ (List.mem_append_right _ h)
theorem inX2 : ∀ w ∈ wsX20, w ∈ lw_tbl := fun w h => wsL_law_in w (inlX2 w h)
theorem inlX3 : ∀ w ∈ wsX30, w ∈ wsL_law := fun _ h => List.mem_append_left _ (List.mem_append_left _ (List.mem_append_left _ (List.mem_append_left _ (List.mem_append_left _ (List.mem_append_right _ h)))))
theorem inX3 : ∀ w ∈ wsX30, w ∈ lw_tbl := fun w h => wsL_law_in w (inlX3 w h)
theorem inlX4 : ∀ w ∈ wsX40, w ∈ wsL_law := fun _ h => List.mem_append_left _ (List.mem_append_left _ (List.mem_append_left _ (List.mem_append_left _ (List.mem_append_right _ h))))
theorem inX4 : ∀ w ∈ wsX40, w ∈ lw_tbl := fun w h => wsL_law_in w (inlX4 w h)
theorem inJ9 : ∀ w ∈ wsJ90, w ∈ lw_tbl := by decide +kernel
theorem inJ10 : ∀ w ∈ wsJ100, w ∈ lw_tbl := by decide +kernel
theorem inJ7 : ∀ w ∈ wsJ70, w ∈ lw_tbl := by decide +kernel
set_option maxRecDepth 20000 in
theorem ggX0_init_J7_fill_53178 : GoodIn wsX0_init wsJ7_fill_53178 := goodIn_r _ [14] (by decide +kernel) (by decide +kernel)
set_option maxRecDepth 20000 in
theorem gX0_init_J7_fill_53178 : GoodIn wsX0_init (va_wsS RX0 27 yJ7_fill_53178 wsJ7_fill_53178) := goodIn_app (goodIn_of _ (by decide +kernel)) ggX0_init_J7_fill_53178
end
section
theorem dX0_init_0 : decode cX0_init 0 = .ok (.aload_n 0, 1) := by decide +kernel
theorem dX0_init_1 : decode cX0_init 1 = .ok (.invokespecial 3, 3) := by decide +kernel
theorem dX0_init_4 : decode cX0_init 4 = .ok (.aload_n 0, 1) := by decide +kernel
theorem dX0_init_5 : decode cX0_init 5 = .ok (.bipush 16, 2) := by decide +kernel
theorem dX0_init_7 : decode cX0_init 7 = .ok (.newarray .int, 2) := by decide +kernel
theorem dX0_init_9 : decode cX0_init 9 = .ok (.putfield 9, 3) := by decide +kernel
theorem dX0_init_12 : decode cX0_init 12 = .ok (.aload_n 0, 1) := by decide +kernel
theorem dX0_init_13 : decode cX0_init 13 = .ok (.bipush 12, 2) := by decide +kernel
theorem dX0_init_15 : decode cX0_init 15 = .ok (.newarray .int, 2) := by decide +kernel
theorem dX0_init_17 : decode cX0_init 17 = .ok (.putfield 15, 3) := by decide +kernel
theorem dX0_init_20 : decode cX0_init 20 = .ok (.aload_n 0, 1) := by decide +kernel
theorem dX0_init_21 : decode cX0_init 21 = .ok (.bipush 12, 2) := by decide +kernel
theorem dX0_init_23 : decode cX0_init 23 = .ok (.newarray .int, 2) := by decide +kernel
theorem dX0_init_25 : decode cX0_init 25 = .ok (.putfield 18, 3) := by decide +kernel
theorem dX0_init_28 : decode cX0_init 28 = .ok (.aload_n 0, 1) := by decide +kernel
theorem dX0_init_29 : decode cX0_init 29 = .ok (.bipush 12, 2) := by decide +kernel
theorem dX0_init_31 : decode cX0_init 31 = .ok (.newarray .int, 2) := by decide +kernel
theorem dX0_init_33 : decode cX0_init 33 = .ok (.putfield 21, 3) := by decide +kernel
theorem dX0_init_36 : decode cX0_init 36 = .ok (.aload_n 0, 1) := by decide +kernel
theorem dX0_init_37 : decode cX0_init 37 = .ok (.bipush 12, 2) := by decide +kernel
theorem dX0_init_39 : decode cX0_init 39 = .ok (.newarray .int, 2) := by decide +kernel
theorem dX0_init_41 : decode cX0_init 41 = .ok (.putfield 24, 3) := by decide +kernel
theorem dX0_init_44 : decode cX0_init 44 = .ok (.iconst 0, 1) := by decide +kernel
theorem dX0_init_45 : decode cX0_init 45 = .ok (.istore_n 1, 1) := by decide +kernel
theorem dX0_init_46 : decode cX0_init 46 = .ok (.iload_n 1, 1) := by decide +kernel
theorem dX0_init_47 : decode cX0_init 47 = .ok (.bipush 16, 2) := by decide +kernel
theorem dX0_init_49 : decode cX0_init 49 = .ok (.if_icmp .ge 19, 3) := by decide +kernel
theorem dX0_init_52 : decode cX0_init 52 = .ok (.aload_n 0, 1) := by decide +kernel
theorem dX0_init_53 : decode cX0_init 53 = .ok (.getfield 9, 3) := by decide +kernel
theorem dX0_init_56 : decode cX0_init 56 = .ok (.iload_n 1, 1) := by decide +kernel
theorem dX0_init_57 : decode cX0_init 57 = .ok (.bipush 40, 2) := by decide +kernel
theorem dX0_init_59 : decode cX0_init 59 = .ok (.iload_n 1, 1) := by decide +kernel
theorem dX0_init_60 : decode cX0_init 60 = .ok (.imul, 1) := by decide +kernel
theorem dX0_init_61 : decode cX0_init 61 = .ok (.iastore, 1) := by decide +kernel
theorem dX0_init_62 : decode cX0_init 62 = .ok (.iinc 1 1, 3) := by decide +kernel
theorem dX0_init_65 : decode cX0_init 65 = .ok (.goto (-19), 3) := by decide +kernel
theorem dX0_init_68 : decode cX0_init 68 = .ok (.aload_n 0, 1) := by decide +kernel
theorem dX0_init_69 : decode cX0_init 69 = .ok (.getfield 15, 3) := by decide +kernel
theorem dX0_init_72 : decode cX0_init 72 = .ok (.iconst (-1), 1) := by decide +kernel
theorem dX0_init_73 : decode cX0_init 73 = .ok (.invokestatic 27, 3) := by decide +kernel
theorem dX0_init_76 : decode cX0_init 76 = .ok (.aload_n 0, 1) := by decide +kernel
theorem dX0_init_77 : decode cX0_init 77 = .ok (.bipush 10, 2) := by decide +kernel
theorem dX0_init_79 : decode cX0_init 79 = .ok (.putfield 33, 3) := by decide +kernel
theorem dX0_init_82 : decode cX0_init 82 = .ok (.return_, 1) := by decide +kernel
theorem dX0_copyFrom_0 : decode cX0_copyFrom 0 = .ok (.aload_n 1, 1) := by decide +kernel
theorem dX0_copyFrom_1 : decode cX0_copyFrom 1 = .ok (.getfield 9, 3) := by decide +kernel
theorem dX0_copyFrom_4 : decode cX0_copyFrom 4 = .ok (.iconst 0, 1) := by decide +kernel
theorem dX0_copyFrom_5 : decode cX0_copyFrom 5 = .ok (.aload_n 0, 1) := by decide +kernel
theorem dX0_copyFrom_6 : decode cX0_copyFrom 6 = .ok (.getfield 9, 3) := by decide +kernel
theorem dX0_copyFrom_9 : decode cX0_copyFrom 9 = .ok (.iconst 0, 1) := by decide +kernel
theorem dX0_copyFrom_10 : decode cX0_copyFrom 10 = .ok (.bipush 16, 2) := by decide +kernel
theorem dX0_copyFrom_12 : decode cX0_copyFrom 12 = .ok (.invokestatic 37, 3) := by decide +kernel
theorem dX0_copyFrom_15 : decode cX0_copyFrom 15 = .ok (.aload_n 1, 1) := by decide +kernel
theorem dX0_copyFrom_16 : decode cX0_copyFrom 16 = .ok (.getfield 15, 3) := by decide +kernel
theorem dX0_copyFrom_19 : decode cX0_copyFrom 19 = .ok (.iconst 0, 1) := by decide +kernel
theorem dX0_copyFrom_20 : decode cX0_copyFrom 20 = .ok (.aload_n 0, 1) := by decide +kernel
theorem dX0_copyFrom_21 : decode cX0_copyFrom 21 = .ok (.getfield 15, 3) := by decide +kernel
theorem dX0_copyFrom_24 : decode cX0_copyFrom 24 = .ok (.iconst 0, 1) := by decide +kernel
theorem dX0_copyFrom_25 : decode cX0_copyFrom 25 = .ok (.bipush 12, 2) := by decide +kernel
theorem dX0_copyFrom_27 : decode cX0_copyFrom 27 = .ok (.invokestatic 37, 3) := by decide +kernel
theorem dX0_copyFrom_30 : decode cX0_copyFrom 30 = .ok (.aload_n 1, 1) := by decide +kernel
theorem dX0_copyFrom_31 : decode cX0_copyFrom 31 = .ok (.getfield 18, 3) := by decide +kernel
theorem dX0_copyFrom_34 : decode cX0_copyFrom 34 = .ok (.iconst 0, 1) := by decide +kernel
theorem dX0_copyFrom_35 : decode cX0_copyFrom 35 = .ok (.aload_n 0, 1) := by decide +kernel
theorem dX0_copyFrom_36 : decode cX0_copyFrom 36 = .ok (.getfield 18, 3) := by decide +kernel
theorem dX0_copyFrom_39 : decode cX0_copyFrom 39 = .ok (.iconst 0, 1) := by decide +kernel
theorem dX0_copyFrom_40 : decode cX0_copyFrom 40 = .ok (.bipush 12, 2) := by decide +kernel
theorem dX0_copyFrom_42 : decode cX0_copyFrom 42 = .ok (.invokestatic 37, 3) := by decide +kernel
theorem dX0_copyFrom_45 : decode cX0_copyFrom 45 = .ok (.aload_n 1, 1) := by decide +kernel
theorem dX0_copyFrom_46 : decode cX0_copyFrom 46 = .ok (.getfield 21, 3) := by decide +kernel
theorem dX0_copyFrom_49 : decode cX0_copyFrom 49 = .ok (.iconst 0, 1) := by decide +kernel
theorem dX0_copyFrom_50 : decode cX0_copyFrom 50 = .ok (.aload_n 0, 1) := by decide +kernel
theorem dX0_copyFrom_51 : decode cX0_copyFrom 51 = .ok (.getfield 21, 3) := by decide +kernel
theorem dX0_copyFrom_54 : decode cX0_copyFrom 54 = .ok (.iconst 0, 1) := by decide +kernel
theorem dX0_copyFrom_55 : decode cX0_copyFrom 55 = .ok (.bipush 12, 2) := by decide +kernel
theorem dX0_copyFrom_57 : decode cX0_copyFrom 57 = .ok (.invokestatic 37, 3) := by decide +kernel
theorem dX0_copyFrom_60 : decode cX0_copyFrom 60 = .ok (.aload_n 1, 1) := by decide +kernel
theorem dX0_copyFrom_61 : decode cX0_copyFrom 61 = .ok (.getfield 24, 3) := by decide +kernel
theorem dX0_copyFrom_64 : decode cX0_copyFrom 64 = .ok (.iconst 0, 1) := by decide +kernel
theorem dX0_copyFrom_65 : decode cX0_copyFrom 65 = .ok (.aload_n 0, 1) := by decide +kernel
theorem dX0_copyFrom_66 : decode cX0_copyFrom 66 = .ok (.getfield 24, 3) := by decide +kernel
theorem dX0_copyFrom_69 : decode cX0_copyFrom 69 = .ok (.iconst 0, 1) := by decide +kernel
theorem dX0_copyFrom_70 : decode cX0_copyFrom 70 = .ok (.bipush 12, 2) := by decide +kernel
theorem dX0_copyFrom_72 : decode cX0_copyFrom 72 = .ok (.invokestatic 37, 3) := by decide +kernel
theorem dX0_copyFrom_75 : decode cX0_copyFrom 75 = .ok (.aload_n 0, 1) := by decide +kernel
theorem dX0_copyFrom_76 : decode cX0_copyFrom 76 = .ok (.aload_n 1, 1) := by decide +kernel
theorem dX0_copyFrom_77 : decode cX0_copyFrom 77 = .ok (.getfield 43, 3) := by decide +kernel
theorem dX0_copyFrom_80 : decode cX0_copyFrom 80 = .ok (.putfield 43, 3) := by decide +kernel
theorem dX0_copyFrom_83 : decode cX0_copyFrom 83 = .ok (.aload_n 0, 1) := by decide +kernel
theorem dX0_copyFrom_84 : decode cX0_copyFrom 84 = .ok (.aload_n 1, 1) := by decide +kernel
theorem dX0_copyFrom_85 : decode cX0_copyFrom 85 = .ok (.getfield 33, 3) := by decide +kernel
theorem dX0_copyFrom_88 : decode cX0_copyFrom 88 = .ok (.putfield 33, 3) := by decide +kernel
theorem dX0_copyFrom_91 : decode cX0_copyFrom 91 = .ok (.aload_n 0, 1) := by decide +kernel
theorem dX0_copyFrom_92 : decode cX0_copyFrom 92 = .ok (.aload_n 1, 1) := by decide +kernel
theorem dX0_copyFrom_93 : decode cX0_copyFrom 93 = .ok (.getfield 46, 3) := by decide +kernel
theorem dX0_copyFrom_96 : decode cX0_copyFrom 96 = .ok (.putfield 46, 3) := by decide +kernel
theorem dX0_copyFrom_99 : decode cX0_copyFrom 99 = .ok (.aload_n 0, 1) := by decide +kernel
theorem dX0_copyFrom_100 : decode cX0_copyFrom 100 = .ok (.aload_n 1, 1) := by decide +kernel
theorem dX0_copyFrom_101 : decode cX0_copyFrom 101 = .ok (.getfield 49, 3) := by decide +kernel
theorem dX0_copyFrom_104 : decode cX0_copyFrom 104 = .ok (.putfield 49, 3) := by decide +kernel
theorem dX0_copyFrom_107 : decode cX0_copyFrom 107 = .ok (.aload_n 0, 1) := by decide +kernel
theorem dX0_copyFrom_108 : decode cX0_copyFrom 108 = .ok (.aload_n 1, 1) := by decide +kernel
theorem dX0_copyFrom_109 : decode cX0_copyFrom 109 = .ok (.getfield 52, 3) := by decide +kernel
theorem dX0_copyFrom_112 : decode cX0_copyFrom 112 = .ok (.putfield 52, 3) := by decide +kernel
theorem dX0_copyFrom_115 : decode cX0_copyFrom 115 = .ok (.aload_n 0, 1) := by decide +kernel
theorem dX0_copyFrom_116 : decode cX0_copyFrom 116 = .ok (.aload_n 1, 1) := by decide +kernel
theorem dX0_copyFrom_117 : decode cX0_copyFrom 117 = .ok (.getfield 56, 3) := by decide +kernel
theorem dX0_copyFrom_120 : decode cX0_copyFrom 120 = .ok (.putfield 56, 3) := by decide +kernel
theorem dX0_copyFrom_123 : decode cX0_copyFrom 123 = .ok (.aload_n 0, 1) := by decide +kernel
theorem dX0_copyFrom_124 : decode cX0_copyFrom 124 = .ok (.aload_n 1, 1) := by decide +kernel
theorem dX0_copyFrom_125 : decode cX0_copyFrom 125 = .ok (.getfield 59, 3) := by decide +kernel
theorem dX0_copyFrom_128 : decode cX0_copyFrom 128 = .ok (.putfield 59, 3) := by decide +kernel
theorem dX0_copyFrom_131 : decode cX0_copyFrom 131 = .ok (.return_, 1) := by decide +kernel
set_option maxRecDepth 20000 in
theorem ggX0_hasWire_X3_isPad : GoodIn wsX0_hasWire wsX3_isPad := goodIn_r _ [4] (by decide +kernel) (by decide +kernel)
set_option maxRecDepth 20000 in
theorem gX0_hasWire_X3_isPad_n62 : GoodIn wsX0_hasWire (wsX3_isPad) := ggX0_hasWire_X3_isPad
theorem dX0_hasWire_0 : decode cX0_hasWire 0 = .ok (.iload_n 1, 1) := by decide +kernel
theorem dX0_hasWire_1 : decode cX0_hasWire 1 = .ok (.invokestatic 62, 3) := by decide +kernel
theorem dX0_hasWire_4 : decode cX0_hasWire 4 = .ok (.ifCond .eq 17, 3) := by decide +kernel
theorem dX0_hasWire_7 : decode cX0_hasWire 7 = .ok (.aload_n 0, 1) := by decide +kernel
theorem dX0_hasWire_8 : decode cX0_hasWire 8 = .ok (.getfield 15, 3) := by decide +kernel
theorem dX0_hasWire_11 : decode cX0_hasWire 11 = .ok (.iload_n 1, 1) := by decide +kernel
theorem dX0_hasWire_12 : decode cX0_hasWire 12 = .ok (.iaload, 1) := by decide +kernel
theorem dX0_hasWire_13 : decode cX0_hasWire 13 = .ok (.iconst (-1), 1) := by decide +kernel
theorem dX0_hasWire_14 : decode cX0_hasWire 14 = .ok (.if_icmp .eq 7, 3) := by decide +kernel
theorem dX0_hasWire_17 : decode cX0_hasWire 17 = .ok (.iconst 1, 1) := by decide +kernel
theorem dX0_hasWire_18 : decode cX0_hasWire 18 = .ok (.goto 4, 3) := by decide +kernel
theorem dX0_hasWire_21 : decode cX0_hasWire 21 = .ok (.iconst 0, 1) := by decide +kernel
theorem dX0_hasWire_22 : decode cX0_hasWire 22 = .ok (.ireturn, 1) := by decide +kernel
set_option maxRecDepth 20000 in
theorem ggX0_leadAtPad_X3_isPad : GoodIn wsX0_leadAtPad wsX3_isPad := goodIn_r _ [4] (by decide +kernel) (by decide +kernel)
set_option maxRecDepth 20000 in
theorem gX0_leadAtPad_X3_isPad_n62 : GoodIn wsX0_leadAtPad (wsX3_isPad) := ggX0_leadAtPad_X3_isPad
theorem dX0_leadAtPad_0 : decode cX0_leadAtPad 0 = .ok (.iload_n 1, 1) := by decide +kernel
theorem dX0_leadAtPad_1 : decode cX0_leadAtPad 1 = .ok (.invokestatic 62, 3) := by decide +kernel
theorem dX0_leadAtPad_4 : decode cX0_leadAtPad 4 = .ok (.ifCond .eq 12, 3) := by decide +kernel
theorem dX0_leadAtPad_7 : decode cX0_leadAtPad 7 = .ok (.aload_n 0, 1) := by decide +kernel
theorem dX0_leadAtPad_8 : decode cX0_leadAtPad 8 = .ok (.getfield 15, 3) := by decide +kernel
theorem dX0_leadAtPad_11 : decode cX0_leadAtPad 11 = .ok (.iload_n 1, 1) := by decide +kernel
theorem dX0_leadAtPad_12 : decode cX0_leadAtPad 12 = .ok (.iaload, 1) := by decide +kernel
theorem dX0_leadAtPad_13 : decode cX0_leadAtPad 13 = .ok (.goto 4, 3) := by decide +kernel
theorem dX0_leadAtPad_16 : decode cX0_leadAtPad 16 = .ok (.iconst (-1), 1) := by decide +kernel
theorem dX0_leadAtPad_17 : decode cX0_leadAtPad 17 = .ok (.ireturn, 1) := by decide +kernel
set_option maxRecDepth 20000 in
theorem ggX0_heightOf_X3_isPad : GoodIn wsX0_heightOf wsX3_isPad := goodIn_r _ [4] (by decide +kernel) (by decide +kernel)
set_option maxRecDepth 20000 in
theorem gX0_heightOf_X3_isPad_n62 : GoodIn wsX0_heightOf (wsX3_isPad) := ggX0_heightOf_X3_isPad
theorem dX0_heightOf_0 : decode cX0_heightOf 0 = .ok (.iload_n 1, 1) := by decide +kernel
theorem dX0_heightOf_1 : decode cX0_heightOf 1 = .ok (.invokestatic 62, 3) := by decide +kernel
theorem dX0_heightOf_4 : decode cX0_heightOf 4 = .ok (.ifCond .eq 12, 3) := by decide +kernel
theorem dX0_heightOf_7 : decode cX0_heightOf 7 = .ok (.aload_n 0, 1) := by decide +kernel
theorem dX0_heightOf_8 : decode cX0_heightOf 8 = .ok (.getfield 18, 3) := by decide +kernel
theorem dX0_heightOf_11 : decode cX0_heightOf 11 = .ok (.iload_n 1, 1) := by decide +kernel
theorem dX0_heightOf_12 : decode cX0_heightOf 12 = .ok (.iaload, 1) := by decide +kernel
theorem dX0_heightOf_13 : decode cX0_heightOf 13 = .ok (.goto 4, 3) := by decide +kernel
theorem dX0_heightOf_16 : decode cX0_heightOf 16 = .ok (.iconst 0, 1) := by decide +kernel
theorem dX0_heightOf_17 : decode cX0_heightOf 17 = .ok (.ireturn, 1) := by decide +kernel
set_option maxRecDepth 20000 in
theorem ggX0_strengthOf_X3_isPad : GoodIn wsX0_strengthOf wsX3_isPad := goodIn_r _ [4] (by decide +kernel) (by decide +kernel)
set_option maxRecDepth 20000 in
theorem gX0_strengthOf_X3_isPad_n62 : GoodIn wsX0_strengthOf (wsX3_isPad) := ggX0_strengthOf_X3_isPad
theorem dX0_strengthOf_0 : decode cX0_strengthOf 0 = .ok (.iload_n 1, 1) := by decide +kernel
theorem dX0_strengthOf_1 : decode cX0_strengthOf 1 = .ok (.invokestatic 62, 3) := by decide +kernel
theorem dX0_strengthOf_4 : decode cX0_strengthOf 4 = .ok (.ifCond .eq 12, 3) := by decide +kernel
theorem dX0_strengthOf_7 : decode cX0_strengthOf 7 = .ok (.aload_n 0, 1) := by decide +kernel
theorem dX0_strengthOf_8 : decode cX0_strengthOf 8 = .ok (.getfield 21, 3) := by decide +kernel
theorem dX0_strengthOf_11 : decode cX0_strengthOf 11 = .ok (.iload_n 1, 1) := by decide +kernel
theorem dX0_strengthOf_12 : decode cX0_strengthOf 12 = .ok (.iaload, 1) := by decide +kernel
theorem dX0_strengthOf_13 : decode cX0_strengthOf 13 = .ok (.goto 4, 3) := by decide +kernel
theorem dX0_strengthOf_16 : decode cX0_strengthOf 16 = .ok (.iconst 0, 1) := by decide +kernel
theorem dX0_strengthOf_17 : decode cX0_strengthOf 17 = .ok (.ireturn, 1) := by decide +kernel
set_option maxRecDepth 20000 in
theorem ggX0_numberOf_X3_isPad : GoodIn wsX0_numberOf wsX3_isPad := goodIn_r _ [4] (by decide +kernel) (by decide +kernel)
set_option maxRecDepth 20000 in
theorem gX0_numberOf_X3_isPad_n62 : GoodIn wsX0_numberOf (wsX3_isPad) := ggX0_numberOf_X3_isPad
theorem dX0_numberOf_0 : decode cX0_numberOf 0 = .ok (.iload_n 1, 1) := by decide +kernel
theorem dX0_numberOf_1 : decode cX0_numberOf 1 = .ok (.invokestatic 62, 3) := by decide +kernel
theorem dX0_numberOf_4 : decode cX0_numberOf 4 = .ok (.ifCond .eq 12, 3) := by decide +kernel
theorem dX0_numberOf_7 : decode cX0_numberOf 7 = .ok (.aload_n 0, 1) := by decide +kernel
theorem dX0_numberOf_8 : decode cX0_numberOf 8 = .ok (.getfield 24, 3) := by decide +kernel
theorem dX0_numberOf_11 : decode cX0_numberOf 11 = .ok (.iload_n 1, 1) := by decide +kernel
theorem dX0_numberOf_12 : decode cX0_numberOf 12 = .ok (.iaload, 1) := by decide +kernel
theorem dX0_numberOf_13 : decode cX0_numberOf 13 = .ok (.goto 4, 3) := by decide +kernel
theorem dX0_numberOf_16 : decode cX0_numberOf 16 = .ok (.iconst 0, 1) := by decide +kernel
theorem dX0_numberOf_17 : decode cX0_numberOf 17 = .ok (.ireturn, 1) := by decide +kernel
set_option maxRecDepth 20000 in
theorem ggX0_xOfLead_X3_isLead : GoodIn wsX0_xOfLead wsX3_isLead := goodIn_r _ [4] (by decide +kernel) (by decide +kernel)
set_option maxRecDepth 20000 in
theorem gX0_xOfLead_X3_isLead_n66 : GoodIn wsX0_xOfLead (wsX3_isLead) := ggX0_xOfLead_X3_isLead
theorem dX0_xOfLead_0 : decode cX0_xOfLead 0 = .ok (.iload_n 1, 1) := by decide +kernel
theorem dX0_xOfLead_1 : decode cX0_xOfLead 1 = .ok (.invokestatic 66, 3) := by decide +kernel
theorem dX0_xOfLead_4 : decode cX0_xOfLead 4 = .ok (.ifCond .eq 12, 3) := by decide +kernel
theorem dX0_xOfLead_7 : decode cX0_xOfLead 7 = .ok (.aload_n 0, 1) := by decide +kernel
theorem dX0_xOfLead_8 : decode cX0_xOfLead 8 = .ok (.getfield 9, 3) := by decide +kernel
theorem dX0_xOfLead_11 : decode cX0_xOfLead 11 = .ok (.iload_n 1, 1) := by decide +kernel
theorem dX0_xOfLead_12 : decode cX0_xOfLead 12 = .ok (.iaload, 1) := by decide +kernel
theorem dX0_xOfLead_13 : decode cX0_xOfLead 13 = .ok (.goto 4, 3) := by decide +kernel
theorem dX0_xOfLead_16 : decode cX0_xOfLead 16 = .ok (.iconst 0, 1) := by decide +kernel
theorem dX0_xOfLead_17 : decode cX0_xOfLead 17 = .ok (.ireturn, 1) := by decide +kernel
set_option maxRecDepth 20000 in
theorem ggX0_padAtLead_X0_hasWire : GoodIn wsX0_padAtLead wsX0_hasWire := goodIn_r _ [6, 1, 7, 8, 9, 10, 11, 12, 13, 14, 15, 16, 17, 18, 19, 20, 21] (by decide +kernel) (by decide +kernel)
set_option maxRecDepth 20000 in
theorem gX0_padAtLead_X0_hasWire : GoodIn wsX0_padAtLead (wsV RX0 69 RX0 yX0_hasWire wsX0_hasWire) := goodIn_app (goodIn_of _ (by decide +kernel)) ggX0_padAtLead_X0_hasWire
theorem dX0_padAtLead_0 : decode cX0_padAtLead 0 = .ok (.iconst 0, 1) := by decide +kernel
theorem dX0_padAtLead_1 : decode cX0_padAtLead 1 = .ok (.istore_n 2, 1) := by decide +kernel
theorem dX0_padAtLead_2 : decode cX0_padAtLead 2 = .ok (.iload_n 2, 1) := by decide +kernel
theorem dX0_padAtLead_3 : decode cX0_padAtLead 3 = .ok (.bipush 12, 2) := by decide +kernel
theorem dX0_padAtLead_5 : decode cX0_padAtLead 5 = .ok (.if_icmp .ge 29, 3) := by decide +kernel
theorem dX0_padAtLead_8 : decode cX0_padAtLead 8 = .ok (.aload_n 0, 1) := by decide +kernel
theorem dX0_padAtLead_9 : decode cX0_padAtLead 9 = .ok (.iload_n 2, 1) := by decide +kernel
theorem dX0_padAtLead_10 : decode cX0_padAtLead 10 = .ok (.invokevirtual 69, 3) := by decide +kernel
theorem dX0_padAtLead_13 : decode cX0_padAtLead 13 = .ok (.ifCond .eq 15, 3) := by decide +kernel
theorem dX0_padAtLead_16 : decode cX0_padAtLead 16 = .ok (.aload_n 0, 1) := by decide +kernel
theorem dX0_padAtLead_17 : decode cX0_padAtLead 17 = .ok (.getfield 15, 3) := by decide +kernel
theorem dX0_padAtLead_20 : decode cX0_padAtLead 20 = .ok (.iload_n 2, 1) := by decide +kernel
theorem dX0_padAtLead_21 : decode cX0_padAtLead 21 = .ok (.iaload, 1) := by decide +kernel
theorem dX0_padAtLead_22 : decode cX0_padAtLead 22 = .ok (.iload_n 1, 1) := by decide +kernel
theorem dX0_padAtLead_23 : decode cX0_padAtLead 23 = .ok (.if_icmp .ne 5, 3) := by decide +kernel
theorem dX0_padAtLead_26 : decode cX0_padAtLead 26 = .ok (.iload_n 2, 1) := by decide +kernel
theorem dX0_padAtLead_27 : decode cX0_padAtLead 27 = .ok (.ireturn, 1) := by decide +kernel
theorem dX0_padAtLead_28 : decode cX0_padAtLead 28 = .ok (.iinc 2 1, 3) := by decide +kernel
theorem dX0_padAtLead_31 : decode cX0_padAtLead 31 = .ok (.goto (-29), 3) := by decide +kernel
theorem dX0_padAtLead_34 : decode cX0_padAtLead 34 = .ok (.bipush (-5), 2) := by decide +kernel
theorem dX0_padAtLead_36 : decode cX0_padAtLead 36 = .ok (.ireturn, 1) := by decide +kernel
theorem dX0_endX_0 : decode cX0_endX 0 = .ok (.iload_n 1, 1) := by decide +kernel
theorem dX0_endX_1 : decode cX0_endX 1 = .ok (.ifCond .lt 18, 3) := by decide +kernel
theorem dX0_endX_4 : decode cX0_endX 4 = .ok (.iload_n 1, 1) := by decide +kernel
theorem dX0_endX_5 : decode cX0_endX 5 = .ok (.bipush 12, 2) := by decide +kernel
theorem dX0_endX_7 : decode cX0_endX 7 = .ok (.if_icmp .ge 12, 3) := by decide +kernel
theorem dX0_endX_10 : decode cX0_endX 10 = .ok (.aload_n 0, 1) := by decide +kernel
theorem dX0_endX_11 : decode cX0_endX 11 = .ok (.getfield 15, 3) := by decide +kernel
theorem dX0_endX_14 : decode cX0_endX 14 = .ok (.iload_n 1, 1) := by decide +kernel
theorem dX0_endX_15 : decode cX0_endX 15 = .ok (.iaload, 1) := by decide +kernel
theorem dX0_endX_16 : decode cX0_endX 16 = .ok (.goto 4, 3) := by decide +kernel
theorem dX0_endX_19 : decode cX0_endX 19 = .ok (.iconst (-1), 1) := by decide +kernel
theorem dX0_endX_20 : decode cX0_endX 20 = .ok (.istore_n 2, 1) := by decide +kernel
theorem dX0_endX_21 : decode cX0_endX 21 = .ok (.iload_n 2, 1) := by decide +kernel
theorem dX0_endX_22 : decode cX0_endX 22 = .ok (.ifCond .lt 18, 3) := by decide +kernel
theorem dX0_endX_25 : decode cX0_endX 25 = .ok (.iload_n 2, 1) := by decide +kernel
theorem dX0_endX_26 : decode cX0_endX 26 = .ok (.bipush 16, 2) := by decide +kernel
theorem dX0_endX_28 : decode cX0_endX 28 = .ok (.if_icmp .ge 12, 3) := by decide +kernel
theorem dX0_endX_31 : decode cX0_endX 31 = .ok (.aload_n 0, 1) := by decide +kernel
theorem dX0_endX_32 : decode cX0_endX 32 = .ok (.getfield 9, 3) := by decide +kernel
theorem dX0_endX_35 : decode cX0_endX 35 = .ok (.iload_n 2, 1) := by decide +kernel
theorem dX0_endX_36 : decode cX0_endX 36 = .ok (.iaload, 1) := by decide +kernel
theorem dX0_endX_37 : decode cX0_endX 37 = .ok (.goto 4, 3) := by decide +kernel
theorem dX0_endX_40 : decode cX0_endX 40 = .ok (.iconst 0, 1) := by decide +kernel
theorem dX0_endX_41 : decode cX0_endX 41 = .ok (.ireturn, 1) := by decide +kernel
set_option maxRecDepth 20000 in
theorem ggX0_changeHeight_X3_isPad : GoodIn wsX0_changeHeight wsX3_isPad := goodIn_r _ [4] (by decide +kernel) (by decide +kernel)
set_option maxRecDepth 20000 in
theorem gX0_changeHeight_X3_isPad_n62 : GoodIn wsX0_changeHeight (wsX3_isPad) := ggX0_changeHeight_X3_isPad
theorem dX0_changeHeight_0 : decode cX0_changeHeight 0 = .ok (.iload_n 1, 1) := by decide +kernel
theorem dX0_changeHeight_1 : decode cX0_changeHeight 1 = .ok (.invokestatic 62, 3) := by decide +kernel
theorem dX0_changeHeight_4 : decode cX0_changeHeight 4 = .ok (.ifCond .eq 10, 3) := by decide +kernel
theorem dX0_changeHeight_7 : decode cX0_changeHeight 7 = .ok (.aload_n 0, 1) := by decide +kernel
theorem dX0_changeHeight_8 : decode cX0_changeHeight 8 = .ok (.getfield 18, 3) := by decide +kernel
theorem dX0_changeHeight_11 : decode cX0_changeHeight 11 = .ok (.iload_n 1, 1) := by decide +kernel
theorem dX0_changeHeight_12 : decode cX0_changeHeight 12 = .ok (.iload_n 2, 1) := by decide +kernel
theorem dX0_changeHeight_13 : decode cX0_changeHeight 13 = .ok (.iastore, 1) := by decide +kernel
theorem dX0_changeHeight_14 : decode cX0_changeHeight 14 = .ok (.return_, 1) := by decide +kernel
set_option maxRecDepth 20000 in
theorem ggX0_placeLead_X3_isLead : GoodIn wsX0_placeLead wsX3_isLead := goodIn_r _ [4] (by decide +kernel) (by decide +kernel)
set_option maxRecDepth 20000 in
theorem gX0_placeLead_X3_isLead_n66 : GoodIn wsX0_placeLead (wsX3_isLead) := ggX0_placeLead_X3_isLead
theorem dX0_placeLead_0 : decode cX0_placeLead 0 = .ok (.iload_n 1, 1) := by decide +kernel
theorem dX0_placeLead_1 : decode cX0_placeLead 1 = .ok (.invokestatic 66, 3) := by decide +kernel
theorem dX0_placeLead_4 : decode cX0_placeLead 4 = .ok (.ifCond .eq 10, 3) := by decide +kernel
theorem dX0_placeLead_7 : decode cX0_placeLead 7 = .ok (.aload_n 0, 1) := by decide +kernel
theorem dX0_placeLead_8 : decode cX0_placeLead 8 = .ok (.getfield 9, 3) := by decide +kernel
theorem dX0_placeLead_11 : decode cX0_placeLead 11 = .ok (.iload_n 1, 1) := by decide +kernel
theorem dX0_placeLead_12 : decode cX0_placeLead 12 = .ok (.iload_n 2, 1) := by decide +kernel
theorem dX0_placeLead_13 : decode cX0_placeLead 13 = .ok (.iastore, 1) := by decide +kernel
theorem dX0_placeLead_14 : decode cX0_placeLead 14 = .ok (.return_, 1) := by decide +kernel
set_option maxRecDepth 20000 in
theorem ggX0_errorOfLaying_X0_hasWire : GoodIn wsX0_errorOfLaying wsX0_hasWire := goodIn_r _ [7, 8, 9, 10, 11, 16, 17, 18, 19, 20, 21, 22, 23, 24, 25, 26, 27] (by decide +kernel) (by decide +kernel)
set_option maxRecDepth 20000 in
theorem gX0_errorOfLaying_X0_hasWire : GoodIn wsX0_errorOfLaying (wsV RX0 69 RX0 yX0_hasWire wsX0_hasWire) := goodIn_app (goodIn_of _ (by decide +kernel)) ggX0_errorOfLaying_X0_hasWire
set_option maxRecDepth 20000 in
theorem ggX0_errorOfLaying_X0_padAtLead : GoodIn wsX0_errorOfLaying wsX0_padAtLead := goodIn_r _ [15, 8, 3, 4, 5, 6, 7, 9, 10, 11, 16, 17, 18, 19, 20, 21, 22, 23, 24, 25, 26, 27] (by decide +kernel) (by decide +kernel)
set_option maxRecDepth 20000 in
theorem gX0_errorOfLaying_X0_padAtLead : GoodIn wsX0_errorOfLaying (wsV RX0 72 RX0 yX0_padAtLead wsX0_padAtLead) := goodIn_app (goodIn_of _ (by decide +kernel)) ggX0_errorOfLaying_X0_padAtLead
theorem dX0_errorOfLaying_0 : decode cX0_errorOfLaying 0 = .ok (.aload_n 0, 1) := by decide +kernel
theorem dX0_errorOfLaying_1 : decode cX0_errorOfLaying 1 = .ok (.iload_n 1, 1) := by decide +kernel
theorem dX0_errorOfLaying_2 : decode cX0_errorOfLaying 2 = .ok (.invokevirtual 69, 3) := by decide +kernel
theorem dX0_errorOfLaying_5 : decode cX0_errorOfLaying 5 = .ok (.ifCond .ne 13, 3) := by decide +kernel
theorem dX0_errorOfLaying_8 : decode cX0_errorOfLaying 8 = .ok (.aload_n 0, 1) := by decide +kernel
theorem dX0_errorOfLaying_9 : decode cX0_errorOfLaying 9 = .ok (.iload_n 2, 1) := by decide +kernel
theorem dX0_errorOfLaying_10 : decode cX0_errorOfLaying 10 = .ok (.invokevirtual 72, 3) := by decide +kernel
theorem dX0_errorOfLaying_13 : decode cX0_errorOfLaying 13 = .ok (.bipush (-5), 2) := by decide +kernel
theorem dX0_errorOfLaying_15 : decode cX0_errorOfLaying 15 = .ok (.if_icmp .eq 6, 3) := by decide +kernel
theorem dX0_errorOfLaying_18 : decode cX0_errorOfLaying 18 = .ok (.bipush (-4), 2) := by decide +kernel
theorem dX0_errorOfLaying_20 : decode cX0_errorOfLaying 20 = .ok (.ireturn, 1) := by decide +kernel
theorem dX0_errorOfLaying_21 : decode cX0_errorOfLaying 21 = .ok (.aload_n 0, 1) := by decide +kernel
theorem dX0_errorOfLaying_22 : decode cX0_errorOfLaying 22 = .ok (.getfield 52, 3) := by decide +kernel
theorem dX0_errorOfLaying_25 : decode cX0_errorOfLaying 25 = .ok (.ifCond .eq 6, 3) := by decide +kernel
theorem dX0_errorOfLaying_28 : decode cX0_errorOfLaying 28 = .ok (.bipush (-6), 2) := by decide +kernel
theorem dX0_errorOfLaying_30 : decode cX0_errorOfLaying 30 = .ok (.ireturn, 1) := by decide +kernel
theorem dX0_errorOfLaying_31 : decode cX0_errorOfLaying 31 = .ok (.aload_n 0, 1) := by decide +kernel
theorem dX0_errorOfLaying_32 : decode cX0_errorOfLaying 32 = .ok (.getfield 46, 3) := by decide +kernel
theorem dX0_errorOfLaying_35 : decode cX0_errorOfLaying 35 = .ok (.sipush 200, 3) := by decide +kernel
theorem dX0_errorOfLaying_38 : decode cX0_errorOfLaying 38 = .ok (.if_icmp .lt 8, 3) := by decide +kernel
theorem dX0_errorOfLaying_41 : decode cX0_errorOfLaying 41 = .ok (.bipush (-7), 2) := by decide +kernel
theorem dX0_errorOfLaying_43 : decode cX0_errorOfLaying 43 = .ok (.goto 4, 3) := by decide +kernel
theorem dX0_errorOfLaying_46 : decode cX0_errorOfLaying 46 = .ok (.iconst 0, 1) := by decide +kernel
theorem dX0_errorOfLaying_47 : decode cX0_errorOfLaying 47 = .ok (.ireturn, 1) := by decide +kernel
set_option maxRecDepth 20000 in
theorem ggX0_addWire_X3_isPad : GoodIn wsX0_addWire wsX3_isPad := goodIn_r _ [11] (by decide +kernel) (by decide +kernel)
set_option maxRecDepth 20000 in
theorem gX0_addWire_X3_isPad_n62 : GoodIn wsX0_addWire (wsX3_isPad) := ggX0_addWire_X3_isPad
set_option maxRecDepth 20000 in
theorem ggX0_addWire_X3_isLead : GoodIn wsX0_addWire wsX3_isLead := goodIn_r _ [13] (by decide +kernel) (by decide +kernel)
set_option maxRecDepth 20000 in
theorem gX0_addWire_X3_isLead_n66 : GoodIn wsX0_addWire (wsX3_isLead) := ggX0_addWire_X3_isLead
set_option maxRecDepth 20000 in
theorem ggX0_addWire_X0_newStrength : GoodIn wsX0_addWire wsX0_newStrength := goodIn_r _ [18, 6, 19, 20, 21, 22, 23, 24, 25, 26, 10, 27, 28, 29, 30, 17, 31, 32, 12, 13, 39, 40, 41, 42, 43, 44, 45, 46, 47, 48, 49, 50] (by decide +kernel) (by decide +kernel)
set_option maxRecDepth 20000 in
theorem gX0_addWire_X0_newStrength : GoodIn wsX0_addWire (wsV RX0 76 RX0 yX0_newStrength wsX0_newStrength) := goodIn_app (goodIn_of _ (by decide +kernel)) ggX0_addWire_X0_newStrength
set_option maxRecDepth 20000 in
theorem ggX0_addWire_X0_wearOfLaying : GoodIn wsX0_addWire wsX0_wearOfLaying := goodIn_r _ [35] (by decide +kernel) (by decide +kernel)
set_option maxRecDepth 20000 in
theorem gX0_addWire_X0_wearOfLaying : GoodIn wsX0_addWire (va_wsS RX0 80 yX0_wearOfLaying wsX0_wearOfLaying) := goodIn_app (goodIn_of _ (by decide +kernel)) ggX0_addWire_X0_wearOfLaying
set_option maxRecDepth 20000 in
theorem ggX0_addWire_X0_losesTail : GoodIn wsX0_addWire wsX0_losesTail := goodIn_r _ [38] (by decide +kernel) (by decide +kernel)
set_option maxRecDepth 20000 in
theorem gX0_addWire_X0_losesTail : GoodIn wsX0_addWire (va_wsS RX0 83 yX0_losesTail wsX0_losesTail) := goodIn_app (goodIn_of _ (by decide +kernel)) ggX0_addWire_X0_losesTail
theorem dX0_addWire_0 : decode cX0_addWire 0 = .ok (.iload_n 1, 1) := by decide +kernel
theorem dX0_addWire_1 : decode cX0_addWire 1 = .ok (.invokestatic 62, 3) := by decide +kernel
theorem dX0_addWire_4 : decode cX0_addWire 4 = .ok (.ifCond .eq 10, 3) := by decide +kernel
theorem dX0_addWire_7 : decode cX0_addWire 7 = .ok (.iload_n 2, 1) := by decide +kernel
theorem dX0_addWire_8 : decode cX0_addWire 8 = .ok (.invokestatic 66, 3) := by decide +kernel
theorem dX0_addWire_11 : decode cX0_addWire 11 = .ok (.ifCond .ne 4, 3) := by decide +kernel
theorem dX0_addWire_14 : decode cX0_addWire 14 = .ok (.return_, 1) := by decide +kernel
theorem dX0_addWire_15 : decode cX0_addWire 15 = .ok (.aload_n 0, 1) := by decide +kernel
theorem dX0_addWire_16 : decode cX0_addWire 16 = .ok (.getfield 15, 3) := by decide +kernel
theorem dX0_addWire_19 : decode cX0_addWire 19 = .ok (.iload_n 1, 1) := by decide +kernel
theorem dX0_addWire_20 : decode cX0_addWire 20 = .ok (.iload_n 2, 1) := by decide +kernel
theorem dX0_addWire_21 : decode cX0_addWire 21 = .ok (.iastore, 1) := by decide +kernel
theorem dX0_addWire_22 : decode cX0_addWire 22 = .ok (.aload_n 0, 1) := by decide +kernel
theorem dX0_addWire_23 : decode cX0_addWire 23 = .ok (.getfield 18, 3) := by decide +kernel
theorem dX0_addWire_26 : decode cX0_addWire 26 = .ok (.iload_n 1, 1) := by decide +kernel
theorem dX0_addWire_27 : decode cX0_addWire 27 = .ok (.iload_n 3, 1) := by decide +kernel
theorem dX0_addWire_28 : decode cX0_addWire 28 = .ok (.iastore, 1) := by decide +kernel
theorem dX0_addWire_29 : decode cX0_addWire 29 = .ok (.aload_n 0, 1) := by decide +kernel
theorem dX0_addWire_30 : decode cX0_addWire 30 = .ok (.getfield 21, 3) := by decide +kernel
theorem dX0_addWire_33 : decode cX0_addWire 33 = .ok (.iload_n 1, 1) := by decide +kernel
theorem dX0_addWire_34 : decode cX0_addWire 34 = .ok (.aload_n 0, 1) := by decide +kernel
theorem dX0_addWire_35 : decode cX0_addWire 35 = .ok (.iload_n 1, 1) := by decide +kernel
theorem dX0_addWire_36 : decode cX0_addWire 36 = .ok (.iload_n 2, 1) := by decide +kernel
theorem dX0_addWire_37 : decode cX0_addWire 37 = .ok (.invokevirtual 76, 3) := by decide +kernel
theorem dX0_addWire_40 : decode cX0_addWire 40 = .ok (.iastore, 1) := by decide +kernel
theorem dX0_addWire_41 : decode cX0_addWire 41 = .ok (.aload_n 0, 1) := by decide +kernel
theorem dX0_addWire_42 : decode cX0_addWire 42 = .ok (.getfield 24, 3) := by decide +kernel
theorem dX0_addWire_45 : decode cX0_addWire 45 = .ok (.iload_n 1, 1) := by decide +kernel
theorem dX0_addWire_46 : decode cX0_addWire 46 = .ok (.aload_n 0, 1) := by decide +kernel
theorem dX0_addWire_47 : decode cX0_addWire 47 = .ok (.getfield 43, 3) := by decide +kernel
theorem dX0_addWire_50 : decode cX0_addWire 50 = .ok (.iastore, 1) := by decide +kernel
theorem dX0_addWire_51 : decode cX0_addWire 51 = .ok (.aload_n 0, 1) := by decide +kernel
theorem dX0_addWire_52 : decode cX0_addWire 52 = .ok (.dup, 1) := by decide +kernel
theorem dX0_addWire_53 : decode cX0_addWire 53 = .ok (.getfield 46, 3) := by decide +kernel
theorem dX0_addWire_56 : decode cX0_addWire 56 = .ok (.iload_n 3, 1) := by decide +kernel
theorem dX0_addWire_57 : decode cX0_addWire 57 = .ok (.invokestatic 80, 3) := by decide +kernel
theorem dX0_addWire_60 : decode cX0_addWire 60 = .ok (.iadd, 1) := by decide +kernel
theorem dX0_addWire_61 : decode cX0_addWire 61 = .ok (.putfield 46, 3) := by decide +kernel
theorem dX0_addWire_64 : decode cX0_addWire 64 = .ok (.aload_n 0, 1) := by decide +kernel
theorem dX0_addWire_65 : decode cX0_addWire 65 = .ok (.dup, 1) := by decide +kernel
theorem dX0_addWire_66 : decode cX0_addWire 66 = .ok (.getfield 43, 3) := by decide +kernel
theorem dX0_addWire_69 : decode cX0_addWire 69 = .ok (.iconst 1, 1) := by decide +kernel
theorem dX0_addWire_70 : decode cX0_addWire 70 = .ok (.iadd, 1) := by decide +kernel
theorem dX0_addWire_71 : decode cX0_addWire 71 = .ok (.putfield 43, 3) := by decide +kernel
theorem dX0_addWire_74 : decode cX0_addWire 74 = .ok (.aload_n 0, 1) := by decide +kernel
theorem dX0_addWire_75 : decode cX0_addWire 75 = .ok (.getfield 43, 3) := by decide +kernel
theorem dX0_addWire_78 : decode cX0_addWire 78 = .ok (.invokestatic 83, 3) := by decide +kernel
theorem dX0_addWire_81 : decode cX0_addWire 81 = .ok (.ifCond .eq 18, 3) := by decide +kernel
theorem dX0_addWire_84 : decode cX0_addWire 84 = .ok (.aload_n 0, 1) := by decide +kernel
theorem dX0_addWire_85 : decode cX0_addWire 85 = .ok (.iconst 1, 1) := by decide +kernel
theorem dX0_addWire_86 : decode cX0_addWire 86 = .ok (.putfield 52, 3) := by decide +kernel
theorem dX0_addWire_89 : decode cX0_addWire 89 = .ok (.aload_n 0, 1) := by decide +kernel
theorem dX0_addWire_90 : decode cX0_addWire 90 = .ok (.dup, 1) := by decide +kernel
theorem dX0_addWire_91 : decode cX0_addWire 91 = .ok (.getfield 56, 3) := by decide +kernel
theorem dX0_addWire_94 : decode cX0_addWire 94 = .ok (.iconst 1, 1) := by decide +kernel
theorem dX0_addWire_95 : decode cX0_addWire 95 = .ok (.iadd, 1) := by decide +kernel
theorem dX0_addWire_96 : decode cX0_addWire 96 = .ok (.putfield 56, 3) := by decide +kernel
theorem dX0_addWire_99 : decode cX0_addWire 99 = .ok (.return_, 1) := by decide +kernel
set_option maxRecDepth 20000 in
theorem ggX0_addListed_X2_listed : GoodIn wsX0_addListed wsX2_listed := goodIn_r _ [5, 6, 82, 83, 84, 85, 86, 87, 88] (by decide +kernel) (by decide +kernel)
set_option maxRecDepth 20000 in
theorem gX0_addListed_X2_listed : GoodIn wsX0_addListed (wsV RX0 86 RX2 yX2_listed wsX2_listed) := goodIn_app (goodIn_of _ (by decide +kernel)) ggX0_addListed_X2_listed
set_option maxRecDepth 20000 in
theorem ggX0_addListed_X2_listedPad : GoodIn wsX0_addListed wsX2_listedPad := goodIn_r _ [10, 11, 12, 13, 14, 4, 15, 6, 16, 17, 18, 82, 83, 84, 85, 86, 87, 88] (by decide +kernel) (by decide +kernel)
set_option maxRecDepth 20000 in
theorem gX0_addListed_X2_listedPad : GoodIn wsX0_addListed (wsV RX0 92 RX2 yX2_listedPad wsX2_listedPad) := goodIn_app (goodIn_of _ (by decide +kernel)) ggX0_addListed_X2_listedPad
set_option maxRecDepth 20000 in
theorem ggX0_addListed_X2_listedLead : GoodIn wsX0_addListed wsX2_listedLead := goodIn_r _ [22, 23, 12, 13, 14, 4, 15, 6, 16, 17, 18, 82, 83, 84, 85, 86, 87, 88] (by decide +kernel) (by decide +kernel)
set_option maxRecDepth 20000 in
theorem gX0_addListed_X2_listedLead : GoodIn wsX0_addListed (wsV RX0 95 RX2 yX2_listedLead wsX2_listedLead) := goodIn_app (goodIn_of _ (by decide +kernel)) ggX0_addListed_X2_listedLead
set_option maxRecDepth 20000 in
theorem ggX0_addListed_X0_errorOfLaying : GoodIn wsX0_addListed wsX0_errorOfLaying := goodIn_r _ [28, 29, 30, 31, 32, 33, 27, 34, 35, 36, 17, 37, 38, 39, 40, 41, 89, 90, 91, 92, 93, 94, 95, 96, 97, 98, 99, 100] (by decide +kernel) (by decide +kernel)
set_option maxRecDepth 20000 in
theorem gX0_addListed_X0_errorOfLaying : GoodIn wsX0_addListed (wsV RX0 98 RX0 yX0_errorOfLaying wsX0_errorOfLaying) := goodIn_app (goodIn_of _ (by decide +kernel)) ggX0_addListed_X0_errorOfLaying
set_option maxRecDepth 20000 in
theorem ggX0_addListed_X2_listedHeight : GoodIn wsX0_addListed wsX2_listedHeight := goodIn_r _ [45, 46, 12, 13, 14, 4, 15, 6, 16, 17, 18, 82, 83, 84, 85, 86, 87, 88] (by decide +kernel) (by decide +kernel)
set_option maxRecDepth 20000 in
theorem gX0_addListed_X2_listedHeight : GoodIn wsX0_addListed (wsV RX0 101 RX2 yX2_listedHeight wsX2_listedHeight) := goodIn_app (goodIn_of _ (by decide +kernel)) ggX0_addListed_X2_listedHeight
set_option maxRecDepth 20000 in
theorem ggX0_addListed_X0_addWire : GoodIn wsX0_addListed wsX0_addWire := goodIn_r _ [50, 35, 51, 52, 53, 54, 30, 29, 55, 36, 17, 37, 56, 57, 58, 59, 60, 27, 61, 62, 63, 64, 65, 66, 67, 68, 69, 70, 71, 72, 73, 74, 75, 76, 77, 78, 79, 80, 81, 89, 90, 91, 92, 93, 94, 95, 96, 97, 98, 99, 100] (by decide +kernel) (by decide +kernel)
set_option maxRecDepth 20000 in
theorem gX0_addListed_X0_addWire : GoodIn wsX0_addListed (wsV RX0 104 RX0 yX0_addWire wsX0_addWire) := goodIn_app (goodIn_of _ (by decide +kernel)) ggX0_addListed_X0_addWire
theorem dX0_addListed_0 : decode cX0_addListed 0 = .ok (.iconst 0, 1) := by decide +kernel
theorem dX0_addListed_1 : decode cX0_addListed 1 = .ok (.istore_n 2, 1) := by decide +kernel
theorem dX0_addListed_2 : decode cX0_addListed 2 = .ok (.iload_n 2, 1) := by decide +kernel
theorem dX0_addListed_3 : decode cX0_addListed 3 = .ok (.aload_n 1, 1) := by decide +kernel
theorem dX0_addListed_4 : decode cX0_addListed 4 = .ok (.invokevirtual 86, 3) := by decide +kernel
theorem dX0_addListed_7 : decode cX0_addListed 7 = .ok (.if_icmp .ge 51, 3) := by decide +kernel
theorem dX0_addListed_10 : decode cX0_addListed 10 = .ok (.aload_n 1, 1) := by decide +kernel
theorem dX0_addListed_11 : decode cX0_addListed 11 = .ok (.iload_n 2, 1) := by decide +kernel
theorem dX0_addListed_12 : decode cX0_addListed 12 = .ok (.invokevirtual 92, 3) := by decide +kernel
theorem dX0_addListed_15 : decode cX0_addListed 15 = .ok (.istore_n 3, 1) := by decide +kernel
theorem dX0_addListed_16 : decode cX0_addListed 16 = .ok (.aload_n 1, 1) := by decide +kernel
theorem dX0_addListed_17 : decode cX0_addListed 17 = .ok (.iload_n 2, 1) := by decide +kernel
theorem dX0_addListed_18 : decode cX0_addListed 18 = .ok (.invokevirtual 95, 3) := by decide +kernel
theorem dX0_addListed_21 : decode cX0_addListed 21 = .ok (.istore 4, 2) := by decide +kernel
theorem dX0_addListed_23 : decode cX0_addListed 23 = .ok (.aload_n 0, 1) := by decide +kernel
theorem dX0_addListed_24 : decode cX0_addListed 24 = .ok (.iload_n 3, 1) := by decide +kernel
theorem dX0_addListed_25 : decode cX0_addListed 25 = .ok (.iload 4, 2) := by decide +kernel
theorem dX0_addListed_27 : decode cX0_addListed 27 = .ok (.invokevirtual 98, 3) := by decide +kernel
theorem dX0_addListed_30 : decode cX0_addListed 30 = .ok (.istore 5, 2) := by decide +kernel
theorem dX0_addListed_32 : decode cX0_addListed 32 = .ok (.iload 5, 2) := by decide +kernel
theorem dX0_addListed_34 : decode cX0_addListed 34 = .ok (.ifCond .eq 6, 3) := by decide +kernel
theorem dX0_addListed_37 : decode cX0_addListed 37 = .ok (.iload 5, 2) := by decide +kernel
theorem dX0_addListed_39 : decode cX0_addListed 39 = .ok (.ireturn, 1) := by decide +kernel
theorem dX0_addListed_40 : decode cX0_addListed 40 = .ok (.aload_n 0, 1) := by decide +kernel
theorem dX0_addListed_41 : decode cX0_addListed 41 = .ok (.iload_n 3, 1) := by decide +kernel
theorem dX0_addListed_42 : decode cX0_addListed 42 = .ok (.iload 4, 2) := by decide +kernel
theorem dX0_addListed_44 : decode cX0_addListed 44 = .ok (.aload_n 1, 1) := by decide +kernel
theorem dX0_addListed_45 : decode cX0_addListed 45 = .ok (.iload_n 2, 1) := by decide +kernel
theorem dX0_addListed_46 : decode cX0_addListed 46 = .ok (.invokevirtual 101, 3) := by decide +kernel
theorem dX0_addListed_49 : decode cX0_addListed 49 = .ok (.invokevirtual 104, 3) := by decide +kernel
theorem dX0_addListed_52 : decode cX0_addListed 52 = .ok (.iinc 2 1, 3) := by decide +kernel
theorem dX0_addListed_55 : decode cX0_addListed 55 = .ok (.goto (-53), 3) := by decide +kernel
theorem dX0_addListed_58 : decode cX0_addListed 58 = .ok (.iconst 0, 1) := by decide +kernel
theorem dX0_addListed_59 : decode cX0_addListed 59 = .ok (.ireturn, 1) := by decide +kernel
set_option maxRecDepth 20000 in
theorem ggX0_newStrength_X3_padX : GoodIn wsX0_newStrength wsX3_padX := goodIn_r _ [11] (by decide +kernel) (by decide +kernel)
set_option maxRecDepth 20000 in
theorem gX0_newStrength_X3_padX_n113 : GoodIn wsX0_newStrength (wsX3_padX) := ggX0_newStrength_X3_padX
set_option maxRecDepth 20000 in
theorem ggX0_newStrength_X0_xOfLead : GoodIn wsX0_newStrength wsX0_xOfLead := goodIn_r _ [16, 17, 18, 10, 19, 20, 21, 22, 23, 24, 25, 26, 27, 28, 29, 30, 31] (by decide +kernel) (by decide +kernel)
set_option maxRecDepth 20000 in
theorem gX0_newStrength_X0_xOfLead : GoodIn wsX0_newStrength (wsV RX0 116 RX0 yX0_xOfLead wsX0_xOfLead) := goodIn_app (goodIn_of _ (by decide +kernel)) ggX0_newStrength_X0_xOfLead
theorem dX0_newStrength_0 : decode cX0_newStrength 0 = .ok (.iconst 0, 1) := by decide +kernel
theorem dX0_newStrength_1 : decode cX0_newStrength 1 = .ok (.bipush 100, 2) := by decide +kernel
theorem dX0_newStrength_3 : decode cX0_newStrength 3 = .ok (.aload_n 0, 1) := by decide +kernel
theorem dX0_newStrength_4 : decode cX0_newStrength 4 = .ok (.getfield 46, 3) := by decide +kernel
theorem dX0_newStrength_7 : decode cX0_newStrength 7 = .ok (.iconst 4, 1) := by decide +kernel
theorem dX0_newStrength_8 : decode cX0_newStrength 8 = .ok (.idiv, 1) := by decide +kernel
theorem dX0_newStrength_9 : decode cX0_newStrength 9 = .ok (.isub, 1) := by decide +kernel
theorem dX0_newStrength_10 : decode cX0_newStrength 10 = .ok (.invokestatic 108, 3) := by decide +kernel
theorem dX0_newStrength_13 : decode cX0_newStrength 13 = .ok (.istore_n 3, 1) := by decide +kernel
theorem dX0_newStrength_14 : decode cX0_newStrength 14 = .ok (.iload_n 1, 1) := by decide +kernel
theorem dX0_newStrength_15 : decode cX0_newStrength 15 = .ok (.invokestatic 113, 3) := by decide +kernel
theorem dX0_newStrength_18 : decode cX0_newStrength 18 = .ok (.aload_n 0, 1) := by decide +kernel
theorem dX0_newStrength_19 : decode cX0_newStrength 19 = .ok (.iload_n 2, 1) := by decide +kernel
theorem dX0_newStrength_20 : decode cX0_newStrength 20 = .ok (.invokevirtual 116, 3) := by decide +kernel
theorem dX0_newStrength_23 : decode cX0_newStrength 23 = .ok (.isub, 1) := by decide +kernel
theorem dX0_newStrength_24 : decode cX0_newStrength 24 = .ok (.invokestatic 119, 3) := by decide +kernel
theorem dX0_newStrength_27 : decode cX0_newStrength 27 = .ok (.istore 4, 2) := by decide +kernel
theorem dX0_newStrength_29 : decode cX0_newStrength 29 = .ok (.iconst 0, 1) := by decide +kernel
theorem dX0_newStrength_30 : decode cX0_newStrength 30 = .ok (.iload_n 3, 1) := by decide +kernel
theorem dX0_newStrength_31 : decode cX0_newStrength 31 = .ok (.iload 4, 2) := by decide +kernel
theorem dX0_newStrength_33 : decode cX0_newStrength 33 = .ok (.bipush 20, 2) := by decide +kernel
theorem dX0_newStrength_35 : decode cX0_newStrength 35 = .ok (.idiv, 1) := by decide +kernel
theorem dX0_newStrength_36 : decode cX0_newStrength 36 = .ok (.isub, 1) := by decide +kernel
theorem dX0_newStrength_37 : decode cX0_newStrength 37 = .ok (.invokestatic 108, 3) := by decide +kernel
theorem dX0_newStrength_40 : decode cX0_newStrength 40 = .ok (.ireturn, 1) := by decide +kernel
theorem dX0_wearOfLaying_0 : decode cX0_wearOfLaying 0 = .ok (.iconst 2, 1) := by decide +kernel
theorem dX0_wearOfLaying_1 : decode cX0_wearOfLaying 1 = .ok (.iload_n 0, 1) := by decide +kernel
theorem dX0_wearOfLaying_2 : decode cX0_wearOfLaying 2 = .ok (.bipush 50, 2) := by decide +kernel
theorem dX0_wearOfLaying_4 : decode cX0_wearOfLaying 4 = .ok (.idiv, 1) := by decide +kernel
theorem dX0_wearOfLaying_5 : decode cX0_wearOfLaying 5 = .ok (.iadd, 1) := by decide +kernel
theorem dX0_wearOfLaying_6 : decode cX0_wearOfLaying 6 = .ok (.ireturn, 1) := by decide +kernel
theorem dX0_losesTail_0 : decode cX0_losesTail 0 = .ok (.iload_n 0, 1) := by decide +kernel
theorem dX0_losesTail_1 : decode cX0_losesTail 1 = .ok (.bipush 7, 2) := by decide +kernel
theorem dX0_losesTail_3 : decode cX0_losesTail 3 = .ok (.irem, 1) := by decide +kernel
theorem dX0_losesTail_4 : decode cX0_losesTail 4 = .ok (.ifCond .ne 7, 3) := by decide +kernel
theorem dX0_losesTail_7 : decode cX0_losesTail 7 = .ok (.iconst 1, 1) := by decide +kernel
theorem dX0_losesTail_8 : decode cX0_losesTail 8 = .ok (.goto 4, 3) := by decide +kernel
theorem dX0_losesTail_11 : decode cX0_losesTail 11 = .ok (.iconst 0, 1) := by decide +kernel
theorem dX0_losesTail_12 : decode cX0_losesTail 12 = .ok (.ireturn, 1) := by decide +kernel
set_option maxRecDepth 20000 in
theorem ggX0_laysUntilStop_X0_wearOfLaying : GoodIn wsX0_laysUntilStop wsX0_wearOfLaying := goodIn_r _ [7] (by decide +kernel) (by decide +kernel)
set_option maxRecDepth 20000 in
theorem gX0_laysUntilStop_X0_wearOfLaying : GoodIn wsX0_laysUntilStop (va_wsS RX0 80 yX0_wearOfLaying wsX0_wearOfLaying) := goodIn_app (goodIn_of _ (by decide +kernel)) ggX0_laysUntilStop_X0_wearOfLaying
set_option maxRecDepth 20000 in
theorem ggX0_laysUntilStop_X0_losesTail : GoodIn wsX0_laysUntilStop wsX0_losesTail := goodIn_r _ [10] (by decide +kernel) (by decide +kernel)
set_option maxRecDepth 20000 in
theorem gX0_laysUntilStop_X0_losesTail : GoodIn wsX0_laysUntilStop (va_wsS RX0 83 yX0_losesTail wsX0_losesTail) := goodIn_app (goodIn_of _ (by decide +kernel)) ggX0_laysUntilStop_X0_losesTail
theorem dX0_laysUntilStop_0 : decode cX0_laysUntilStop 0 = .ok (.aload_n 0, 1) := by decide +kernel
theorem dX0_laysUntilStop_1 : decode cX0_laysUntilStop 1 = .ok (.getfield 46, 3) := by decide +kernel
theorem dX0_laysUntilStop_4 : decode cX0_laysUntilStop 4 = .ok (.istore_n 2, 1) := by decide +kernel
theorem dX0_laysUntilStop_5 : decode cX0_laysUntilStop 5 = .ok (.aload_n 0, 1) := by decide +kernel
theorem dX0_laysUntilStop_6 : decode cX0_laysUntilStop 6 = .ok (.getfield 52, 3) := by decide +kernel
theorem dX0_laysUntilStop_9 : decode cX0_laysUntilStop 9 = .ok (.istore_n 3, 1) := by decide +kernel
theorem dX0_laysUntilStop_10 : decode cX0_laysUntilStop 10 = .ok (.iconst 0, 1) := by decide +kernel
theorem dX0_laysUntilStop_11 : decode cX0_laysUntilStop 11 = .ok (.istore 4, 2) := by decide +kernel
theorem dX0_laysUntilStop_13 : decode cX0_laysUntilStop 13 = .ok (.iload 4, 2) := by decide +kernel
theorem dX0_laysUntilStop_15 : decode cX0_laysUntilStop 15 = .ok (.bipush 7, 2) := by decide +kernel
theorem dX0_laysUntilStop_17 : decode cX0_laysUntilStop 17 = .ok (.if_icmp .ge 38, 3) := by decide +kernel
theorem dX0_laysUntilStop_20 : decode cX0_laysUntilStop 20 = .ok (.iload_n 3, 1) := by decide +kernel
theorem dX0_laysUntilStop_21 : decode cX0_laysUntilStop 21 = .ok (.ifCond .ne 34, 3) := by decide +kernel
theorem dX0_laysUntilStop_24 : decode cX0_laysUntilStop 24 = .ok (.iload_n 2, 1) := by decide +kernel
theorem dX0_laysUntilStop_25 : decode cX0_laysUntilStop 25 = .ok (.sipush 200, 3) := by decide +kernel
theorem dX0_laysUntilStop_28 : decode cX0_laysUntilStop 28 = .ok (.if_icmp .ge 27, 3) := by decide +kernel
theorem dX0_laysUntilStop_31 : decode cX0_laysUntilStop 31 = .ok (.iinc 4 1, 3) := by decide +kernel
theorem dX0_laysUntilStop_34 : decode cX0_laysUntilStop 34 = .ok (.iload_n 2, 1) := by decide +kernel
theorem dX0_laysUntilStop_35 : decode cX0_laysUntilStop 35 = .ok (.iload_n 1, 1) := by decide +kernel
theorem dX0_laysUntilStop_36 : decode cX0_laysUntilStop 36 = .ok (.invokestatic 80, 3) := by decide +kernel
theorem dX0_laysUntilStop_39 : decode cX0_laysUntilStop 39 = .ok (.iadd, 1) := by decide +kernel
theorem dX0_laysUntilStop_40 : decode cX0_laysUntilStop 40 = .ok (.istore_n 2, 1) := by decide +kernel
theorem dX0_laysUntilStop_41 : decode cX0_laysUntilStop 41 = .ok (.aload_n 0, 1) := by decide +kernel
theorem dX0_laysUntilStop_42 : decode cX0_laysUntilStop 42 = .ok (.getfield 43, 3) := by decide +kernel
theorem dX0_laysUntilStop_45 : decode cX0_laysUntilStop 45 = .ok (.iload 4, 2) := by decide +kernel
theorem dX0_laysUntilStop_47 : decode cX0_laysUntilStop 47 = .ok (.iadd, 1) := by decide +kernel
theorem dX0_laysUntilStop_48 : decode cX0_laysUntilStop 48 = .ok (.invokestatic 83, 3) := by decide +kernel
theorem dX0_laysUntilStop_51 : decode cX0_laysUntilStop 51 = .ok (.istore_n 3, 1) := by decide +kernel
theorem dX0_laysUntilStop_52 : decode cX0_laysUntilStop 52 = .ok (.goto (-39), 3) := by decide +kernel
theorem dX0_laysUntilStop_55 : decode cX0_laysUntilStop 55 = .ok (.iload 4, 2) := by decide +kernel
theorem dX0_laysUntilStop_57 : decode cX0_laysUntilStop 57 = .ok (.ireturn, 1) := by decide +kernel
set_option maxRecDepth 20000 in
theorem ggX0_removeWire_X3_isPad : GoodIn wsX0_removeWire wsX3_isPad := goodIn_r _ [4] (by decide +kernel) (by decide +kernel)
set_option maxRecDepth 20000 in
theorem gX0_removeWire_X3_isPad_n62 : GoodIn wsX0_removeWire (wsX3_isPad) := ggX0_removeWire_X3_isPad
theorem dX0_removeWire_0 : decode cX0_removeWire 0 = .ok (.iload_n 1, 1) := by decide +kernel
theorem dX0_removeWire_1 : decode cX0_removeWire 1 = .ok (.invokestatic 62, 3) := by decide +kernel
theorem dX0_removeWire_4 : decode cX0_removeWire 4 = .ok (.ifCond .eq 10, 3) := by decide +kernel
theorem dX0_removeWire_7 : decode cX0_removeWire 7 = .ok (.aload_n 0, 1) := by decide +kernel
theorem dX0_removeWire_8 : decode cX0_removeWire 8 = .ok (.getfield 15, 3) := by decide +kernel
theorem dX0_removeWire_11 : decode cX0_removeWire 11 = .ok (.iload_n 1, 1) := by decide +kernel
theorem dX0_removeWire_12 : decode cX0_removeWire 12 = .ok (.iconst (-1), 1) := by decide +kernel
theorem dX0_removeWire_13 : decode cX0_removeWire 13 = .ok (.iastore, 1) := by decide +kernel
theorem dX0_removeWire_14 : decode cX0_removeWire 14 = .ok (.return_, 1) := by decide +kernel
set_option maxRecDepth 20000 in
theorem ggX0_breaksUnder_X0_hasWire : GoodIn wsX0_breaksUnder wsX0_hasWire := goodIn_r _ [11, 12, 13, 14, 15, 20, 21, 22, 23, 24, 25, 26, 27, 28, 29, 30, 31] (by decide +kernel) (by decide +kernel)
set_option maxRecDepth 20000 in
theorem gX0_breaksUnder_X0_hasWire : GoodIn wsX0_breaksUnder (wsV RX0 69 RX0 yX0_hasWire wsX0_hasWire) := goodIn_app (goodIn_of _ (by decide +kernel)) ggX0_breaksUnder_X0_hasWire
set_option maxRecDepth 20000 in
theorem ggX0_breaksUnder_X0_removeWire : GoodIn wsX0_breaksUnder wsX0_removeWire := goodIn_r _ [19, 12, 13, 14, 15, 20, 21, 22, 23, 24, 25, 26, 27, 28, 29, 30, 31] (by decide +kernel) (by decide +kernel)
set_option maxRecDepth 20000 in
theorem gX0_breaksUnder_X0_removeWire : GoodIn wsX0_breaksUnder (wsV RX0 122 RX0 yX0_removeWire wsX0_removeWire) := goodIn_app (goodIn_of _ (by decide +kernel)) ggX0_breaksUnder_X0_removeWire
theorem dX0_breaksUnder_0 : decode cX0_breaksUnder 0 = .ok (.aload_n 0, 1) := by decide +kernel
theorem dX0_breaksUnder_1 : decode cX0_breaksUnder 1 = .ok (.iload_n 1, 1) := by decide +kernel
theorem dX0_breaksUnder_2 : decode cX0_breaksUnder 2 = .ok (.invokevirtual 69, 3) := by decide +kernel
theorem dX0_breaksUnder_5 : decode cX0_breaksUnder 5 = .ok (.ifCond .ne 5, 3) := by decide +kernel
theorem dX0_breaksUnder_8 : decode cX0_breaksUnder 8 = .ok (.iconst 0, 1) := by decide +kernel
theorem dX0_breaksUnder_9 : decode cX0_breaksUnder 9 = .ok (.ireturn, 1) := by decide +kernel
theorem dX0_breaksUnder_10 : decode cX0_breaksUnder 10 = .ok (.aload_n 0, 1) := by decide +kernel
theorem dX0_breaksUnder_11 : decode cX0_breaksUnder 11 = .ok (.getfield 21, 3) := by decide +kernel
theorem dX0_breaksUnder_14 : decode cX0_breaksUnder 14 = .ok (.iload_n 1, 1) := by decide +kernel
theorem dX0_breaksUnder_15 : decode cX0_breaksUnder 15 = .ok (.iaload, 1) := by decide +kernel
theorem dX0_breaksUnder_16 : decode cX0_breaksUnder 16 = .ok (.iload_n 2, 1) := by decide +kernel
theorem dX0_breaksUnder_17 : decode cX0_breaksUnder 17 = .ok (.if_icmp .ge 20, 3) := by decide +kernel
theorem dX0_breaksUnder_20 : decode cX0_breaksUnder 20 = .ok (.aload_n 0, 1) := by decide +kernel
theorem dX0_breaksUnder_21 : decode cX0_breaksUnder 21 = .ok (.iload_n 1, 1) := by decide +kernel
theorem dX0_breaksUnder_22 : decode cX0_breaksUnder 22 = .ok (.invokevirtual 122, 3) := by decide +kernel
theorem dX0_breaksUnder_25 : decode cX0_breaksUnder 25 = .ok (.aload_n 0, 1) := by decide +kernel
theorem dX0_breaksUnder_26 : decode cX0_breaksUnder 26 = .ok (.dup, 1) := by decide +kernel
theorem dX0_breaksUnder_27 : decode cX0_breaksUnder 27 = .ok (.getfield 59, 3) := by decide +kernel
theorem dX0_breaksUnder_30 : decode cX0_breaksUnder 30 = .ok (.iconst 1, 1) := by decide +kernel
theorem dX0_breaksUnder_31 : decode cX0_breaksUnder 31 = .ok (.iadd, 1) := by decide +kernel
theorem dX0_breaksUnder_32 : decode cX0_breaksUnder 32 = .ok (.putfield 59, 3) := by decide +kernel
theorem dX0_breaksUnder_35 : decode cX0_breaksUnder 35 = .ok (.iconst 1, 1) := by decide +kernel
theorem dX0_breaksUnder_36 : decode cX0_breaksUnder 36 = .ok (.ireturn, 1) := by decide +kernel
theorem dX0_breaksUnder_37 : decode cX0_breaksUnder 37 = .ok (.aload_n 0, 1) := by decide +kernel
theorem dX0_breaksUnder_38 : decode cX0_breaksUnder 38 = .ok (.getfield 21, 3) := by decide +kernel
theorem dX0_breaksUnder_41 : decode cX0_breaksUnder 41 = .ok (.iload_n 1, 1) := by decide +kernel
theorem dX0_breaksUnder_42 : decode cX0_breaksUnder 42 = .ok (.iconst 0, 1) := by decide +kernel
theorem dX0_breaksUnder_43 : decode cX0_breaksUnder 43 = .ok (.aload_n 0, 1) := by decide +kernel
theorem dX0_breaksUnder_44 : decode cX0_breaksUnder 44 = .ok (.getfield 21, 3) := by decide +kernel
theorem dX0_breaksUnder_47 : decode cX0_breaksUnder 47 = .ok (.iload_n 1, 1) := by decide +kernel
theorem dX0_breaksUnder_48 : decode cX0_breaksUnder 48 = .ok (.iaload, 1) := by decide +kernel
theorem dX0_breaksUnder_49 : decode cX0_breaksUnder 49 = .ok (.iload_n 2, 1) := by decide +kernel
theorem dX0_breaksUnder_50 : decode cX0_breaksUnder 50 = .ok (.bipush 10, 2) := by decide +kernel
theorem dX0_breaksUnder_52 : decode cX0_breaksUnder 52 = .ok (.idiv, 1) := by decide +kernel
theorem dX0_breaksUnder_53 : decode cX0_breaksUnder 53 = .ok (.isub, 1) := by decide +kernel
theorem dX0_breaksUnder_54 : decode cX0_breaksUnder 54 = .ok (.invokestatic 108, 3) := by decide +kernel
theorem dX0_breaksUnder_57 : decode cX0_breaksUnder 57 = .ok (.iastore, 1) := by decide +kernel
theorem dX0_breaksUnder_58 : decode cX0_breaksUnder 58 = .ok (.iconst 0, 1) := by decide +kernel
theorem dX0_breaksUnder_59 : decode cX0_breaksUnder 59 = .ok (.ireturn, 1) := by decide +kernel
set_option maxRecDepth 20000 in
theorem ggX0_breakingOfSample_X0_hasWire : GoodIn wsX0_breakingOfSample wsX0_hasWire := goodIn_r _ [5, 6, 7, 8, 9, 24, 25, 26, 27, 28, 29, 30, 31, 32, 33, 34, 35] (by decide +kernel) (by decide +kernel)
set_option maxRecDepth 20000 in
theorem gX0_breakingOfSample_X0_hasWire : GoodIn wsX0_breakingOfSample (wsV RX0 69 RX0 yX0_hasWire wsX0_hasWire) := goodIn_app (goodIn_of _ (by decide +kernel)) ggX0_breakingOfSample_X0_hasWire
set_option maxRecDepth 20000 in
theorem ggX0_breakingOfSample_X0_breaksUnder : GoodIn wsX0_breakingOfSample wsX0_breaksUnder := goodIn_r _ [13, 14, 15, 16, 17, 18, 19, 1, 2, 3, 4, 5, 6, 7, 8, 9, 20, 21, 22, 23, 24, 25, 26, 27, 28, 29, 30, 31, 32, 33, 34, 35] (by decide +kernel) (by decide +kernel)
set_option maxRecDepth 20000 in
theorem gX0_breakingOfSample_X0_breaksUnder : GoodIn wsX0_breakingOfSample (wsV RX0 126 RX0 yX0_breaksUnder wsX0_breaksUnder) := goodIn_app (goodIn_of _ (by decide +kernel)) ggX0_breakingOfSample_X0_breaksUnder
theorem dX0_breakingOfSample_0 : decode cX0_breakingOfSample 0 = .ok (.iconst 0, 1) := by decide +kernel
theorem dX0_breakingOfSample_1 : decode cX0_breakingOfSample 1 = .ok (.istore_n 3, 1) := by decide +kernel
theorem dX0_breakingOfSample_2 : decode cX0_breakingOfSample 2 = .ok (.iconst 0, 1) := by decide +kernel
theorem dX0_breakingOfSample_3 : decode cX0_breakingOfSample 3 = .ok (.istore 4, 2) := by decide +kernel
theorem dX0_breakingOfSample_5 : decode cX0_breakingOfSample 5 = .ok (.iconst 0, 1) := by decide +kernel
theorem dX0_breakingOfSample_6 : decode cX0_breakingOfSample 6 = .ok (.istore 5, 2) := by decide +kernel
theorem dX0_breakingOfSample_8 : decode cX0_breakingOfSample 8 = .ok (.iload 5, 2) := by decide +kernel
theorem dX0_breakingOfSample_10 : decode cX0_breakingOfSample 10 = .ok (.bipush 12, 2) := by decide +kernel
theorem dX0_breakingOfSample_12 : decode cX0_breakingOfSample 12 = .ok (.if_icmp .ge 51, 3) := by decide +kernel
theorem dX0_breakingOfSample_15 : decode cX0_breakingOfSample 15 = .ok (.aload_n 0, 1) := by decide +kernel
theorem dX0_breakingOfSample_16 : decode cX0_breakingOfSample 16 = .ok (.iload 5, 2) := by decide +kernel
theorem dX0_breakingOfSample_18 : decode cX0_breakingOfSample 18 = .ok (.invokevirtual 69, 3) := by decide +kernel
theorem dX0_breakingOfSample_21 : decode cX0_breakingOfSample 21 = .ok (.ifCond .ne 6, 3) := by decide +kernel
theorem dX0_breakingOfSample_24 : decode cX0_breakingOfSample 24 = .ok (.goto 33, 3) := by decide +kernel
theorem dX0_breakingOfSample_27 : decode cX0_breakingOfSample 27 = .ok (.iload 4, 2) := by decide +kernel
theorem dX0_breakingOfSample_29 : decode cX0_breakingOfSample 29 = .ok (.ifCond .ne 16, 3) := by decide +kernel
theorem dX0_breakingOfSample_32 : decode cX0_breakingOfSample 32 = .ok (.aload_n 0, 1) := by decide +kernel
theorem dX0_breakingOfSample_33 : decode cX0_breakingOfSample 33 = .ok (.iload 5, 2) := by decide +kernel
theorem dX0_breakingOfSample_35 : decode cX0_breakingOfSample 35 = .ok (.iload_n 2, 1) := by decide +kernel
theorem dX0_breakingOfSample_36 : decode cX0_breakingOfSample 36 = .ok (.invokevirtual 126, 3) := by decide +kernel
theorem dX0_breakingOfSample_39 : decode cX0_breakingOfSample 39 = .ok (.ifCond .eq 6, 3) := by decide +kernel
theorem dX0_breakingOfSample_42 : decode cX0_breakingOfSample 42 = .ok (.iinc 3 1, 3) := by decide +kernel
theorem dX0_breakingOfSample_45 : decode cX0_breakingOfSample 45 = .ok (.iinc 4 1, 3) := by decide +kernel
theorem dX0_breakingOfSample_48 : decode cX0_breakingOfSample 48 = .ok (.iload 4, 2) := by decide +kernel
theorem dX0_breakingOfSample_50 : decode cX0_breakingOfSample 50 = .ok (.iload_n 1, 1) := by decide +kernel
theorem dX0_breakingOfSample_51 : decode cX0_breakingOfSample 51 = .ok (.if_icmp .ne 6, 3) := by decide +kernel
theorem dX0_breakingOfSample_54 : decode cX0_breakingOfSample 54 = .ok (.iconst 0, 1) := by decide +kernel
theorem dX0_breakingOfSample_55 : decode cX0_breakingOfSample 55 = .ok (.istore 4, 2) := by decide +kernel
theorem dX0_breakingOfSample_57 : decode cX0_breakingOfSample 57 = .ok (.iinc 5 1, 3) := by decide +kernel
theorem dX0_breakingOfSample_60 : decode cX0_breakingOfSample 60 = .ok (.goto (-52), 3) := by decide +kernel
theorem dX0_breakingOfSample_63 : decode cX0_breakingOfSample 63 = .ok (.iload_n 3, 1) := by decide +kernel
theorem dX0_breakingOfSample_64 : decode cX0_breakingOfSample 64 = .ok (.ireturn, 1) := by decide +kernel
set_option maxRecDepth 20000 in
theorem ggX0_cross_X0_hasWire : GoodIn wsX0_cross wsX0_hasWire := goodIn_r _ [5, 6, 7, 8, 9, 15, 16, 17, 18, 19, 20, 21, 22, 23, 24, 25, 26] (by decide +kernel) (by decide +kernel)
set_option maxRecDepth 20000 in
theorem gX0_cross_X0_hasWire : GoodIn wsX0_cross (wsV RX0 69 RX0 yX0_hasWire wsX0_hasWire) := goodIn_app (goodIn_of _ (by decide +kernel)) ggX0_cross_X0_hasWire
set_option maxRecDepth 20000 in
theorem ggX0_cross_X0_endX : GoodIn wsX0_cross wsX0_endX := goodIn_r _ [13, 6, 14, 15, 16, 17, 18, 19, 20, 21, 22, 23, 24, 25, 26] (by decide +kernel) (by decide +kernel)
set_option maxRecDepth 20000 in
theorem gX0_cross_X0_endX : GoodIn wsX0_cross (wsV RX0 130 RX0 yX0_endX wsX0_endX) := goodIn_app (goodIn_of _ (by decide +kernel)) ggX0_cross_X0_endX
theorem dX0_cross_0 : decode cX0_cross 0 = .ok (.aload_n 0, 1) := by decide +kernel
theorem dX0_cross_1 : decode cX0_cross 1 = .ok (.iload_n 1, 1) := by decide +kernel
theorem dX0_cross_2 : decode cX0_cross 2 = .ok (.invokevirtual 69, 3) := by decide +kernel
theorem dX0_cross_5 : decode cX0_cross 5 = .ok (.ifCond .eq 16, 3) := by decide +kernel
theorem dX0_cross_8 : decode cX0_cross 8 = .ok (.aload_n 0, 1) := by decide +kernel
theorem dX0_cross_9 : decode cX0_cross 9 = .ok (.iload_n 2, 1) := by decide +kernel
theorem dX0_cross_10 : decode cX0_cross 10 = .ok (.invokevirtual 69, 3) := by decide +kernel
theorem dX0_cross_13 : decode cX0_cross 13 = .ok (.ifCond .eq 8, 3) := by decide +kernel
theorem dX0_cross_16 : decode cX0_cross 16 = .ok (.iload_n 1, 1) := by decide +kernel
theorem dX0_cross_17 : decode cX0_cross 17 = .ok (.iload_n 2, 1) := by decide +kernel
theorem dX0_cross_18 : decode cX0_cross 18 = .ok (.if_icmp .ne 5, 3) := by decide +kernel
theorem dX0_cross_21 : decode cX0_cross 21 = .ok (.iconst 0, 1) := by decide +kernel
theorem dX0_cross_22 : decode cX0_cross 22 = .ok (.ireturn, 1) := by decide +kernel
theorem dX0_cross_23 : decode cX0_cross 23 = .ok (.iload_n 1, 1) := by decide +kernel
theorem dX0_cross_24 : decode cX0_cross 24 = .ok (.iload_n 2, 1) := by decide +kernel
theorem dX0_cross_25 : decode cX0_cross 25 = .ok (.if_icmp .ge 24, 3) := by decide +kernel
theorem dX0_cross_28 : decode cX0_cross 28 = .ok (.aload_n 0, 1) := by decide +kernel
theorem dX0_cross_29 : decode cX0_cross 29 = .ok (.iload_n 1, 1) := by decide +kernel
theorem dX0_cross_30 : decode cX0_cross 30 = .ok (.invokevirtual 130, 3) := by decide +kernel
theorem dX0_cross_33 : decode cX0_cross 33 = .ok (.aload_n 0, 1) := by decide +kernel
theorem dX0_cross_34 : decode cX0_cross 34 = .ok (.iload_n 2, 1) := by decide +kernel
theorem dX0_cross_35 : decode cX0_cross 35 = .ok (.invokevirtual 130, 3) := by decide +kernel
theorem dX0_cross_38 : decode cX0_cross 38 = .ok (.if_icmp .le 7, 3) := by decide +kernel
theorem dX0_cross_41 : decode cX0_cross 41 = .ok (.iconst 1, 1) := by decide +kernel
theorem dX0_cross_42 : decode cX0_cross 42 = .ok (.goto 25, 3) := by decide +kernel
theorem dX0_cross_45 : decode cX0_cross 45 = .ok (.iconst 0, 1) := by decide +kernel
theorem dX0_cross_46 : decode cX0_cross 46 = .ok (.goto 21, 3) := by decide +kernel
theorem dX0_cross_49 : decode cX0_cross 49 = .ok (.aload_n 0, 1) := by decide +kernel
theorem dX0_cross_50 : decode cX0_cross 50 = .ok (.iload_n 1, 1) := by decide +kernel
theorem dX0_cross_51 : decode cX0_cross 51 = .ok (.invokevirtual 130, 3) := by decide +kernel
theorem dX0_cross_54 : decode cX0_cross 54 = .ok (.aload_n 0, 1) := by decide +kernel
theorem dX0_cross_55 : decode cX0_cross 55 = .ok (.iload_n 2, 1) := by decide +kernel
theorem dX0_cross_56 : decode cX0_cross 56 = .ok (.invokevirtual 130, 3) := by decide +kernel
theorem dX0_cross_59 : decode cX0_cross 59 = .ok (.if_icmp .ge 7, 3) := by decide +kernel
theorem dX0_cross_62 : decode cX0_cross 62 = .ok (.iconst 1, 1) := by decide +kernel
theorem dX0_cross_63 : decode cX0_cross 63 = .ok (.goto 4, 3) := by decide +kernel
theorem dX0_cross_66 : decode cX0_cross 66 = .ok (.iconst 0, 1) := by decide +kernel
theorem dX0_cross_67 : decode cX0_cross 67 = .ok (.ireturn, 1) := by decide +kernel
set_option maxRecDepth 20000 in
theorem ggX0_crossingY_X3_padX : GoodIn wsX0_crossingY wsX3_padX := goodIn_r _ [7] (by decide +kernel) (by decide +kernel)
set_option maxRecDepth 20000 in
theorem gX0_crossingY_X3_padX_n113 : GoodIn wsX0_crossingY (wsX3_padX) := ggX0_crossingY_X3_padX
set_option maxRecDepth 20000 in
theorem ggX0_crossingY_X0_endX : GoodIn wsX0_crossingY wsX0_endX := goodIn_r _ [12, 13, 14, 15, 16, 17, 18, 19, 20, 21, 22, 23, 24, 25, 26] (by decide +kernel) (by decide +kernel)
set_option maxRecDepth 20000 in
theorem gX0_crossingY_X0_endX : GoodIn wsX0_crossingY (wsV RX0 130 RX0 yX0_endX wsX0_endX) := goodIn_app (goodIn_of _ (by decide +kernel)) ggX0_crossingY_X0_endX
theorem dX0_crossingY_0 : decode cX0_crossingY 0 = .ok (.iload_n 1, 1) := by decide +kernel
theorem dX0_crossingY_1 : decode cX0_crossingY 1 = .ok (.invokestatic 113, 3) := by decide +kernel
theorem dX0_crossingY_4 : decode cX0_crossingY 4 = .ok (.iload_n 2, 1) := by decide +kernel
theorem dX0_crossingY_5 : decode cX0_crossingY 5 = .ok (.invokestatic 113, 3) := by decide +kernel
theorem dX0_crossingY_8 : decode cX0_crossingY 8 = .ok (.isub, 1) := by decide +kernel
theorem dX0_crossingY_9 : decode cX0_crossingY 9 = .ok (.invokestatic 119, 3) := by decide +kernel
theorem dX0_crossingY_12 : decode cX0_crossingY 12 = .ok (.istore_n 3, 1) := by decide +kernel
theorem dX0_crossingY_13 : decode cX0_crossingY 13 = .ok (.aload_n 0, 1) := by decide +kernel
theorem dX0_crossingY_14 : decode cX0_crossingY 14 = .ok (.iload_n 1, 1) := by decide +kernel
theorem dX0_crossingY_15 : decode cX0_crossingY 15 = .ok (.invokevirtual 130, 3) := by decide +kernel
theorem dX0_crossingY_18 : decode cX0_crossingY 18 = .ok (.aload_n 0, 1) := by decide +kernel
theorem dX0_crossingY_19 : decode cX0_crossingY 19 = .ok (.iload_n 2, 1) := by decide +kernel
theorem dX0_crossingY_20 : decode cX0_crossingY 20 = .ok (.invokevirtual 130, 3) := by decide +kernel
theorem dX0_crossingY_23 : decode cX0_crossingY 23 = .ok (.isub, 1) := by decide +kernel
theorem dX0_crossingY_24 : decode cX0_crossingY 24 = .ok (.invokestatic 119, 3) := by decide +kernel
theorem dX0_crossingY_27 : decode cX0_crossingY 27 = .ok (.istore 4, 2) := by decide +kernel
theorem dX0_crossingY_29 : decode cX0_crossingY 29 = .ok (.iload_n 3, 1) := by decide +kernel
theorem dX0_crossingY_30 : decode cX0_crossingY 30 = .ok (.iload 4, 2) := by decide +kernel
theorem dX0_crossingY_32 : decode cX0_crossingY 32 = .ok (.iadd, 1) := by decide +kernel
theorem dX0_crossingY_33 : decode cX0_crossingY 33 = .ok (.istore 5, 2) := by decide +kernel
theorem dX0_crossingY_35 : decode cX0_crossingY 35 = .ok (.iload 5, 2) := by decide +kernel
theorem dX0_crossingY_37 : decode cX0_crossingY 37 = .ok (.ifCond .le 14, 3) := by decide +kernel
theorem dX0_crossingY_40 : decode cX0_crossingY 40 = .ok (.sipush 200, 3) := by decide +kernel
theorem dX0_crossingY_43 : decode cX0_crossingY 43 = .ok (.iload_n 3, 1) := by decide +kernel
theorem dX0_crossingY_44 : decode cX0_crossingY 44 = .ok (.imul, 1) := by decide +kernel
theorem dX0_crossingY_45 : decode cX0_crossingY 45 = .ok (.iload 5, 2) := by decide +kernel
theorem dX0_crossingY_47 : decode cX0_crossingY 47 = .ok (.idiv, 1) := by decide +kernel
theorem dX0_crossingY_48 : decode cX0_crossingY 48 = .ok (.goto 4, 3) := by decide +kernel
theorem dX0_crossingY_51 : decode cX0_crossingY 51 = .ok (.iconst 0, 1) := by decide +kernel
theorem dX0_crossingY_52 : decode cX0_crossingY 52 = .ok (.ireturn, 1) := by decide +kernel
set_option maxRecDepth 20000 in
theorem ggX0_gap_X0_crossingY : GoodIn wsX0_gap wsX0_crossingY := goodIn_r _ [9, 1, 2, 3, 4, 10, 11, 12, 13, 14, 15, 8, 16, 17, 18, 29, 30, 31, 32, 33, 34, 35, 36, 37, 38, 39, 40] (by decide +kernel) (by decide +kernel)
set_option maxRecDepth 20000 in
theorem gX0_gap_X0_crossingY : GoodIn wsX0_gap (wsV RX0 133 RX0 yX0_crossingY wsX0_crossingY) := goodIn_app (goodIn_of _ (by decide +kernel)) ggX0_gap_X0_crossingY
set_option maxRecDepth 20000 in
theorem ggX0_gap_X3_loopAt : GoodIn wsX0_gap wsX3_loopAt := goodIn_r _ [20, 21] (by decide +kernel) (by decide +kernel)
set_option maxRecDepth 20000 in
theorem gX0_gap_X3_loopAt_n136 : GoodIn wsX0_gap (wsX3_loopAt) := ggX0_gap_X3_loopAt
set_option maxRecDepth 20000 in
theorem ggX0_gap_X0_heightOf : GoodIn wsX0_gap wsX0_heightOf := goodIn_r _ [25, 26, 27, 11, 28, 29, 30, 31, 32, 33, 34, 35, 36, 37, 38, 39, 40] (by decide +kernel) (by decide +kernel)
set_option maxRecDepth 20000 in
theorem gX0_gap_X0_heightOf : GoodIn wsX0_gap (wsV RX0 139 RX0 yX0_heightOf wsX0_heightOf) := goodIn_app (goodIn_of _ (by decide +kernel)) ggX0_gap_X0_heightOf
theorem dX0_gap_0 : decode cX0_gap 0 = .ok (.aload_n 0, 1) := by decide +kernel
theorem dX0_gap_1 : decode cX0_gap 1 = .ok (.iload_n 1, 1) := by decide +kernel
theorem dX0_gap_2 : decode cX0_gap 2 = .ok (.iload_n 3, 1) := by decide +kernel
theorem dX0_gap_3 : decode cX0_gap 3 = .ok (.invokevirtual 133, 3) := by decide +kernel
theorem dX0_gap_6 : decode cX0_gap 6 = .ok (.istore 4, 2) := by decide +kernel
theorem dX0_gap_8 : decode cX0_gap 8 = .ok (.iload_n 2, 1) := by decide +kernel
theorem dX0_gap_9 : decode cX0_gap 9 = .ok (.iload 4, 2) := by decide +kernel
theorem dX0_gap_11 : decode cX0_gap 11 = .ok (.invokestatic 136, 3) := by decide +kernel
theorem dX0_gap_14 : decode cX0_gap 14 = .ok (.aload_n 0, 1) := by decide +kernel
theorem dX0_gap_15 : decode cX0_gap 15 = .ok (.iload_n 3, 1) := by decide +kernel
theorem dX0_gap_16 : decode cX0_gap 16 = .ok (.invokevirtual 139, 3) := by decide +kernel
theorem dX0_gap_19 : decode cX0_gap 19 = .ok (.iload 4, 2) := by decide +kernel
theorem dX0_gap_21 : decode cX0_gap 21 = .ok (.invokestatic 136, 3) := by decide +kernel
theorem dX0_gap_24 : decode cX0_gap 24 = .ok (.isub, 1) := by decide +kernel
theorem dX0_gap_25 : decode cX0_gap 25 = .ok (.invokestatic 119, 3) := by decide +kernel
theorem dX0_gap_28 : decode cX0_gap 28 = .ok (.ireturn, 1) := by decide +kernel
set_option maxRecDepth 20000 in
theorem ggX0_isShort_X0_cross : GoodIn wsX0_isShort wsX0_cross := goodIn_r _ [6, 7, 8, 9, 5, 10, 11, 12, 13, 14, 15, 16, 17, 18, 19, 42, 43, 44, 45, 46, 47, 48, 49, 50, 51, 52, 53] (by decide +kernel) (by decide +kernel)
set_option maxRecDepth 20000 in
theorem gX0_isShort_X0_cross : GoodIn wsX0_isShort (wsV RX0 142 RX0 yX0_cross wsX0_cross) := goodIn_app (goodIn_of _ (by decide +kernel)) ggX0_isShort_X0_cross
set_option maxRecDepth 20000 in
theorem ggX0_isShort_X0_gap : GoodIn wsX0_isShort wsX0_gap := goodIn_r _ [23, 24, 25, 26, 27, 28, 29, 30, 5, 31, 32, 13, 33, 15, 16, 17, 18, 11, 19, 34, 35, 36, 37, 38, 39, 40, 41, 12, 14, 42, 43, 44, 45, 46, 47, 48, 49, 50, 51, 52, 53] (by decide +kernel) (by decide +kernel)
set_option maxRecDepth 20000 in
theorem gX0_isShort_X0_gap : GoodIn wsX0_isShort (wsV RX0 145 RX0 yX0_gap wsX0_gap) := goodIn_app (goodIn_of _ (by decide +kernel)) ggX0_isShort_X0_gap
theorem dX0_isShort_0 : decode cX0_isShort 0 = .ok (.aload_n 0, 1) := by decide +kernel
theorem dX0_isShort_1 : decode cX0_isShort 1 = .ok (.iload_n 1, 1) := by decide +kernel
theorem dX0_isShort_2 : decode cX0_isShort 2 = .ok (.iload_n 3, 1) := by decide +kernel
theorem dX0_isShort_3 : decode cX0_isShort 3 = .ok (.invokevirtual 142, 3) := by decide +kernel
theorem dX0_isShort_6 : decode cX0_isShort 6 = .ok (.ifCond .eq 21, 3) := by decide +kernel
theorem dX0_isShort_9 : decode cX0_isShort 9 = .ok (.aload_n 0, 1) := by decide +kernel
theorem dX0_isShort_10 : decode cX0_isShort 10 = .ok (.iload_n 1, 1) := by decide +kernel
theorem dX0_isShort_11 : decode cX0_isShort 11 = .ok (.iload_n 2, 1) := by decide +kernel
theorem dX0_isShort_12 : decode cX0_isShort 12 = .ok (.iload_n 3, 1) := by decide +kernel
theorem dX0_isShort_13 : decode cX0_isShort 13 = .ok (.invokevirtual 145, 3) := by decide +kernel
theorem dX0_isShort_16 : decode cX0_isShort 16 = .ok (.aload_n 0, 1) := by decide +kernel
theorem dX0_isShort_17 : decode cX0_isShort 17 = .ok (.getfield 33, 3) := by decide +kernel
theorem dX0_isShort_20 : decode cX0_isShort 20 = .ok (.if_icmp .ge 7, 3) := by decide +kernel
theorem dX0_isShort_23 : decode cX0_isShort 23 = .ok (.iconst 1, 1) := by decide +kernel
theorem dX0_isShort_24 : decode cX0_isShort 24 = .ok (.goto 4, 3) := by decide +kernel
theorem dX0_isShort_27 : decode cX0_isShort 27 = .ok (.iconst 0, 1) := by decide +kernel
theorem dX0_isShort_28 : decode cX0_isShort 28 = .ok (.ireturn, 1) := by decide +kernel
set_option maxRecDepth 20000 in
theorem ggX0_crossingsOf_X0_cross : GoodIn wsX0_crossingsOf wsX0_cross := goodIn_r _ [5, 6, 7, 8, 4, 9, 10, 11, 12, 13, 14, 15, 16, 17, 18, 19, 20, 21, 22, 23, 24, 25, 26, 27, 28, 29, 30] (by decide +kernel) (by decide +kernel)
set_option maxRecDepth 20000 in
theorem gX0_crossingsOf_X0_cross : GoodIn wsX0_crossingsOf (wsV RX0 142 RX0 yX0_cross wsX0_cross) := goodIn_app (goodIn_of _ (by decide +kernel)) ggX0_crossingsOf_X0_cross
theorem dX0_crossingsOf_0 : decode cX0_crossingsOf 0 = .ok (.iconst 0, 1) := by decide +kernel
theorem dX0_crossingsOf_1 : decode cX0_crossingsOf 1 = .ok (.istore_n 2, 1) := by decide +kernel
theorem dX0_crossingsOf_2 : decode cX0_crossingsOf 2 = .ok (.iconst 0, 1) := by decide +kernel
theorem dX0_crossingsOf_3 : decode cX0_crossingsOf 3 = .ok (.istore_n 3, 1) := by decide +kernel
theorem dX0_crossingsOf_4 : decode cX0_crossingsOf 4 = .ok (.iload_n 3, 1) := by decide +kernel
theorem dX0_crossingsOf_5 : decode cX0_crossingsOf 5 = .ok (.bipush 12, 2) := by decide +kernel
theorem dX0_crossingsOf_7 : decode cX0_crossingsOf 7 = .ok (.if_icmp .ge 21, 3) := by decide +kernel
theorem dX0_crossingsOf_10 : decode cX0_crossingsOf 10 = .ok (.aload_n 0, 1) := by decide +kernel
theorem dX0_crossingsOf_11 : decode cX0_crossingsOf 11 = .ok (.iload_n 1, 1) := by decide +kernel
theorem dX0_crossingsOf_12 : decode cX0_crossingsOf 12 = .ok (.iload_n 3, 1) := by decide +kernel
theorem dX0_crossingsOf_13 : decode cX0_crossingsOf 13 = .ok (.invokevirtual 142, 3) := by decide +kernel
theorem dX0_crossingsOf_16 : decode cX0_crossingsOf 16 = .ok (.ifCond .eq 6, 3) := by decide +kernel
theorem dX0_crossingsOf_19 : decode cX0_crossingsOf 19 = .ok (.iinc 2 1, 3) := by decide +kernel
theorem dX0_crossingsOf_22 : decode cX0_crossingsOf 22 = .ok (.iinc 3 1, 3) := by decide +kernel
theorem dX0_crossingsOf_25 : decode cX0_crossingsOf 25 = .ok (.goto (-21), 3) := by decide +kernel
theorem dX0_crossingsOf_28 : decode cX0_crossingsOf 28 = .ok (.iload_n 2, 1) := by decide +kernel
theorem dX0_crossingsOf_29 : decode cX0_crossingsOf 29 = .ok (.ireturn, 1) := by decide +kernel
set_option maxRecDepth 20000 in
theorem ggX0_shortOnes_X0_isShort : GoodIn wsX0_shortOnes wsX0_isShort := goodIn_r _ [5, 6, 7, 8, 9, 4, 10, 11, 12, 13, 14, 15, 16, 17, 18, 19, 20, 21, 22, 23, 24, 25, 26, 27, 28, 29, 30, 31, 32, 33, 34, 35, 36, 37, 38, 39, 40, 41, 42, 43, 44, 45, 46, 47, 48, 49, 50, 51, 52, 53, 54, 55, 56, 57] (by decide +kernel) (by decide +kernel)
set_option maxRecDepth 20000 in
theorem gX0_shortOnes_X0_isShort : GoodIn wsX0_shortOnes (wsV RX0 149 RX0 yX0_isShort wsX0_isShort) := goodIn_app (goodIn_of _ (by decide +kernel)) ggX0_shortOnes_X0_isShort
theorem dX0_shortOnes_0 : decode cX0_shortOnes 0 = .ok (.iconst 0, 1) := by decide +kernel
theorem dX0_shortOnes_1 : decode cX0_shortOnes 1 = .ok (.istore_n 3, 1) := by decide +kernel
theorem dX0_shortOnes_2 : decode cX0_shortOnes 2 = .ok (.iconst 0, 1) := by decide +kernel
theorem dX0_shortOnes_3 : decode cX0_shortOnes 3 = .ok (.istore 4, 2) := by decide +kernel
theorem dX0_shortOnes_5 : decode cX0_shortOnes 5 = .ok (.iload 4, 2) := by decide +kernel
theorem dX0_shortOnes_7 : decode cX0_shortOnes 7 = .ok (.bipush 12, 2) := by decide +kernel
theorem dX0_shortOnes_9 : decode cX0_shortOnes 9 = .ok (.if_icmp .ge 23, 3) := by decide +kernel
theorem dX0_shortOnes_12 : decode cX0_shortOnes 12 = .ok (.aload_n 0, 1) := by decide +kernel
theorem dX0_shortOnes_13 : decode cX0_shortOnes 13 = .ok (.iload_n 1, 1) := by decide +kernel
theorem dX0_shortOnes_14 : decode cX0_shortOnes 14 = .ok (.iload_n 2, 1) := by decide +kernel
theorem dX0_shortOnes_15 : decode cX0_shortOnes 15 = .ok (.iload 4, 2) := by decide +kernel
theorem dX0_shortOnes_17 : decode cX0_shortOnes 17 = .ok (.invokevirtual 149, 3) := by decide +kernel
theorem dX0_shortOnes_20 : decode cX0_shortOnes 20 = .ok (.ifCond .eq 6, 3) := by decide +kernel
theorem dX0_shortOnes_23 : decode cX0_shortOnes 23 = .ok (.iinc 3 1, 3) := by decide +kernel
theorem dX0_shortOnes_26 : decode cX0_shortOnes 26 = .ok (.iinc 4 1, 3) := by decide +kernel
theorem dX0_shortOnes_29 : decode cX0_shortOnes 29 = .ok (.goto (-24), 3) := by decide +kernel
theorem dX0_shortOnes_32 : decode cX0_shortOnes 32 = .ok (.iload_n 3, 1) := by decide +kernel
theorem dX0_shortOnes_33 : decode cX0_shortOnes 33 = .ok (.ireturn, 1) := by decide +kernel
set_option maxRecDepth 20000 in
theorem ggX0_leastGap_X0_cross : GoodIn wsX0_leastGap wsX0_cross := goodIn_r _ [9, 10, 11, 12, 8, 13, 14, 15, 16, 17, 18, 19, 20, 21, 22, 44, 45, 46, 47, 48, 49, 50, 51, 52, 53, 54, 55] (by decide +kernel) (by decide +kernel)
set_option maxRecDepth 20000 in
theorem gX0_leastGap_X0_cross : GoodIn wsX0_leastGap (wsV RX0 142 RX0 yX0_cross wsX0_cross) := goodIn_app (goodIn_of _ (by decide +kernel)) ggX0_leastGap_X0_cross
set_option maxRecDepth 20000 in
theorem ggX0_leastGap_X0_heightOf : GoodIn wsX0_leastGap wsX0_heightOf := goodIn_r _ [26, 27, 15, 16, 17, 44, 45, 46, 47, 48, 49, 50, 51, 52, 53, 54, 55] (by decide +kernel) (by decide +kernel)
set_option maxRecDepth 20000 in
theorem gX0_leastGap_X0_heightOf : GoodIn wsX0_leastGap (wsV RX0 139 RX0 yX0_heightOf wsX0_heightOf) := goodIn_app (goodIn_of _ (by decide +kernel)) ggX0_leastGap_X0_heightOf
set_option maxRecDepth 20000 in
theorem ggX0_leastGap_X0_gap : GoodIn wsX0_leastGap wsX0_gap := goodIn_r _ [31, 32, 33, 3, 34, 35, 36, 37, 8, 38, 39, 16, 40, 18, 19, 20, 21, 14, 22, 41, 42, 43, 23, 24, 25, 26, 27, 15, 17, 44, 45, 46, 47, 48, 49, 50, 51, 52, 53, 54, 55] (by decide +kernel) (by decide +kernel)
set_option maxRecDepth 20000 in
theorem gX0_leastGap_X0_gap : GoodIn wsX0_leastGap (wsV RX0 145 RX0 yX0_gap wsX0_gap) := goodIn_app (goodIn_of _ (by decide +kernel)) ggX0_leastGap_X0_gap
theorem dX0_leastGap_0 : decode cX0_leastGap 0 = .ok (.bipush (-5), 2) := by decide +kernel
theorem dX0_leastGap_2 : decode cX0_leastGap 2 = .ok (.istore_n 2, 1) := by decide +kernel
theorem dX0_leastGap_3 : decode cX0_leastGap 3 = .ok (.iconst 0, 1) := by decide +kernel
theorem dX0_leastGap_4 : decode cX0_leastGap 4 = .ok (.istore_n 3, 1) := by decide +kernel
theorem dX0_leastGap_5 : decode cX0_leastGap 5 = .ok (.iload_n 3, 1) := by decide +kernel
theorem dX0_leastGap_6 : decode cX0_leastGap 6 = .ok (.bipush 12, 2) := by decide +kernel
theorem dX0_leastGap_8 : decode cX0_leastGap 8 = .ok (.if_icmp .ge 49, 3) := by decide +kernel
theorem dX0_leastGap_11 : decode cX0_leastGap 11 = .ok (.aload_n 0, 1) := by decide +kernel
theorem dX0_leastGap_12 : decode cX0_leastGap 12 = .ok (.iload_n 1, 1) := by decide +kernel
theorem dX0_leastGap_13 : decode cX0_leastGap 13 = .ok (.iload_n 3, 1) := by decide +kernel
theorem dX0_leastGap_14 : decode cX0_leastGap 14 = .ok (.invokevirtual 142, 3) := by decide +kernel
theorem dX0_leastGap_17 : decode cX0_leastGap 17 = .ok (.ifCond .eq 34, 3) := by decide +kernel
theorem dX0_leastGap_20 : decode cX0_leastGap 20 = .ok (.aload_n 0, 1) := by decide +kernel
theorem dX0_leastGap_21 : decode cX0_leastGap 21 = .ok (.iload_n 1, 1) := by decide +kernel
theorem dX0_leastGap_22 : decode cX0_leastGap 22 = .ok (.aload_n 0, 1) := by decide +kernel
theorem dX0_leastGap_23 : decode cX0_leastGap 23 = .ok (.iload_n 1, 1) := by decide +kernel
theorem dX0_leastGap_24 : decode cX0_leastGap 24 = .ok (.invokevirtual 139, 3) := by decide +kernel
theorem dX0_leastGap_27 : decode cX0_leastGap 27 = .ok (.iload_n 3, 1) := by decide +kernel
theorem dX0_leastGap_28 : decode cX0_leastGap 28 = .ok (.invokevirtual 145, 3) := by decide +kernel
theorem dX0_leastGap_31 : decode cX0_leastGap 31 = .ok (.istore 4, 2) := by decide +kernel
theorem dX0_leastGap_33 : decode cX0_leastGap 33 = .ok (.iload_n 2, 1) := by decide +kernel
theorem dX0_leastGap_34 : decode cX0_leastGap 34 = .ok (.bipush (-5), 2) := by decide +kernel
theorem dX0_leastGap_36 : decode cX0_leastGap 36 = .ok (.if_icmp .ne 8, 3) := by decide +kernel
theorem dX0_leastGap_39 : decode cX0_leastGap 39 = .ok (.iload 4, 2) := by decide +kernel
theorem dX0_leastGap_41 : decode cX0_leastGap 41 = .ok (.goto 9, 3) := by decide +kernel
theorem dX0_leastGap_44 : decode cX0_leastGap 44 = .ok (.iload_n 2, 1) := by decide +kernel
theorem dX0_leastGap_45 : decode cX0_leastGap 45 = .ok (.iload 4, 2) := by decide +kernel
theorem dX0_leastGap_47 : decode cX0_leastGap 47 = .ok (.invokestatic 153, 3) := by decide +kernel
theorem dX0_leastGap_50 : decode cX0_leastGap 50 = .ok (.istore_n 2, 1) := by decide +kernel
theorem dX0_leastGap_51 : decode cX0_leastGap 51 = .ok (.iinc 3 1, 3) := by decide +kernel
theorem dX0_leastGap_54 : decode cX0_leastGap 54 = .ok (.goto (-49), 3) := by decide +kernel
theorem dX0_leastGap_57 : decode cX0_leastGap 57 = .ok (.iload_n 2, 1) := by decide +kernel
theorem dX0_leastGap_58 : decode cX0_leastGap 58 = .ok (.ireturn, 1) := by decide +kernel
set_option maxRecDepth 20000 in
theorem ggX0_clearestHeight_X0_shortOnes : GoodIn wsX0_clearestHeight wsX0_shortOnes := goodIn_r _ [5, 6, 7, 8, 4, 9, 10, 11, 12, 13, 14, 15, 16, 17, 18, 19, 20, 21, 22, 23, 24, 25, 26, 27, 28, 29, 30, 31, 32, 33, 34, 35, 36, 37, 38, 39, 40, 41, 42, 43, 44, 45, 46, 47, 48, 49, 50, 51, 52, 53, 54, 55, 56, 57, 58, 59, 60, 61] (by decide +kernel) (by decide +kernel)
set_option maxRecDepth 20000 in
theorem gX0_clearestHeight_X0_shortOnes : GoodIn wsX0_clearestHeight (wsV RX0 156 RX0 yX0_shortOnes wsX0_shortOnes) := goodIn_app (goodIn_of _ (by decide +kernel)) ggX0_clearestHeight_X0_shortOnes
theorem dX0_clearestHeight_0 : decode cX0_clearestHeight 0 = .ok (.bipush 10, 2) := by decide +kernel
theorem dX0_clearestHeight_2 : decode cX0_clearestHeight 2 = .ok (.istore_n 2, 1) := by decide +kernel
theorem dX0_clearestHeight_3 : decode cX0_clearestHeight 3 = .ok (.aload_n 0, 1) := by decide +kernel
theorem dX0_clearestHeight_4 : decode cX0_clearestHeight 4 = .ok (.iload_n 1, 1) := by decide +kernel
theorem dX0_clearestHeight_5 : decode cX0_clearestHeight 5 = .ok (.iload_n 2, 1) := by decide +kernel
theorem dX0_clearestHeight_6 : decode cX0_clearestHeight 6 = .ok (.invokevirtual 156, 3) := by decide +kernel
theorem dX0_clearestHeight_9 : decode cX0_clearestHeight 9 = .ok (.istore_n 3, 1) := by decide +kernel
theorem dX0_clearestHeight_10 : decode cX0_clearestHeight 10 = .ok (.bipush 11, 2) := by decide +kernel
theorem dX0_clearestHeight_12 : decode cX0_clearestHeight 12 = .ok (.istore 4, 2) := by decide +kernel
theorem dX0_clearestHeight_14 : decode cX0_clearestHeight 14 = .ok (.iload 4, 2) := by decide +kernel
theorem dX0_clearestHeight_16 : decode cX0_clearestHeight 16 = .ok (.sipush 200, 3) := by decide +kernel
theorem dX0_clearestHeight_19 : decode cX0_clearestHeight 19 = .ok (.if_icmp .gt 30, 3) := by decide +kernel
theorem dX0_clearestHeight_22 : decode cX0_clearestHeight 22 = .ok (.aload_n 0, 1) := by decide +kernel
theorem dX0_clearestHeight_23 : decode cX0_clearestHeight 23 = .ok (.iload_n 1, 1) := by decide +kernel
theorem dX0_clearestHeight_24 : decode cX0_clearestHeight 24 = .ok (.iload 4, 2) := by decide +kernel
theorem dX0_clearestHeight_26 : decode cX0_clearestHeight 26 = .ok (.invokevirtual 156, 3) := by decide +kernel
theorem dX0_clearestHeight_29 : decode cX0_clearestHeight 29 = .ok (.istore 5, 2) := by decide +kernel
theorem dX0_clearestHeight_31 : decode cX0_clearestHeight 31 = .ok (.iload 5, 2) := by decide +kernel
theorem dX0_clearestHeight_33 : decode cX0_clearestHeight 33 = .ok (.iload_n 3, 1) := by decide +kernel
theorem dX0_clearestHeight_34 : decode cX0_clearestHeight 34 = .ok (.if_icmp .ge 9, 3) := by decide +kernel
theorem dX0_clearestHeight_37 : decode cX0_clearestHeight 37 = .ok (.iload 4, 2) := by decide +kernel
theorem dX0_clearestHeight_39 : decode cX0_clearestHeight 39 = .ok (.istore_n 2, 1) := by decide +kernel
theorem dX0_clearestHeight_40 : decode cX0_clearestHeight 40 = .ok (.iload 5, 2) := by decide +kernel
theorem dX0_clearestHeight_42 : decode cX0_clearestHeight 42 = .ok (.istore_n 3, 1) := by decide +kernel
theorem dX0_clearestHeight_43 : decode cX0_clearestHeight 43 = .ok (.iinc 4 1, 3) := by decide +kernel
theorem dX0_clearestHeight_46 : decode cX0_clearestHeight 46 = .ok (.goto (-32), 3) := by decide +kernel
theorem dX0_clearestHeight_49 : decode cX0_clearestHeight 49 = .ok (.iload_n 2, 1) := by decide +kernel
theorem dX0_clearestHeight_50 : decode cX0_clearestHeight 50 = .ok (.ireturn, 1) := by decide +kernel
set_option maxRecDepth 20000 in
theorem ggX0_wires_X0_hasWire : GoodIn wsX0_wires wsX0_hasWire := goodIn_r _ [5, 6, 7, 8, 9, 10, 11, 12, 13, 14, 15, 16, 17, 18, 19, 20, 21] (by decide +kernel) (by decide +kernel)
set_option maxRecDepth 20000 in
theorem gX0_wires_X0_hasWire : GoodIn wsX0_wires (wsV RX0 69 RX0 yX0_hasWire wsX0_hasWire) := goodIn_app (goodIn_of _ (by decide +kernel)) ggX0_wires_X0_hasWire
theorem dX0_wires_0 : decode cX0_wires 0 = .ok (.iconst 0, 1) := by decide +kernel
theorem dX0_wires_1 : decode cX0_wires 1 = .ok (.istore_n 1, 1) := by decide +kernel
theorem dX0_wires_2 : decode cX0_wires 2 = .ok (.iconst 0, 1) := by decide +kernel
theorem dX0_wires_3 : decode cX0_wires 3 = .ok (.istore_n 2, 1) := by decide +kernel
theorem dX0_wires_4 : decode cX0_wires 4 = .ok (.iload_n 2, 1) := by decide +kernel
theorem dX0_wires_5 : decode cX0_wires 5 = .ok (.bipush 12, 2) := by decide +kernel
theorem dX0_wires_7 : decode cX0_wires 7 = .ok (.if_icmp .ge 20, 3) := by decide +kernel
theorem dX0_wires_10 : decode cX0_wires 10 = .ok (.aload_n 0, 1) := by decide +kernel
theorem dX0_wires_11 : decode cX0_wires 11 = .ok (.iload_n 2, 1) := by decide +kernel
theorem dX0_wires_12 : decode cX0_wires 12 = .ok (.invokevirtual 69, 3) := by decide +kernel
theorem dX0_wires_15 : decode cX0_wires 15 = .ok (.ifCond .eq 6, 3) := by decide +kernel
theorem dX0_wires_18 : decode cX0_wires 18 = .ok (.iinc 1 1, 3) := by decide +kernel
theorem dX0_wires_21 : decode cX0_wires 21 = .ok (.iinc 2 1, 3) := by decide +kernel
theorem dX0_wires_24 : decode cX0_wires 24 = .ok (.goto (-20), 3) := by decide +kernel
theorem dX0_wires_27 : decode cX0_wires 27 = .ok (.iload_n 1, 1) := by decide +kernel
theorem dX0_wires_28 : decode cX0_wires 28 = .ok (.ireturn, 1) := by decide +kernel
set_option maxRecDepth 20000 in
theorem ggX0_allCrossings_X0_cross : GoodIn wsX0_allCrossings wsX0_cross := goodIn_r _ [5, 6, 7, 8, 4, 9, 10, 11, 12, 13, 14, 15, 16, 17, 18, 19, 20, 21, 22, 23, 24, 25, 26, 27, 28, 29, 30] (by decide +kernel) (by decide +kernel)
set_option maxRecDepth 20000 in
theorem gX0_allCrossings_X0_cross : GoodIn wsX0_allCrossings (wsV RX0 142 RX0 yX0_cross wsX0_cross) := goodIn_app (goodIn_of _ (by decide +kernel)) ggX0_allCrossings_X0_cross
theorem dX0_allCrossings_0 : decode cX0_allCrossings 0 = .ok (.iconst 0, 1) := by decide +kernel
theorem dX0_allCrossings_1 : decode cX0_allCrossings 1 = .ok (.istore_n 1, 1) := by decide +kernel
theorem dX0_allCrossings_2 : decode cX0_allCrossings 2 = .ok (.iconst 0, 1) := by decide +kernel
theorem dX0_allCrossings_3 : decode cX0_allCrossings 3 = .ok (.istore_n 2, 1) := by decide +kernel
theorem dX0_allCrossings_4 : decode cX0_allCrossings 4 = .ok (.iload_n 2, 1) := by decide +kernel
theorem dX0_allCrossings_5 : decode cX0_allCrossings 5 = .ok (.bipush 12, 2) := by decide +kernel
theorem dX0_allCrossings_7 : decode cX0_allCrossings 7 = .ok (.if_icmp .ge 37, 3) := by decide +kernel
theorem dX0_allCrossings_10 : decode cX0_allCrossings 10 = .ok (.iload_n 2, 1) := by decide +kernel
theorem dX0_allCrossings_11 : decode cX0_allCrossings 11 = .ok (.iconst 1, 1) := by decide +kernel
theorem dX0_allCrossings_12 : decode cX0_allCrossings 12 = .ok (.iadd, 1) := by decide +kernel
theorem dX0_allCrossings_13 : decode cX0_allCrossings 13 = .ok (.istore_n 3, 1) := by decide +kernel
theorem dX0_allCrossings_14 : decode cX0_allCrossings 14 = .ok (.iload_n 3, 1) := by decide +kernel
theorem dX0_allCrossings_15 : decode cX0_allCrossings 15 = .ok (.bipush 12, 2) := by decide +kernel
theorem dX0_allCrossings_17 : decode cX0_allCrossings 17 = .ok (.if_icmp .ge 21, 3) := by decide +kernel
theorem dX0_allCrossings_20 : decode cX0_allCrossings 20 = .ok (.aload_n 0, 1) := by decide +kernel
theorem dX0_allCrossings_21 : decode cX0_allCrossings 21 = .ok (.iload_n 2, 1) := by decide +kernel
theorem dX0_allCrossings_22 : decode cX0_allCrossings 22 = .ok (.iload_n 3, 1) := by decide +kernel
theorem dX0_allCrossings_23 : decode cX0_allCrossings 23 = .ok (.invokevirtual 142, 3) := by decide +kernel
theorem dX0_allCrossings_26 : decode cX0_allCrossings 26 = .ok (.ifCond .eq 6, 3) := by decide +kernel
theorem dX0_allCrossings_29 : decode cX0_allCrossings 29 = .ok (.iinc 1 1, 3) := by decide +kernel
theorem dX0_allCrossings_32 : decode cX0_allCrossings 32 = .ok (.iinc 3 1, 3) := by decide +kernel
theorem dX0_allCrossings_35 : decode cX0_allCrossings 35 = .ok (.goto (-21), 3) := by decide +kernel
theorem dX0_allCrossings_38 : decode cX0_allCrossings 38 = .ok (.iinc 2 1, 3) := by decide +kernel
theorem dX0_allCrossings_41 : decode cX0_allCrossings 41 = .ok (.goto (-37), 3) := by decide +kernel
theorem dX0_allCrossings_44 : decode cX0_allCrossings 44 = .ok (.iload_n 1, 1) := by decide +kernel
theorem dX0_allCrossings_45 : decode cX0_allCrossings 45 = .ok (.ireturn, 1) := by decide +kernel
set_option maxRecDepth 20000 in
theorem ggX0_allShortOnes_X0_heightOf : GoodIn wsX0_allShortOnes wsX0_heightOf := goodIn_r _ [5, 6, 7, 8, 9, 46, 47, 48, 49, 50, 51, 52, 53, 54, 55, 56, 57] (by decide +kernel) (by decide +kernel)
set_option maxRecDepth 20000 in
theorem gX0_allShortOnes_X0_heightOf : GoodIn wsX0_allShortOnes (wsV RX0 139 RX0 yX0_heightOf wsX0_heightOf) := goodIn_app (goodIn_of _ (by decide +kernel)) ggX0_allShortOnes_X0_heightOf
set_option maxRecDepth 20000 in
theorem ggX0_allShortOnes_X0_isShort : GoodIn wsX0_allShortOnes wsX0_isShort := goodIn_r _ [13, 14, 15, 16, 17, 4, 18, 19, 20, 21, 22, 23, 7, 8, 9, 24, 25, 26, 27, 28, 29, 30, 31, 32, 33, 34, 35, 36, 37, 38, 39, 40, 41, 42, 43, 44, 45, 1, 2, 3, 5, 6, 46, 47, 48, 49, 50, 51, 52, 53, 54, 55, 56, 57] (by decide +kernel) (by decide +kernel)
set_option maxRecDepth 20000 in
theorem gX0_allShortOnes_X0_isShort : GoodIn wsX0_allShortOnes (wsV RX0 149 RX0 yX0_isShort wsX0_isShort) := goodIn_app (goodIn_of _ (by decide +kernel)) ggX0_allShortOnes_X0_isShort
theorem dX0_allShortOnes_0 : decode cX0_allShortOnes 0 = .ok (.iconst 0, 1) := by decide +kernel
theorem dX0_allShortOnes_1 : decode cX0_allShortOnes 1 = .ok (.istore_n 1, 1) := by decide +kernel
theorem dX0_allShortOnes_2 : decode cX0_allShortOnes 2 = .ok (.iconst 0, 1) := by decide +kernel
theorem dX0_allShortOnes_3 : decode cX0_allShortOnes 3 = .ok (.istore_n 2, 1) := by decide +kernel
theorem dX0_allShortOnes_4 : decode cX0_allShortOnes 4 = .ok (.iload_n 2, 1) := by decide +kernel
theorem dX0_allShortOnes_5 : decode cX0_allShortOnes 5 = .ok (.bipush 12, 2) := by decide +kernel
theorem dX0_allShortOnes_7 : decode cX0_allShortOnes 7 = .ok (.if_icmp .ge 42, 3) := by decide +kernel
theorem dX0_allShortOnes_10 : decode cX0_allShortOnes 10 = .ok (.iload_n 2, 1) := by decide +kernel
theorem dX0_allShortOnes_11 : decode cX0_allShortOnes 11 = .ok (.iconst 1, 1) := by decide +kernel
theorem dX0_allShortOnes_12 : decode cX0_allShortOnes 12 = .ok (.iadd, 1) := by decide +kernel
theorem dX0_allShortOnes_13 : decode cX0_allShortOnes 13 = .ok (.istore_n 3, 1) := by decide +kernel
theorem dX0_allShortOnes_14 : decode cX0_allShortOnes 14 = .ok (.iload_n 3, 1) := by decide +kernel
theorem dX0_allShortOnes_15 : decode cX0_allShortOnes 15 = .ok (.bipush 12, 2) := by decide +kernel
theorem dX0_allShortOnes_17 : decode cX0_allShortOnes 17 = .ok (.if_icmp .ge 26, 3) := by decide +kernel
theorem dX0_allShortOnes_20 : decode cX0_allShortOnes 20 = .ok (.aload_n 0, 1) := by decide +kernel
theorem dX0_allShortOnes_21 : decode cX0_allShortOnes 21 = .ok (.iload_n 2, 1) := by decide +kernel
theorem dX0_allShortOnes_22 : decode cX0_allShortOnes 22 = .ok (.aload_n 0, 1) := by decide +kernel
theorem dX0_allShortOnes_23 : decode cX0_allShortOnes 23 = .ok (.iload_n 2, 1) := by decide +kernel
theorem dX0_allShortOnes_24 : decode cX0_allShortOnes 24 = .ok (.invokevirtual 139, 3) := by decide +kernel
theorem dX0_allShortOnes_27 : decode cX0_allShortOnes 27 = .ok (.iload_n 3, 1) := by decide +kernel
theorem dX0_allShortOnes_28 : decode cX0_allShortOnes 28 = .ok (.invokevirtual 149, 3) := by decide +kernel
theorem dX0_allShortOnes_31 : decode cX0_allShortOnes 31 = .ok (.ifCond .eq 6, 3) := by decide +kernel
theorem dX0_allShortOnes_34 : decode cX0_allShortOnes 34 = .ok (.iinc 1 1, 3) := by decide +kernel
theorem dX0_allShortOnes_37 : decode cX0_allShortOnes 37 = .ok (.iinc 3 1, 3) := by decide +kernel
theorem dX0_allShortOnes_40 : decode cX0_allShortOnes 40 = .ok (.goto (-26), 3) := by decide +kernel
theorem dX0_allShortOnes_43 : decode cX0_allShortOnes 43 = .ok (.iinc 2 1, 3) := by decide +kernel
theorem dX0_allShortOnes_46 : decode cX0_allShortOnes 46 = .ok (.goto (-42), 3) := by decide +kernel
theorem dX0_allShortOnes_49 : decode cX0_allShortOnes 49 = .ok (.iload_n 1, 1) := by decide +kernel
theorem dX0_allShortOnes_50 : decode cX0_allShortOnes 50 = .ok (.ireturn, 1) := by decide +kernel
set_option maxRecDepth 20000 in
theorem ggX0_allStrengths_X0_hasWire : GoodIn wsX0_allStrengths wsX0_hasWire := goodIn_r _ [6, 7, 8, 9, 10, 11, 12, 13, 14, 15, 16, 17, 18, 19, 20, 21, 22] (by decide +kernel) (by decide +kernel)
set_option maxRecDepth 20000 in
theorem gX0_allStrengths_X0_hasWire : GoodIn wsX0_allStrengths (wsV RX0 69 RX0 yX0_hasWire wsX0_hasWire) := goodIn_app (goodIn_of _ (by decide +kernel)) ggX0_allStrengths_X0_hasWire
theorem dX0_allStrengths_0 : decode cX0_allStrengths 0 = .ok (.iconst 0, 1) := by decide +kernel
theorem dX0_allStrengths_1 : decode cX0_allStrengths 1 = .ok (.istore_n 1, 1) := by decide +kernel
theorem dX0_allStrengths_2 : decode cX0_allStrengths 2 = .ok (.iconst 0, 1) := by decide +kernel
theorem dX0_allStrengths_3 : decode cX0_allStrengths 3 = .ok (.istore_n 2, 1) := by decide +kernel
theorem dX0_allStrengths_4 : decode cX0_allStrengths 4 = .ok (.iload_n 2, 1) := by decide +kernel
theorem dX0_allStrengths_5 : decode cX0_allStrengths 5 = .ok (.bipush 12, 2) := by decide +kernel
theorem dX0_allStrengths_7 : decode cX0_allStrengths 7 = .ok (.if_icmp .ge 26, 3) := by decide +kernel
theorem dX0_allStrengths_10 : decode cX0_allStrengths 10 = .ok (.aload_n 0, 1) := by decide +kernel
theorem dX0_allStrengths_11 : decode cX0_allStrengths 11 = .ok (.iload_n 2, 1) := by decide +kernel
theorem dX0_allStrengths_12 : decode cX0_allStrengths 12 = .ok (.invokevirtual 69, 3) := by decide +kernel
theorem dX0_allStrengths_15 : decode cX0_allStrengths 15 = .ok (.ifCond .eq 12, 3) := by decide +kernel
theorem dX0_allStrengths_18 : decode cX0_allStrengths 18 = .ok (.iload_n 1, 1) := by decide +kernel
theorem dX0_allStrengths_19 : decode cX0_allStrengths 19 = .ok (.aload_n 0, 1) := by decide +kernel
theorem dX0_allStrengths_20 : decode cX0_allStrengths 20 = .ok (.getfield 21, 3) := by decide +kernel
theorem dX0_allStrengths_23 : decode cX0_allStrengths 23 = .ok (.iload_n 2, 1) := by decide +kernel
theorem dX0_allStrengths_24 : decode cX0_allStrengths 24 = .ok (.iaload, 1) := by decide +kernel
theorem dX0_allStrengths_25 : decode cX0_allStrengths 25 = .ok (.iadd, 1) := by decide +kernel
theorem dX0_allStrengths_26 : decode cX0_allStrengths 26 = .ok (.istore_n 1, 1) := by decide +kernel
theorem dX0_allStrengths_27 : decode cX0_allStrengths 27 = .ok (.iinc 2 1, 3) := by decide +kernel
theorem dX0_allStrengths_30 : decode cX0_allStrengths 30 = .ok (.goto (-26), 3) := by decide +kernel
theorem dX0_allStrengths_33 : decode cX0_allStrengths 33 = .ok (.iload_n 1, 1) := by decide +kernel
theorem dX0_allStrengths_34 : decode cX0_allStrengths 34 = .ok (.ireturn, 1) := by decide +kernel
set_option maxRecDepth 20000 in
theorem ggX0_weakestPad_X0_hasWire : GoodIn wsX0_weakestPad wsX0_hasWire := goodIn_r _ [6, 7, 8, 9, 10, 15, 16, 17, 18, 19, 20, 21, 22, 23, 24, 25, 26] (by decide +kernel) (by decide +kernel)
set_option maxRecDepth 20000 in
theorem gX0_weakestPad_X0_hasWire : GoodIn wsX0_weakestPad (wsV RX0 69 RX0 yX0_hasWire wsX0_hasWire) := goodIn_app (goodIn_of _ (by decide +kernel)) ggX0_weakestPad_X0_hasWire
set_option maxRecDepth 20000 in
theorem ggX0_weakestPad_X0_strengthOf : GoodIn wsX0_weakestPad wsX0_strengthOf := goodIn_r _ [14, 1, 8, 9, 10, 15, 16, 17, 18, 19, 20, 21, 22, 23, 24, 25, 26] (by decide +kernel) (by decide +kernel)
set_option maxRecDepth 20000 in
theorem gX0_weakestPad_X0_strengthOf : GoodIn wsX0_weakestPad (wsV RX0 159 RX0 yX0_strengthOf wsX0_strengthOf) := goodIn_app (goodIn_of _ (by decide +kernel)) ggX0_weakestPad_X0_strengthOf
theorem dX0_weakestPad_0 : decode cX0_weakestPad 0 = .ok (.bipush (-5), 2) := by decide +kernel
theorem dX0_weakestPad_2 : decode cX0_weakestPad 2 = .ok (.istore_n 1, 1) := by decide +kernel
theorem dX0_weakestPad_3 : decode cX0_weakestPad 3 = .ok (.iconst 0, 1) := by decide +kernel
theorem dX0_weakestPad_4 : decode cX0_weakestPad 4 = .ok (.istore_n 2, 1) := by decide +kernel
theorem dX0_weakestPad_5 : decode cX0_weakestPad 5 = .ok (.iload_n 2, 1) := by decide +kernel
theorem dX0_weakestPad_6 : decode cX0_weakestPad 6 = .ok (.bipush 12, 2) := by decide +kernel
theorem dX0_weakestPad_8 : decode cX0_weakestPad 8 = .ok (.if_icmp .ge 39, 3) := by decide +kernel
theorem dX0_weakestPad_11 : decode cX0_weakestPad 11 = .ok (.aload_n 0, 1) := by decide +kernel
theorem dX0_weakestPad_12 : decode cX0_weakestPad 12 = .ok (.iload_n 2, 1) := by decide +kernel
theorem dX0_weakestPad_13 : decode cX0_weakestPad 13 = .ok (.invokevirtual 69, 3) := by decide +kernel
theorem dX0_weakestPad_16 : decode cX0_weakestPad 16 = .ok (.ifCond .eq 25, 3) := by decide +kernel
theorem dX0_weakestPad_19 : decode cX0_weakestPad 19 = .ok (.iload_n 1, 1) := by decide +kernel
theorem dX0_weakestPad_20 : decode cX0_weakestPad 20 = .ok (.bipush (-5), 2) := by decide +kernel
theorem dX0_weakestPad_22 : decode cX0_weakestPad 22 = .ok (.if_icmp .eq 17, 3) := by decide +kernel
theorem dX0_weakestPad_25 : decode cX0_weakestPad 25 = .ok (.aload_n 0, 1) := by decide +kernel
theorem dX0_weakestPad_26 : decode cX0_weakestPad 26 = .ok (.getfield 21, 3) := by decide +kernel
theorem dX0_weakestPad_29 : decode cX0_weakestPad 29 = .ok (.iload_n 2, 1) := by decide +kernel
theorem dX0_weakestPad_30 : decode cX0_weakestPad 30 = .ok (.iaload, 1) := by decide +kernel
theorem dX0_weakestPad_31 : decode cX0_weakestPad 31 = .ok (.aload_n 0, 1) := by decide +kernel
theorem dX0_weakestPad_32 : decode cX0_weakestPad 32 = .ok (.iload_n 1, 1) := by decide +kernel
theorem dX0_weakestPad_33 : decode cX0_weakestPad 33 = .ok (.invokevirtual 159, 3) := by decide +kernel
theorem dX0_weakestPad_36 : decode cX0_weakestPad 36 = .ok (.if_icmp .ge 5, 3) := by decide +kernel
theorem dX0_weakestPad_39 : decode cX0_weakestPad 39 = .ok (.iload_n 2, 1) := by decide +kernel
theorem dX0_weakestPad_40 : decode cX0_weakestPad 40 = .ok (.istore_n 1, 1) := by decide +kernel
theorem dX0_weakestPad_41 : decode cX0_weakestPad 41 = .ok (.iinc 2 1, 3) := by decide +kernel
theorem dX0_weakestPad_44 : decode cX0_weakestPad 44 = .ok (.goto (-39), 3) := by decide +kernel
theorem dX0_weakestPad_47 : decode cX0_weakestPad 47 = .ok (.iload_n 1, 1) := by decide +kernel
theorem dX0_weakestPad_48 : decode cX0_weakestPad 48 = .ok (.ireturn, 1) := by decide +kernel
set_option maxRecDepth 20000 in
theorem ggX1_init_X0_init : GoodIn wsX1_init wsX0_init := goodIn_r _ [11, 12, 2, 3, 13, 14, 15, 16, 17, 18, 19, 20, 21, 22, 23, 26, 27, 28, 29, 30, 31, 32, 33, 34, 35, 36, 37] (by decide +kernel) (by decide +kernel)
set_option maxRecDepth 20000 in
theorem gX1_init_X0_init : GoodIn wsX1_init (wsX0_init) := ggX1_init_X0_init
theorem dX1_init_0 : decode cX1_init 0 = .ok (.aload_n 0, 1) := by decide +kernel
theorem dX1_init_1 : decode cX1_init 1 = .ok (.invokespecial 3, 3) := by decide +kernel
theorem dX1_init_4 : decode cX1_init 4 = .ok (.aload_n 0, 1) := by decide +kernel
theorem dX1_init_5 : decode cX1_init 5 = .ok (.iconst 4, 1) := by decide +kernel
theorem dX1_init_6 : decode cX1_init 6 = .ok (.anewarray 9, 3) := by decide +kernel
theorem dX1_init_9 : decode cX1_init 9 = .ok (.putfield 11, 3) := by decide +kernel
theorem dX1_init_12 : decode cX1_init 12 = .ok (.iconst 0, 1) := by decide +kernel
theorem dX1_init_13 : decode cX1_init 13 = .ok (.istore_n 1, 1) := by decide +kernel
theorem dX1_init_14 : decode cX1_init 14 = .ok (.iload_n 1, 1) := by decide +kernel
theorem dX1_init_15 : decode cX1_init 15 = .ok (.iconst 4, 1) := by decide +kernel
theorem dX1_init_16 : decode cX1_init 16 = .ok (.if_icmp .ge 22, 3) := by decide +kernel
theorem dX1_init_19 : decode cX1_init 19 = .ok (.aload_n 0, 1) := by decide +kernel
theorem dX1_init_20 : decode cX1_init 20 = .ok (.getfield 11, 3) := by decide +kernel
theorem dX1_init_23 : decode cX1_init 23 = .ok (.iload_n 1, 1) := by decide +kernel
theorem dX1_init_24 : decode cX1_init 24 = .ok (.new 9, 3) := by decide +kernel
theorem dX1_init_27 : decode cX1_init 27 = .ok (.dup, 1) := by decide +kernel
theorem dX1_init_28 : decode cX1_init 28 = .ok (.invokespecial 17, 3) := by decide +kernel
theorem dX1_init_31 : decode cX1_init 31 = .ok (.aastore, 1) := by decide +kernel
theorem dX1_init_32 : decode cX1_init 32 = .ok (.iinc 1 1, 3) := by decide +kernel
theorem dX1_init_35 : decode cX1_init 35 = .ok (.goto (-21), 3) := by decide +kernel
theorem dX1_init_38 : decode cX1_init 38 = .ok (.aload_n 0, 1) := by decide +kernel
theorem dX1_init_39 : decode cX1_init 39 = .ok (.iconst 0, 1) := by decide +kernel
theorem dX1_init_40 : decode cX1_init 40 = .ok (.putfield 18, 3) := by decide +kernel
end
section
theorem dX1_init_43 : decode cX1_init 43 = .ok (.return_, 1) := by decide +kernel
theorem dX1_states_0 : decode cX1_states 0 = .ok (.aload_n 0, 1) := by decide +kernel
theorem dX1_states_1 : decode cX1_states 1 = .ok (.getfield 18, 3) := by decide +kernel
theorem dX1_states_4 : decode cX1_states 4 = .ok (.ireturn, 1) := by decide +kernel
set_option maxRecDepth 20000 in
theorem ggX1_record_X1_dropOldest : GoodIn wsX1_record wsX1_dropOldest := goodIn_r _ [6, 7, 1, 36, 37] (by decide +kernel) (by decide +kernel)
set_option maxRecDepth 20000 in
theorem gX1_record_X1_dropOldest : GoodIn wsX1_record (wsV RX1 22 RX1 yX1_dropOldest wsX1_dropOldest) := goodIn_app (goodIn_of _ (by decide +kernel)) ggX1_record_X1_dropOldest
set_option maxRecDepth 20000 in
theorem ggX1_record_X1_placeAt : GoodIn wsX1_record wsX1_placeAt := goodIn_r _ [11, 7, 12, 13, 14, 36, 37] (by decide +kernel) (by decide +kernel)
set_option maxRecDepth 20000 in
theorem gX1_record_X1_placeAt : GoodIn wsX1_record (wsV RX1 25 RX1 yX1_placeAt wsX1_placeAt) := goodIn_app (goodIn_of _ (by decide +kernel)) ggX1_record_X1_placeAt
set_option maxRecDepth 20000 in
theorem ggX1_record_X0_copyFrom : GoodIn wsX1_record wsX0_copyFrom := goodIn_r _ [19, 20, 21, 22, 23, 24, 25, 26, 27, 28, 29, 30, 31, 32, 33, 34, 35, 38, 39, 40, 41, 42, 43, 44, 45, 46, 47, 48, 49] (by decide +kernel) (by decide +kernel)
set_option maxRecDepth 20000 in
theorem gX1_record_X0_copyFrom : GoodIn wsX1_record (wsV RX1 29 RX0 yX0_copyFrom wsX0_copyFrom) := goodIn_app (goodIn_of _ (by decide +kernel)) ggX1_record_X0_copyFrom
theorem dX1_record_0 : decode cX1_record 0 = .ok (.aload_n 0, 1) := by decide +kernel
theorem dX1_record_1 : decode cX1_record 1 = .ok (.getfield 18, 3) := by decide +kernel
theorem dX1_record_4 : decode cX1_record 4 = .ok (.iconst 4, 1) := by decide +kernel
theorem dX1_record_5 : decode cX1_record 5 = .ok (.if_icmp .lt 7, 3) := by decide +kernel
theorem dX1_record_8 : decode cX1_record 8 = .ok (.aload_n 0, 1) := by decide +kernel
theorem dX1_record_9 : decode cX1_record 9 = .ok (.invokevirtual 22, 3) := by decide +kernel
theorem dX1_record_12 : decode cX1_record 12 = .ok (.aload_n 0, 1) := by decide +kernel
theorem dX1_record_13 : decode cX1_record 13 = .ok (.aload_n 0, 1) := by decide +kernel
theorem dX1_record_14 : decode cX1_record 14 = .ok (.getfield 18, 3) := by decide +kernel
theorem dX1_record_17 : decode cX1_record 17 = .ok (.invokevirtual 25, 3) := by decide +kernel
theorem dX1_record_20 : decode cX1_record 20 = .ok (.astore_n 2, 1) := by decide +kernel
theorem dX1_record_21 : decode cX1_record 21 = .ok (.aload_n 2, 1) := by decide +kernel
theorem dX1_record_22 : decode cX1_record 22 = .ok (.ifnull 18, 3) := by decide +kernel
theorem dX1_record_25 : decode cX1_record 25 = .ok (.aload_n 2, 1) := by decide +kernel
theorem dX1_record_26 : decode cX1_record 26 = .ok (.aload_n 1, 1) := by decide +kernel
theorem dX1_record_27 : decode cX1_record 27 = .ok (.invokevirtual 29, 3) := by decide +kernel
theorem dX1_record_30 : decode cX1_record 30 = .ok (.aload_n 0, 1) := by decide +kernel
theorem dX1_record_31 : decode cX1_record 31 = .ok (.dup, 1) := by decide +kernel
theorem dX1_record_32 : decode cX1_record 32 = .ok (.getfield 18, 3) := by decide +kernel
theorem dX1_record_35 : decode cX1_record 35 = .ok (.iconst 1, 1) := by decide +kernel
theorem dX1_record_36 : decode cX1_record 36 = .ok (.iadd, 1) := by decide +kernel
theorem dX1_record_37 : decode cX1_record 37 = .ok (.putfield 18, 3) := by decide +kernel
theorem dX1_record_40 : decode cX1_record 40 = .ok (.return_, 1) := by decide +kernel
set_option maxRecDepth 20000 in
theorem ggX1_takeLatest_X1_placeAt : GoodIn wsX1_takeLatest wsX1_placeAt := goodIn_r _ [6, 7, 8, 9, 10, 32, 33] (by decide +kernel) (by decide +kernel)
set_option maxRecDepth 20000 in
theorem gX1_takeLatest_X1_placeAt : GoodIn wsX1_takeLatest (wsV RX1 25 RX1 yX1_placeAt wsX1_placeAt) := goodIn_app (goodIn_of _ (by decide +kernel)) ggX1_takeLatest_X1_placeAt
set_option maxRecDepth 20000 in
theorem ggX1_takeLatest_X0_copyFrom : GoodIn wsX1_takeLatest wsX0_copyFrom := goodIn_r _ [15, 16, 17, 18, 19, 20, 21, 22, 23, 24, 25, 26, 27, 28, 29, 30, 31, 34, 35, 36, 37, 38, 39, 40, 41, 42, 43, 44, 45] (by decide +kernel) (by decide +kernel)
set_option maxRecDepth 20000 in
theorem gX1_takeLatest_X0_copyFrom : GoodIn wsX1_takeLatest (wsV RX1 29 RX0 yX0_copyFrom wsX0_copyFrom) := goodIn_app (goodIn_of _ (by decide +kernel)) ggX1_takeLatest_X0_copyFrom
theorem dX1_takeLatest_0 : decode cX1_takeLatest 0 = .ok (.aload_n 0, 1) := by decide +kernel
theorem dX1_takeLatest_1 : decode cX1_takeLatest 1 = .ok (.aload_n 0, 1) := by decide +kernel
theorem dX1_takeLatest_2 : decode cX1_takeLatest 2 = .ok (.getfield 18, 3) := by decide +kernel
theorem dX1_takeLatest_5 : decode cX1_takeLatest 5 = .ok (.iconst 1, 1) := by decide +kernel
theorem dX1_takeLatest_6 : decode cX1_takeLatest 6 = .ok (.isub, 1) := by decide +kernel
theorem dX1_takeLatest_7 : decode cX1_takeLatest 7 = .ok (.invokevirtual 25, 3) := by decide +kernel
theorem dX1_takeLatest_10 : decode cX1_takeLatest 10 = .ok (.astore_n 2, 1) := by decide +kernel
theorem dX1_takeLatest_11 : decode cX1_takeLatest 11 = .ok (.aload_n 2, 1) := by decide +kernel
theorem dX1_takeLatest_12 : decode cX1_takeLatest 12 = .ok (.ifnull 18, 3) := by decide +kernel
theorem dX1_takeLatest_15 : decode cX1_takeLatest 15 = .ok (.aload_n 1, 1) := by decide +kernel
theorem dX1_takeLatest_16 : decode cX1_takeLatest 16 = .ok (.aload_n 2, 1) := by decide +kernel
theorem dX1_takeLatest_17 : decode cX1_takeLatest 17 = .ok (.invokevirtual 29, 3) := by decide +kernel
theorem dX1_takeLatest_20 : decode cX1_takeLatest 20 = .ok (.aload_n 0, 1) := by decide +kernel
theorem dX1_takeLatest_21 : decode cX1_takeLatest 21 = .ok (.dup, 1) := by decide +kernel
theorem dX1_takeLatest_22 : decode cX1_takeLatest 22 = .ok (.getfield 18, 3) := by decide +kernel
theorem dX1_takeLatest_25 : decode cX1_takeLatest 25 = .ok (.iconst 1, 1) := by decide +kernel
theorem dX1_takeLatest_26 : decode cX1_takeLatest 26 = .ok (.isub, 1) := by decide +kernel
theorem dX1_takeLatest_27 : decode cX1_takeLatest 27 = .ok (.putfield 18, 3) := by decide +kernel
theorem dX1_takeLatest_30 : decode cX1_takeLatest 30 = .ok (.return_, 1) := by decide +kernel
set_option maxRecDepth 20000 in
theorem ggX1_placeAt_X3_isWithin : GoodIn wsX1_placeAt wsX3_isWithin := goodIn_r _ [4] (by decide +kernel) (by decide +kernel)
set_option maxRecDepth 20000 in
theorem gX1_placeAt_X3_isWithin_n33 : GoodIn wsX1_placeAt (wsX3_isWithin) := ggX1_placeAt_X3_isWithin
theorem dX1_placeAt_0 : decode cX1_placeAt 0 = .ok (.iload_n 1, 1) := by decide +kernel
theorem dX1_placeAt_1 : decode cX1_placeAt 1 = .ok (.iconst 0, 1) := by decide +kernel
theorem dX1_placeAt_2 : decode cX1_placeAt 2 = .ok (.iconst 3, 1) := by decide +kernel
theorem dX1_placeAt_3 : decode cX1_placeAt 3 = .ok (.invokestatic 33, 3) := by decide +kernel
theorem dX1_placeAt_6 : decode cX1_placeAt 6 = .ok (.ifCond .eq 12, 3) := by decide +kernel
theorem dX1_placeAt_9 : decode cX1_placeAt 9 = .ok (.aload_n 0, 1) := by decide +kernel
theorem dX1_placeAt_10 : decode cX1_placeAt 10 = .ok (.getfield 11, 3) := by decide +kernel
theorem dX1_placeAt_13 : decode cX1_placeAt 13 = .ok (.iload_n 1, 1) := by decide +kernel
theorem dX1_placeAt_14 : decode cX1_placeAt 14 = .ok (.aaload, 1) := by decide +kernel
theorem dX1_placeAt_15 : decode cX1_placeAt 15 = .ok (.goto 4, 3) := by decide +kernel
theorem dX1_placeAt_18 : decode cX1_placeAt 18 = .ok (.aconst_null, 1) := by decide +kernel
theorem dX1_placeAt_19 : decode cX1_placeAt 19 = .ok (.areturn, 1) := by decide +kernel
theorem dX1_dropOldest_0 : decode cX1_dropOldest 0 = .ok (.aload_n 0, 1) := by decide +kernel
theorem dX1_dropOldest_1 : decode cX1_dropOldest 1 = .ok (.getfield 11, 3) := by decide +kernel
theorem dX1_dropOldest_4 : decode cX1_dropOldest 4 = .ok (.iconst 0, 1) := by decide +kernel
theorem dX1_dropOldest_5 : decode cX1_dropOldest 5 = .ok (.aaload, 1) := by decide +kernel
theorem dX1_dropOldest_6 : decode cX1_dropOldest 6 = .ok (.astore_n 1, 1) := by decide +kernel
theorem dX1_dropOldest_7 : decode cX1_dropOldest 7 = .ok (.iconst 1, 1) := by decide +kernel
theorem dX1_dropOldest_8 : decode cX1_dropOldest 8 = .ok (.istore_n 2, 1) := by decide +kernel
theorem dX1_dropOldest_9 : decode cX1_dropOldest 9 = .ok (.iload_n 2, 1) := by decide +kernel
theorem dX1_dropOldest_10 : decode cX1_dropOldest 10 = .ok (.iconst 4, 1) := by decide +kernel
theorem dX1_dropOldest_11 : decode cX1_dropOldest 11 = .ok (.if_icmp .ge 23, 3) := by decide +kernel
theorem dX1_dropOldest_14 : decode cX1_dropOldest 14 = .ok (.aload_n 0, 1) := by decide +kernel
theorem dX1_dropOldest_15 : decode cX1_dropOldest 15 = .ok (.getfield 11, 3) := by decide +kernel
theorem dX1_dropOldest_18 : decode cX1_dropOldest 18 = .ok (.iload_n 2, 1) := by decide +kernel
theorem dX1_dropOldest_19 : decode cX1_dropOldest 19 = .ok (.iconst 1, 1) := by decide +kernel
theorem dX1_dropOldest_20 : decode cX1_dropOldest 20 = .ok (.isub, 1) := by decide +kernel
theorem dX1_dropOldest_21 : decode cX1_dropOldest 21 = .ok (.aload_n 0, 1) := by decide +kernel
theorem dX1_dropOldest_22 : decode cX1_dropOldest 22 = .ok (.getfield 11, 3) := by decide +kernel
theorem dX1_dropOldest_25 : decode cX1_dropOldest 25 = .ok (.iload_n 2, 1) := by decide +kernel
theorem dX1_dropOldest_26 : decode cX1_dropOldest 26 = .ok (.aaload, 1) := by decide +kernel
theorem dX1_dropOldest_27 : decode cX1_dropOldest 27 = .ok (.aastore, 1) := by decide +kernel
theorem dX1_dropOldest_28 : decode cX1_dropOldest 28 = .ok (.iinc 2 1, 3) := by decide +kernel
theorem dX1_dropOldest_31 : decode cX1_dropOldest 31 = .ok (.goto (-22), 3) := by decide +kernel
theorem dX1_dropOldest_34 : decode cX1_dropOldest 34 = .ok (.aload_n 0, 1) := by decide +kernel
theorem dX1_dropOldest_35 : decode cX1_dropOldest 35 = .ok (.getfield 11, 3) := by decide +kernel
theorem dX1_dropOldest_38 : decode cX1_dropOldest 38 = .ok (.iconst 3, 1) := by decide +kernel
theorem dX1_dropOldest_39 : decode cX1_dropOldest 39 = .ok (.aload_n 1, 1) := by decide +kernel
theorem dX1_dropOldest_40 : decode cX1_dropOldest 40 = .ok (.aastore, 1) := by decide +kernel
theorem dX1_dropOldest_41 : decode cX1_dropOldest 41 = .ok (.aload_n 0, 1) := by decide +kernel
theorem dX1_dropOldest_42 : decode cX1_dropOldest 42 = .ok (.iconst 3, 1) := by decide +kernel
theorem dX1_dropOldest_43 : decode cX1_dropOldest 43 = .ok (.putfield 18, 3) := by decide +kernel
theorem dX1_dropOldest_46 : decode cX1_dropOldest 46 = .ok (.return_, 1) := by decide +kernel
theorem dX2_init_0 : decode cX2_init 0 = .ok (.aload_n 0, 1) := by decide +kernel
theorem dX2_init_1 : decode cX2_init 1 = .ok (.invokespecial 3, 3) := by decide +kernel
theorem dX2_init_4 : decode cX2_init 4 = .ok (.aload_n 0, 1) := by decide +kernel
theorem dX2_init_5 : decode cX2_init 5 = .ok (.bipush 80, 2) := by decide +kernel
theorem dX2_init_7 : decode cX2_init 7 = .ok (.newarray .char, 2) := by decide +kernel
theorem dX2_init_9 : decode cX2_init 9 = .ok (.putfield 9, 3) := by decide +kernel
theorem dX2_init_12 : decode cX2_init 12 = .ok (.aload_n 0, 1) := by decide +kernel
theorem dX2_init_13 : decode cX2_init 13 = .ok (.bipush 20, 2) := by decide +kernel
theorem dX2_init_15 : decode cX2_init 15 = .ok (.newarray .int, 2) := by decide +kernel
theorem dX2_init_17 : decode cX2_init 17 = .ok (.putfield 15, 3) := by decide +kernel
theorem dX2_init_20 : decode cX2_init 20 = .ok (.aload_n 0, 1) := by decide +kernel
theorem dX2_init_21 : decode cX2_init 21 = .ok (.bipush 20, 2) := by decide +kernel
theorem dX2_init_23 : decode cX2_init 23 = .ok (.newarray .int, 2) := by decide +kernel
theorem dX2_init_25 : decode cX2_init 25 = .ok (.putfield 19, 3) := by decide +kernel
theorem dX2_init_28 : decode cX2_init 28 = .ok (.aload_n 0, 1) := by decide +kernel
theorem dX2_init_29 : decode cX2_init 29 = .ok (.bipush 20, 2) := by decide +kernel
theorem dX2_init_31 : decode cX2_init 31 = .ok (.newarray .int, 2) := by decide +kernel
theorem dX2_init_33 : decode cX2_init 33 = .ok (.putfield 22, 3) := by decide +kernel
theorem dX2_init_36 : decode cX2_init 36 = .ok (.return_, 1) := by decide +kernel
theorem dX2_length_0 : decode cX2_length 0 = .ok (.aload_n 0, 1) := by decide +kernel
theorem dX2_length_1 : decode cX2_length 1 = .ok (.getfield 25, 3) := by decide +kernel
theorem dX2_length_4 : decode cX2_length 4 = .ok (.ireturn, 1) := by decide +kernel
theorem dX2_append_0 : decode cX2_append 0 = .ok (.aload_n 0, 1) := by decide +kernel
theorem dX2_append_1 : decode cX2_append 1 = .ok (.getfield 25, 3) := by decide +kernel
theorem dX2_append_4 : decode cX2_append 4 = .ok (.bipush 80, 2) := by decide +kernel
theorem dX2_append_6 : decode cX2_append 6 = .ok (.if_icmp .lt 5, 3) := by decide +kernel
theorem dX2_append_9 : decode cX2_append 9 = .ok (.iconst 0, 1) := by decide +kernel
theorem dX2_append_10 : decode cX2_append 10 = .ok (.ireturn, 1) := by decide +kernel
theorem dX2_append_11 : decode cX2_append 11 = .ok (.aload_n 0, 1) := by decide +kernel
theorem dX2_append_12 : decode cX2_append 12 = .ok (.getfield 9, 3) := by decide +kernel
theorem dX2_append_15 : decode cX2_append 15 = .ok (.aload_n 0, 1) := by decide +kernel
theorem dX2_append_16 : decode cX2_append 16 = .ok (.getfield 25, 3) := by decide +kernel
theorem dX2_append_19 : decode cX2_append 19 = .ok (.iload_n 1, 1) := by decide +kernel
theorem dX2_append_20 : decode cX2_append 20 = .ok (.castore, 1) := by decide +kernel
theorem dX2_append_21 : decode cX2_append 21 = .ok (.aload_n 0, 1) := by decide +kernel
theorem dX2_append_22 : decode cX2_append 22 = .ok (.dup, 1) := by decide +kernel
theorem dX2_append_23 : decode cX2_append 23 = .ok (.getfield 25, 3) := by decide +kernel
theorem dX2_append_26 : decode cX2_append 26 = .ok (.iconst 1, 1) := by decide +kernel
theorem dX2_append_27 : decode cX2_append 27 = .ok (.iadd, 1) := by decide +kernel
theorem dX2_append_28 : decode cX2_append 28 = .ok (.putfield 25, 3) := by decide +kernel
theorem dX2_append_31 : decode cX2_append 31 = .ok (.iconst 1, 1) := by decide +kernel
theorem dX2_append_32 : decode cX2_append 32 = .ok (.ireturn, 1) := by decide +kernel
theorem dX2_empty_0 : decode cX2_empty 0 = .ok (.aload_n 0, 1) := by decide +kernel
theorem dX2_empty_1 : decode cX2_empty 1 = .ok (.iconst 0, 1) := by decide +kernel
theorem dX2_empty_2 : decode cX2_empty 2 = .ok (.putfield 25, 3) := by decide +kernel
theorem dX2_empty_5 : decode cX2_empty 5 = .ok (.return_, 1) := by decide +kernel
theorem dX2_listed_0 : decode cX2_listed 0 = .ok (.aload_n 0, 1) := by decide +kernel
theorem dX2_listed_1 : decode cX2_listed 1 = .ok (.getfield 29, 3) := by decide +kernel
theorem dX2_listed_4 : decode cX2_listed 4 = .ok (.ireturn, 1) := by decide +kernel
set_option maxRecDepth 20000 in
theorem ggX2_listedPad_X2_isListed : GoodIn wsX2_listedPad wsX2_isListed := goodIn_r _ [6, 7, 8, 9, 10, 11, 12, 13, 14, 15, 16, 17] (by decide +kernel) (by decide +kernel)
set_option maxRecDepth 20000 in
theorem gX2_listedPad_X2_isListed : GoodIn wsX2_listedPad (wsV RX2 32 RX2 yX2_isListed wsX2_isListed) := goodIn_app (goodIn_of _ (by decide +kernel)) ggX2_listedPad_X2_isListed
theorem dX2_listedPad_0 : decode cX2_listedPad 0 = .ok (.aload_n 0, 1) := by decide +kernel
theorem dX2_listedPad_1 : decode cX2_listedPad 1 = .ok (.iload_n 1, 1) := by decide +kernel
theorem dX2_listedPad_2 : decode cX2_listedPad 2 = .ok (.invokevirtual 32, 3) := by decide +kernel
theorem dX2_listedPad_5 : decode cX2_listedPad 5 = .ok (.ifCond .eq 12, 3) := by decide +kernel
theorem dX2_listedPad_8 : decode cX2_listedPad 8 = .ok (.aload_n 0, 1) := by decide +kernel
theorem dX2_listedPad_9 : decode cX2_listedPad 9 = .ok (.getfield 15, 3) := by decide +kernel
theorem dX2_listedPad_12 : decode cX2_listedPad 12 = .ok (.iload_n 1, 1) := by decide +kernel
theorem dX2_listedPad_13 : decode cX2_listedPad 13 = .ok (.iaload, 1) := by decide +kernel
theorem dX2_listedPad_14 : decode cX2_listedPad 14 = .ok (.goto 4, 3) := by decide +kernel
theorem dX2_listedPad_17 : decode cX2_listedPad 17 = .ok (.iconst 0, 1) := by decide +kernel
theorem dX2_listedPad_18 : decode cX2_listedPad 18 = .ok (.ireturn, 1) := by decide +kernel
set_option maxRecDepth 20000 in
theorem ggX2_listedLead_X2_isListed : GoodIn wsX2_listedLead wsX2_isListed := goodIn_r _ [6, 7, 8, 9, 10, 11, 12, 13, 14, 15, 16, 17] (by decide +kernel) (by decide +kernel)
set_option maxRecDepth 20000 in
theorem gX2_listedLead_X2_isListed : GoodIn wsX2_listedLead (wsV RX2 32 RX2 yX2_isListed wsX2_isListed) := goodIn_app (goodIn_of _ (by decide +kernel)) ggX2_listedLead_X2_isListed
theorem dX2_listedLead_0 : decode cX2_listedLead 0 = .ok (.aload_n 0, 1) := by decide +kernel
theorem dX2_listedLead_1 : decode cX2_listedLead 1 = .ok (.iload_n 1, 1) := by decide +kernel
theorem dX2_listedLead_2 : decode cX2_listedLead 2 = .ok (.invokevirtual 32, 3) := by decide +kernel
theorem dX2_listedLead_5 : decode cX2_listedLead 5 = .ok (.ifCond .eq 12, 3) := by decide +kernel
theorem dX2_listedLead_8 : decode cX2_listedLead 8 = .ok (.aload_n 0, 1) := by decide +kernel
theorem dX2_listedLead_9 : decode cX2_listedLead 9 = .ok (.getfield 19, 3) := by decide +kernel
theorem dX2_listedLead_12 : decode cX2_listedLead 12 = .ok (.iload_n 1, 1) := by decide +kernel
theorem dX2_listedLead_13 : decode cX2_listedLead 13 = .ok (.iaload, 1) := by decide +kernel
theorem dX2_listedLead_14 : decode cX2_listedLead 14 = .ok (.goto 4, 3) := by decide +kernel
theorem dX2_listedLead_17 : decode cX2_listedLead 17 = .ok (.iconst 0, 1) := by decide +kernel
theorem dX2_listedLead_18 : decode cX2_listedLead 18 = .ok (.ireturn, 1) := by decide +kernel
set_option maxRecDepth 20000 in
theorem ggX2_listedHeight_X2_isListed : GoodIn wsX2_listedHeight wsX2_isListed := goodIn_r _ [6, 7, 8, 9, 10, 11, 12, 13, 14, 15, 16, 17] (by decide +kernel) (by decide +kernel)
set_option maxRecDepth 20000 in
theorem gX2_listedHeight_X2_isListed : GoodIn wsX2_listedHeight (wsV RX2 32 RX2 yX2_isListed wsX2_isListed) := goodIn_app (goodIn_of _ (by decide +kernel)) ggX2_listedHeight_X2_isListed
theorem dX2_listedHeight_0 : decode cX2_listedHeight 0 = .ok (.aload_n 0, 1) := by decide +kernel
theorem dX2_listedHeight_1 : decode cX2_listedHeight 1 = .ok (.iload_n 1, 1) := by decide +kernel
theorem dX2_listedHeight_2 : decode cX2_listedHeight 2 = .ok (.invokevirtual 32, 3) := by decide +kernel
theorem dX2_listedHeight_5 : decode cX2_listedHeight 5 = .ok (.ifCond .eq 12, 3) := by decide +kernel
theorem dX2_listedHeight_8 : decode cX2_listedHeight 8 = .ok (.aload_n 0, 1) := by decide +kernel
theorem dX2_listedHeight_9 : decode cX2_listedHeight 9 = .ok (.getfield 22, 3) := by decide +kernel
theorem dX2_listedHeight_12 : decode cX2_listedHeight 12 = .ok (.iload_n 1, 1) := by decide +kernel
theorem dX2_listedHeight_13 : decode cX2_listedHeight 13 = .ok (.iaload, 1) := by decide +kernel
theorem dX2_listedHeight_14 : decode cX2_listedHeight 14 = .ok (.goto 5, 3) := by decide +kernel
theorem dX2_listedHeight_17 : decode cX2_listedHeight 17 = .ok (.bipush 60, 2) := by decide +kernel
theorem dX2_listedHeight_19 : decode cX2_listedHeight 19 = .ok (.ireturn, 1) := by decide +kernel
set_option maxRecDepth 20000 in
theorem ggX2_isListed_X3_isWithin : GoodIn wsX2_isListed wsX3_isWithin := goodIn_r _ [4] (by decide +kernel) (by decide +kernel)
set_option maxRecDepth 20000 in
theorem gX2_isListed_X3_isWithin_n36 : GoodIn wsX2_isListed (wsX3_isWithin) := ggX2_isListed_X3_isWithin
theorem dX2_isListed_0 : decode cX2_isListed 0 = .ok (.iload_n 1, 1) := by decide +kernel
theorem dX2_isListed_1 : decode cX2_isListed 1 = .ok (.iconst 0, 1) := by decide +kernel
theorem dX2_isListed_2 : decode cX2_isListed 2 = .ok (.bipush 19, 2) := by decide +kernel
theorem dX2_isListed_4 : decode cX2_isListed 4 = .ok (.invokestatic 36, 3) := by decide +kernel
theorem dX2_isListed_7 : decode cX2_isListed 7 = .ok (.ifCond .eq 15, 3) := by decide +kernel
theorem dX2_isListed_10 : decode cX2_isListed 10 = .ok (.iload_n 1, 1) := by decide +kernel
theorem dX2_isListed_11 : decode cX2_isListed 11 = .ok (.aload_n 0, 1) := by decide +kernel
theorem dX2_isListed_12 : decode cX2_isListed 12 = .ok (.getfield 29, 3) := by decide +kernel
theorem dX2_isListed_15 : decode cX2_isListed 15 = .ok (.if_icmp .ge 7, 3) := by decide +kernel
theorem dX2_isListed_18 : decode cX2_isListed 18 = .ok (.iconst 1, 1) := by decide +kernel
theorem dX2_isListed_19 : decode cX2_isListed 19 = .ok (.goto 4, 3) := by decide +kernel
theorem dX2_isListed_22 : decode cX2_isListed 22 = .ok (.iconst 0, 1) := by decide +kernel
theorem dX2_isListed_23 : decode cX2_isListed 23 = .ok (.ireturn, 1) := by decide +kernel
set_option maxRecDepth 20000 in
theorem ggX2_read_X2_readWire : GoodIn wsX2_read wsX2_readWire := goodIn_r _ [8, 2, 9, 10, 11, 12, 13, 14, 7, 15, 1, 16, 17, 18, 19, 20, 21, 22, 23, 24, 3, 25, 26, 27, 28, 29, 30, 31, 32, 33, 34, 35, 36, 37, 38, 39, 40, 41, 42, 43, 44, 45, 46] (by decide +kernel) (by decide +kernel)
set_option maxRecDepth 20000 in
theorem gX2_read_X2_readWire : GoodIn wsX2_read (wsV RX2 43 RX2 yX2_readWire wsX2_readWire) := goodIn_app (goodIn_of _ (by decide +kernel)) ggX2_read_X2_readWire
set_option maxRecDepth 20000 in
theorem ggX2_read_X2_passBy : GoodIn wsX2_read wsX2_passBy := goodIn_r _ [35, 20, 1, 21, 22, 23, 7, 24, 3, 40, 41, 42, 43, 44, 45, 46] (by decide +kernel) (by decide +kernel)
set_option maxRecDepth 20000 in
theorem gX2_read_X2_passBy : GoodIn wsX2_read (wsV RX2 47 RX2 yX2_passBy wsX2_passBy) := goodIn_app (goodIn_of _ (by decide +kernel)) ggX2_read_X2_passBy
theorem dX2_read_0 : decode cX2_read 0 = .ok (.aload_n 0, 1) := by decide +kernel
theorem dX2_read_1 : decode cX2_read 1 = .ok (.iconst 0, 1) := by decide +kernel
theorem dX2_read_2 : decode cX2_read 2 = .ok (.putfield 40, 3) := by decide +kernel
theorem dX2_read_5 : decode cX2_read 5 = .ok (.aload_n 0, 1) := by decide +kernel
theorem dX2_read_6 : decode cX2_read 6 = .ok (.iconst 0, 1) := by decide +kernel
theorem dX2_read_7 : decode cX2_read 7 = .ok (.putfield 29, 3) := by decide +kernel
theorem dX2_read_10 : decode cX2_read 10 = .ok (.iconst 0, 1) := by decide +kernel
theorem dX2_read_11 : decode cX2_read 11 = .ok (.istore_n 1, 1) := by decide +kernel
theorem dX2_read_12 : decode cX2_read 12 = .ok (.iload_n 1, 1) := by decide +kernel
theorem dX2_read_13 : decode cX2_read 13 = .ok (.bipush 20, 2) := by decide +kernel
theorem dX2_read_15 : decode cX2_read 15 = .ok (.if_icmp .ge 48, 3) := by decide +kernel
theorem dX2_read_18 : decode cX2_read 18 = .ok (.aload_n 0, 1) := by decide +kernel
theorem dX2_read_19 : decode cX2_read 19 = .ok (.invokevirtual 43, 3) := by decide +kernel
theorem dX2_read_22 : decode cX2_read 22 = .ok (.ifCond .ne 8, 3) := by decide +kernel
theorem dX2_read_25 : decode cX2_read 25 = .ok (.aload_n 0, 1) := by decide +kernel
theorem dX2_read_26 : decode cX2_read 26 = .ok (.getfield 40, 3) := by decide +kernel
theorem dX2_read_29 : decode cX2_read 29 = .ok (.ireturn, 1) := by decide +kernel
theorem dX2_read_30 : decode cX2_read 30 = .ok (.aload_n 0, 1) := by decide +kernel
theorem dX2_read_31 : decode cX2_read 31 = .ok (.getfield 40, 3) := by decide +kernel
theorem dX2_read_34 : decode cX2_read 34 = .ok (.aload_n 0, 1) := by decide +kernel
theorem dX2_read_35 : decode cX2_read 35 = .ok (.getfield 25, 3) := by decide +kernel
theorem dX2_read_38 : decode cX2_read 38 = .ok (.if_icmp .lt 5, 3) := by decide +kernel
theorem dX2_read_41 : decode cX2_read 41 = .ok (.iconst (-1), 1) := by decide +kernel
theorem dX2_read_42 : decode cX2_read 42 = .ok (.ireturn, 1) := by decide +kernel
theorem dX2_read_43 : decode cX2_read 43 = .ok (.aload_n 0, 1) := by decide +kernel
theorem dX2_read_44 : decode cX2_read 44 = .ok (.bipush 44, 2) := by decide +kernel
theorem dX2_read_46 : decode cX2_read 46 = .ok (.invokevirtual 47, 3) := by decide +kernel
theorem dX2_read_49 : decode cX2_read 49 = .ok (.ifCond .ne 8, 3) := by decide +kernel
theorem dX2_read_52 : decode cX2_read 52 = .ok (.aload_n 0, 1) := by decide +kernel
theorem dX2_read_53 : decode cX2_read 53 = .ok (.getfield 40, 3) := by decide +kernel
theorem dX2_read_56 : decode cX2_read 56 = .ok (.ireturn, 1) := by decide +kernel
theorem dX2_read_57 : decode cX2_read 57 = .ok (.iinc 1 1, 3) := by decide +kernel
theorem dX2_read_60 : decode cX2_read 60 = .ok (.goto (-48), 3) := by decide +kernel
theorem dX2_read_63 : decode cX2_read 63 = .ok (.aload_n 0, 1) := by decide +kernel
theorem dX2_read_64 : decode cX2_read 64 = .ok (.getfield 40, 3) := by decide +kernel
theorem dX2_read_67 : decode cX2_read 67 = .ok (.ireturn, 1) := by decide +kernel
set_option maxRecDepth 20000 in
theorem ggX2_readWire_X2_readNumber : GoodIn wsX2_readWire wsX2_readNumber := goodIn_r _ [9, 10, 11, 12, 13, 8, 14, 15, 16, 17, 18, 19, 20, 21, 22, 23, 24, 25, 26, 27, 36, 37, 38, 39, 40, 41, 42] (by decide +kernel) (by decide +kernel)
set_option maxRecDepth 20000 in
theorem gX2_readWire_X2_readNumber : GoodIn wsX2_readWire (wsV RX2 51 RX2 yX2_readNumber wsX2_readNumber) := goodIn_app (goodIn_of _ (by decide +kernel)) ggX2_readWire_X2_readNumber
set_option maxRecDepth 20000 in
theorem ggX2_readWire_X2_passBy : GoodIn wsX2_readWire wsX2_passBy := goodIn_r _ [31, 15, 10, 16, 17, 18, 8, 19, 20, 36, 37, 38, 39, 40, 41, 42] (by decide +kernel) (by decide +kernel)
set_option maxRecDepth 20000 in
theorem gX2_readWire_X2_passBy : GoodIn wsX2_readWire (wsV RX2 47 RX2 yX2_passBy wsX2_passBy) := goodIn_app (goodIn_of _ (by decide +kernel)) ggX2_readWire_X2_passBy
set_option maxRecDepth 20000 in
theorem ggX2_readWire_X2_readHeight : GoodIn wsX2_readWire wsX2_readHeight := goodIn_r _ [35, 10, 11, 12, 13, 8, 14, 15, 16, 17, 18, 19, 20, 21, 22, 23, 24, 25, 26, 27, 36, 37, 38, 39, 40, 41, 42] (by decide +kernel) (by decide +kernel)
set_option maxRecDepth 20000 in
theorem gX2_readWire_X2_readHeight : GoodIn wsX2_readWire (wsV RX2 55 RX2 yX2_readHeight wsX2_readHeight) := goodIn_app (goodIn_of _ (by decide +kernel)) ggX2_readWire_X2_readHeight
theorem dX2_readWire_0 : decode cX2_readWire 0 = .ok (.aload_n 0, 1) := by decide +kernel
theorem dX2_readWire_1 : decode cX2_readWire 1 = .ok (.bipush 11, 2) := by decide +kernel
theorem dX2_readWire_3 : decode cX2_readWire 3 = .ok (.invokevirtual 51, 3) := by decide +kernel
theorem dX2_readWire_6 : decode cX2_readWire 6 = .ok (.istore_n 1, 1) := by decide +kernel
theorem dX2_readWire_7 : decode cX2_readWire 7 = .ok (.iload_n 1, 1) := by decide +kernel
theorem dX2_readWire_8 : decode cX2_readWire 8 = .ok (.iconst (-1), 1) := by decide +kernel
theorem dX2_readWire_9 : decode cX2_readWire 9 = .ok (.if_icmp .eq 12, 3) := by decide +kernel
theorem dX2_readWire_12 : decode cX2_readWire 12 = .ok (.aload_n 0, 1) := by decide +kernel
theorem dX2_readWire_13 : decode cX2_readWire 13 = .ok (.bipush 45, 2) := by decide +kernel
theorem dX2_readWire_15 : decode cX2_readWire 15 = .ok (.invokevirtual 47, 3) := by decide +kernel
theorem dX2_readWire_18 : decode cX2_readWire 18 = .ok (.ifCond .ne 5, 3) := by decide +kernel
theorem dX2_readWire_21 : decode cX2_readWire 21 = .ok (.iconst 0, 1) := by decide +kernel
theorem dX2_readWire_22 : decode cX2_readWire 22 = .ok (.ireturn, 1) := by decide +kernel
theorem dX2_readWire_23 : decode cX2_readWire 23 = .ok (.aload_n 0, 1) := by decide +kernel
theorem dX2_readWire_24 : decode cX2_readWire 24 = .ok (.bipush 15, 2) := by decide +kernel
theorem dX2_readWire_26 : decode cX2_readWire 26 = .ok (.invokevirtual 51, 3) := by decide +kernel
theorem dX2_readWire_29 : decode cX2_readWire 29 = .ok (.istore_n 2, 1) := by decide +kernel
theorem dX2_readWire_30 : decode cX2_readWire 30 = .ok (.iload_n 2, 1) := by decide +kernel
theorem dX2_readWire_31 : decode cX2_readWire 31 = .ok (.iconst (-1), 1) := by decide +kernel
theorem dX2_readWire_32 : decode cX2_readWire 32 = .ok (.if_icmp .ne 5, 3) := by decide +kernel
theorem dX2_readWire_35 : decode cX2_readWire 35 = .ok (.iconst 0, 1) := by decide +kernel
theorem dX2_readWire_36 : decode cX2_readWire 36 = .ok (.ireturn, 1) := by decide +kernel
theorem dX2_readWire_37 : decode cX2_readWire 37 = .ok (.aload_n 0, 1) := by decide +kernel
theorem dX2_readWire_38 : decode cX2_readWire 38 = .ok (.bipush 58, 2) := by decide +kernel
theorem dX2_readWire_40 : decode cX2_readWire 40 = .ok (.invokevirtual 47, 3) := by decide +kernel
theorem dX2_readWire_43 : decode cX2_readWire 43 = .ok (.ifCond .eq 10, 3) := by decide +kernel
theorem dX2_readWire_46 : decode cX2_readWire 46 = .ok (.aload_n 0, 1) := by decide +kernel
theorem dX2_readWire_47 : decode cX2_readWire 47 = .ok (.invokevirtual 55, 3) := by decide +kernel
theorem dX2_readWire_50 : decode cX2_readWire 50 = .ok (.goto 5, 3) := by decide +kernel
theorem dX2_readWire_53 : decode cX2_readWire 53 = .ok (.bipush 60, 2) := by decide +kernel
theorem dX2_readWire_55 : decode cX2_readWire 55 = .ok (.istore_n 3, 1) := by decide +kernel
theorem dX2_readWire_56 : decode cX2_readWire 56 = .ok (.iload_n 3, 1) := by decide +kernel
theorem dX2_readWire_57 : decode cX2_readWire 57 = .ok (.iconst (-1), 1) := by decide +kernel
theorem dX2_readWire_58 : decode cX2_readWire 58 = .ok (.if_icmp .eq 12, 3) := by decide +kernel
theorem dX2_readWire_61 : decode cX2_readWire 61 = .ok (.aload_n 0, 1) := by decide +kernel
theorem dX2_readWire_62 : decode cX2_readWire 62 = .ok (.getfield 29, 3) := by decide +kernel
theorem dX2_readWire_65 : decode cX2_readWire 65 = .ok (.bipush 20, 2) := by decide +kernel
theorem dX2_readWire_67 : decode cX2_readWire 67 = .ok (.if_icmp .lt 5, 3) := by decide +kernel
theorem dX2_readWire_70 : decode cX2_readWire 70 = .ok (.iconst 0, 1) := by decide +kernel
theorem dX2_readWire_71 : decode cX2_readWire 71 = .ok (.ireturn, 1) := by decide +kernel
theorem dX2_readWire_72 : decode cX2_readWire 72 = .ok (.aload_n 0, 1) := by decide +kernel
theorem dX2_readWire_73 : decode cX2_readWire 73 = .ok (.getfield 15, 3) := by decide +kernel
theorem dX2_readWire_76 : decode cX2_readWire 76 = .ok (.aload_n 0, 1) := by decide +kernel
theorem dX2_readWire_77 : decode cX2_readWire 77 = .ok (.getfield 29, 3) := by decide +kernel
theorem dX2_readWire_80 : decode cX2_readWire 80 = .ok (.iload_n 1, 1) := by decide +kernel
theorem dX2_readWire_81 : decode cX2_readWire 81 = .ok (.iastore, 1) := by decide +kernel
theorem dX2_readWire_82 : decode cX2_readWire 82 = .ok (.aload_n 0, 1) := by decide +kernel
theorem dX2_readWire_83 : decode cX2_readWire 83 = .ok (.getfield 19, 3) := by decide +kernel
theorem dX2_readWire_86 : decode cX2_readWire 86 = .ok (.aload_n 0, 1) := by decide +kernel
theorem dX2_readWire_87 : decode cX2_readWire 87 = .ok (.getfield 29, 3) := by decide +kernel
theorem dX2_readWire_90 : decode cX2_readWire 90 = .ok (.iload_n 2, 1) := by decide +kernel
theorem dX2_readWire_91 : decode cX2_readWire 91 = .ok (.iastore, 1) := by decide +kernel
theorem dX2_readWire_92 : decode cX2_readWire 92 = .ok (.aload_n 0, 1) := by decide +kernel
theorem dX2_readWire_93 : decode cX2_readWire 93 = .ok (.getfield 22, 3) := by decide +kernel
theorem dX2_readWire_96 : decode cX2_readWire 96 = .ok (.aload_n 0, 1) := by decide +kernel
theorem dX2_readWire_97 : decode cX2_readWire 97 = .ok (.getfield 29, 3) := by decide +kernel
theorem dX2_readWire_100 : decode cX2_readWire 100 = .ok (.iload_n 3, 1) := by decide +kernel
theorem dX2_readWire_101 : decode cX2_readWire 101 = .ok (.iastore, 1) := by decide +kernel
theorem dX2_readWire_102 : decode cX2_readWire 102 = .ok (.aload_n 0, 1) := by decide +kernel
theorem dX2_readWire_103 : decode cX2_readWire 103 = .ok (.dup, 1) := by decide +kernel
theorem dX2_readWire_104 : decode cX2_readWire 104 = .ok (.getfield 29, 3) := by decide +kernel
theorem dX2_readWire_107 : decode cX2_readWire 107 = .ok (.iconst 1, 1) := by decide +kernel
theorem dX2_readWire_108 : decode cX2_readWire 108 = .ok (.iadd, 1) := by decide +kernel
theorem dX2_readWire_109 : decode cX2_readWire 109 = .ok (.putfield 29, 3) := by decide +kernel
theorem dX2_readWire_112 : decode cX2_readWire 112 = .ok (.iconst 1, 1) := by decide +kernel
theorem dX2_readWire_113 : decode cX2_readWire 113 = .ok (.ireturn, 1) := by decide +kernel
set_option maxRecDepth 20000 in
theorem ggX2_readNumber_X2_digitHere : GoodIn wsX2_readNumber wsX2_digitHere := goodIn_r _ [6, 7, 1, 8, 9, 10, 5, 11, 12, 13, 14, 15, 20, 21, 22, 23, 24, 25, 26] (by decide +kernel) (by decide +kernel)
set_option maxRecDepth 20000 in
theorem gX2_readNumber_X2_digitHere : GoodIn wsX2_readNumber (wsV RX2 59 RX2 yX2_digitHere wsX2_digitHere) := goodIn_app (goodIn_of _ (by decide +kernel)) ggX2_readNumber_X2_digitHere
set_option maxRecDepth 20000 in
theorem ggX2_readNumber_X2_withDigit : GoodIn wsX2_readNumber wsX2_withDigit := goodIn_r _ [19, 1, 2, 3, 4, 5, 6, 7, 8, 9, 10, 11, 12, 13, 14, 15, 20, 21, 22, 23, 24, 25, 26] (by decide +kernel) (by decide +kernel)
set_option maxRecDepth 20000 in
theorem gX2_readNumber_X2_withDigit : GoodIn wsX2_readNumber (wsV RX2 62 RX2 yX2_withDigit wsX2_withDigit) := goodIn_app (goodIn_of _ (by decide +kernel)) ggX2_readNumber_X2_withDigit
theorem dX2_readNumber_0 : decode cX2_readNumber 0 = .ok (.aload_n 0, 1) := by decide +kernel
theorem dX2_readNumber_1 : decode cX2_readNumber 1 = .ok (.invokevirtual 59, 3) := by decide +kernel
theorem dX2_readNumber_4 : decode cX2_readNumber 4 = .ok (.istore_n 2, 1) := by decide +kernel
theorem dX2_readNumber_5 : decode cX2_readNumber 5 = .ok (.iload_n 2, 1) := by decide +kernel
theorem dX2_readNumber_6 : decode cX2_readNumber 6 = .ok (.iconst (-1), 1) := by decide +kernel
theorem dX2_readNumber_7 : decode cX2_readNumber 7 = .ok (.if_icmp .ne 5, 3) := by decide +kernel
theorem dX2_readNumber_10 : decode cX2_readNumber 10 = .ok (.iconst (-1), 1) := by decide +kernel
theorem dX2_readNumber_11 : decode cX2_readNumber 11 = .ok (.ireturn, 1) := by decide +kernel
theorem dX2_readNumber_12 : decode cX2_readNumber 12 = .ok (.aload_n 0, 1) := by decide +kernel
theorem dX2_readNumber_13 : decode cX2_readNumber 13 = .ok (.dup, 1) := by decide +kernel
theorem dX2_readNumber_14 : decode cX2_readNumber 14 = .ok (.getfield 40, 3) := by decide +kernel
theorem dX2_readNumber_17 : decode cX2_readNumber 17 = .ok (.iconst 1, 1) := by decide +kernel
theorem dX2_readNumber_18 : decode cX2_readNumber 18 = .ok (.iadd, 1) := by decide +kernel
theorem dX2_readNumber_19 : decode cX2_readNumber 19 = .ok (.putfield 40, 3) := by decide +kernel
theorem dX2_readNumber_22 : decode cX2_readNumber 22 = .ok (.iload_n 2, 1) := by decide +kernel
theorem dX2_readNumber_23 : decode cX2_readNumber 23 = .ok (.ifCond .ne 7, 3) := by decide +kernel
theorem dX2_readNumber_26 : decode cX2_readNumber 26 = .ok (.iconst 0, 1) := by decide +kernel
theorem dX2_readNumber_27 : decode cX2_readNumber 27 = .ok (.goto 9, 3) := by decide +kernel
theorem dX2_readNumber_30 : decode cX2_readNumber 30 = .ok (.aload_n 0, 1) := by decide +kernel
theorem dX2_readNumber_31 : decode cX2_readNumber 31 = .ok (.iload_n 2, 1) := by decide +kernel
theorem dX2_readNumber_32 : decode cX2_readNumber 32 = .ok (.iload_n 1, 1) := by decide +kernel
theorem dX2_readNumber_33 : decode cX2_readNumber 33 = .ok (.invokevirtual 62, 3) := by decide +kernel
theorem dX2_readNumber_36 : decode cX2_readNumber 36 = .ok (.ireturn, 1) := by decide +kernel
set_option maxRecDepth 20000 in
theorem ggX2_readHeight_X2_digitHere : GoodIn wsX2_readHeight wsX2_digitHere := goodIn_r _ [6, 7, 1, 8, 9, 10, 5, 11, 12, 13, 14, 15, 20, 21, 22, 23, 24, 25, 26] (by decide +kernel) (by decide +kernel)
set_option maxRecDepth 20000 in
theorem gX2_readHeight_X2_digitHere : GoodIn wsX2_readHeight (wsV RX2 59 RX2 yX2_digitHere wsX2_digitHere) := goodIn_app (goodIn_of _ (by decide +kernel)) ggX2_readHeight_X2_digitHere
set_option maxRecDepth 20000 in
theorem ggX2_readHeight_X2_withDigit : GoodIn wsX2_readHeight wsX2_withDigit := goodIn_r _ [19, 1, 2, 3, 4, 5, 6, 7, 8, 9, 10, 11, 12, 13, 14, 15, 20, 21, 22, 23, 24, 25, 26] (by decide +kernel) (by decide +kernel)
set_option maxRecDepth 20000 in
theorem gX2_readHeight_X2_withDigit : GoodIn wsX2_readHeight (wsV RX2 62 RX2 yX2_withDigit wsX2_withDigit) := goodIn_app (goodIn_of _ (by decide +kernel)) ggX2_readHeight_X2_withDigit
theorem dX2_readHeight_0 : decode cX2_readHeight 0 = .ok (.aload_n 0, 1) := by decide +kernel
theorem dX2_readHeight_1 : decode cX2_readHeight 1 = .ok (.invokevirtual 59, 3) := by decide +kernel
theorem dX2_readHeight_4 : decode cX2_readHeight 4 = .ok (.istore_n 1, 1) := by decide +kernel
theorem dX2_readHeight_5 : decode cX2_readHeight 5 = .ok (.iload_n 1, 1) := by decide +kernel
theorem dX2_readHeight_6 : decode cX2_readHeight 6 = .ok (.iconst (-1), 1) := by decide +kernel
theorem dX2_readHeight_7 : decode cX2_readHeight 7 = .ok (.if_icmp .eq 7, 3) := by decide +kernel
theorem dX2_readHeight_10 : decode cX2_readHeight 10 = .ok (.iload_n 1, 1) := by decide +kernel
theorem dX2_readHeight_11 : decode cX2_readHeight 11 = .ok (.ifCond .ne 5, 3) := by decide +kernel
theorem dX2_readHeight_14 : decode cX2_readHeight 14 = .ok (.iconst (-1), 1) := by decide +kernel
theorem dX2_readHeight_15 : decode cX2_readHeight 15 = .ok (.ireturn, 1) := by decide +kernel
theorem dX2_readHeight_16 : decode cX2_readHeight 16 = .ok (.aload_n 0, 1) := by decide +kernel
theorem dX2_readHeight_17 : decode cX2_readHeight 17 = .ok (.dup, 1) := by decide +kernel
theorem dX2_readHeight_18 : decode cX2_readHeight 18 = .ok (.getfield 40, 3) := by decide +kernel
theorem dX2_readHeight_21 : decode cX2_readHeight 21 = .ok (.iconst 1, 1) := by decide +kernel
theorem dX2_readHeight_22 : decode cX2_readHeight 22 = .ok (.iadd, 1) := by decide +kernel
theorem dX2_readHeight_23 : decode cX2_readHeight 23 = .ok (.putfield 40, 3) := by decide +kernel
theorem dX2_readHeight_26 : decode cX2_readHeight 26 = .ok (.aload_n 0, 1) := by decide +kernel
theorem dX2_readHeight_27 : decode cX2_readHeight 27 = .ok (.invokevirtual 59, 3) := by decide +kernel
theorem dX2_readHeight_30 : decode cX2_readHeight 30 = .ok (.istore_n 2, 1) := by decide +kernel
theorem dX2_readHeight_31 : decode cX2_readHeight 31 = .ok (.iload_n 2, 1) := by decide +kernel
theorem dX2_readHeight_32 : decode cX2_readHeight 32 = .ok (.iconst (-1), 1) := by decide +kernel
theorem dX2_readHeight_33 : decode cX2_readHeight 33 = .ok (.if_icmp .ne 5, 3) := by decide +kernel
theorem dX2_readHeight_36 : decode cX2_readHeight 36 = .ok (.iconst (-1), 1) := by decide +kernel
theorem dX2_readHeight_37 : decode cX2_readHeight 37 = .ok (.ireturn, 1) := by decide +kernel
theorem dX2_readHeight_38 : decode cX2_readHeight 38 = .ok (.aload_n 0, 1) := by decide +kernel
theorem dX2_readHeight_39 : decode cX2_readHeight 39 = .ok (.dup, 1) := by decide +kernel
theorem dX2_readHeight_40 : decode cX2_readHeight 40 = .ok (.getfield 40, 3) := by decide +kernel
theorem dX2_readHeight_43 : decode cX2_readHeight 43 = .ok (.iconst 1, 1) := by decide +kernel
theorem dX2_readHeight_44 : decode cX2_readHeight 44 = .ok (.iadd, 1) := by decide +kernel
theorem dX2_readHeight_45 : decode cX2_readHeight 45 = .ok (.putfield 40, 3) := by decide +kernel
theorem dX2_readHeight_48 : decode cX2_readHeight 48 = .ok (.aload_n 0, 1) := by decide +kernel
theorem dX2_readHeight_49 : decode cX2_readHeight 49 = .ok (.bipush 10, 2) := by decide +kernel
theorem dX2_readHeight_51 : decode cX2_readHeight 51 = .ok (.iload_n 1, 1) := by decide +kernel
theorem dX2_readHeight_52 : decode cX2_readHeight 52 = .ok (.imul, 1) := by decide +kernel
theorem dX2_readHeight_53 : decode cX2_readHeight 53 = .ok (.iload_n 2, 1) := by decide +kernel
theorem dX2_readHeight_54 : decode cX2_readHeight 54 = .ok (.iadd, 1) := by decide +kernel
theorem dX2_readHeight_55 : decode cX2_readHeight 55 = .ok (.sipush 200, 3) := by decide +kernel
theorem dX2_readHeight_58 : decode cX2_readHeight 58 = .ok (.invokevirtual 62, 3) := by decide +kernel
theorem dX2_readHeight_61 : decode cX2_readHeight 61 = .ok (.ireturn, 1) := by decide +kernel
set_option maxRecDepth 20000 in
theorem ggX2_withDigit_X2_digitHere : GoodIn wsX2_withDigit wsX2_digitHere := goodIn_r _ [6, 7, 1, 8, 9, 10, 5, 11, 12, 13, 14, 15, 16, 17, 18, 19, 20, 21, 22] (by decide +kernel) (by decide +kernel)
set_option maxRecDepth 20000 in
theorem gX2_withDigit_X2_digitHere : GoodIn wsX2_withDigit (wsV RX2 59 RX2 yX2_digitHere wsX2_digitHere) := goodIn_app (goodIn_of _ (by decide +kernel)) ggX2_withDigit_X2_digitHere
theorem dX2_withDigit_0 : decode cX2_withDigit 0 = .ok (.aload_n 0, 1) := by decide +kernel
theorem dX2_withDigit_1 : decode cX2_withDigit 1 = .ok (.invokevirtual 59, 3) := by decide +kernel
theorem dX2_withDigit_4 : decode cX2_withDigit 4 = .ok (.istore_n 3, 1) := by decide +kernel
theorem dX2_withDigit_5 : decode cX2_withDigit 5 = .ok (.iload_n 3, 1) := by decide +kernel
theorem dX2_withDigit_6 : decode cX2_withDigit 6 = .ok (.iconst (-1), 1) := by decide +kernel
theorem dX2_withDigit_7 : decode cX2_withDigit 7 = .ok (.if_icmp .eq 13, 3) := by decide +kernel
theorem dX2_withDigit_10 : decode cX2_withDigit 10 = .ok (.bipush 10, 2) := by decide +kernel
theorem dX2_withDigit_12 : decode cX2_withDigit 12 = .ok (.iload_n 1, 1) := by decide +kernel
theorem dX2_withDigit_13 : decode cX2_withDigit 13 = .ok (.imul, 1) := by decide +kernel
theorem dX2_withDigit_14 : decode cX2_withDigit 14 = .ok (.iload_n 3, 1) := by decide +kernel
theorem dX2_withDigit_15 : decode cX2_withDigit 15 = .ok (.iadd, 1) := by decide +kernel
theorem dX2_withDigit_16 : decode cX2_withDigit 16 = .ok (.iload_n 2, 1) := by decide +kernel
theorem dX2_withDigit_17 : decode cX2_withDigit 17 = .ok (.if_icmp .le 5, 3) := by decide +kernel
theorem dX2_withDigit_20 : decode cX2_withDigit 20 = .ok (.iload_n 1, 1) := by decide +kernel
theorem dX2_withDigit_21 : decode cX2_withDigit 21 = .ok (.ireturn, 1) := by decide +kernel
theorem dX2_withDigit_22 : decode cX2_withDigit 22 = .ok (.aload_n 0, 1) := by decide +kernel
theorem dX2_withDigit_23 : decode cX2_withDigit 23 = .ok (.dup, 1) := by decide +kernel
theorem dX2_withDigit_24 : decode cX2_withDigit 24 = .ok (.getfield 40, 3) := by decide +kernel
theorem dX2_withDigit_27 : decode cX2_withDigit 27 = .ok (.iconst 1, 1) := by decide +kernel
theorem dX2_withDigit_28 : decode cX2_withDigit 28 = .ok (.iadd, 1) := by decide +kernel
theorem dX2_withDigit_29 : decode cX2_withDigit 29 = .ok (.putfield 40, 3) := by decide +kernel
theorem dX2_withDigit_32 : decode cX2_withDigit 32 = .ok (.bipush 10, 2) := by decide +kernel
theorem dX2_withDigit_34 : decode cX2_withDigit 34 = .ok (.iload_n 1, 1) := by decide +kernel
theorem dX2_withDigit_35 : decode cX2_withDigit 35 = .ok (.imul, 1) := by decide +kernel
theorem dX2_withDigit_36 : decode cX2_withDigit 36 = .ok (.iload_n 3, 1) := by decide +kernel
theorem dX2_withDigit_37 : decode cX2_withDigit 37 = .ok (.iadd, 1) := by decide +kernel
theorem dX2_withDigit_38 : decode cX2_withDigit 38 = .ok (.ireturn, 1) := by decide +kernel
set_option maxRecDepth 20000 in
theorem ggX2_digitHere_X2_isAtCharacter : GoodIn wsX2_digitHere wsX2_isAtCharacter := goodIn_r _ [7, 2, 8, 12, 13, 14, 15, 16, 17, 18] (by decide +kernel) (by decide +kernel)
set_option maxRecDepth 20000 in
theorem gX2_digitHere_X2_isAtCharacter : GoodIn wsX2_digitHere (wsV RX2 66 RX2 yX2_isAtCharacter wsX2_isAtCharacter) := goodIn_app (goodIn_of _ (by decide +kernel)) ggX2_digitHere_X2_isAtCharacter
set_option maxRecDepth 20000 in
theorem ggX2_digitHere_X3_isWithin : GoodIn wsX2_digitHere wsX3_isWithin := goodIn_r _ [11] (by decide +kernel) (by decide +kernel)
set_option maxRecDepth 20000 in
theorem gX2_digitHere_X3_isWithin_n36 : GoodIn wsX2_digitHere (wsX3_isWithin) := ggX2_digitHere_X3_isWithin
theorem dX2_digitHere_0 : decode cX2_digitHere 0 = .ok (.aload_n 0, 1) := by decide +kernel
theorem dX2_digitHere_1 : decode cX2_digitHere 1 = .ok (.invokevirtual 66, 3) := by decide +kernel
theorem dX2_digitHere_4 : decode cX2_digitHere 4 = .ok (.ifCond .ne 5, 3) := by decide +kernel
theorem dX2_digitHere_7 : decode cX2_digitHere 7 = .ok (.iconst (-1), 1) := by decide +kernel
theorem dX2_digitHere_8 : decode cX2_digitHere 8 = .ok (.ireturn, 1) := by decide +kernel
theorem dX2_digitHere_9 : decode cX2_digitHere 9 = .ok (.aload_n 0, 1) := by decide +kernel
theorem dX2_digitHere_10 : decode cX2_digitHere 10 = .ok (.getfield 9, 3) := by decide +kernel
theorem dX2_digitHere_13 : decode cX2_digitHere 13 = .ok (.aload_n 0, 1) := by decide +kernel
theorem dX2_digitHere_14 : decode cX2_digitHere 14 = .ok (.getfield 40, 3) := by decide +kernel
theorem dX2_digitHere_17 : decode cX2_digitHere 17 = .ok (.caload, 1) := by decide +kernel
theorem dX2_digitHere_18 : decode cX2_digitHere 18 = .ok (.bipush 48, 2) := by decide +kernel
theorem dX2_digitHere_20 : decode cX2_digitHere 20 = .ok (.isub, 1) := by decide +kernel
theorem dX2_digitHere_21 : decode cX2_digitHere 21 = .ok (.istore_n 1, 1) := by decide +kernel
theorem dX2_digitHere_22 : decode cX2_digitHere 22 = .ok (.iload_n 1, 1) := by decide +kernel
theorem dX2_digitHere_23 : decode cX2_digitHere 23 = .ok (.iconst 0, 1) := by decide +kernel
theorem dX2_digitHere_24 : decode cX2_digitHere 24 = .ok (.bipush 9, 2) := by decide +kernel
theorem dX2_digitHere_26 : decode cX2_digitHere 26 = .ok (.invokestatic 36, 3) := by decide +kernel
theorem dX2_digitHere_29 : decode cX2_digitHere 29 = .ok (.ifCond .eq 7, 3) := by decide +kernel
theorem dX2_digitHere_32 : decode cX2_digitHere 32 = .ok (.iload_n 1, 1) := by decide +kernel
theorem dX2_digitHere_33 : decode cX2_digitHere 33 = .ok (.goto 4, 3) := by decide +kernel
theorem dX2_digitHere_36 : decode cX2_digitHere 36 = .ok (.iconst (-1), 1) := by decide +kernel
theorem dX2_digitHere_37 : decode cX2_digitHere 37 = .ok (.ireturn, 1) := by decide +kernel
set_option maxRecDepth 20000 in
theorem ggX2_passBy_X2_isAtCharacter : GoodIn wsX2_passBy wsX2_isAtCharacter := goodIn_r _ [7, 2, 8, 9, 10, 11, 12, 13, 14, 15] (by decide +kernel) (by decide +kernel)
set_option maxRecDepth 20000 in
theorem gX2_passBy_X2_isAtCharacter : GoodIn wsX2_passBy (wsV RX2 66 RX2 yX2_isAtCharacter wsX2_isAtCharacter) := goodIn_app (goodIn_of _ (by decide +kernel)) ggX2_passBy_X2_isAtCharacter
theorem dX2_passBy_0 : decode cX2_passBy 0 = .ok (.aload_n 0, 1) := by decide +kernel
theorem dX2_passBy_1 : decode cX2_passBy 1 = .ok (.invokevirtual 66, 3) := by decide +kernel
theorem dX2_passBy_4 : decode cX2_passBy 4 = .ok (.ifCond .eq 16, 3) := by decide +kernel
theorem dX2_passBy_7 : decode cX2_passBy 7 = .ok (.aload_n 0, 1) := by decide +kernel
theorem dX2_passBy_8 : decode cX2_passBy 8 = .ok (.getfield 9, 3) := by decide +kernel
theorem dX2_passBy_11 : decode cX2_passBy 11 = .ok (.aload_n 0, 1) := by decide +kernel
theorem dX2_passBy_12 : decode cX2_passBy 12 = .ok (.getfield 40, 3) := by decide +kernel
theorem dX2_passBy_15 : decode cX2_passBy 15 = .ok (.caload, 1) := by decide +kernel
theorem dX2_passBy_16 : decode cX2_passBy 16 = .ok (.iload_n 1, 1) := by decide +kernel
theorem dX2_passBy_17 : decode cX2_passBy 17 = .ok (.if_icmp .eq 5, 3) := by decide +kernel
theorem dX2_passBy_20 : decode cX2_passBy 20 = .ok (.iconst 0, 1) := by decide +kernel
theorem dX2_passBy_21 : decode cX2_passBy 21 = .ok (.ireturn, 1) := by decide +kernel
theorem dX2_passBy_22 : decode cX2_passBy 22 = .ok (.aload_n 0, 1) := by decide +kernel
theorem dX2_passBy_23 : decode cX2_passBy 23 = .ok (.dup, 1) := by decide +kernel
theorem dX2_passBy_24 : decode cX2_passBy 24 = .ok (.getfield 40, 3) := by decide +kernel
theorem dX2_passBy_27 : decode cX2_passBy 27 = .ok (.iconst 1, 1) := by decide +kernel
theorem dX2_passBy_28 : decode cX2_passBy 28 = .ok (.iadd, 1) := by decide +kernel
theorem dX2_passBy_29 : decode cX2_passBy 29 = .ok (.putfield 40, 3) := by decide +kernel
theorem dX2_passBy_32 : decode cX2_passBy 32 = .ok (.iconst 1, 1) := by decide +kernel
theorem dX2_passBy_33 : decode cX2_passBy 33 = .ok (.ireturn, 1) := by decide +kernel
theorem dX2_isAtCharacter_0 : decode cX2_isAtCharacter 0 = .ok (.aload_n 0, 1) := by decide +kernel
theorem dX2_isAtCharacter_1 : decode cX2_isAtCharacter 1 = .ok (.getfield 40, 3) := by decide +kernel
theorem dX2_isAtCharacter_4 : decode cX2_isAtCharacter 4 = .ok (.ifCond .lt 27, 3) := by decide +kernel
theorem dX2_isAtCharacter_7 : decode cX2_isAtCharacter 7 = .ok (.aload_n 0, 1) := by decide +kernel
theorem dX2_isAtCharacter_8 : decode cX2_isAtCharacter 8 = .ok (.getfield 40, 3) := by decide +kernel
theorem dX2_isAtCharacter_11 : decode cX2_isAtCharacter 11 = .ok (.aload_n 0, 1) := by decide +kernel
theorem dX2_isAtCharacter_12 : decode cX2_isAtCharacter 12 = .ok (.getfield 25, 3) := by decide +kernel
theorem dX2_isAtCharacter_15 : decode cX2_isAtCharacter 15 = .ok (.if_icmp .ge 16, 3) := by decide +kernel
theorem dX2_isAtCharacter_18 : decode cX2_isAtCharacter 18 = .ok (.aload_n 0, 1) := by decide +kernel
theorem dX2_isAtCharacter_19 : decode cX2_isAtCharacter 19 = .ok (.getfield 40, 3) := by decide +kernel
theorem dX2_isAtCharacter_22 : decode cX2_isAtCharacter 22 = .ok (.bipush 80, 2) := by decide +kernel
theorem dX2_isAtCharacter_24 : decode cX2_isAtCharacter 24 = .ok (.if_icmp .ge 7, 3) := by decide +kernel
theorem dX2_isAtCharacter_27 : decode cX2_isAtCharacter 27 = .ok (.iconst 1, 1) := by decide +kernel
theorem dX2_isAtCharacter_28 : decode cX2_isAtCharacter 28 = .ok (.goto 4, 3) := by decide +kernel
theorem dX2_isAtCharacter_31 : decode cX2_isAtCharacter 31 = .ok (.iconst 0, 1) := by decide +kernel
theorem dX2_isAtCharacter_32 : decode cX2_isAtCharacter 32 = .ok (.ireturn, 1) := by decide +kernel
set_option maxRecDepth 20000 in
theorem ggX3_init_X0_init : GoodIn wsX3_init wsX0_init := goodIn_r _ [21, 22, 2, 3, 23, 24, 25, 26, 27, 28, 29, 30, 31, 32, 33, 50, 51, 52, 53, 54, 55, 56, 57, 58, 59, 60, 61] (by decide +kernel) (by decide +kernel)
set_option maxRecDepth 20000 in
theorem gX3_init_X0_init : GoodIn wsX3_init (wsX0_init) := ggX3_init_X0_init
set_option maxRecDepth 20000 in
theorem ggX3_init_X1_init : GoodIn wsX3_init wsX1_init := goodIn_r _ [36, 37, 2, 3, 38, 39, 5, 6, 40, 41, 20, 21, 22, 23, 24, 25, 26, 27, 28, 29, 30, 31, 32, 33, 68, 69, 50, 51, 52, 53, 54, 55, 56, 57, 58, 59, 60, 61] (by decide +kernel) (by decide +kernel)
set_option maxRecDepth 20000 in
theorem gX3_init_X1_init : GoodIn wsX3_init (wsX1_init) := ggX3_init_X1_init
set_option maxRecDepth 20000 in
theorem ggX3_init_X2_init : GoodIn wsX3_init wsX2_init := goodIn_r _ [43, 44, 2, 3, 45, 46, 23, 47, 48, 49, 70, 71, 72, 73, 74, 75, 76] (by decide +kernel) (by decide +kernel)
set_option maxRecDepth 20000 in
theorem gX3_init_X2_init_n35 : GoodIn wsX3_init (wsX2_init) := ggX3_init_X2_init
theorem dX3_init_0 : decode cX3_init 0 = .ok (.aload_n 0, 1) := by decide +kernel
theorem dX3_init_1 : decode cX3_init 1 = .ok (.invokespecial 1, 3) := by decide +kernel
theorem dX3_init_4 : decode cX3_init 4 = .ok (.aload_n 0, 1) := by decide +kernel
theorem dX3_init_5 : decode cX3_init 5 = .ok (.new 7, 3) := by decide +kernel
theorem dX3_init_8 : decode cX3_init 8 = .ok (.dup, 1) := by decide +kernel
theorem dX3_init_9 : decode cX3_init 9 = .ok (.invokespecial 9, 3) := by decide +kernel
theorem dX3_init_12 : decode cX3_init 12 = .ok (.putfield 10, 3) := by decide +kernel
theorem dX3_init_15 : decode cX3_init 15 = .ok (.aload_n 0, 1) := by decide +kernel
theorem dX3_init_16 : decode cX3_init 16 = .ok (.new 7, 3) := by decide +kernel
theorem dX3_init_19 : decode cX3_init 19 = .ok (.dup, 1) := by decide +kernel
theorem dX3_init_20 : decode cX3_init 20 = .ok (.invokespecial 9, 3) := by decide +kernel
theorem dX3_init_23 : decode cX3_init 23 = .ok (.putfield 16, 3) := by decide +kernel
theorem dX3_init_26 : decode cX3_init 26 = .ok (.aload_n 0, 1) := by decide +kernel
theorem dX3_init_27 : decode cX3_init 27 = .ok (.new 7, 3) := by decide +kernel
theorem dX3_init_30 : decode cX3_init 30 = .ok (.dup, 1) := by decide +kernel
theorem dX3_init_31 : decode cX3_init 31 = .ok (.invokespecial 9, 3) := by decide +kernel
theorem dX3_init_34 : decode cX3_init 34 = .ok (.putfield 19, 3) := by decide +kernel
theorem dX3_init_37 : decode cX3_init 37 = .ok (.aload_n 0, 1) := by decide +kernel
theorem dX3_init_38 : decode cX3_init 38 = .ok (.iconst 0, 1) := by decide +kernel
theorem dX3_init_39 : decode cX3_init 39 = .ok (.putfield 22, 3) := by decide +kernel
theorem dX3_init_42 : decode cX3_init 42 = .ok (.aload_n 0, 1) := by decide +kernel
theorem dX3_init_43 : decode cX3_init 43 = .ok (.new 26, 3) := by decide +kernel
theorem dX3_init_46 : decode cX3_init 46 = .ok (.dup, 1) := by decide +kernel
theorem dX3_init_47 : decode cX3_init 47 = .ok (.invokespecial 28, 3) := by decide +kernel
theorem dX3_init_50 : decode cX3_init 50 = .ok (.putfield 29, 3) := by decide +kernel
theorem dX3_init_53 : decode cX3_init 53 = .ok (.aload_n 0, 1) := by decide +kernel
theorem dX3_init_54 : decode cX3_init 54 = .ok (.new 33, 3) := by decide +kernel
theorem dX3_init_57 : decode cX3_init 57 = .ok (.dup, 1) := by decide +kernel
theorem dX3_init_58 : decode cX3_init 58 = .ok (.invokespecial 35, 3) := by decide +kernel
theorem dX3_init_61 : decode cX3_init 61 = .ok (.putfield 36, 3) := by decide +kernel
theorem dX3_init_64 : decode cX3_init 64 = .ok (.return_, 1) := by decide +kernel
set_option maxRecDepth 20000 in
theorem ggX3_lay_X3_isPad : GoodIn wsX3_lay wsX3_isPad := goodIn_r _ [6] (by decide +kernel) (by decide +kernel)
set_option maxRecDepth 20000 in
theorem gX3_lay_X3_isPad : GoodIn wsX3_lay (va_wsS RX3 40 yX3_isPad wsX3_isPad) := goodIn_app (goodIn_of _ (by decide +kernel)) ggX3_lay_X3_isPad
set_option maxRecDepth 20000 in
theorem ggX3_lay_X3_isLead : GoodIn wsX3_lay wsX3_isLead := goodIn_r _ [9] (by decide +kernel) (by decide +kernel)
set_option maxRecDepth 20000 in
theorem gX3_lay_X3_isLead : GoodIn wsX3_lay (va_wsS RX3 44 yX3_isLead wsX3_isLead) := goodIn_app (goodIn_of _ (by decide +kernel)) ggX3_lay_X3_isLead
set_option maxRecDepth 20000 in
theorem ggX3_lay_X3_isHeight : GoodIn wsX3_lay wsX3_isHeight := goodIn_r _ [12, 13, 14, 5, 15] (by decide +kernel) (by decide +kernel)
set_option maxRecDepth 20000 in
theorem gX3_lay_X3_isHeight : GoodIn wsX3_lay (va_wsS RX3 47 yX3_isHeight wsX3_isHeight) := goodIn_app (goodIn_of _ (by decide +kernel)) ggX3_lay_X3_isHeight
set_option maxRecDepth 20000 in
theorem ggX3_lay_X0_errorOfLaying : GoodIn wsX3_lay wsX0_errorOfLaying := goodIn_r _ [20, 21, 22, 23, 24, 25, 19, 26, 27, 4, 5, 6, 28, 29, 30, 31, 101, 102, 103, 104, 105, 106, 107, 108, 109, 110, 111, 112] (by decide +kernel) (by decide +kernel)
set_option maxRecDepth 20000 in
theorem gX3_lay_X0_errorOfLaying : GoodIn wsX3_lay (wsV RX3 50 RX0 yX0_errorOfLaying wsX0_errorOfLaying) := goodIn_app (goodIn_of _ (by decide +kernel)) ggX3_lay_X0_errorOfLaying
set_option maxRecDepth 20000 in
theorem ggX3_lay_X1_record : GoodIn wsX3_lay wsX1_record := goodIn_r _ [36, 37, 38, 39, 40, 35, 41, 42, 43, 44, 45, 46, 14, 5, 15, 47, 48, 49, 19, 50, 51, 52, 53, 54, 55, 27, 56, 57, 58, 59, 60, 22, 61, 21, 62, 63, 113, 114, 101, 102, 103, 104, 105, 106, 107, 108, 109, 110, 111, 112] (by decide +kernel) (by decide +kernel)
set_option maxRecDepth 20000 in
theorem gX3_lay_X1_record : GoodIn wsX3_lay (wsV RX3 54 RX1 yX1_record wsX1_record) := goodIn_app (goodIn_of _ (by decide +kernel)) ggX3_lay_X1_record
set_option maxRecDepth 20000 in
theorem ggX3_lay_X0_addWire : GoodIn wsX3_lay wsX0_addWire := goodIn_r _ [67, 27, 56, 57, 58, 59, 22, 21, 62, 4, 5, 6, 8, 9, 68, 69, 70, 19, 71, 72, 73, 74, 75, 76, 77, 78, 79, 80, 81, 82, 83, 84, 51, 85, 86, 87, 88, 89, 90, 101, 102, 103, 104, 105, 106, 107, 108, 109, 110, 111, 112] (by decide +kernel) (by decide +kernel)
set_option maxRecDepth 20000 in
theorem gX3_lay_X0_addWire : GoodIn wsX3_lay (wsV RX3 58 RX0 yX0_addWire wsX0_addWire) := goodIn_app (goodIn_of _ (by decide +kernel)) ggX3_lay_X0_addWire
set_option maxRecDepth 20000 in
theorem ggX3_lay_X0_strengthOf : GoodIn wsX3_lay wsX0_strengthOf := goodIn_r _ [94, 57, 4, 5, 6, 101, 102, 103, 104, 105, 106, 107, 108, 109, 110, 111, 112] (by decide +kernel) (by decide +kernel)
set_option maxRecDepth 20000 in
theorem gX3_lay_X0_strengthOf : GoodIn wsX3_lay (wsV RX3 62 RX0 yX0_strengthOf wsX0_strengthOf) := goodIn_app (goodIn_of _ (by decide +kernel)) ggX3_lay_X0_strengthOf
theorem dX3_lay_0 : decode cX3_lay 0 = .ok (.iload_n 1, 1) := by decide +kernel
theorem dX3_lay_1 : decode cX3_lay 1 = .ok (.invokestatic 40, 3) := by decide +kernel
theorem dX3_lay_4 : decode cX3_lay 4 = .ok (.ifCond .eq 10, 3) := by decide +kernel
theorem dX3_lay_7 : decode cX3_lay 7 = .ok (.iload_n 2, 1) := by decide +kernel
theorem dX3_lay_8 : decode cX3_lay 8 = .ok (.invokestatic 44, 3) := by decide +kernel
theorem dX3_lay_11 : decode cX3_lay 11 = .ok (.ifCond .ne 5, 3) := by decide +kernel
theorem dX3_lay_14 : decode cX3_lay 14 = .ok (.iconst (-1), 1) := by decide +kernel
theorem dX3_lay_15 : decode cX3_lay 15 = .ok (.ireturn, 1) := by decide +kernel
theorem dX3_lay_16 : decode cX3_lay 16 = .ok (.iload_n 3, 1) := by decide +kernel
theorem dX3_lay_17 : decode cX3_lay 17 = .ok (.invokestatic 47, 3) := by decide +kernel
theorem dX3_lay_20 : decode cX3_lay 20 = .ok (.ifCond .ne 6, 3) := by decide +kernel
theorem dX3_lay_23 : decode cX3_lay 23 = .ok (.bipush (-2), 2) := by decide +kernel
theorem dX3_lay_25 : decode cX3_lay 25 = .ok (.ireturn, 1) := by decide +kernel
theorem dX3_lay_26 : decode cX3_lay 26 = .ok (.aload_n 0, 1) := by decide +kernel
theorem dX3_lay_27 : decode cX3_lay 27 = .ok (.getfield 10, 3) := by decide +kernel
theorem dX3_lay_30 : decode cX3_lay 30 = .ok (.iload_n 1, 1) := by decide +kernel
theorem dX3_lay_31 : decode cX3_lay 31 = .ok (.iload_n 2, 1) := by decide +kernel
theorem dX3_lay_32 : decode cX3_lay 32 = .ok (.invokevirtual 50, 3) := by decide +kernel
theorem dX3_lay_35 : decode cX3_lay 35 = .ok (.istore 4, 2) := by decide +kernel
theorem dX3_lay_37 : decode cX3_lay 37 = .ok (.iload 4, 2) := by decide +kernel
theorem dX3_lay_39 : decode cX3_lay 39 = .ok (.ifCond .eq 6, 3) := by decide +kernel
theorem dX3_lay_42 : decode cX3_lay 42 = .ok (.iload 4, 2) := by decide +kernel
theorem dX3_lay_44 : decode cX3_lay 44 = .ok (.ireturn, 1) := by decide +kernel
theorem dX3_lay_45 : decode cX3_lay 45 = .ok (.aload_n 0, 1) := by decide +kernel
theorem dX3_lay_46 : decode cX3_lay 46 = .ok (.getfield 29, 3) := by decide +kernel
theorem dX3_lay_49 : decode cX3_lay 49 = .ok (.aload_n 0, 1) := by decide +kernel
theorem dX3_lay_50 : decode cX3_lay 50 = .ok (.getfield 10, 3) := by decide +kernel
theorem dX3_lay_53 : decode cX3_lay 53 = .ok (.invokevirtual 54, 3) := by decide +kernel
theorem dX3_lay_56 : decode cX3_lay 56 = .ok (.aload_n 0, 1) := by decide +kernel
theorem dX3_lay_57 : decode cX3_lay 57 = .ok (.getfield 10, 3) := by decide +kernel
theorem dX3_lay_60 : decode cX3_lay 60 = .ok (.iload_n 1, 1) := by decide +kernel
theorem dX3_lay_61 : decode cX3_lay 61 = .ok (.iload_n 2, 1) := by decide +kernel
theorem dX3_lay_62 : decode cX3_lay 62 = .ok (.iload_n 3, 1) := by decide +kernel
theorem dX3_lay_63 : decode cX3_lay 63 = .ok (.invokevirtual 58, 3) := by decide +kernel
theorem dX3_lay_66 : decode cX3_lay 66 = .ok (.aload_n 0, 1) := by decide +kernel
theorem dX3_lay_67 : decode cX3_lay 67 = .ok (.getfield 10, 3) := by decide +kernel
theorem dX3_lay_70 : decode cX3_lay 70 = .ok (.iload_n 1, 1) := by decide +kernel
theorem dX3_lay_71 : decode cX3_lay 71 = .ok (.invokevirtual 62, 3) := by decide +kernel
theorem dX3_lay_74 : decode cX3_lay 74 = .ok (.ireturn, 1) := by decide +kernel
set_option maxRecDepth 20000 in
theorem ggX3_layAll_X2_read : GoodIn wsX3_layAll wsX2_read := goodIn_r _ [9, 10, 11, 12, 13, 14, 15, 8, 16, 17, 18, 19, 20, 21, 22, 23, 24, 25, 26, 27, 28, 29, 30, 31, 32, 33, 34, 35, 36, 37, 38, 39, 40, 41, 42, 43, 44, 45, 46, 47, 162, 163, 164, 165, 166, 167, 168] (by decide +kernel) (by decide +kernel)
set_option maxRecDepth 20000 in
theorem gX3_layAll_X2_read : GoodIn wsX3_layAll (wsV RX3 66 RX2 yX2_read wsX2_read) := goodIn_app (goodIn_of _ (by decide +kernel)) ggX3_layAll_X2_read
set_option maxRecDepth 20000 in
theorem ggX3_layAll_X0_copyFrom : GoodIn wsX3_layAll wsX0_copyFrom := goodIn_r _ [52, 53, 54, 55, 56, 57, 58, 59, 60, 61, 62, 63, 64, 65, 66, 67, 68, 169, 170, 171, 172, 173, 174, 175, 176, 177, 178, 179, 180] (by decide +kernel) (by decide +kernel)
set_option maxRecDepth 20000 in
theorem gX3_layAll_X0_copyFrom : GoodIn wsX3_layAll (wsV RX3 70 RX0 yX0_copyFrom wsX0_copyFrom) := goodIn_app (goodIn_of _ (by decide +kernel)) ggX3_layAll_X0_copyFrom
set_option maxRecDepth 20000 in
theorem ggX3_layAll_X0_addListed : GoodIn wsX3_layAll wsX0_addListed := goodIn_r _ [72, 73, 74, 75, 8, 76, 11, 77, 78, 79, 80, 17, 81, 82, 83, 84, 33, 34, 35, 85, 86, 87, 88, 18, 89, 90, 91, 51, 92, 66, 64, 93, 94, 95, 96, 58, 97, 98, 99, 100, 101, 102, 103, 104, 105, 106, 19, 107, 108, 109, 110, 59, 60, 61, 62, 67, 111, 112, 113, 114, 115, 116, 117, 118, 119, 120, 121, 122, 123, 124, 125, 126, 127, 128, 129, 53, 130, 131, 132, 133, 134, 135, 162, 163, 164, 165, 166, 167, 168, 169, 170, 171, 172, 173, 174, 175, 176, 177, 178, 179, 180] (by decide +kernel) (by decide +kernel)
set_option maxRecDepth 20000 in
theorem gX3_layAll_X0_addListed : GoodIn wsX3_layAll (wsV RX3 73 RX0 yX0_addListed wsX0_addListed) := goodIn_app (goodIn_of _ (by decide +kernel)) ggX3_layAll_X0_addListed
set_option maxRecDepth 20000 in
theorem ggX3_layAll_X1_record : GoodIn wsX3_layAll wsX1_record := goodIn_r _ [140, 141, 142, 143, 144, 139, 145, 146, 147, 148, 149, 150, 33, 34, 35, 151, 49, 50, 51, 52, 53, 54, 55, 56, 57, 58, 59, 60, 61, 62, 63, 64, 65, 66, 67, 68, 181, 182, 169, 170, 171, 172, 173, 174, 175, 176, 177, 178, 179, 180] (by decide +kernel) (by decide +kernel)
set_option maxRecDepth 20000 in
theorem gX3_layAll_X1_record : GoodIn wsX3_layAll (wsV RX3 54 RX1 yX1_record wsX1_record) := goodIn_app (goodIn_of _ (by decide +kernel)) ggX3_layAll_X1_record
set_option maxRecDepth 20000 in
theorem ggX3_layAll_X0_wires : GoodIn wsX3_layAll wsX0_wires := goodIn_r _ [155, 93, 94, 95, 51, 96, 58, 97, 34, 98, 169, 170, 171, 172, 173, 174, 175, 176, 177, 178, 179, 180] (by decide +kernel) (by decide +kernel)
set_option maxRecDepth 20000 in
theorem gX3_layAll_X0_wires : GoodIn wsX3_layAll (wsV RX3 77 RX0 yX0_wires wsX0_wires) := goodIn_app (goodIn_of _ (by decide +kernel)) ggX3_layAll_X0_wires
theorem dX3_layAll_0 : decode cX3_layAll 0 = .ok (.aload_n 0, 1) := by decide +kernel
theorem dX3_layAll_1 : decode cX3_layAll 1 = .ok (.getfield 36, 3) := by decide +kernel
theorem dX3_layAll_4 : decode cX3_layAll 4 = .ok (.invokevirtual 66, 3) := by decide +kernel
theorem dX3_layAll_7 : decode cX3_layAll 7 = .ok (.istore_n 1, 1) := by decide +kernel
theorem dX3_layAll_8 : decode cX3_layAll 8 = .ok (.iload_n 1, 1) := by decide +kernel
theorem dX3_layAll_9 : decode cX3_layAll 9 = .ok (.iconst (-1), 1) := by decide +kernel
theorem dX3_layAll_10 : decode cX3_layAll 10 = .ok (.if_icmp .eq 8, 3) := by decide +kernel
theorem dX3_layAll_13 : decode cX3_layAll 13 = .ok (.bipush (-100), 2) := by decide +kernel
theorem dX3_layAll_15 : decode cX3_layAll 15 = .ok (.iload_n 1, 1) := by decide +kernel
theorem dX3_layAll_16 : decode cX3_layAll 16 = .ok (.isub, 1) := by decide +kernel
theorem dX3_layAll_17 : decode cX3_layAll 17 = .ok (.ireturn, 1) := by decide +kernel
theorem dX3_layAll_18 : decode cX3_layAll 18 = .ok (.aload_n 0, 1) := by decide +kernel
theorem dX3_layAll_19 : decode cX3_layAll 19 = .ok (.getfield 16, 3) := by decide +kernel
theorem dX3_layAll_22 : decode cX3_layAll 22 = .ok (.aload_n 0, 1) := by decide +kernel
theorem dX3_layAll_23 : decode cX3_layAll 23 = .ok (.getfield 10, 3) := by decide +kernel
theorem dX3_layAll_26 : decode cX3_layAll 26 = .ok (.invokevirtual 70, 3) := by decide +kernel
theorem dX3_layAll_29 : decode cX3_layAll 29 = .ok (.aload_n 0, 1) := by decide +kernel
theorem dX3_layAll_30 : decode cX3_layAll 30 = .ok (.getfield 10, 3) := by decide +kernel
theorem dX3_layAll_33 : decode cX3_layAll 33 = .ok (.aload_n 0, 1) := by decide +kernel
theorem dX3_layAll_34 : decode cX3_layAll 34 = .ok (.getfield 36, 3) := by decide +kernel
theorem dX3_layAll_37 : decode cX3_layAll 37 = .ok (.invokevirtual 73, 3) := by decide +kernel
theorem dX3_layAll_40 : decode cX3_layAll 40 = .ok (.istore_n 2, 1) := by decide +kernel
theorem dX3_layAll_41 : decode cX3_layAll 41 = .ok (.iload_n 2, 1) := by decide +kernel
theorem dX3_layAll_42 : decode cX3_layAll 42 = .ok (.ifCond .eq 16, 3) := by decide +kernel
theorem dX3_layAll_45 : decode cX3_layAll 45 = .ok (.aload_n 0, 1) := by decide +kernel
theorem dX3_layAll_46 : decode cX3_layAll 46 = .ok (.getfield 10, 3) := by decide +kernel
theorem dX3_layAll_49 : decode cX3_layAll 49 = .ok (.aload_n 0, 1) := by decide +kernel
theorem dX3_layAll_50 : decode cX3_layAll 50 = .ok (.getfield 16, 3) := by decide +kernel
theorem dX3_layAll_53 : decode cX3_layAll 53 = .ok (.invokevirtual 70, 3) := by decide +kernel
theorem dX3_layAll_56 : decode cX3_layAll 56 = .ok (.iload_n 2, 1) := by decide +kernel
theorem dX3_layAll_57 : decode cX3_layAll 57 = .ok (.ireturn, 1) := by decide +kernel
theorem dX3_layAll_58 : decode cX3_layAll 58 = .ok (.aload_n 0, 1) := by decide +kernel
theorem dX3_layAll_59 : decode cX3_layAll 59 = .ok (.getfield 29, 3) := by decide +kernel
theorem dX3_layAll_62 : decode cX3_layAll 62 = .ok (.aload_n 0, 1) := by decide +kernel
theorem dX3_layAll_63 : decode cX3_layAll 63 = .ok (.getfield 16, 3) := by decide +kernel
theorem dX3_layAll_66 : decode cX3_layAll 66 = .ok (.invokevirtual 54, 3) := by decide +kernel
theorem dX3_layAll_69 : decode cX3_layAll 69 = .ok (.aload_n 0, 1) := by decide +kernel
theorem dX3_layAll_70 : decode cX3_layAll 70 = .ok (.getfield 10, 3) := by decide +kernel
theorem dX3_layAll_73 : decode cX3_layAll 73 = .ok (.invokevirtual 77, 3) := by decide +kernel
theorem dX3_layAll_76 : decode cX3_layAll 76 = .ok (.ireturn, 1) := by decide +kernel
set_option maxRecDepth 20000 in
theorem ggX3_takeOff_X0_hasWire : GoodIn wsX3_takeOff wsX0_hasWire := goodIn_r _ [7, 8, 9, 10, 11, 62, 63, 64, 65, 66, 67, 68, 69, 70, 71, 72, 73] (by decide +kernel) (by decide +kernel)
set_option maxRecDepth 20000 in
theorem gX3_takeOff_X0_hasWire : GoodIn wsX3_takeOff (wsV RX3 80 RX0 yX0_hasWire wsX0_hasWire) := goodIn_app (goodIn_of _ (by decide +kernel)) ggX3_takeOff_X0_hasWire
set_option maxRecDepth 20000 in
theorem ggX3_takeOff_X1_record : GoodIn wsX3_takeOff wsX1_record := goodIn_r _ [16, 17, 18, 19, 20, 15, 21, 22, 23, 24, 25, 26, 27, 10, 28, 29, 30, 31, 6, 32, 33, 34, 35, 36, 37, 8, 38, 39, 40, 41, 42, 43, 44, 45, 46, 47, 74, 75, 62, 63, 64, 65, 66, 67, 68, 69, 70, 71, 72, 73] (by decide +kernel) (by decide +kernel)
set_option maxRecDepth 20000 in
theorem gX3_takeOff_X1_record : GoodIn wsX3_takeOff (wsV RX3 54 RX1 yX1_record wsX1_record) := goodIn_app (goodIn_of _ (by decide +kernel)) ggX3_takeOff_X1_record
set_option maxRecDepth 20000 in
theorem ggX3_takeOff_X0_strengthOf : GoodIn wsX3_takeOff wsX0_strengthOf := goodIn_r _ [51, 39, 9, 10, 11, 62, 63, 64, 65, 66, 67, 68, 69, 70, 71, 72, 73] (by decide +kernel) (by decide +kernel)
set_option maxRecDepth 20000 in
theorem gX3_takeOff_X0_strengthOf : GoodIn wsX3_takeOff (wsV RX3 62 RX0 yX0_strengthOf wsX0_strengthOf) := goodIn_app (goodIn_of _ (by decide +kernel)) ggX3_takeOff_X0_strengthOf
set_option maxRecDepth 20000 in
theorem ggX3_takeOff_X0_removeWire : GoodIn wsX3_takeOff wsX0_removeWire := goodIn_r _ [55, 8, 9, 10, 11, 62, 63, 64, 65, 66, 67, 68, 69, 70, 71, 72, 73] (by decide +kernel) (by decide +kernel)
set_option maxRecDepth 20000 in
theorem gX3_takeOff_X0_removeWire : GoodIn wsX3_takeOff (wsV RX3 83 RX0 yX0_removeWire wsX0_removeWire) := goodIn_app (goodIn_of _ (by decide +kernel)) ggX3_takeOff_X0_removeWire
theorem dX3_takeOff_0 : decode cX3_takeOff 0 = .ok (.aload_n 0, 1) := by decide +kernel
theorem dX3_takeOff_1 : decode cX3_takeOff 1 = .ok (.getfield 10, 3) := by decide +kernel
theorem dX3_takeOff_4 : decode cX3_takeOff 4 = .ok (.iload_n 1, 1) := by decide +kernel
theorem dX3_takeOff_5 : decode cX3_takeOff 5 = .ok (.invokevirtual 80, 3) := by decide +kernel
theorem dX3_takeOff_8 : decode cX3_takeOff 8 = .ok (.ifCond .ne 5, 3) := by decide +kernel
theorem dX3_takeOff_11 : decode cX3_takeOff 11 = .ok (.iconst (-1), 1) := by decide +kernel
theorem dX3_takeOff_12 : decode cX3_takeOff 12 = .ok (.ireturn, 1) := by decide +kernel
theorem dX3_takeOff_13 : decode cX3_takeOff 13 = .ok (.aload_n 0, 1) := by decide +kernel
theorem dX3_takeOff_14 : decode cX3_takeOff 14 = .ok (.getfield 29, 3) := by decide +kernel
theorem dX3_takeOff_17 : decode cX3_takeOff 17 = .ok (.aload_n 0, 1) := by decide +kernel
theorem dX3_takeOff_18 : decode cX3_takeOff 18 = .ok (.getfield 10, 3) := by decide +kernel
theorem dX3_takeOff_21 : decode cX3_takeOff 21 = .ok (.invokevirtual 54, 3) := by decide +kernel
theorem dX3_takeOff_24 : decode cX3_takeOff 24 = .ok (.aload_n 0, 1) := by decide +kernel
theorem dX3_takeOff_25 : decode cX3_takeOff 25 = .ok (.getfield 10, 3) := by decide +kernel
theorem dX3_takeOff_28 : decode cX3_takeOff 28 = .ok (.iload_n 1, 1) := by decide +kernel
theorem dX3_takeOff_29 : decode cX3_takeOff 29 = .ok (.invokevirtual 62, 3) := by decide +kernel
theorem dX3_takeOff_32 : decode cX3_takeOff 32 = .ok (.istore_n 2, 1) := by decide +kernel
theorem dX3_takeOff_33 : decode cX3_takeOff 33 = .ok (.aload_n 0, 1) := by decide +kernel
theorem dX3_takeOff_34 : decode cX3_takeOff 34 = .ok (.getfield 10, 3) := by decide +kernel
theorem dX3_takeOff_37 : decode cX3_takeOff 37 = .ok (.iload_n 1, 1) := by decide +kernel
theorem dX3_takeOff_38 : decode cX3_takeOff 38 = .ok (.invokevirtual 83, 3) := by decide +kernel
theorem dX3_takeOff_41 : decode cX3_takeOff 41 = .ok (.iload_n 2, 1) := by decide +kernel
theorem dX3_takeOff_42 : decode cX3_takeOff 42 = .ok (.ireturn, 1) := by decide +kernel
set_option maxRecDepth 20000 in
theorem ggX3_bend_X0_hasWire : GoodIn wsX3_bend wsX0_hasWire := goodIn_r _ [7, 8, 9, 10, 11, 66, 67, 68, 69, 70, 71, 72, 73, 74, 75, 76, 77] (by decide +kernel) (by decide +kernel)
set_option maxRecDepth 20000 in
theorem gX3_bend_X0_hasWire : GoodIn wsX3_bend (wsV RX3 80 RX0 yX0_hasWire wsX0_hasWire) := goodIn_app (goodIn_of _ (by decide +kernel)) ggX3_bend_X0_hasWire
set_option maxRecDepth 20000 in
theorem ggX3_bend_X3_isHeight : GoodIn wsX3_bend wsX3_isHeight := goodIn_r _ [14, 15, 16, 10, 17] (by decide +kernel) (by decide +kernel)
set_option maxRecDepth 20000 in
theorem gX3_bend_X3_isHeight : GoodIn wsX3_bend (va_wsS RX3 47 yX3_isHeight wsX3_isHeight) := goodIn_app (goodIn_of _ (by decide +kernel)) ggX3_bend_X3_isHeight
set_option maxRecDepth 20000 in
theorem ggX3_bend_X0_heightOf : GoodIn wsX3_bend wsX0_heightOf := goodIn_r _ [21, 22, 9, 10, 11, 66, 67, 68, 69, 70, 71, 72, 73, 74, 75, 76, 77] (by decide +kernel) (by decide +kernel)
set_option maxRecDepth 20000 in
theorem gX3_bend_X0_heightOf : GoodIn wsX3_bend (wsV RX3 87 RX0 yX0_heightOf wsX0_heightOf) := goodIn_app (goodIn_of _ (by decide +kernel)) ggX3_bend_X0_heightOf
set_option maxRecDepth 20000 in
theorem ggX3_bend_X1_record : GoodIn wsX3_bend wsX1_record := goodIn_r _ [27, 28, 29, 30, 31, 26, 32, 33, 34, 35, 36, 37, 16, 10, 17, 38, 39, 40, 6, 41, 42, 43, 44, 45, 46, 8, 22, 47, 48, 49, 50, 51, 52, 53, 54, 55, 78, 79, 66, 67, 68, 69, 70, 71, 72, 73, 74, 75, 76, 77] (by decide +kernel) (by decide +kernel)
set_option maxRecDepth 20000 in
theorem gX3_bend_X1_record : GoodIn wsX3_bend (wsV RX3 54 RX1 yX1_record wsX1_record) := goodIn_app (goodIn_of _ (by decide +kernel)) ggX3_bend_X1_record
set_option maxRecDepth 20000 in
theorem ggX3_bend_X0_changeHeight : GoodIn wsX3_bend wsX0_changeHeight := goodIn_r _ [59, 22, 9, 10, 11, 66, 67, 68, 69, 70, 71, 72, 73, 74, 75, 76, 77] (by decide +kernel) (by decide +kernel)
set_option maxRecDepth 20000 in
theorem gX3_bend_X0_changeHeight : GoodIn wsX3_bend (wsV RX3 90 RX0 yX0_changeHeight wsX0_changeHeight) := goodIn_app (goodIn_of _ (by decide +kernel)) ggX3_bend_X0_changeHeight
theorem dX3_bend_0 : decode cX3_bend 0 = .ok (.aload_n 0, 1) := by decide +kernel
theorem dX3_bend_1 : decode cX3_bend 1 = .ok (.getfield 10, 3) := by decide +kernel
theorem dX3_bend_4 : decode cX3_bend 4 = .ok (.iload_n 1, 1) := by decide +kernel
theorem dX3_bend_5 : decode cX3_bend 5 = .ok (.invokevirtual 80, 3) := by decide +kernel
theorem dX3_bend_8 : decode cX3_bend 8 = .ok (.ifCond .ne 5, 3) := by decide +kernel
theorem dX3_bend_11 : decode cX3_bend 11 = .ok (.iconst (-1), 1) := by decide +kernel
theorem dX3_bend_12 : decode cX3_bend 12 = .ok (.ireturn, 1) := by decide +kernel
theorem dX3_bend_13 : decode cX3_bend 13 = .ok (.iload_n 2, 1) := by decide +kernel
theorem dX3_bend_14 : decode cX3_bend 14 = .ok (.invokestatic 47, 3) := by decide +kernel
theorem dX3_bend_17 : decode cX3_bend 17 = .ok (.ifCond .ne 6, 3) := by decide +kernel
theorem dX3_bend_20 : decode cX3_bend 20 = .ok (.bipush (-2), 2) := by decide +kernel
theorem dX3_bend_22 : decode cX3_bend 22 = .ok (.ireturn, 1) := by decide +kernel
theorem dX3_bend_23 : decode cX3_bend 23 = .ok (.aload_n 0, 1) := by decide +kernel
theorem dX3_bend_24 : decode cX3_bend 24 = .ok (.getfield 10, 3) := by decide +kernel
theorem dX3_bend_27 : decode cX3_bend 27 = .ok (.iload_n 1, 1) := by decide +kernel
theorem dX3_bend_28 : decode cX3_bend 28 = .ok (.invokevirtual 87, 3) := by decide +kernel
theorem dX3_bend_31 : decode cX3_bend 31 = .ok (.istore_n 3, 1) := by decide +kernel
theorem dX3_bend_32 : decode cX3_bend 32 = .ok (.iload_n 3, 1) := by decide +kernel
theorem dX3_bend_33 : decode cX3_bend 33 = .ok (.iload_n 2, 1) := by decide +kernel
theorem dX3_bend_34 : decode cX3_bend 34 = .ok (.if_icmp .ne 6, 3) := by decide +kernel
theorem dX3_bend_37 : decode cX3_bend 37 = .ok (.bipush (-5), 2) := by decide +kernel
theorem dX3_bend_39 : decode cX3_bend 39 = .ok (.ireturn, 1) := by decide +kernel
theorem dX3_bend_40 : decode cX3_bend 40 = .ok (.aload_n 0, 1) := by decide +kernel
theorem dX3_bend_41 : decode cX3_bend 41 = .ok (.getfield 29, 3) := by decide +kernel
theorem dX3_bend_44 : decode cX3_bend 44 = .ok (.aload_n 0, 1) := by decide +kernel
theorem dX3_bend_45 : decode cX3_bend 45 = .ok (.getfield 10, 3) := by decide +kernel
theorem dX3_bend_48 : decode cX3_bend 48 = .ok (.invokevirtual 54, 3) := by decide +kernel
theorem dX3_bend_51 : decode cX3_bend 51 = .ok (.aload_n 0, 1) := by decide +kernel
theorem dX3_bend_52 : decode cX3_bend 52 = .ok (.getfield 10, 3) := by decide +kernel
theorem dX3_bend_55 : decode cX3_bend 55 = .ok (.iload_n 1, 1) := by decide +kernel
theorem dX3_bend_56 : decode cX3_bend 56 = .ok (.iload_n 2, 1) := by decide +kernel
theorem dX3_bend_57 : decode cX3_bend 57 = .ok (.invokevirtual 90, 3) := by decide +kernel
theorem dX3_bend_60 : decode cX3_bend 60 = .ok (.iload_n 3, 1) := by decide +kernel
theorem dX3_bend_61 : decode cX3_bend 61 = .ok (.ireturn, 1) := by decide +kernel
set_option maxRecDepth 20000 in
theorem ggX3_moveLead_X3_isLead : GoodIn wsX3_moveLead wsX3_isLead := goodIn_r _ [6] (by decide +kernel) (by decide +kernel)
set_option maxRecDepth 20000 in
theorem gX3_moveLead_X3_isLead : GoodIn wsX3_moveLead (va_wsS RX3 44 yX3_isLead wsX3_isLead) := goodIn_app (goodIn_of _ (by decide +kernel)) ggX3_moveLead_X3_isLead
set_option maxRecDepth 20000 in
theorem ggX3_moveLead_X3_isWithin : GoodIn wsX3_moveLead wsX3_isWithin := goodIn_r _ [9] (by decide +kernel) (by decide +kernel)
set_option maxRecDepth 20000 in
theorem gX3_moveLead_X3_isWithin : GoodIn wsX3_moveLead (va_wsS RX3 94 yX3_isWithin wsX3_isWithin) := goodIn_app (goodIn_of _ (by decide +kernel)) ggX3_moveLead_X3_isWithin
set_option maxRecDepth 20000 in
theorem ggX3_moveLead_X0_padAtLead : GoodIn wsX3_moveLead wsX0_padAtLead := goodIn_r _ [14, 15, 16, 17, 18, 13, 19, 20, 5, 21, 70, 71, 72, 73, 74, 75, 76, 77, 78, 79, 80, 81] (by decide +kernel) (by decide +kernel)
set_option maxRecDepth 20000 in
theorem gX3_moveLead_X0_padAtLead : GoodIn wsX3_moveLead (wsV RX3 98 RX0 yX0_padAtLead wsX0_padAtLead) := goodIn_app (goodIn_of _ (by decide +kernel)) ggX3_moveLead_X0_padAtLead
set_option maxRecDepth 20000 in
theorem ggX3_moveLead_X0_xOfLead : GoodIn wsX3_moveLead wsX0_xOfLead := goodIn_r _ [25, 26, 4, 5, 6, 70, 71, 72, 73, 74, 75, 76, 77, 78, 79, 80, 81] (by decide +kernel) (by decide +kernel)
set_option maxRecDepth 20000 in
theorem gX3_moveLead_X0_xOfLead : GoodIn wsX3_moveLead (wsV RX3 101 RX0 yX0_xOfLead wsX0_xOfLead) := goodIn_app (goodIn_of _ (by decide +kernel)) ggX3_moveLead_X0_xOfLead
set_option maxRecDepth 20000 in
theorem ggX3_moveLead_X1_record : GoodIn wsX3_moveLead wsX1_record := goodIn_r _ [31, 32, 33, 34, 35, 30, 36, 37, 38, 39, 40, 41, 8, 5, 9, 42, 43, 44, 13, 45, 26, 46, 47, 48, 49, 15, 50, 51, 52, 53, 54, 55, 56, 57, 58, 59, 82, 83, 70, 71, 72, 73, 74, 75, 76, 77, 78, 79, 80, 81] (by decide +kernel) (by decide +kernel)
set_option maxRecDepth 20000 in
theorem gX3_moveLead_X1_record : GoodIn wsX3_moveLead (wsV RX3 54 RX1 yX1_record wsX1_record) := goodIn_app (goodIn_of _ (by decide +kernel)) ggX3_moveLead_X1_record
set_option maxRecDepth 20000 in
theorem ggX3_moveLead_X0_placeLead : GoodIn wsX3_moveLead wsX0_placeLead := goodIn_r _ [63, 26, 4, 5, 6, 70, 71, 72, 73, 74, 75, 76, 77, 78, 79, 80, 81] (by decide +kernel) (by decide +kernel)
set_option maxRecDepth 20000 in
theorem gX3_moveLead_X0_placeLead : GoodIn wsX3_moveLead (wsV RX3 104 RX0 yX0_placeLead wsX0_placeLead) := goodIn_app (goodIn_of _ (by decide +kernel)) ggX3_moveLead_X0_placeLead
theorem dX3_moveLead_0 : decode cX3_moveLead 0 = .ok (.iload_n 1, 1) := by decide +kernel
theorem dX3_moveLead_1 : decode cX3_moveLead 1 = .ok (.invokestatic 44, 3) := by decide +kernel
theorem dX3_moveLead_4 : decode cX3_moveLead 4 = .ok (.ifCond .ne 5, 3) := by decide +kernel
theorem dX3_moveLead_7 : decode cX3_moveLead 7 = .ok (.iconst (-1), 1) := by decide +kernel
theorem dX3_moveLead_8 : decode cX3_moveLead 8 = .ok (.ireturn, 1) := by decide +kernel
theorem dX3_moveLead_9 : decode cX3_moveLead 9 = .ok (.iload_n 2, 1) := by decide +kernel
theorem dX3_moveLead_10 : decode cX3_moveLead 10 = .ok (.iconst 0, 1) := by decide +kernel
theorem dX3_moveLead_11 : decode cX3_moveLead 11 = .ok (.sipush 600, 3) := by decide +kernel
theorem dX3_moveLead_14 : decode cX3_moveLead 14 = .ok (.invokestatic 94, 3) := by decide +kernel
theorem dX3_moveLead_17 : decode cX3_moveLead 17 = .ok (.ifCond .ne 6, 3) := by decide +kernel
theorem dX3_moveLead_20 : decode cX3_moveLead 20 = .ok (.bipush (-2), 2) := by decide +kernel
theorem dX3_moveLead_22 : decode cX3_moveLead 22 = .ok (.ireturn, 1) := by decide +kernel
theorem dX3_moveLead_23 : decode cX3_moveLead 23 = .ok (.aload_n 0, 1) := by decide +kernel
theorem dX3_moveLead_24 : decode cX3_moveLead 24 = .ok (.getfield 10, 3) := by decide +kernel
theorem dX3_moveLead_27 : decode cX3_moveLead 27 = .ok (.iload_n 1, 1) := by decide +kernel
theorem dX3_moveLead_28 : decode cX3_moveLead 28 = .ok (.invokevirtual 98, 3) := by decide +kernel
theorem dX3_moveLead_31 : decode cX3_moveLead 31 = .ok (.bipush (-5), 2) := by decide +kernel
theorem dX3_moveLead_33 : decode cX3_moveLead 33 = .ok (.if_icmp .eq 6, 3) := by decide +kernel
theorem dX3_moveLead_36 : decode cX3_moveLead 36 = .ok (.bipush (-4), 2) := by decide +kernel
theorem dX3_moveLead_38 : decode cX3_moveLead 38 = .ok (.ireturn, 1) := by decide +kernel
theorem dX3_moveLead_39 : decode cX3_moveLead 39 = .ok (.aload_n 0, 1) := by decide +kernel
theorem dX3_moveLead_40 : decode cX3_moveLead 40 = .ok (.getfield 10, 3) := by decide +kernel
theorem dX3_moveLead_43 : decode cX3_moveLead 43 = .ok (.iload_n 1, 1) := by decide +kernel
theorem dX3_moveLead_44 : decode cX3_moveLead 44 = .ok (.invokevirtual 101, 3) := by decide +kernel
theorem dX3_moveLead_47 : decode cX3_moveLead 47 = .ok (.istore_n 3, 1) := by decide +kernel
theorem dX3_moveLead_48 : decode cX3_moveLead 48 = .ok (.iload_n 3, 1) := by decide +kernel
theorem dX3_moveLead_49 : decode cX3_moveLead 49 = .ok (.iload_n 2, 1) := by decide +kernel
theorem dX3_moveLead_50 : decode cX3_moveLead 50 = .ok (.if_icmp .ne 6, 3) := by decide +kernel
theorem dX3_moveLead_53 : decode cX3_moveLead 53 = .ok (.bipush (-5), 2) := by decide +kernel
theorem dX3_moveLead_55 : decode cX3_moveLead 55 = .ok (.ireturn, 1) := by decide +kernel
theorem dX3_moveLead_56 : decode cX3_moveLead 56 = .ok (.aload_n 0, 1) := by decide +kernel
theorem dX3_moveLead_57 : decode cX3_moveLead 57 = .ok (.getfield 29, 3) := by decide +kernel
theorem dX3_moveLead_60 : decode cX3_moveLead 60 = .ok (.aload_n 0, 1) := by decide +kernel
theorem dX3_moveLead_61 : decode cX3_moveLead 61 = .ok (.getfield 10, 3) := by decide +kernel
theorem dX3_moveLead_64 : decode cX3_moveLead 64 = .ok (.invokevirtual 54, 3) := by decide +kernel
theorem dX3_moveLead_67 : decode cX3_moveLead 67 = .ok (.aload_n 0, 1) := by decide +kernel
theorem dX3_moveLead_68 : decode cX3_moveLead 68 = .ok (.getfield 10, 3) := by decide +kernel
theorem dX3_moveLead_71 : decode cX3_moveLead 71 = .ok (.iload_n 1, 1) := by decide +kernel
theorem dX3_moveLead_72 : decode cX3_moveLead 72 = .ok (.iload_n 2, 1) := by decide +kernel
theorem dX3_moveLead_73 : decode cX3_moveLead 73 = .ok (.invokevirtual 104, 3) := by decide +kernel
theorem dX3_moveLead_76 : decode cX3_moveLead 76 = .ok (.iload_n 3, 1) := by decide +kernel
theorem dX3_moveLead_77 : decode cX3_moveLead 77 = .ok (.ireturn, 1) := by decide +kernel
set_option maxRecDepth 20000 in
theorem ggX3_setWidth_X3_isWithin : GoodIn wsX3_setWidth wsX3_isWithin := goodIn_r _ [6] (by decide +kernel) (by decide +kernel)
set_option maxRecDepth 20000 in
theorem gX3_setWidth_X3_isWithin : GoodIn wsX3_setWidth (va_wsS RX3 94 yX3_isWithin wsX3_isWithin) := goodIn_app (goodIn_of _ (by decide +kernel)) ggX3_setWidth_X3_isWithin
set_option maxRecDepth 20000 in
theorem ggX3_setWidth_X1_record : GoodIn wsX3_setWidth wsX1_record := goodIn_r _ [11, 12, 13, 14, 15, 10, 16, 17, 18, 19, 20, 21, 4, 5, 6, 22, 23, 24, 25, 26, 27, 28, 29, 30, 31, 32, 33, 34, 35, 36, 37, 38, 39, 40, 41, 42, 61, 62, 49, 50, 51, 52, 53, 54, 55, 56, 57, 58, 59, 60] (by decide +kernel) (by decide +kernel)
set_option maxRecDepth 20000 in
theorem gX3_setWidth_X1_record : GoodIn wsX3_setWidth (wsV RX3 54 RX1 yX1_record wsX1_record) := goodIn_app (goodIn_of _ (by decide +kernel)) ggX3_setWidth_X1_record
theorem dX3_setWidth_0 : decode cX3_setWidth 0 = .ok (.iload_n 1, 1) := by decide +kernel
theorem dX3_setWidth_1 : decode cX3_setWidth 1 = .ok (.iconst 1, 1) := by decide +kernel
theorem dX3_setWidth_2 : decode cX3_setWidth 2 = .ok (.bipush 50, 2) := by decide +kernel
theorem dX3_setWidth_4 : decode cX3_setWidth 4 = .ok (.invokestatic 94, 3) := by decide +kernel
theorem dX3_setWidth_7 : decode cX3_setWidth 7 = .ok (.ifCond .ne 6, 3) := by decide +kernel
theorem dX3_setWidth_10 : decode cX3_setWidth 10 = .ok (.bipush (-2), 2) := by decide +kernel
theorem dX3_setWidth_12 : decode cX3_setWidth 12 = .ok (.ireturn, 1) := by decide +kernel
theorem dX3_setWidth_13 : decode cX3_setWidth 13 = .ok (.aload_n 0, 1) := by decide +kernel
theorem dX3_setWidth_14 : decode cX3_setWidth 14 = .ok (.getfield 10, 3) := by decide +kernel
theorem dX3_setWidth_17 : decode cX3_setWidth 17 = .ok (.getfield 107, 3) := by decide +kernel
theorem dX3_setWidth_20 : decode cX3_setWidth 20 = .ok (.istore_n 2, 1) := by decide +kernel
theorem dX3_setWidth_21 : decode cX3_setWidth 21 = .ok (.iload_n 2, 1) := by decide +kernel
theorem dX3_setWidth_22 : decode cX3_setWidth 22 = .ok (.iload_n 1, 1) := by decide +kernel
theorem dX3_setWidth_23 : decode cX3_setWidth 23 = .ok (.if_icmp .ne 6, 3) := by decide +kernel
theorem dX3_setWidth_26 : decode cX3_setWidth 26 = .ok (.bipush (-5), 2) := by decide +kernel
theorem dX3_setWidth_28 : decode cX3_setWidth 28 = .ok (.ireturn, 1) := by decide +kernel
theorem dX3_setWidth_29 : decode cX3_setWidth 29 = .ok (.aload_n 0, 1) := by decide +kernel
theorem dX3_setWidth_30 : decode cX3_setWidth 30 = .ok (.getfield 29, 3) := by decide +kernel
theorem dX3_setWidth_33 : decode cX3_setWidth 33 = .ok (.aload_n 0, 1) := by decide +kernel
theorem dX3_setWidth_34 : decode cX3_setWidth 34 = .ok (.getfield 10, 3) := by decide +kernel
theorem dX3_setWidth_37 : decode cX3_setWidth 37 = .ok (.invokevirtual 54, 3) := by decide +kernel
theorem dX3_setWidth_40 : decode cX3_setWidth 40 = .ok (.aload_n 0, 1) := by decide +kernel
theorem dX3_setWidth_41 : decode cX3_setWidth 41 = .ok (.getfield 10, 3) := by decide +kernel
theorem dX3_setWidth_44 : decode cX3_setWidth 44 = .ok (.iload_n 1, 1) := by decide +kernel
theorem dX3_setWidth_45 : decode cX3_setWidth 45 = .ok (.putfield 107, 3) := by decide +kernel
theorem dX3_setWidth_48 : decode cX3_setWidth 48 = .ok (.iload_n 2, 1) := by decide +kernel
theorem dX3_setWidth_49 : decode cX3_setWidth 49 = .ok (.ireturn, 1) := by decide +kernel
set_option maxRecDepth 20000 in
theorem ggX3_changeTool_X1_record : GoodIn wsX3_changeTool wsX1_record := goodIn_r _ [7, 8, 9, 10, 11, 6, 12, 13, 14, 15, 16, 17, 18, 19, 20, 21, 22, 23, 24, 25, 26, 27, 28, 29, 30, 31, 32, 33, 34, 35, 36, 37, 38, 39, 40, 41, 60, 61, 48, 49, 50, 51, 52, 53, 54, 55, 56, 57, 58, 59] (by decide +kernel) (by decide +kernel)
set_option maxRecDepth 20000 in
theorem gX3_changeTool_X1_record : GoodIn wsX3_changeTool (wsV RX3 54 RX1 yX1_record wsX1_record) := goodIn_app (goodIn_of _ (by decide +kernel)) ggX3_changeTool_X1_record
theorem dX3_changeTool_0 : decode cX3_changeTool 0 = .ok (.aload_n 0, 1) := by decide +kernel
theorem dX3_changeTool_1 : decode cX3_changeTool 1 = .ok (.getfield 10, 3) := by decide +kernel
theorem dX3_changeTool_4 : decode cX3_changeTool 4 = .ok (.getfield 111, 3) := by decide +kernel
theorem dX3_changeTool_7 : decode cX3_changeTool 7 = .ok (.istore_n 1, 1) := by decide +kernel
theorem dX3_changeTool_8 : decode cX3_changeTool 8 = .ok (.iload_n 1, 1) := by decide +kernel
theorem dX3_changeTool_9 : decode cX3_changeTool 9 = .ok (.ifCond .ne 6, 3) := by decide +kernel
theorem dX3_changeTool_12 : decode cX3_changeTool 12 = .ok (.bipush (-5), 2) := by decide +kernel
theorem dX3_changeTool_14 : decode cX3_changeTool 14 = .ok (.ireturn, 1) := by decide +kernel
theorem dX3_changeTool_15 : decode cX3_changeTool 15 = .ok (.aload_n 0, 1) := by decide +kernel
theorem dX3_changeTool_16 : decode cX3_changeTool 16 = .ok (.getfield 29, 3) := by decide +kernel
theorem dX3_changeTool_19 : decode cX3_changeTool 19 = .ok (.aload_n 0, 1) := by decide +kernel
theorem dX3_changeTool_20 : decode cX3_changeTool 20 = .ok (.getfield 10, 3) := by decide +kernel
theorem dX3_changeTool_23 : decode cX3_changeTool 23 = .ok (.invokevirtual 54, 3) := by decide +kernel
theorem dX3_changeTool_26 : decode cX3_changeTool 26 = .ok (.aload_n 0, 1) := by decide +kernel
theorem dX3_changeTool_27 : decode cX3_changeTool 27 = .ok (.getfield 10, 3) := by decide +kernel
theorem dX3_changeTool_30 : decode cX3_changeTool 30 = .ok (.iconst 0, 1) := by decide +kernel
theorem dX3_changeTool_31 : decode cX3_changeTool 31 = .ok (.putfield 111, 3) := by decide +kernel
theorem dX3_changeTool_34 : decode cX3_changeTool 34 = .ok (.aload_n 0, 1) := by decide +kernel
theorem dX3_changeTool_35 : decode cX3_changeTool 35 = .ok (.getfield 10, 3) := by decide +kernel
theorem dX3_changeTool_38 : decode cX3_changeTool 38 = .ok (.dup, 1) := by decide +kernel
theorem dX3_changeTool_39 : decode cX3_changeTool 39 = .ok (.getfield 114, 3) := by decide +kernel
theorem dX3_changeTool_42 : decode cX3_changeTool 42 = .ok (.iconst 1, 1) := by decide +kernel
theorem dX3_changeTool_43 : decode cX3_changeTool 43 = .ok (.iadd, 1) := by decide +kernel
theorem dX3_changeTool_44 : decode cX3_changeTool 44 = .ok (.putfield 114, 3) := by decide +kernel
theorem dX3_changeTool_47 : decode cX3_changeTool 47 = .ok (.iload_n 1, 1) := by decide +kernel
theorem dX3_changeTool_48 : decode cX3_changeTool 48 = .ok (.ireturn, 1) := by decide +kernel
set_option maxRecDepth 20000 in
theorem ggX3_thread_X1_record : GoodIn wsX3_thread wsX1_record := goodIn_r _ [7, 8, 9, 10, 11, 6, 12, 13, 14, 15, 16, 17, 18, 19, 20, 21, 22, 23, 24, 25, 26, 27, 28, 29, 30, 31, 32, 33, 34, 35, 36, 37, 38, 39, 40, 41, 60, 61, 48, 49, 50, 51, 52, 53, 54, 55, 56, 57, 58, 59] (by decide +kernel) (by decide +kernel)
set_option maxRecDepth 20000 in
theorem gX3_thread_X1_record : GoodIn wsX3_thread (wsV RX3 54 RX1 yX1_record wsX1_record) := goodIn_app (goodIn_of _ (by decide +kernel)) ggX3_thread_X1_record
theorem dX3_thread_0 : decode cX3_thread 0 = .ok (.aload_n 0, 1) := by decide +kernel
theorem dX3_thread_1 : decode cX3_thread 1 = .ok (.getfield 10, 3) := by decide +kernel
theorem dX3_thread_4 : decode cX3_thread 4 = .ok (.getfield 117, 3) := by decide +kernel
theorem dX3_thread_7 : decode cX3_thread 7 = .ok (.ifCond .ne 6, 3) := by decide +kernel
theorem dX3_thread_10 : decode cX3_thread 10 = .ok (.bipush (-5), 2) := by decide +kernel
theorem dX3_thread_12 : decode cX3_thread 12 = .ok (.ireturn, 1) := by decide +kernel
theorem dX3_thread_13 : decode cX3_thread 13 = .ok (.aload_n 0, 1) := by decide +kernel
theorem dX3_thread_14 : decode cX3_thread 14 = .ok (.getfield 29, 3) := by decide +kernel
theorem dX3_thread_17 : decode cX3_thread 17 = .ok (.aload_n 0, 1) := by decide +kernel
theorem dX3_thread_18 : decode cX3_thread 18 = .ok (.getfield 10, 3) := by decide +kernel
theorem dX3_thread_21 : decode cX3_thread 21 = .ok (.invokevirtual 54, 3) := by decide +kernel
theorem dX3_thread_24 : decode cX3_thread 24 = .ok (.aload_n 0, 1) := by decide +kernel
theorem dX3_thread_25 : decode cX3_thread 25 = .ok (.getfield 10, 3) := by decide +kernel
theorem dX3_thread_28 : decode cX3_thread 28 = .ok (.iconst 0, 1) := by decide +kernel
theorem dX3_thread_29 : decode cX3_thread 29 = .ok (.putfield 117, 3) := by decide +kernel
theorem dX3_thread_32 : decode cX3_thread 32 = .ok (.aload_n 0, 1) := by decide +kernel
theorem dX3_thread_33 : decode cX3_thread 33 = .ok (.getfield 10, 3) := by decide +kernel
theorem dX3_thread_36 : decode cX3_thread 36 = .ok (.getfield 120, 3) := by decide +kernel
theorem dX3_thread_39 : decode cX3_thread 39 = .ok (.ireturn, 1) := by decide +kernel
set_option maxRecDepth 20000 in
theorem ggX3_pull_X0_hasWire : GoodIn wsX3_pull wsX0_hasWire := goodIn_r _ [7, 8, 9, 10, 11, 72, 73, 74, 75, 76, 77, 78, 79, 80, 81, 82, 83] (by decide +kernel) (by decide +kernel)
set_option maxRecDepth 20000 in
theorem gX3_pull_X0_hasWire : GoodIn wsX3_pull (wsV RX3 80 RX0 yX0_hasWire wsX0_hasWire) := goodIn_app (goodIn_of _ (by decide +kernel)) ggX3_pull_X0_hasWire
set_option maxRecDepth 20000 in
theorem ggX3_pull_X3_isWithin : GoodIn wsX3_pull wsX3_isWithin := goodIn_r _ [14] (by decide +kernel) (by decide +kernel)
set_option maxRecDepth 20000 in
theorem gX3_pull_X3_isWithin : GoodIn wsX3_pull (va_wsS RX3 94 yX3_isWithin wsX3_isWithin) := goodIn_app (goodIn_of _ (by decide +kernel)) ggX3_pull_X3_isWithin
set_option maxRecDepth 20000 in
theorem ggX3_pull_X1_record : GoodIn wsX3_pull wsX1_record := goodIn_r _ [19, 20, 21, 22, 23, 18, 24, 25, 26, 27, 28, 29, 13, 10, 14, 30, 31, 32, 6, 33, 34, 35, 36, 37, 38, 8, 39, 40, 41, 42, 43, 44, 45, 46, 47, 48, 84, 85, 72, 73, 74, 75, 76, 77, 78, 79, 80, 81, 82, 83] (by decide +kernel) (by decide +kernel)
set_option maxRecDepth 20000 in
theorem gX3_pull_X1_record : GoodIn wsX3_pull (wsV RX3 54 RX1 yX1_record wsX1_record) := goodIn_app (goodIn_of _ (by decide +kernel)) ggX3_pull_X1_record
set_option maxRecDepth 20000 in
theorem ggX3_pull_X0_breaksUnder : GoodIn wsX3_pull wsX0_breaksUnder := goodIn_r _ [52, 40, 48, 53, 54, 55, 56, 57, 4, 5, 6, 7, 8, 9, 10, 11, 58, 59, 60, 61, 72, 73, 74, 75, 76, 77, 78, 79, 80, 81, 82, 83] (by decide +kernel) (by decide +kernel)
set_option maxRecDepth 20000 in
theorem gX3_pull_X0_breaksUnder : GoodIn wsX3_pull (wsV RX3 123 RX0 yX0_breaksUnder wsX0_breaksUnder) := goodIn_app (goodIn_of _ (by decide +kernel)) ggX3_pull_X0_breaksUnder
set_option maxRecDepth 20000 in
theorem ggX3_pull_X0_strengthOf : GoodIn wsX3_pull wsX0_strengthOf := goodIn_r _ [65, 40, 9, 10, 11, 72, 73, 74, 75, 76, 77, 78, 79, 80, 81, 82, 83] (by decide +kernel) (by decide +kernel)
set_option maxRecDepth 20000 in
theorem gX3_pull_X0_strengthOf : GoodIn wsX3_pull (wsV RX3 62 RX0 yX0_strengthOf wsX0_strengthOf) := goodIn_app (goodIn_of _ (by decide +kernel)) ggX3_pull_X0_strengthOf
theorem dX3_pull_0 : decode cX3_pull 0 = .ok (.aload_n 0, 1) := by decide +kernel
theorem dX3_pull_1 : decode cX3_pull 1 = .ok (.getfield 10, 3) := by decide +kernel
theorem dX3_pull_4 : decode cX3_pull 4 = .ok (.iload_n 1, 1) := by decide +kernel
theorem dX3_pull_5 : decode cX3_pull 5 = .ok (.invokevirtual 80, 3) := by decide +kernel
theorem dX3_pull_8 : decode cX3_pull 8 = .ok (.ifCond .ne 5, 3) := by decide +kernel
theorem dX3_pull_11 : decode cX3_pull 11 = .ok (.iconst (-1), 1) := by decide +kernel
theorem dX3_pull_12 : decode cX3_pull 12 = .ok (.ireturn, 1) := by decide +kernel
theorem dX3_pull_13 : decode cX3_pull 13 = .ok (.iload_n 2, 1) := by decide +kernel
theorem dX3_pull_14 : decode cX3_pull 14 = .ok (.iconst 1, 1) := by decide +kernel
theorem dX3_pull_15 : decode cX3_pull 15 = .ok (.bipush 100, 2) := by decide +kernel
theorem dX3_pull_17 : decode cX3_pull 17 = .ok (.invokestatic 94, 3) := by decide +kernel
theorem dX3_pull_20 : decode cX3_pull 20 = .ok (.ifCond .ne 6, 3) := by decide +kernel
theorem dX3_pull_23 : decode cX3_pull 23 = .ok (.bipush (-2), 2) := by decide +kernel
theorem dX3_pull_25 : decode cX3_pull 25 = .ok (.ireturn, 1) := by decide +kernel
theorem dX3_pull_26 : decode cX3_pull 26 = .ok (.aload_n 0, 1) := by decide +kernel
theorem dX3_pull_27 : decode cX3_pull 27 = .ok (.getfield 29, 3) := by decide +kernel
theorem dX3_pull_30 : decode cX3_pull 30 = .ok (.aload_n 0, 1) := by decide +kernel
theorem dX3_pull_31 : decode cX3_pull 31 = .ok (.getfield 10, 3) := by decide +kernel
theorem dX3_pull_34 : decode cX3_pull 34 = .ok (.invokevirtual 54, 3) := by decide +kernel
theorem dX3_pull_37 : decode cX3_pull 37 = .ok (.aload_n 0, 1) := by decide +kernel
theorem dX3_pull_38 : decode cX3_pull 38 = .ok (.getfield 10, 3) := by decide +kernel
theorem dX3_pull_41 : decode cX3_pull 41 = .ok (.iload_n 1, 1) := by decide +kernel
theorem dX3_pull_42 : decode cX3_pull 42 = .ok (.iload_n 2, 1) := by decide +kernel
theorem dX3_pull_43 : decode cX3_pull 43 = .ok (.invokevirtual 123, 3) := by decide +kernel
theorem dX3_pull_46 : decode cX3_pull 46 = .ok (.ifCond .eq 9, 3) := by decide +kernel
theorem dX3_pull_49 : decode cX3_pull 49 = .ok (.sipush 1000, 3) := by decide +kernel
theorem dX3_pull_52 : decode cX3_pull 52 = .ok (.goto 11, 3) := by decide +kernel
theorem dX3_pull_55 : decode cX3_pull 55 = .ok (.aload_n 0, 1) := by decide +kernel
theorem dX3_pull_56 : decode cX3_pull 56 = .ok (.getfield 10, 3) := by decide +kernel
theorem dX3_pull_59 : decode cX3_pull 59 = .ok (.iload_n 1, 1) := by decide +kernel
theorem dX3_pull_60 : decode cX3_pull 60 = .ok (.invokevirtual 62, 3) := by decide +kernel
theorem dX3_pull_63 : decode cX3_pull 63 = .ok (.ireturn, 1) := by decide +kernel
set_option maxRecDepth 20000 in
theorem ggX3_sample_X3_isWithin : GoodIn wsX3_sample wsX3_isWithin := goodIn_r _ [6] (by decide +kernel) (by decide +kernel)
set_option maxRecDepth 20000 in
theorem gX3_sample_X3_isWithin : GoodIn wsX3_sample (va_wsS RX3 94 yX3_isWithin wsX3_isWithin) := goodIn_app (goodIn_of _ (by decide +kernel)) ggX3_sample_X3_isWithin
set_option maxRecDepth 20000 in
theorem ggX3_sample_X0_wires : GoodIn wsX3_sample wsX0_wires := goodIn_r _ [11, 12, 13, 14, 10, 15, 16, 17, 5, 18, 75, 76, 77, 78, 79, 80, 81, 82, 83, 84, 85, 86] (by decide +kernel) (by decide +kernel)
set_option maxRecDepth 20000 in
theorem gX3_sample_X0_wires : GoodIn wsX3_sample (wsV RX3 77 RX0 yX0_wires wsX0_wires) := goodIn_app (goodIn_of _ (by decide +kernel)) ggX3_sample_X0_wires
set_option maxRecDepth 20000 in
theorem ggX3_sample_X1_record : GoodIn wsX3_sample wsX1_record := goodIn_r _ [23, 24, 25, 26, 27, 22, 28, 29, 30, 31, 32, 33, 4, 5, 6, 34, 35, 36, 10, 37, 38, 39, 40, 41, 42, 16, 43, 44, 45, 46, 47, 48, 49, 50, 51, 52, 87, 88, 75, 76, 77, 78, 79, 80, 81, 82, 83, 84, 85, 86] (by decide +kernel) (by decide +kernel)
set_option maxRecDepth 20000 in
theorem gX3_sample_X1_record : GoodIn wsX3_sample (wsV RX3 54 RX1 yX1_record wsX1_record) := goodIn_app (goodIn_of _ (by decide +kernel)) ggX3_sample_X1_record
set_option maxRecDepth 20000 in
theorem ggX3_sample_X0_breakingOfSample : GoodIn wsX3_sample wsX0_breakingOfSample := goodIn_r _ [56, 12, 13, 14, 10, 15, 16, 17, 5, 18, 57, 58, 59, 60, 44, 52, 61, 62, 63, 64, 65, 66, 67, 68, 75, 76, 77, 78, 79, 80, 81, 82, 83, 84, 85, 86] (by decide +kernel) (by decide +kernel)
set_option maxRecDepth 20000 in
theorem gX3_sample_X0_breakingOfSample : GoodIn wsX3_sample (wsV RX3 127 RX0 yX0_breakingOfSample wsX0_breakingOfSample) := goodIn_app (goodIn_of _ (by decide +kernel)) ggX3_sample_X0_breakingOfSample
theorem dX3_sample_0 : decode cX3_sample 0 = .ok (.iload_n 1, 1) := by decide +kernel
theorem dX3_sample_1 : decode cX3_sample 1 = .ok (.iconst 1, 1) := by decide +kernel
theorem dX3_sample_2 : decode cX3_sample 2 = .ok (.bipush 12, 2) := by decide +kernel
theorem dX3_sample_4 : decode cX3_sample 4 = .ok (.invokestatic 94, 3) := by decide +kernel
theorem dX3_sample_7 : decode cX3_sample 7 = .ok (.ifCond .eq 13, 3) := by decide +kernel
theorem dX3_sample_10 : decode cX3_sample 10 = .ok (.iload_n 2, 1) := by decide +kernel
theorem dX3_sample_11 : decode cX3_sample 11 = .ok (.iconst 1, 1) := by decide +kernel
theorem dX3_sample_12 : decode cX3_sample 12 = .ok (.bipush 100, 2) := by decide +kernel
theorem dX3_sample_14 : decode cX3_sample 14 = .ok (.invokestatic 94, 3) := by decide +kernel
theorem dX3_sample_17 : decode cX3_sample 17 = .ok (.ifCond .ne 6, 3) := by decide +kernel
theorem dX3_sample_20 : decode cX3_sample 20 = .ok (.bipush (-2), 2) := by decide +kernel
theorem dX3_sample_22 : decode cX3_sample 22 = .ok (.ireturn, 1) := by decide +kernel
theorem dX3_sample_23 : decode cX3_sample 23 = .ok (.aload_n 0, 1) := by decide +kernel
theorem dX3_sample_24 : decode cX3_sample 24 = .ok (.getfield 10, 3) := by decide +kernel
theorem dX3_sample_27 : decode cX3_sample 27 = .ok (.invokevirtual 77, 3) := by decide +kernel
theorem dX3_sample_30 : decode cX3_sample 30 = .ok (.ifCond .ne 6, 3) := by decide +kernel
theorem dX3_sample_33 : decode cX3_sample 33 = .ok (.bipush (-5), 2) := by decide +kernel
theorem dX3_sample_35 : decode cX3_sample 35 = .ok (.ireturn, 1) := by decide +kernel
theorem dX3_sample_36 : decode cX3_sample 36 = .ok (.aload_n 0, 1) := by decide +kernel
theorem dX3_sample_37 : decode cX3_sample 37 = .ok (.getfield 29, 3) := by decide +kernel
theorem dX3_sample_40 : decode cX3_sample 40 = .ok (.aload_n 0, 1) := by decide +kernel
theorem dX3_sample_41 : decode cX3_sample 41 = .ok (.getfield 10, 3) := by decide +kernel
theorem dX3_sample_44 : decode cX3_sample 44 = .ok (.invokevirtual 54, 3) := by decide +kernel
theorem dX3_sample_47 : decode cX3_sample 47 = .ok (.aload_n 0, 1) := by decide +kernel
theorem dX3_sample_48 : decode cX3_sample 48 = .ok (.getfield 10, 3) := by decide +kernel
theorem dX3_sample_51 : decode cX3_sample 51 = .ok (.iload_n 1, 1) := by decide +kernel
theorem dX3_sample_52 : decode cX3_sample 52 = .ok (.iload_n 2, 1) := by decide +kernel
theorem dX3_sample_53 : decode cX3_sample 53 = .ok (.invokevirtual 127, 3) := by decide +kernel
theorem dX3_sample_56 : decode cX3_sample 56 = .ok (.ireturn, 1) := by decide +kernel
set_option maxRecDepth 20000 in
theorem ggX3_type_X2_append : GoodIn wsX3_type wsX2_append := goodIn_r _ [6, 7, 8, 19, 20, 21, 22, 23, 24, 25] (by decide +kernel) (by decide +kernel)
set_option maxRecDepth 20000 in
theorem gX3_type_X2_append : GoodIn wsX3_type (wsV RX3 130 RX2 yX2_append wsX2_append) := goodIn_app (goodIn_of _ (by decide +kernel)) ggX3_type_X2_append
set_option maxRecDepth 20000 in
theorem ggX3_type_X2_length : GoodIn wsX3_type wsX2_length := goodIn_r _ [12, 7, 19, 20, 21, 22, 23, 24, 25] (by decide +kernel) (by decide +kernel)
set_option maxRecDepth 20000 in
theorem gX3_type_X2_length : GoodIn wsX3_type (wsV RX3 134 RX2 yX2_length wsX2_length) := goodIn_app (goodIn_of _ (by decide +kernel)) ggX3_type_X2_length
theorem dX3_type_0 : decode cX3_type 0 = .ok (.aload_n 0, 1) := by decide +kernel
theorem dX3_type_1 : decode cX3_type 1 = .ok (.getfield 36, 3) := by decide +kernel
theorem dX3_type_4 : decode cX3_type 4 = .ok (.iload_n 1, 1) := by decide +kernel
theorem dX3_type_5 : decode cX3_type 5 = .ok (.invokevirtual 130, 3) := by decide +kernel
theorem dX3_type_8 : decode cX3_type 8 = .ok (.ifCond .ne 6, 3) := by decide +kernel
theorem dX3_type_11 : decode cX3_type 11 = .ok (.bipush (-3), 2) := by decide +kernel
theorem dX3_type_13 : decode cX3_type 13 = .ok (.ireturn, 1) := by decide +kernel
theorem dX3_type_14 : decode cX3_type 14 = .ok (.aload_n 0, 1) := by decide +kernel
theorem dX3_type_15 : decode cX3_type 15 = .ok (.getfield 36, 3) := by decide +kernel
theorem dX3_type_18 : decode cX3_type 18 = .ok (.invokevirtual 134, 3) := by decide +kernel
theorem dX3_type_21 : decode cX3_type 21 = .ok (.ireturn, 1) := by decide +kernel
set_option maxRecDepth 20000 in
theorem ggX3_clearText_X2_length : GoodIn wsX3_clearText wsX2_length := goodIn_r _ [6, 7, 18, 19, 20, 21, 22, 23, 24] (by decide +kernel) (by decide +kernel)
set_option maxRecDepth 20000 in
theorem gX3_clearText_X2_length : GoodIn wsX3_clearText (wsV RX3 134 RX2 yX2_length wsX2_length) := goodIn_app (goodIn_of _ (by decide +kernel)) ggX3_clearText_X2_length
set_option maxRecDepth 20000 in
theorem ggX3_clearText_X2_empty : GoodIn wsX3_clearText wsX2_empty := goodIn_r _ [11, 7, 18, 19, 20, 21, 22, 23, 24] (by decide +kernel) (by decide +kernel)
set_option maxRecDepth 20000 in
theorem gX3_clearText_X2_empty : GoodIn wsX3_clearText (wsV RX3 137 RX2 yX2_empty wsX2_empty) := goodIn_app (goodIn_of _ (by decide +kernel)) ggX3_clearText_X2_empty
theorem dX3_clearText_0 : decode cX3_clearText 0 = .ok (.aload_n 0, 1) := by decide +kernel
theorem dX3_clearText_1 : decode cX3_clearText 1 = .ok (.getfield 36, 3) := by decide +kernel
theorem dX3_clearText_4 : decode cX3_clearText 4 = .ok (.invokevirtual 134, 3) := by decide +kernel
theorem dX3_clearText_7 : decode cX3_clearText 7 = .ok (.istore_n 1, 1) := by decide +kernel
theorem dX3_clearText_8 : decode cX3_clearText 8 = .ok (.aload_n 0, 1) := by decide +kernel
theorem dX3_clearText_9 : decode cX3_clearText 9 = .ok (.getfield 36, 3) := by decide +kernel
theorem dX3_clearText_12 : decode cX3_clearText 12 = .ok (.invokevirtual 137, 3) := by decide +kernel
theorem dX3_clearText_15 : decode cX3_clearText 15 = .ok (.iload_n 1, 1) := by decide +kernel
theorem dX3_clearText_16 : decode cX3_clearText 16 = .ok (.ireturn, 1) := by decide +kernel
set_option maxRecDepth 20000 in
theorem ggX3_undo_X1_states : GoodIn wsX3_undo wsX1_states := goodIn_r _ [7, 8, 48, 49] (by decide +kernel) (by decide +kernel)
set_option maxRecDepth 20000 in
theorem gX3_undo_X1_states : GoodIn wsX3_undo (wsV RX3 140 RX1 yX1_states wsX1_states) := goodIn_app (goodIn_of _ (by decide +kernel)) ggX3_undo_X1_states
set_option maxRecDepth 20000 in
theorem ggX3_undo_X1_takeLatest : GoodIn wsX3_undo wsX1_takeLatest := goodIn_r _ [12, 8, 13, 14, 15, 6, 16, 17, 18, 19, 20, 21, 22, 23, 24, 25, 26, 27, 28, 29, 30, 31, 32, 33, 34, 35, 36, 37, 38, 39, 40, 41, 48, 49, 50, 51, 52, 53, 54, 55, 56, 57, 58, 59, 60, 61] (by decide +kernel) (by decide +kernel)
set_option maxRecDepth 20000 in
theorem gX3_undo_X1_takeLatest : GoodIn wsX3_undo (wsV RX3 143 RX1 yX1_takeLatest wsX1_takeLatest) := goodIn_app (goodIn_of _ (by decide +kernel)) ggX3_undo_X1_takeLatest
theorem dX3_undo_0 : decode cX3_undo 0 = .ok (.aload_n 0, 1) := by decide +kernel
theorem dX3_undo_1 : decode cX3_undo 1 = .ok (.getfield 29, 3) := by decide +kernel
theorem dX3_undo_4 : decode cX3_undo 4 = .ok (.invokevirtual 140, 3) := by decide +kernel
theorem dX3_undo_7 : decode cX3_undo 7 = .ok (.ifCond .ne 6, 3) := by decide +kernel
theorem dX3_undo_10 : decode cX3_undo 10 = .ok (.bipush (-5), 2) := by decide +kernel
theorem dX3_undo_12 : decode cX3_undo 12 = .ok (.ireturn, 1) := by decide +kernel
theorem dX3_undo_13 : decode cX3_undo 13 = .ok (.aload_n 0, 1) := by decide +kernel
theorem dX3_undo_14 : decode cX3_undo 14 = .ok (.getfield 29, 3) := by decide +kernel
theorem dX3_undo_17 : decode cX3_undo 17 = .ok (.aload_n 0, 1) := by decide +kernel
theorem dX3_undo_18 : decode cX3_undo 18 = .ok (.getfield 10, 3) := by decide +kernel
theorem dX3_undo_21 : decode cX3_undo 21 = .ok (.invokevirtual 143, 3) := by decide +kernel
theorem dX3_undo_24 : decode cX3_undo 24 = .ok (.aload_n 0, 1) := by decide +kernel
theorem dX3_undo_25 : decode cX3_undo 25 = .ok (.getfield 29, 3) := by decide +kernel
theorem dX3_undo_28 : decode cX3_undo 28 = .ok (.invokevirtual 140, 3) := by decide +kernel
theorem dX3_undo_31 : decode cX3_undo 31 = .ok (.ireturn, 1) := by decide +kernel
end
section
set_option maxRecDepth 20000 in
theorem ggX3_keep_X0_copyFrom : GoodIn wsX3_keep wsX0_copyFrom := goodIn_r _ [8, 9, 10, 11, 12, 13, 14, 15, 16, 17, 18, 19, 20, 21, 22, 23, 24, 42, 43, 44, 45, 46, 47, 48, 49, 50, 51, 52, 53] (by decide +kernel) (by decide +kernel)
set_option maxRecDepth 20000 in
theorem gX3_keep_X0_copyFrom : GoodIn wsX3_keep (wsV RX3 70 RX0 yX0_copyFrom wsX0_copyFrom) := goodIn_app (goodIn_of _ (by decide +kernel)) ggX3_keep_X0_copyFrom
set_option maxRecDepth 20000 in
theorem ggX3_keep_X0_wires : GoodIn wsX3_keep wsX0_wires := goodIn_r _ [28, 29, 30, 31, 7, 32, 14, 33, 34, 35, 42, 43, 44, 45, 46, 47, 48, 49, 50, 51, 52, 53] (by decide +kernel) (by decide +kernel)
set_option maxRecDepth 20000 in
theorem gX3_keep_X0_wires : GoodIn wsX3_keep (wsV RX3 77 RX0 yX0_wires wsX0_wires) := goodIn_app (goodIn_of _ (by decide +kernel)) ggX3_keep_X0_wires
theorem dX3_keep_0 : decode cX3_keep 0 = .ok (.aload_n 0, 1) := by decide +kernel
theorem dX3_keep_1 : decode cX3_keep 1 = .ok (.getfield 19, 3) := by decide +kernel
theorem dX3_keep_4 : decode cX3_keep 4 = .ok (.aload_n 0, 1) := by decide +kernel
theorem dX3_keep_5 : decode cX3_keep 5 = .ok (.getfield 10, 3) := by decide +kernel
theorem dX3_keep_8 : decode cX3_keep 8 = .ok (.invokevirtual 70, 3) := by decide +kernel
theorem dX3_keep_11 : decode cX3_keep 11 = .ok (.aload_n 0, 1) := by decide +kernel
theorem dX3_keep_12 : decode cX3_keep 12 = .ok (.iconst 1, 1) := by decide +kernel
theorem dX3_keep_13 : decode cX3_keep 13 = .ok (.putfield 22, 3) := by decide +kernel
theorem dX3_keep_16 : decode cX3_keep 16 = .ok (.aload_n 0, 1) := by decide +kernel
theorem dX3_keep_17 : decode cX3_keep 17 = .ok (.getfield 10, 3) := by decide +kernel
theorem dX3_keep_20 : decode cX3_keep 20 = .ok (.invokevirtual 77, 3) := by decide +kernel
theorem dX3_keep_23 : decode cX3_keep 23 = .ok (.ireturn, 1) := by decide +kernel
set_option maxRecDepth 20000 in
theorem ggX3_restore_X1_record : GoodIn wsX3_restore wsX1_record := goodIn_r _ [9, 10, 11, 12, 13, 8, 14, 15, 16, 17, 18, 19, 20, 21, 22, 23, 24, 25, 26, 27, 28, 29, 30, 31, 32, 33, 34, 35, 36, 37, 38, 39, 40, 41, 42, 43, 61, 62, 63, 64, 65, 66, 67, 68, 69, 70, 71, 72, 73, 74] (by decide +kernel) (by decide +kernel)
set_option maxRecDepth 20000 in
theorem gX3_restore_X1_record : GoodIn wsX3_restore (wsV RX3 54 RX1 yX1_record wsX1_record) := goodIn_app (goodIn_of _ (by decide +kernel)) ggX3_restore_X1_record
set_option maxRecDepth 20000 in
theorem ggX3_restore_X0_copyFrom : GoodIn wsX3_restore wsX0_copyFrom := goodIn_r _ [27, 28, 29, 30, 31, 32, 33, 34, 35, 36, 37, 38, 39, 40, 41, 42, 43, 63, 64, 65, 66, 67, 68, 69, 70, 71, 72, 73, 74] (by decide +kernel) (by decide +kernel)
set_option maxRecDepth 20000 in
theorem gX3_restore_X0_copyFrom : GoodIn wsX3_restore (wsV RX3 70 RX0 yX0_copyFrom wsX0_copyFrom) := goodIn_app (goodIn_of _ (by decide +kernel)) ggX3_restore_X0_copyFrom
set_option maxRecDepth 20000 in
theorem ggX3_restore_X0_wires : GoodIn wsX3_restore wsX0_wires := goodIn_r _ [48, 49, 50, 51, 26, 52, 33, 53, 21, 54, 63, 64, 65, 66, 67, 68, 69, 70, 71, 72, 73, 74] (by decide +kernel) (by decide +kernel)
set_option maxRecDepth 20000 in
theorem gX3_restore_X0_wires : GoodIn wsX3_restore (wsV RX3 77 RX0 yX0_wires wsX0_wires) := goodIn_app (goodIn_of _ (by decide +kernel)) ggX3_restore_X0_wires
theorem dX3_restore_0 : decode cX3_restore 0 = .ok (.aload_n 0, 1) := by decide +kernel
theorem dX3_restore_1 : decode cX3_restore 1 = .ok (.getfield 22, 3) := by decide +kernel
theorem dX3_restore_4 : decode cX3_restore 4 = .ok (.ifCond .ne 6, 3) := by decide +kernel
theorem dX3_restore_7 : decode cX3_restore 7 = .ok (.bipush (-5), 2) := by decide +kernel
theorem dX3_restore_9 : decode cX3_restore 9 = .ok (.ireturn, 1) := by decide +kernel
theorem dX3_restore_10 : decode cX3_restore 10 = .ok (.aload_n 0, 1) := by decide +kernel
theorem dX3_restore_11 : decode cX3_restore 11 = .ok (.getfield 29, 3) := by decide +kernel
theorem dX3_restore_14 : decode cX3_restore 14 = .ok (.aload_n 0, 1) := by decide +kernel
theorem dX3_restore_15 : decode cX3_restore 15 = .ok (.getfield 10, 3) := by decide +kernel
theorem dX3_restore_18 : decode cX3_restore 18 = .ok (.invokevirtual 54, 3) := by decide +kernel
theorem dX3_restore_21 : decode cX3_restore 21 = .ok (.aload_n 0, 1) := by decide +kernel
theorem dX3_restore_22 : decode cX3_restore 22 = .ok (.getfield 10, 3) := by decide +kernel
theorem dX3_restore_25 : decode cX3_restore 25 = .ok (.aload_n 0, 1) := by decide +kernel
theorem dX3_restore_26 : decode cX3_restore 26 = .ok (.getfield 19, 3) := by decide +kernel
theorem dX3_restore_29 : decode cX3_restore 29 = .ok (.invokevirtual 70, 3) := by decide +kernel
theorem dX3_restore_32 : decode cX3_restore 32 = .ok (.aload_n 0, 1) := by decide +kernel
theorem dX3_restore_33 : decode cX3_restore 33 = .ok (.getfield 10, 3) := by decide +kernel
theorem dX3_restore_36 : decode cX3_restore 36 = .ok (.invokevirtual 77, 3) := by decide +kernel
theorem dX3_restore_39 : decode cX3_restore 39 = .ok (.ireturn, 1) := by decide +kernel
set_option maxRecDepth 20000 in
theorem ggX3_wire_X0_hasWire : GoodIn wsX3_wire wsX0_hasWire := goodIn_r _ [6, 7, 8, 9, 10, 84, 85, 86, 87, 88, 89, 90, 91, 92, 93, 94, 95] (by decide +kernel) (by decide +kernel)
set_option maxRecDepth 20000 in
theorem gX3_wire_X0_hasWire : GoodIn wsX3_wire (wsV RX3 80 RX0 yX0_hasWire wsX0_hasWire) := goodIn_app (goodIn_of _ (by decide +kernel)) ggX3_wire_X0_hasWire
set_option maxRecDepth 20000 in
theorem ggX3_wire_X0_leadAtPad : GoodIn wsX3_wire wsX0_leadAtPad := goodIn_r _ [14, 7, 8, 9, 10, 84, 85, 86, 87, 88, 89, 90, 91, 92, 93, 94, 95] (by decide +kernel) (by decide +kernel)
set_option maxRecDepth 20000 in
theorem gX3_wire_X0_leadAtPad : GoodIn wsX3_wire (wsV RX3 146 RX0 yX0_leadAtPad wsX0_leadAtPad) := goodIn_app (goodIn_of _ (by decide +kernel)) ggX3_wire_X0_leadAtPad
set_option maxRecDepth 20000 in
theorem ggX3_wire_X0_heightOf : GoodIn wsX3_wire wsX0_heightOf := goodIn_r _ [18, 19, 8, 9, 10, 84, 85, 86, 87, 88, 89, 90, 91, 92, 93, 94, 95] (by decide +kernel) (by decide +kernel)
set_option maxRecDepth 20000 in
theorem gX3_wire_X0_heightOf : GoodIn wsX3_wire (wsV RX3 87 RX0 yX0_heightOf wsX0_heightOf) := goodIn_app (goodIn_of _ (by decide +kernel)) ggX3_wire_X0_heightOf
set_option maxRecDepth 20000 in
theorem ggX3_wire_X0_strengthOf : GoodIn wsX3_wire wsX0_strengthOf := goodIn_r _ [23, 24, 8, 9, 10, 84, 85, 86, 87, 88, 89, 90, 91, 92, 93, 94, 95] (by decide +kernel) (by decide +kernel)
set_option maxRecDepth 20000 in
theorem gX3_wire_X0_strengthOf : GoodIn wsX3_wire (wsV RX3 62 RX0 yX0_strengthOf wsX0_strengthOf) := goodIn_app (goodIn_of _ (by decide +kernel)) ggX3_wire_X0_strengthOf
set_option maxRecDepth 20000 in
theorem ggX3_wire_X0_crossingsOf : GoodIn wsX3_wire wsX0_crossingsOf := goodIn_r _ [28, 29, 30, 31, 5, 32, 33, 3, 4, 6, 7, 8, 9, 10, 34, 35, 36, 37, 38, 84, 85, 86, 87, 88, 89, 90, 91, 92, 93, 94, 95] (by decide +kernel) (by decide +kernel)
set_option maxRecDepth 20000 in
theorem gX3_wire_X0_crossingsOf : GoodIn wsX3_wire (wsV RX3 149 RX0 yX0_crossingsOf wsX0_crossingsOf) := goodIn_app (goodIn_of _ (by decide +kernel)) ggX3_wire_X0_crossingsOf
set_option maxRecDepth 20000 in
theorem ggX3_wire_X0_shortOnes : GoodIn wsX3_wire wsX0_shortOnes := goodIn_r _ [42, 43, 44, 45, 5, 46, 47, 29, 30, 31, 32, 33, 3, 4, 6, 7, 8, 9, 10, 34, 35, 36, 37, 38, 48, 49, 50, 51, 52, 53, 54, 55, 56, 57, 58, 59, 60, 61, 62, 63, 64, 65, 16, 17, 18, 19, 84, 85, 86, 87, 88, 89, 90, 91, 92, 93, 94, 95] (by decide +kernel) (by decide +kernel)
set_option maxRecDepth 20000 in
theorem gX3_wire_X0_shortOnes : GoodIn wsX3_wire (wsV RX3 152 RX0 yX0_shortOnes wsX0_shortOnes) := goodIn_app (goodIn_of _ (by decide +kernel)) ggX3_wire_X0_shortOnes
set_option maxRecDepth 20000 in
theorem ggX3_wire_X0_leastGap : GoodIn wsX3_wire wsX0_leastGap := goodIn_r _ [69, 70, 71, 54, 72, 29, 30, 31, 5, 32, 33, 3, 4, 6, 7, 8, 9, 10, 34, 35, 36, 37, 38, 65, 16, 17, 18, 19, 48, 49, 50, 51, 52, 53, 55, 56, 57, 58, 59, 60, 61, 62, 63, 64, 84, 85, 86, 87, 88, 89, 90, 91, 92, 93, 94, 95] (by decide +kernel) (by decide +kernel)
set_option maxRecDepth 20000 in
theorem gX3_wire_X0_leastGap : GoodIn wsX3_wire (wsV RX3 155 RX0 yX0_leastGap wsX0_leastGap) := goodIn_app (goodIn_of _ (by decide +kernel)) ggX3_wire_X0_leastGap
set_option maxRecDepth 20000 in
theorem ggX3_wire_X0_numberOf : GoodIn wsX3_wire wsX0_numberOf := goodIn_r _ [76, 77, 8, 9, 10, 84, 85, 86, 87, 88, 89, 90, 91, 92, 93, 94, 95] (by decide +kernel) (by decide +kernel)
set_option maxRecDepth 20000 in
theorem gX3_wire_X0_numberOf : GoodIn wsX3_wire (wsV RX3 158 RX0 yX0_numberOf wsX0_numberOf) := goodIn_app (goodIn_of _ (by decide +kernel)) ggX3_wire_X0_numberOf
theorem dX3_wire_0 : decode cX3_wire 0 = .ok (.aload_n 0, 1) := by decide +kernel
theorem dX3_wire_1 : decode cX3_wire 1 = .ok (.getfield 10, 3) := by decide +kernel
theorem dX3_wire_4 : decode cX3_wire 4 = .ok (.iload_n 1, 1) := by decide +kernel
theorem dX3_wire_5 : decode cX3_wire 5 = .ok (.invokevirtual 80, 3) := by decide +kernel
theorem dX3_wire_8 : decode cX3_wire 8 = .ok (.ifCond .ne 5, 3) := by decide +kernel
theorem dX3_wire_11 : decode cX3_wire 11 = .ok (.iconst (-1), 1) := by decide +kernel
theorem dX3_wire_12 : decode cX3_wire 12 = .ok (.ireturn, 1) := by decide +kernel
theorem dX3_wire_13 : decode cX3_wire 13 = .ok (.iload_n 2, 1) := by decide +kernel
theorem dX3_wire_14 : decode cX3_wire 14 = .ok (.tableswitch 113 0 6 #[42, 51, 60, 69, 78, 95, 104], 42) := by decide +kernel
theorem dX3_wire_56 : decode cX3_wire 56 = .ok (.aload_n 0, 1) := by decide +kernel
theorem dX3_wire_57 : decode cX3_wire 57 = .ok (.getfield 10, 3) := by decide +kernel
theorem dX3_wire_60 : decode cX3_wire 60 = .ok (.iload_n 1, 1) := by decide +kernel
theorem dX3_wire_61 : decode cX3_wire 61 = .ok (.invokevirtual 146, 3) := by decide +kernel
theorem dX3_wire_64 : decode cX3_wire 64 = .ok (.ireturn, 1) := by decide +kernel
theorem dX3_wire_65 : decode cX3_wire 65 = .ok (.aload_n 0, 1) := by decide +kernel
theorem dX3_wire_66 : decode cX3_wire 66 = .ok (.getfield 10, 3) := by decide +kernel
theorem dX3_wire_69 : decode cX3_wire 69 = .ok (.iload_n 1, 1) := by decide +kernel
theorem dX3_wire_70 : decode cX3_wire 70 = .ok (.invokevirtual 87, 3) := by decide +kernel
theorem dX3_wire_73 : decode cX3_wire 73 = .ok (.ireturn, 1) := by decide +kernel
theorem dX3_wire_74 : decode cX3_wire 74 = .ok (.aload_n 0, 1) := by decide +kernel
theorem dX3_wire_75 : decode cX3_wire 75 = .ok (.getfield 10, 3) := by decide +kernel
theorem dX3_wire_78 : decode cX3_wire 78 = .ok (.iload_n 1, 1) := by decide +kernel
theorem dX3_wire_79 : decode cX3_wire 79 = .ok (.invokevirtual 62, 3) := by decide +kernel
theorem dX3_wire_82 : decode cX3_wire 82 = .ok (.ireturn, 1) := by decide +kernel
theorem dX3_wire_83 : decode cX3_wire 83 = .ok (.aload_n 0, 1) := by decide +kernel
theorem dX3_wire_84 : decode cX3_wire 84 = .ok (.getfield 10, 3) := by decide +kernel
theorem dX3_wire_87 : decode cX3_wire 87 = .ok (.iload_n 1, 1) := by decide +kernel
theorem dX3_wire_88 : decode cX3_wire 88 = .ok (.invokevirtual 149, 3) := by decide +kernel
theorem dX3_wire_91 : decode cX3_wire 91 = .ok (.ireturn, 1) := by decide +kernel
theorem dX3_wire_92 : decode cX3_wire 92 = .ok (.aload_n 0, 1) := by decide +kernel
theorem dX3_wire_93 : decode cX3_wire 93 = .ok (.getfield 10, 3) := by decide +kernel
theorem dX3_wire_96 : decode cX3_wire 96 = .ok (.iload_n 1, 1) := by decide +kernel
theorem dX3_wire_97 : decode cX3_wire 97 = .ok (.aload_n 0, 1) := by decide +kernel
theorem dX3_wire_98 : decode cX3_wire 98 = .ok (.getfield 10, 3) := by decide +kernel
theorem dX3_wire_101 : decode cX3_wire 101 = .ok (.iload_n 1, 1) := by decide +kernel
theorem dX3_wire_102 : decode cX3_wire 102 = .ok (.invokevirtual 87, 3) := by decide +kernel
theorem dX3_wire_105 : decode cX3_wire 105 = .ok (.invokevirtual 152, 3) := by decide +kernel
theorem dX3_wire_108 : decode cX3_wire 108 = .ok (.ireturn, 1) := by decide +kernel
theorem dX3_wire_109 : decode cX3_wire 109 = .ok (.aload_n 0, 1) := by decide +kernel
theorem dX3_wire_110 : decode cX3_wire 110 = .ok (.getfield 10, 3) := by decide +kernel
theorem dX3_wire_113 : decode cX3_wire 113 = .ok (.iload_n 1, 1) := by decide +kernel
theorem dX3_wire_114 : decode cX3_wire 114 = .ok (.invokevirtual 155, 3) := by decide +kernel
theorem dX3_wire_117 : decode cX3_wire 117 = .ok (.ireturn, 1) := by decide +kernel
theorem dX3_wire_118 : decode cX3_wire 118 = .ok (.aload_n 0, 1) := by decide +kernel
theorem dX3_wire_119 : decode cX3_wire 119 = .ok (.getfield 10, 3) := by decide +kernel
theorem dX3_wire_122 : decode cX3_wire 122 = .ok (.iload_n 1, 1) := by decide +kernel
theorem dX3_wire_123 : decode cX3_wire 123 = .ok (.invokevirtual 158, 3) := by decide +kernel
theorem dX3_wire_126 : decode cX3_wire 126 = .ok (.ireturn, 1) := by decide +kernel
theorem dX3_wire_127 : decode cX3_wire 127 = .ok (.bipush (-2), 2) := by decide +kernel
theorem dX3_wire_129 : decode cX3_wire 129 = .ok (.ireturn, 1) := by decide +kernel
set_option maxRecDepth 20000 in
theorem ggX3_heightAt_X0_hasWire : GoodIn wsX3_heightAt wsX0_hasWire := goodIn_r _ [6, 7, 8, 9, 10, 29, 30, 31, 32, 33, 34, 35, 36, 37, 38, 39, 40] (by decide +kernel) (by decide +kernel)
set_option maxRecDepth 20000 in
theorem gX3_heightAt_X0_hasWire : GoodIn wsX3_heightAt (wsV RX3 80 RX0 yX0_hasWire wsX0_hasWire) := goodIn_app (goodIn_of _ (by decide +kernel)) ggX3_heightAt_X0_hasWire
set_option maxRecDepth 20000 in
theorem ggX3_heightAt_X3_isWithin : GoodIn wsX3_heightAt wsX3_isWithin := goodIn_r _ [13] (by decide +kernel) (by decide +kernel)
set_option maxRecDepth 20000 in
theorem gX3_heightAt_X3_isWithin : GoodIn wsX3_heightAt (va_wsS RX3 94 yX3_isWithin wsX3_isWithin) := goodIn_app (goodIn_of _ (by decide +kernel)) ggX3_heightAt_X3_isWithin
set_option maxRecDepth 20000 in
theorem ggX3_heightAt_X0_heightOf : GoodIn wsX3_heightAt wsX0_heightOf := goodIn_r _ [17, 18, 8, 9, 10, 29, 30, 31, 32, 33, 34, 35, 36, 37, 38, 39, 40] (by decide +kernel) (by decide +kernel)
set_option maxRecDepth 20000 in
theorem gX3_heightAt_X0_heightOf : GoodIn wsX3_heightAt (wsV RX3 87 RX0 yX0_heightOf wsX0_heightOf) := goodIn_app (goodIn_of _ (by decide +kernel)) ggX3_heightAt_X0_heightOf
set_option maxRecDepth 20000 in
theorem ggX3_heightAt_X3_loopAt : GoodIn wsX3_heightAt wsX3_loopAt := goodIn_r _ [21, 22] (by decide +kernel) (by decide +kernel)
set_option maxRecDepth 20000 in
theorem gX3_heightAt_X3_loopAt : GoodIn wsX3_heightAt (va_wsS RX3 161 yX3_loopAt wsX3_loopAt) := goodIn_app (goodIn_of _ (by decide +kernel)) ggX3_heightAt_X3_loopAt
theorem dX3_heightAt_0 : decode cX3_heightAt 0 = .ok (.aload_n 0, 1) := by decide +kernel
theorem dX3_heightAt_1 : decode cX3_heightAt 1 = .ok (.getfield 10, 3) := by decide +kernel
theorem dX3_heightAt_4 : decode cX3_heightAt 4 = .ok (.iload_n 1, 1) := by decide +kernel
theorem dX3_heightAt_5 : decode cX3_heightAt 5 = .ok (.invokevirtual 80, 3) := by decide +kernel
theorem dX3_heightAt_8 : decode cX3_heightAt 8 = .ok (.ifCond .ne 5, 3) := by decide +kernel
theorem dX3_heightAt_11 : decode cX3_heightAt 11 = .ok (.iconst (-1), 1) := by decide +kernel
theorem dX3_heightAt_12 : decode cX3_heightAt 12 = .ok (.ireturn, 1) := by decide +kernel
theorem dX3_heightAt_13 : decode cX3_heightAt 13 = .ok (.iload_n 2, 1) := by decide +kernel
theorem dX3_heightAt_14 : decode cX3_heightAt 14 = .ok (.iconst 0, 1) := by decide +kernel
theorem dX3_heightAt_15 : decode cX3_heightAt 15 = .ok (.sipush 200, 3) := by decide +kernel
theorem dX3_heightAt_18 : decode cX3_heightAt 18 = .ok (.invokestatic 94, 3) := by decide +kernel
theorem dX3_heightAt_21 : decode cX3_heightAt 21 = .ok (.ifCond .ne 6, 3) := by decide +kernel
theorem dX3_heightAt_24 : decode cX3_heightAt 24 = .ok (.bipush (-2), 2) := by decide +kernel
theorem dX3_heightAt_26 : decode cX3_heightAt 26 = .ok (.ireturn, 1) := by decide +kernel
theorem dX3_heightAt_27 : decode cX3_heightAt 27 = .ok (.aload_n 0, 1) := by decide +kernel
theorem dX3_heightAt_28 : decode cX3_heightAt 28 = .ok (.getfield 10, 3) := by decide +kernel
theorem dX3_heightAt_31 : decode cX3_heightAt 31 = .ok (.iload_n 1, 1) := by decide +kernel
theorem dX3_heightAt_32 : decode cX3_heightAt 32 = .ok (.invokevirtual 87, 3) := by decide +kernel
theorem dX3_heightAt_35 : decode cX3_heightAt 35 = .ok (.iload_n 2, 1) := by decide +kernel
theorem dX3_heightAt_36 : decode cX3_heightAt 36 = .ok (.invokestatic 161, 3) := by decide +kernel
theorem dX3_heightAt_39 : decode cX3_heightAt 39 = .ok (.ireturn, 1) := by decide +kernel
set_option maxRecDepth 20000 in
theorem ggX3_crossing_X0_hasWire : GoodIn wsX3_crossing wsX0_hasWire := goodIn_r _ [6, 7, 8, 9, 10, 61, 62, 63, 64, 65, 66, 67, 68, 69, 70, 71, 72] (by decide +kernel) (by decide +kernel)
set_option maxRecDepth 20000 in
theorem gX3_crossing_X0_hasWire : GoodIn wsX3_crossing (wsV RX3 80 RX0 yX0_hasWire wsX0_hasWire) := goodIn_app (goodIn_of _ (by decide +kernel)) ggX3_crossing_X0_hasWire
set_option maxRecDepth 20000 in
theorem ggX3_crossing_X3_isWithin : GoodIn wsX3_crossing wsX3_isWithin := goodIn_r _ [13] (by decide +kernel) (by decide +kernel)
set_option maxRecDepth 20000 in
theorem gX3_crossing_X3_isWithin : GoodIn wsX3_crossing (va_wsS RX3 94 yX3_isWithin wsX3_isWithin) := goodIn_app (goodIn_of _ (by decide +kernel)) ggX3_crossing_X3_isWithin
set_option maxRecDepth 20000 in
theorem ggX3_crossing_X0_cross : GoodIn wsX3_crossing wsX0_cross := goodIn_r _ [17, 18, 3, 4, 5, 6, 7, 8, 9, 10, 19, 20, 21, 22, 23, 61, 62, 63, 64, 65, 66, 67, 68, 69, 70, 71, 72] (by decide +kernel) (by decide +kernel)
set_option maxRecDepth 20000 in
theorem gX3_crossing_X0_cross : GoodIn wsX3_crossing (wsV RX3 164 RX0 yX0_cross wsX0_cross) := goodIn_app (goodIn_of _ (by decide +kernel)) ggX3_crossing_X0_cross
set_option maxRecDepth 20000 in
theorem ggX3_crossing_X0_crossingY : GoodIn wsX3_crossing wsX0_crossingY := goodIn_r _ [27, 28, 29, 30, 31, 32, 9, 33, 19, 20, 21, 5, 22, 7, 23, 61, 62, 63, 64, 65, 66, 67, 68, 69, 70, 71, 72] (by decide +kernel) (by decide +kernel)
set_option maxRecDepth 20000 in
theorem gX3_crossing_X0_crossingY : GoodIn wsX3_crossing (wsV RX3 167 RX0 yX0_crossingY wsX0_crossingY) := goodIn_app (goodIn_of _ (by decide +kernel)) ggX3_crossing_X0_crossingY
set_option maxRecDepth 20000 in
theorem ggX3_crossing_X0_heightOf : GoodIn wsX3_crossing wsX0_heightOf := goodIn_r _ [37, 38, 8, 9, 10, 61, 62, 63, 64, 65, 66, 67, 68, 69, 70, 71, 72] (by decide +kernel) (by decide +kernel)
set_option maxRecDepth 20000 in
theorem gX3_crossing_X0_heightOf : GoodIn wsX3_crossing (wsV RX3 87 RX0 yX0_heightOf wsX0_heightOf) := goodIn_app (goodIn_of _ (by decide +kernel)) ggX3_crossing_X0_heightOf
set_option maxRecDepth 20000 in
theorem ggX3_crossing_X0_gap : GoodIn wsX3_crossing wsX0_gap := goodIn_r _ [42, 28, 29, 30, 31, 43, 25, 26, 5, 27, 32, 9, 33, 19, 20, 21, 22, 7, 23, 44, 45, 46, 47, 35, 36, 37, 38, 8, 10, 61, 62, 63, 64, 65, 66, 67, 68, 69, 70, 71, 72] (by decide +kernel) (by decide +kernel)
set_option maxRecDepth 20000 in
theorem gX3_crossing_X0_gap : GoodIn wsX3_crossing (wsV RX3 170 RX0 yX0_gap wsX0_gap) := goodIn_app (goodIn_of _ (by decide +kernel)) ggX3_crossing_X0_gap
set_option maxRecDepth 20000 in
theorem ggX3_crossing_X0_isShort : GoodIn wsX3_crossing wsX0_isShort := goodIn_r _ [51, 52, 53, 15, 16, 5, 17, 18, 3, 4, 6, 7, 8, 9, 10, 19, 20, 21, 22, 23, 54, 40, 41, 42, 28, 29, 30, 31, 43, 25, 26, 27, 32, 33, 44, 45, 46, 47, 35, 36, 37, 38, 61, 62, 63, 64, 65, 66, 67, 68, 69, 70, 71, 72] (by decide +kernel) (by decide +kernel)
set_option maxRecDepth 20000 in
theorem gX3_crossing_X0_isShort : GoodIn wsX3_crossing (wsV RX3 174 RX0 yX0_isShort wsX0_isShort) := goodIn_app (goodIn_of _ (by decide +kernel)) ggX3_crossing_X0_isShort
theorem dX3_crossing_0 : decode cX3_crossing 0 = .ok (.aload_n 0, 1) := by decide +kernel
theorem dX3_crossing_1 : decode cX3_crossing 1 = .ok (.getfield 10, 3) := by decide +kernel
theorem dX3_crossing_4 : decode cX3_crossing 4 = .ok (.iload_n 1, 1) := by decide +kernel
theorem dX3_crossing_5 : decode cX3_crossing 5 = .ok (.invokevirtual 80, 3) := by decide +kernel
theorem dX3_crossing_8 : decode cX3_crossing 8 = .ok (.ifCond .eq 14, 3) := by decide +kernel
theorem dX3_crossing_11 : decode cX3_crossing 11 = .ok (.aload_n 0, 1) := by decide +kernel
theorem dX3_crossing_12 : decode cX3_crossing 12 = .ok (.getfield 10, 3) := by decide +kernel
theorem dX3_crossing_15 : decode cX3_crossing 15 = .ok (.iload_n 2, 1) := by decide +kernel
theorem dX3_crossing_16 : decode cX3_crossing 16 = .ok (.invokevirtual 80, 3) := by decide +kernel
theorem dX3_crossing_19 : decode cX3_crossing 19 = .ok (.ifCond .ne 5, 3) := by decide +kernel
theorem dX3_crossing_22 : decode cX3_crossing 22 = .ok (.iconst (-1), 1) := by decide +kernel
theorem dX3_crossing_23 : decode cX3_crossing 23 = .ok (.ireturn, 1) := by decide +kernel
theorem dX3_crossing_24 : decode cX3_crossing 24 = .ok (.iload_n 3, 1) := by decide +kernel
theorem dX3_crossing_25 : decode cX3_crossing 25 = .ok (.iconst 0, 1) := by decide +kernel
theorem dX3_crossing_26 : decode cX3_crossing 26 = .ok (.iconst 2, 1) := by decide +kernel
theorem dX3_crossing_27 : decode cX3_crossing 27 = .ok (.invokestatic 94, 3) := by decide +kernel
theorem dX3_crossing_30 : decode cX3_crossing 30 = .ok (.ifCond .ne 6, 3) := by decide +kernel
theorem dX3_crossing_33 : decode cX3_crossing 33 = .ok (.bipush (-2), 2) := by decide +kernel
theorem dX3_crossing_35 : decode cX3_crossing 35 = .ok (.ireturn, 1) := by decide +kernel
theorem dX3_crossing_36 : decode cX3_crossing 36 = .ok (.aload_n 0, 1) := by decide +kernel
theorem dX3_crossing_37 : decode cX3_crossing 37 = .ok (.getfield 10, 3) := by decide +kernel
theorem dX3_crossing_40 : decode cX3_crossing 40 = .ok (.iload_n 1, 1) := by decide +kernel
theorem dX3_crossing_41 : decode cX3_crossing 41 = .ok (.iload_n 2, 1) := by decide +kernel
theorem dX3_crossing_42 : decode cX3_crossing 42 = .ok (.invokevirtual 164, 3) := by decide +kernel
theorem dX3_crossing_45 : decode cX3_crossing 45 = .ok (.ifCond .ne 6, 3) := by decide +kernel
theorem dX3_crossing_48 : decode cX3_crossing 48 = .ok (.bipush (-5), 2) := by decide +kernel
theorem dX3_crossing_50 : decode cX3_crossing 50 = .ok (.ireturn, 1) := by decide +kernel
theorem dX3_crossing_51 : decode cX3_crossing 51 = .ok (.iload_n 3, 1) := by decide +kernel
theorem dX3_crossing_52 : decode cX3_crossing 52 = .ok (.lookupswitch 56 #[(0, 28), (1, 38)], 28) := by decide +kernel
theorem dX3_crossing_80 : decode cX3_crossing 80 = .ok (.aload_n 0, 1) := by decide +kernel
theorem dX3_crossing_81 : decode cX3_crossing 81 = .ok (.getfield 10, 3) := by decide +kernel
theorem dX3_crossing_84 : decode cX3_crossing 84 = .ok (.iload_n 1, 1) := by decide +kernel
theorem dX3_crossing_85 : decode cX3_crossing 85 = .ok (.iload_n 2, 1) := by decide +kernel
theorem dX3_crossing_86 : decode cX3_crossing 86 = .ok (.invokevirtual 167, 3) := by decide +kernel
theorem dX3_crossing_89 : decode cX3_crossing 89 = .ok (.ireturn, 1) := by decide +kernel
theorem dX3_crossing_90 : decode cX3_crossing 90 = .ok (.aload_n 0, 1) := by decide +kernel
theorem dX3_crossing_91 : decode cX3_crossing 91 = .ok (.getfield 10, 3) := by decide +kernel
theorem dX3_crossing_94 : decode cX3_crossing 94 = .ok (.iload_n 1, 1) := by decide +kernel
theorem dX3_crossing_95 : decode cX3_crossing 95 = .ok (.aload_n 0, 1) := by decide +kernel
theorem dX3_crossing_96 : decode cX3_crossing 96 = .ok (.getfield 10, 3) := by decide +kernel
theorem dX3_crossing_99 : decode cX3_crossing 99 = .ok (.iload_n 1, 1) := by decide +kernel
theorem dX3_crossing_100 : decode cX3_crossing 100 = .ok (.invokevirtual 87, 3) := by decide +kernel
theorem dX3_crossing_103 : decode cX3_crossing 103 = .ok (.iload_n 2, 1) := by decide +kernel
theorem dX3_crossing_104 : decode cX3_crossing 104 = .ok (.invokevirtual 170, 3) := by decide +kernel
theorem dX3_crossing_107 : decode cX3_crossing 107 = .ok (.ireturn, 1) := by decide +kernel
theorem dX3_crossing_108 : decode cX3_crossing 108 = .ok (.aload_n 0, 1) := by decide +kernel
theorem dX3_crossing_109 : decode cX3_crossing 109 = .ok (.getfield 10, 3) := by decide +kernel
theorem dX3_crossing_112 : decode cX3_crossing 112 = .ok (.iload_n 1, 1) := by decide +kernel
theorem dX3_crossing_113 : decode cX3_crossing 113 = .ok (.aload_n 0, 1) := by decide +kernel
theorem dX3_crossing_114 : decode cX3_crossing 114 = .ok (.getfield 10, 3) := by decide +kernel
theorem dX3_crossing_117 : decode cX3_crossing 117 = .ok (.iload_n 1, 1) := by decide +kernel
theorem dX3_crossing_118 : decode cX3_crossing 118 = .ok (.invokevirtual 87, 3) := by decide +kernel
theorem dX3_crossing_121 : decode cX3_crossing 121 = .ok (.iload_n 2, 1) := by decide +kernel
theorem dX3_crossing_122 : decode cX3_crossing 122 = .ok (.invokevirtual 174, 3) := by decide +kernel
theorem dX3_crossing_125 : decode cX3_crossing 125 = .ok (.ifCond .eq 7, 3) := by decide +kernel
theorem dX3_crossing_128 : decode cX3_crossing 128 = .ok (.iconst 1, 1) := by decide +kernel
theorem dX3_crossing_129 : decode cX3_crossing 129 = .ok (.goto 4, 3) := by decide +kernel
theorem dX3_crossing_132 : decode cX3_crossing 132 = .ok (.iconst 0, 1) := by decide +kernel
theorem dX3_crossing_133 : decode cX3_crossing 133 = .ok (.ireturn, 1) := by decide +kernel
set_option maxRecDepth 20000 in
theorem ggX3_lead_X3_isLead : GoodIn wsX3_lead wsX3_isLead := goodIn_r _ [5] (by decide +kernel) (by decide +kernel)
set_option maxRecDepth 20000 in
theorem gX3_lead_X3_isLead : GoodIn wsX3_lead (va_wsS RX3 44 yX3_isLead wsX3_isLead) := goodIn_app (goodIn_of _ (by decide +kernel)) ggX3_lead_X3_isLead
set_option maxRecDepth 20000 in
theorem ggX3_lead_X0_xOfLead : GoodIn wsX3_lead wsX0_xOfLead := goodIn_r _ [10, 11, 3, 4, 5, 29, 30, 31, 32, 33, 34, 35, 36, 37, 38, 39, 40] (by decide +kernel) (by decide +kernel)
set_option maxRecDepth 20000 in
theorem gX3_lead_X0_xOfLead : GoodIn wsX3_lead (wsV RX3 101 RX0 yX0_xOfLead wsX0_xOfLead) := goodIn_app (goodIn_of _ (by decide +kernel)) ggX3_lead_X0_xOfLead
set_option maxRecDepth 20000 in
theorem ggX3_lead_X0_padAtLead : GoodIn wsX3_lead wsX0_padAtLead := goodIn_r _ [15, 16, 17, 18, 19, 9, 20, 21, 4, 22, 29, 30, 31, 32, 33, 34, 35, 36, 37, 38, 39, 40] (by decide +kernel) (by decide +kernel)
set_option maxRecDepth 20000 in
theorem gX3_lead_X0_padAtLead : GoodIn wsX3_lead (wsV RX3 98 RX0 yX0_padAtLead wsX0_padAtLead) := goodIn_app (goodIn_of _ (by decide +kernel)) ggX3_lead_X0_padAtLead
theorem dX3_lead_0 : decode cX3_lead 0 = .ok (.iload_n 1, 1) := by decide +kernel
theorem dX3_lead_1 : decode cX3_lead 1 = .ok (.invokestatic 44, 3) := by decide +kernel
theorem dX3_lead_4 : decode cX3_lead 4 = .ok (.ifCond .ne 5, 3) := by decide +kernel
theorem dX3_lead_7 : decode cX3_lead 7 = .ok (.iconst (-1), 1) := by decide +kernel
theorem dX3_lead_8 : decode cX3_lead 8 = .ok (.ireturn, 1) := by decide +kernel
theorem dX3_lead_9 : decode cX3_lead 9 = .ok (.iload_n 2, 1) := by decide +kernel
theorem dX3_lead_10 : decode cX3_lead 10 = .ok (.lookupswitch 44 #[(0, 26), (1, 35)], 26) := by decide +kernel
theorem dX3_lead_36 : decode cX3_lead 36 = .ok (.aload_n 0, 1) := by decide +kernel
theorem dX3_lead_37 : decode cX3_lead 37 = .ok (.getfield 10, 3) := by decide +kernel
theorem dX3_lead_40 : decode cX3_lead 40 = .ok (.iload_n 1, 1) := by decide +kernel
theorem dX3_lead_41 : decode cX3_lead 41 = .ok (.invokevirtual 101, 3) := by decide +kernel
theorem dX3_lead_44 : decode cX3_lead 44 = .ok (.ireturn, 1) := by decide +kernel
theorem dX3_lead_45 : decode cX3_lead 45 = .ok (.aload_n 0, 1) := by decide +kernel
theorem dX3_lead_46 : decode cX3_lead 46 = .ok (.getfield 10, 3) := by decide +kernel
theorem dX3_lead_49 : decode cX3_lead 49 = .ok (.iload_n 1, 1) := by decide +kernel
theorem dX3_lead_50 : decode cX3_lead 50 = .ok (.invokevirtual 98, 3) := by decide +kernel
theorem dX3_lead_53 : decode cX3_lead 53 = .ok (.ireturn, 1) := by decide +kernel
theorem dX3_lead_54 : decode cX3_lead 54 = .ok (.bipush (-2), 2) := by decide +kernel
theorem dX3_lead_56 : decode cX3_lead 56 = .ok (.ireturn, 1) := by decide +kernel
set_option maxRecDepth 20000 in
theorem ggX3_bestHeight_X0_hasWire : GoodIn wsX3_bestHeight wsX0_hasWire := goodIn_r _ [6, 7, 8, 9, 10, 66, 67, 68, 69, 70, 71, 72, 73, 74, 75, 76, 77] (by decide +kernel) (by decide +kernel)
set_option maxRecDepth 20000 in
theorem gX3_bestHeight_X0_hasWire : GoodIn wsX3_bestHeight (wsV RX3 80 RX0 yX0_hasWire wsX0_hasWire) := goodIn_app (goodIn_of _ (by decide +kernel)) ggX3_bestHeight_X0_hasWire
set_option maxRecDepth 20000 in
theorem ggX3_bestHeight_X3_isWithin : GoodIn wsX3_bestHeight wsX3_isWithin := goodIn_r _ [13] (by decide +kernel) (by decide +kernel)
set_option maxRecDepth 20000 in
theorem gX3_bestHeight_X3_isWithin : GoodIn wsX3_bestHeight (va_wsS RX3 94 yX3_isWithin wsX3_isWithin) := goodIn_app (goodIn_of _ (by decide +kernel)) ggX3_bestHeight_X3_isWithin
set_option maxRecDepth 20000 in
theorem ggX3_bestHeight_X0_clearestHeight : GoodIn wsX3_bestHeight wsX0_clearestHeight := goodIn_r _ [17, 18, 19, 20, 5, 21, 22, 23, 24, 25, 26, 27, 28, 29, 30, 31, 3, 4, 6, 7, 8, 9, 10, 32, 33, 34, 35, 36, 37, 38, 39, 40, 41, 42, 43, 44, 45, 46, 47, 48, 49, 50, 51, 52, 53, 54, 55, 56, 57, 58, 66, 67, 68, 69, 70, 71, 72, 73, 74, 75, 76, 77] (by decide +kernel) (by decide +kernel)
set_option maxRecDepth 20000 in
theorem gX3_bestHeight_X0_clearestHeight : GoodIn wsX3_bestHeight (wsV RX3 177 RX0 yX0_clearestHeight wsX0_clearestHeight) := goodIn_app (goodIn_of _ (by decide +kernel)) ggX3_bestHeight_X0_clearestHeight
set_option maxRecDepth 20000 in
theorem ggX3_bestHeight_X0_shortOnes : GoodIn wsX3_bestHeight wsX0_shortOnes := goodIn_r _ [21, 22, 23, 24, 5, 25, 26, 27, 28, 29, 30, 31, 3, 4, 6, 7, 8, 9, 10, 32, 33, 34, 35, 36, 37, 38, 39, 40, 41, 42, 43, 44, 45, 46, 47, 48, 49, 50, 51, 52, 53, 54, 55, 56, 57, 58, 66, 67, 68, 69, 70, 71, 72, 73, 74, 75, 76, 77] (by decide +kernel) (by decide +kernel)
set_option maxRecDepth 20000 in
theorem gX3_bestHeight_X0_shortOnes : GoodIn wsX3_bestHeight (wsV RX3 152 RX0 yX0_shortOnes wsX0_shortOnes) := goodIn_app (goodIn_of _ (by decide +kernel)) ggX3_bestHeight_X0_shortOnes
theorem dX3_bestHeight_0 : decode cX3_bestHeight 0 = .ok (.aload_n 0, 1) := by decide +kernel
theorem dX3_bestHeight_1 : decode cX3_bestHeight 1 = .ok (.getfield 10, 3) := by decide +kernel
theorem dX3_bestHeight_4 : decode cX3_bestHeight 4 = .ok (.iload_n 1, 1) := by decide +kernel
theorem dX3_bestHeight_5 : decode cX3_bestHeight 5 = .ok (.invokevirtual 80, 3) := by decide +kernel
theorem dX3_bestHeight_8 : decode cX3_bestHeight 8 = .ok (.ifCond .ne 5, 3) := by decide +kernel
theorem dX3_bestHeight_11 : decode cX3_bestHeight 11 = .ok (.iconst (-1), 1) := by decide +kernel
theorem dX3_bestHeight_12 : decode cX3_bestHeight 12 = .ok (.ireturn, 1) := by decide +kernel
theorem dX3_bestHeight_13 : decode cX3_bestHeight 13 = .ok (.iload_n 2, 1) := by decide +kernel
theorem dX3_bestHeight_14 : decode cX3_bestHeight 14 = .ok (.iconst 0, 1) := by decide +kernel
theorem dX3_bestHeight_15 : decode cX3_bestHeight 15 = .ok (.iconst 1, 1) := by decide +kernel
theorem dX3_bestHeight_16 : decode cX3_bestHeight 16 = .ok (.invokestatic 94, 3) := by decide +kernel
theorem dX3_bestHeight_19 : decode cX3_bestHeight 19 = .ok (.ifCond .ne 6, 3) := by decide +kernel
theorem dX3_bestHeight_22 : decode cX3_bestHeight 22 = .ok (.bipush (-2), 2) := by decide +kernel
theorem dX3_bestHeight_24 : decode cX3_bestHeight 24 = .ok (.ireturn, 1) := by decide +kernel
theorem dX3_bestHeight_25 : decode cX3_bestHeight 25 = .ok (.aload_n 0, 1) := by decide +kernel
theorem dX3_bestHeight_26 : decode cX3_bestHeight 26 = .ok (.getfield 10, 3) := by decide +kernel
theorem dX3_bestHeight_29 : decode cX3_bestHeight 29 = .ok (.iload_n 1, 1) := by decide +kernel
theorem dX3_bestHeight_30 : decode cX3_bestHeight 30 = .ok (.invokevirtual 177, 3) := by decide +kernel
theorem dX3_bestHeight_33 : decode cX3_bestHeight 33 = .ok (.istore_n 3, 1) := by decide +kernel
theorem dX3_bestHeight_34 : decode cX3_bestHeight 34 = .ok (.iload_n 2, 1) := by decide +kernel
theorem dX3_bestHeight_35 : decode cX3_bestHeight 35 = .ok (.ifCond .ne 7, 3) := by decide +kernel
theorem dX3_bestHeight_38 : decode cX3_bestHeight 38 = .ok (.iload_n 3, 1) := by decide +kernel
theorem dX3_bestHeight_39 : decode cX3_bestHeight 39 = .ok (.goto 12, 3) := by decide +kernel
theorem dX3_bestHeight_42 : decode cX3_bestHeight 42 = .ok (.aload_n 0, 1) := by decide +kernel
theorem dX3_bestHeight_43 : decode cX3_bestHeight 43 = .ok (.getfield 10, 3) := by decide +kernel
theorem dX3_bestHeight_46 : decode cX3_bestHeight 46 = .ok (.iload_n 1, 1) := by decide +kernel
theorem dX3_bestHeight_47 : decode cX3_bestHeight 47 = .ok (.iload_n 3, 1) := by decide +kernel
theorem dX3_bestHeight_48 : decode cX3_bestHeight 48 = .ok (.invokevirtual 152, 3) := by decide +kernel
theorem dX3_bestHeight_51 : decode cX3_bestHeight 51 = .ok (.ireturn, 1) := by decide +kernel
set_option maxRecDepth 20000 in
theorem ggX3_laysLeft_X3_isHeight : GoodIn wsX3_laysLeft wsX3_isHeight := goodIn_r _ [5, 6, 7, 4, 8] (by decide +kernel) (by decide +kernel)
set_option maxRecDepth 20000 in
theorem gX3_laysLeft_X3_isHeight : GoodIn wsX3_laysLeft (va_wsS RX3 47 yX3_isHeight wsX3_isHeight) := goodIn_app (goodIn_of _ (by decide +kernel)) ggX3_laysLeft_X3_isHeight
set_option maxRecDepth 20000 in
theorem ggX3_laysLeft_X0_laysUntilStop : GoodIn wsX3_laysLeft wsX0_laysUntilStop := goodIn_r _ [13, 14, 15, 16, 17, 18, 12, 19, 20, 21, 22, 29, 30, 31, 32, 33, 34, 35, 36, 37, 38, 39, 40] (by decide +kernel) (by decide +kernel)
set_option maxRecDepth 20000 in
theorem gX3_laysLeft_X0_laysUntilStop : GoodIn wsX3_laysLeft (wsV RX3 180 RX0 yX0_laysUntilStop wsX0_laysUntilStop) := goodIn_app (goodIn_of _ (by decide +kernel)) ggX3_laysLeft_X0_laysUntilStop
theorem dX3_laysLeft_0 : decode cX3_laysLeft 0 = .ok (.iload_n 1, 1) := by decide +kernel
theorem dX3_laysLeft_1 : decode cX3_laysLeft 1 = .ok (.invokestatic 47, 3) := by decide +kernel
theorem dX3_laysLeft_4 : decode cX3_laysLeft 4 = .ok (.ifCond .ne 6, 3) := by decide +kernel
theorem dX3_laysLeft_7 : decode cX3_laysLeft 7 = .ok (.bipush (-2), 2) := by decide +kernel
theorem dX3_laysLeft_9 : decode cX3_laysLeft 9 = .ok (.ireturn, 1) := by decide +kernel
theorem dX3_laysLeft_10 : decode cX3_laysLeft 10 = .ok (.aload_n 0, 1) := by decide +kernel
theorem dX3_laysLeft_11 : decode cX3_laysLeft 11 = .ok (.getfield 10, 3) := by decide +kernel
theorem dX3_laysLeft_14 : decode cX3_laysLeft 14 = .ok (.iload_n 1, 1) := by decide +kernel
theorem dX3_laysLeft_15 : decode cX3_laysLeft 15 = .ok (.invokevirtual 180, 3) := by decide +kernel
theorem dX3_laysLeft_18 : decode cX3_laysLeft 18 = .ok (.ireturn, 1) := by decide +kernel
set_option maxRecDepth 20000 in
theorem ggX3_count_X0_wires : GoodIn wsX3_count wsX0_wires := goodIn_r _ [8, 9, 10, 11, 7, 12, 13, 14, 15, 16, 92, 93, 94, 95, 96, 97, 98, 99, 100, 101, 102, 103] (by decide +kernel) (by decide +kernel)
set_option maxRecDepth 20000 in
theorem gX3_count_X0_wires : GoodIn wsX3_count (wsV RX3 77 RX0 yX0_wires wsX0_wires) := goodIn_app (goodIn_of _ (by decide +kernel)) ggX3_count_X0_wires
set_option maxRecDepth 20000 in
theorem ggX3_count_X0_allCrossings : GoodIn wsX3_count wsX0_allCrossings := goodIn_r _ [20, 21, 22, 23, 7, 24, 9, 10, 11, 12, 13, 14, 15, 16, 25, 26, 27, 28, 29, 92, 93, 94, 95, 96, 97, 98, 99, 100, 101, 102, 103] (by decide +kernel) (by decide +kernel)
set_option maxRecDepth 20000 in
theorem gX3_count_X0_allCrossings : GoodIn wsX3_count (wsV RX3 186 RX0 yX0_allCrossings wsX0_allCrossings) := goodIn_app (goodIn_of _ (by decide +kernel)) ggX3_count_X0_allCrossings
set_option maxRecDepth 20000 in
theorem ggX3_count_X0_allShortOnes : GoodIn wsX3_count wsX0_allShortOnes := goodIn_r _ [33, 34, 35, 36, 7, 37, 38, 14, 15, 16, 39, 40, 41, 42, 43, 21, 22, 23, 24, 9, 10, 11, 12, 13, 25, 26, 27, 28, 29, 44, 45, 46, 47, 48, 49, 50, 51, 52, 53, 54, 55, 56, 57, 58, 59, 60, 92, 93, 94, 95, 96, 97, 98, 99, 100, 101, 102, 103] (by decide +kernel) (by decide +kernel)
set_option maxRecDepth 20000 in
theorem gX3_count_X0_allShortOnes : GoodIn wsX3_count (wsV RX3 189 RX0 yX0_allShortOnes wsX0_allShortOnes) := goodIn_app (goodIn_of _ (by decide +kernel)) ggX3_count_X0_allShortOnes
set_option maxRecDepth 20000 in
theorem ggX3_count_X0_weakestPad : GoodIn wsX3_count wsX0_weakestPad := goodIn_r _ [64, 65, 9, 10, 11, 7, 12, 13, 14, 15, 16, 66, 67, 68, 69, 92, 93, 94, 95, 96, 97, 98, 99, 100, 101, 102, 103] (by decide +kernel) (by decide +kernel)
set_option maxRecDepth 20000 in
theorem gX3_count_X0_weakestPad : GoodIn wsX3_count (wsV RX3 195 RX0 yX0_weakestPad wsX0_weakestPad) := goodIn_app (goodIn_of _ (by decide +kernel)) ggX3_count_X0_weakestPad
set_option maxRecDepth 20000 in
theorem ggX3_count_X0_allStrengths : GoodIn wsX3_count wsX0_allStrengths := goodIn_r _ [73, 65, 9, 10, 11, 7, 12, 13, 14, 15, 16, 92, 93, 94, 95, 96, 97, 98, 99, 100, 101, 102, 103] (by decide +kernel) (by decide +kernel)
set_option maxRecDepth 20000 in
theorem gX3_count_X0_allStrengths : GoodIn wsX3_count (wsV RX3 198 RX0 yX0_allStrengths wsX0_allStrengths) := goodIn_app (goodIn_of _ (by decide +kernel)) ggX3_count_X0_allStrengths
set_option maxRecDepth 20000 in
theorem ggX3_count_X1_states : GoodIn wsX3_count wsX1_states := goodIn_r _ [78, 79, 104, 105] (by decide +kernel) (by decide +kernel)
set_option maxRecDepth 20000 in
theorem gX3_count_X1_states : GoodIn wsX3_count (wsV RX3 140 RX1 yX1_states wsX1_states) := goodIn_app (goodIn_of _ (by decide +kernel)) ggX3_count_X1_states
set_option maxRecDepth 20000 in
theorem ggX3_count_X2_length : GoodIn wsX3_count wsX2_length := goodIn_r _ [84, 85, 106, 107, 108, 109, 110, 111, 112] (by decide +kernel) (by decide +kernel)
set_option maxRecDepth 20000 in
theorem gX3_count_X2_length : GoodIn wsX3_count (wsV RX3 134 RX2 yX2_length wsX2_length) := goodIn_app (goodIn_of _ (by decide +kernel)) ggX3_count_X2_length
theorem dX3_count_0 : decode cX3_count 0 = .ok (.iload_n 1, 1) := by decide +kernel
theorem dX3_count_1 : decode cX3_count 1 = .ok (.tableswitch 191 0 13 #[71, 79, 87, 95, 103, 111, 127, 135, 143, 151, 159, 167, 175, 183], 71) := by decide +kernel
theorem dX3_count_72 : decode cX3_count 72 = .ok (.aload_n 0, 1) := by decide +kernel
theorem dX3_count_73 : decode cX3_count 73 = .ok (.getfield 10, 3) := by decide +kernel
theorem dX3_count_76 : decode cX3_count 76 = .ok (.invokevirtual 77, 3) := by decide +kernel
theorem dX3_count_79 : decode cX3_count 79 = .ok (.ireturn, 1) := by decide +kernel
theorem dX3_count_80 : decode cX3_count 80 = .ok (.aload_n 0, 1) := by decide +kernel
theorem dX3_count_81 : decode cX3_count 81 = .ok (.getfield 10, 3) := by decide +kernel
theorem dX3_count_84 : decode cX3_count 84 = .ok (.getfield 183, 3) := by decide +kernel
theorem dX3_count_87 : decode cX3_count 87 = .ok (.ireturn, 1) := by decide +kernel
theorem dX3_count_88 : decode cX3_count 88 = .ok (.aload_n 0, 1) := by decide +kernel
theorem dX3_count_89 : decode cX3_count 89 = .ok (.getfield 10, 3) := by decide +kernel
theorem dX3_count_92 : decode cX3_count 92 = .ok (.invokevirtual 186, 3) := by decide +kernel
theorem dX3_count_95 : decode cX3_count 95 = .ok (.ireturn, 1) := by decide +kernel
theorem dX3_count_96 : decode cX3_count 96 = .ok (.aload_n 0, 1) := by decide +kernel
theorem dX3_count_97 : decode cX3_count 97 = .ok (.getfield 10, 3) := by decide +kernel
theorem dX3_count_100 : decode cX3_count 100 = .ok (.invokevirtual 189, 3) := by decide +kernel
theorem dX3_count_103 : decode cX3_count 103 = .ok (.ireturn, 1) := by decide +kernel
theorem dX3_count_104 : decode cX3_count 104 = .ok (.aload_n 0, 1) := by decide +kernel
theorem dX3_count_105 : decode cX3_count 105 = .ok (.getfield 10, 3) := by decide +kernel
theorem dX3_count_108 : decode cX3_count 108 = .ok (.getfield 111, 3) := by decide +kernel
theorem dX3_count_111 : decode cX3_count 111 = .ok (.ireturn, 1) := by decide +kernel
theorem dX3_count_112 : decode cX3_count 112 = .ok (.aload_n 0, 1) := by decide +kernel
theorem dX3_count_113 : decode cX3_count 113 = .ok (.getfield 10, 3) := by decide +kernel
theorem dX3_count_116 : decode cX3_count 116 = .ok (.getfield 117, 3) := by decide +kernel
theorem dX3_count_119 : decode cX3_count 119 = .ok (.ifCond .eq 7, 3) := by decide +kernel
theorem dX3_count_122 : decode cX3_count 122 = .ok (.iconst 1, 1) := by decide +kernel
theorem dX3_count_123 : decode cX3_count 123 = .ok (.goto 4, 3) := by decide +kernel
theorem dX3_count_126 : decode cX3_count 126 = .ok (.iconst 0, 1) := by decide +kernel
theorem dX3_count_127 : decode cX3_count 127 = .ok (.ireturn, 1) := by decide +kernel
theorem dX3_count_128 : decode cX3_count 128 = .ok (.aload_n 0, 1) := by decide +kernel
theorem dX3_count_129 : decode cX3_count 129 = .ok (.getfield 10, 3) := by decide +kernel
theorem dX3_count_132 : decode cX3_count 132 = .ok (.getfield 120, 3) := by decide +kernel
theorem dX3_count_135 : decode cX3_count 135 = .ok (.ireturn, 1) := by decide +kernel
theorem dX3_count_136 : decode cX3_count 136 = .ok (.aload_n 0, 1) := by decide +kernel
theorem dX3_count_137 : decode cX3_count 137 = .ok (.getfield 10, 3) := by decide +kernel
theorem dX3_count_140 : decode cX3_count 140 = .ok (.getfield 107, 3) := by decide +kernel
theorem dX3_count_143 : decode cX3_count 143 = .ok (.ireturn, 1) := by decide +kernel
theorem dX3_count_144 : decode cX3_count 144 = .ok (.aload_n 0, 1) := by decide +kernel
theorem dX3_count_145 : decode cX3_count 145 = .ok (.getfield 10, 3) := by decide +kernel
theorem dX3_count_148 : decode cX3_count 148 = .ok (.getfield 192, 3) := by decide +kernel
theorem dX3_count_151 : decode cX3_count 151 = .ok (.ireturn, 1) := by decide +kernel
theorem dX3_count_152 : decode cX3_count 152 = .ok (.aload_n 0, 1) := by decide +kernel
theorem dX3_count_153 : decode cX3_count 153 = .ok (.getfield 10, 3) := by decide +kernel
theorem dX3_count_156 : decode cX3_count 156 = .ok (.invokevirtual 195, 3) := by decide +kernel
theorem dX3_count_159 : decode cX3_count 159 = .ok (.ireturn, 1) := by decide +kernel
theorem dX3_count_160 : decode cX3_count 160 = .ok (.aload_n 0, 1) := by decide +kernel
theorem dX3_count_161 : decode cX3_count 161 = .ok (.getfield 10, 3) := by decide +kernel
theorem dX3_count_164 : decode cX3_count 164 = .ok (.invokevirtual 198, 3) := by decide +kernel
theorem dX3_count_167 : decode cX3_count 167 = .ok (.ireturn, 1) := by decide +kernel
theorem dX3_count_168 : decode cX3_count 168 = .ok (.aload_n 0, 1) := by decide +kernel
theorem dX3_count_169 : decode cX3_count 169 = .ok (.getfield 10, 3) := by decide +kernel
theorem dX3_count_172 : decode cX3_count 172 = .ok (.getfield 114, 3) := by decide +kernel
theorem dX3_count_175 : decode cX3_count 175 = .ok (.ireturn, 1) := by decide +kernel
theorem dX3_count_176 : decode cX3_count 176 = .ok (.aload_n 0, 1) := by decide +kernel
theorem dX3_count_177 : decode cX3_count 177 = .ok (.getfield 29, 3) := by decide +kernel
theorem dX3_count_180 : decode cX3_count 180 = .ok (.invokevirtual 140, 3) := by decide +kernel
theorem dX3_count_183 : decode cX3_count 183 = .ok (.ireturn, 1) := by decide +kernel
theorem dX3_count_184 : decode cX3_count 184 = .ok (.aload_n 0, 1) := by decide +kernel
theorem dX3_count_185 : decode cX3_count 185 = .ok (.getfield 36, 3) := by decide +kernel
theorem dX3_count_188 : decode cX3_count 188 = .ok (.invokevirtual 134, 3) := by decide +kernel
theorem dX3_count_191 : decode cX3_count 191 = .ok (.ireturn, 1) := by decide +kernel
theorem dX3_count_192 : decode cX3_count 192 = .ok (.bipush (-2), 2) := by decide +kernel
theorem dX3_count_194 : decode cX3_count 194 = .ok (.ireturn, 1) := by decide +kernel
theorem dX3_isWithin_0 : decode cX3_isWithin 0 = .ok (.iload_n 0, 1) := by decide +kernel
theorem dX3_isWithin_1 : decode cX3_isWithin 1 = .ok (.iload_n 1, 1) := by decide +kernel
theorem dX3_isWithin_2 : decode cX3_isWithin 2 = .ok (.if_icmp .lt 12, 3) := by decide +kernel
theorem dX3_isWithin_5 : decode cX3_isWithin 5 = .ok (.iload_n 0, 1) := by decide +kernel
theorem dX3_isWithin_6 : decode cX3_isWithin 6 = .ok (.iload_n 2, 1) := by decide +kernel
theorem dX3_isWithin_7 : decode cX3_isWithin 7 = .ok (.if_icmp .gt 7, 3) := by decide +kernel
theorem dX3_isWithin_10 : decode cX3_isWithin 10 = .ok (.iconst 1, 1) := by decide +kernel
theorem dX3_isWithin_11 : decode cX3_isWithin 11 = .ok (.goto 4, 3) := by decide +kernel
theorem dX3_isWithin_14 : decode cX3_isWithin 14 = .ok (.iconst 0, 1) := by decide +kernel
theorem dX3_isWithin_15 : decode cX3_isWithin 15 = .ok (.ireturn, 1) := by decide +kernel
theorem dX3_isPad_0 : decode cX3_isPad 0 = .ok (.iload_n 0, 1) := by decide +kernel
theorem dX3_isPad_1 : decode cX3_isPad 1 = .ok (.ifCond .lt 13, 3) := by decide +kernel
theorem dX3_isPad_4 : decode cX3_isPad 4 = .ok (.iload_n 0, 1) := by decide +kernel
theorem dX3_isPad_5 : decode cX3_isPad 5 = .ok (.bipush 12, 2) := by decide +kernel
theorem dX3_isPad_7 : decode cX3_isPad 7 = .ok (.if_icmp .ge 7, 3) := by decide +kernel
theorem dX3_isPad_10 : decode cX3_isPad 10 = .ok (.iconst 1, 1) := by decide +kernel
theorem dX3_isPad_11 : decode cX3_isPad 11 = .ok (.goto 4, 3) := by decide +kernel
theorem dX3_isPad_14 : decode cX3_isPad 14 = .ok (.iconst 0, 1) := by decide +kernel
theorem dX3_isPad_15 : decode cX3_isPad 15 = .ok (.ireturn, 1) := by decide +kernel
theorem dX3_isLead_0 : decode cX3_isLead 0 = .ok (.iload_n 0, 1) := by decide +kernel
theorem dX3_isLead_1 : decode cX3_isLead 1 = .ok (.ifCond .lt 13, 3) := by decide +kernel
theorem dX3_isLead_4 : decode cX3_isLead 4 = .ok (.iload_n 0, 1) := by decide +kernel
theorem dX3_isLead_5 : decode cX3_isLead 5 = .ok (.bipush 16, 2) := by decide +kernel
theorem dX3_isLead_7 : decode cX3_isLead 7 = .ok (.if_icmp .ge 7, 3) := by decide +kernel
theorem dX3_isLead_10 : decode cX3_isLead 10 = .ok (.iconst 1, 1) := by decide +kernel
theorem dX3_isLead_11 : decode cX3_isLead 11 = .ok (.goto 4, 3) := by decide +kernel
theorem dX3_isLead_14 : decode cX3_isLead 14 = .ok (.iconst 0, 1) := by decide +kernel
theorem dX3_isLead_15 : decode cX3_isLead 15 = .ok (.ireturn, 1) := by decide +kernel
set_option maxRecDepth 20000 in
theorem ggX3_isHeight_X3_isWithin : GoodIn wsX3_isHeight wsX3_isWithin := goodIn_r _ [4] (by decide +kernel) (by decide +kernel)
set_option maxRecDepth 20000 in
theorem gX3_isHeight_X3_isWithin : GoodIn wsX3_isHeight (va_wsS RX3 94 yX3_isWithin wsX3_isWithin) := goodIn_app (goodIn_of _ (by decide +kernel)) ggX3_isHeight_X3_isWithin
theorem dX3_isHeight_0 : decode cX3_isHeight 0 = .ok (.iload_n 0, 1) := by decide +kernel
theorem dX3_isHeight_1 : decode cX3_isHeight 1 = .ok (.bipush 10, 2) := by decide +kernel
theorem dX3_isHeight_3 : decode cX3_isHeight 3 = .ok (.sipush 200, 3) := by decide +kernel
theorem dX3_isHeight_6 : decode cX3_isHeight 6 = .ok (.invokestatic 94, 3) := by decide +kernel
theorem dX3_isHeight_9 : decode cX3_isHeight 9 = .ok (.ireturn, 1) := by decide +kernel
theorem dX3_padX_0 : decode cX3_padX 0 = .ok (.bipush 100, 2) := by decide +kernel
theorem dX3_padX_2 : decode cX3_padX 2 = .ok (.bipush 20, 2) := by decide +kernel
theorem dX3_padX_4 : decode cX3_padX 4 = .ok (.iload_n 0, 1) := by decide +kernel
theorem dX3_padX_5 : decode cX3_padX 5 = .ok (.imul, 1) := by decide +kernel
theorem dX3_padX_6 : decode cX3_padX 6 = .ok (.iadd, 1) := by decide +kernel
theorem dX3_padX_7 : decode cX3_padX 7 = .ok (.ireturn, 1) := by decide +kernel
theorem dX3_loopAt_0 : decode cX3_loopAt 0 = .ok (.iload_n 0, 1) := by decide +kernel
theorem dX3_loopAt_1 : decode cX3_loopAt 1 = .ok (.iload_n 1, 1) := by decide +kernel
theorem dX3_loopAt_2 : decode cX3_loopAt 2 = .ok (.imul, 1) := by decide +kernel
theorem dX3_loopAt_3 : decode cX3_loopAt 3 = .ok (.sipush 200, 3) := by decide +kernel
theorem dX3_loopAt_6 : decode cX3_loopAt 6 = .ok (.iload_n 1, 1) := by decide +kernel
theorem dX3_loopAt_7 : decode cX3_loopAt 7 = .ok (.isub, 1) := by decide +kernel
theorem dX3_loopAt_8 : decode cX3_loopAt 8 = .ok (.imul, 1) := by decide +kernel
theorem dX3_loopAt_9 : decode cX3_loopAt 9 = .ok (.iconst 4, 1) := by decide +kernel
theorem dX3_loopAt_10 : decode cX3_loopAt 10 = .ok (.imul, 1) := by decide +kernel
theorem dX3_loopAt_11 : decode cX3_loopAt 11 = .ok (.ldc 201, 2) := by decide +kernel
theorem dX3_loopAt_13 : decode cX3_loopAt 13 = .ok (.idiv, 1) := by decide +kernel
theorem dX3_loopAt_14 : decode cX3_loopAt 14 = .ok (.ireturn, 1) := by decide +kernel
theorem dX4_init_0 : decode cX4_init 0 = .ok (.aload_n 0, 1) := by decide +kernel
theorem dX4_init_1 : decode cX4_init 1 = .ok (.invokespecial 1, 3) := by decide +kernel
theorem dX4_init_4 : decode cX4_init 4 = .ok (.aload_n 0, 1) := by decide +kernel
theorem dX4_init_5 : decode cX4_init 5 = .ok (.bipush 71, 2) := by decide +kernel
theorem dX4_init_7 : decode cX4_init 7 = .ok (.newarray .int, 2) := by decide +kernel
theorem dX4_init_9 : decode cX4_init 9 = .ok (.putfield 7, 3) := by decide +kernel
theorem dX4_init_12 : decode cX4_init 12 = .ok (.aload_n 0, 1) := by decide +kernel
theorem dX4_init_13 : decode cX4_init 13 = .ok (.bipush 71, 2) := by decide +kernel
theorem dX4_init_15 : decode cX4_init 15 = .ok (.newarray .int, 2) := by decide +kernel
theorem dX4_init_17 : decode cX4_init 17 = .ok (.putfield 13, 3) := by decide +kernel
theorem dX4_init_20 : decode cX4_init 20 = .ok (.aload_n 0, 1) := by decide +kernel
theorem dX4_init_21 : decode cX4_init 21 = .ok (.sipush 284, 3) := by decide +kernel
theorem dX4_init_24 : decode cX4_init 24 = .ok (.newarray .int, 2) := by decide +kernel
theorem dX4_init_26 : decode cX4_init 26 = .ok (.putfield 16, 3) := by decide +kernel
theorem dX4_init_29 : decode cX4_init 29 = .ok (.aload_n 0, 1) := by decide +kernel
theorem dX4_init_30 : decode cX4_init 30 = .ok (.bipush 71, 2) := by decide +kernel
theorem dX4_init_32 : decode cX4_init 32 = .ok (.newarray .int, 2) := by decide +kernel
theorem dX4_init_34 : decode cX4_init 34 = .ok (.putfield 19, 3) := by decide +kernel
theorem dX4_init_37 : decode cX4_init 37 = .ok (.aload_n 0, 1) := by decide +kernel
theorem dX4_init_38 : decode cX4_init 38 = .ok (.bipush 80, 2) := by decide +kernel
theorem dX4_init_40 : decode cX4_init 40 = .ok (.newarray .char, 2) := by decide +kernel
theorem dX4_init_42 : decode cX4_init 42 = .ok (.putfield 22, 3) := by decide +kernel
theorem dX4_init_45 : decode cX4_init 45 = .ok (.aload_n 0, 1) := by decide +kernel
theorem dX4_init_46 : decode cX4_init 46 = .ok (.bipush 63, 2) := by decide +kernel
theorem dX4_init_48 : decode cX4_init 48 = .ok (.newarray .int, 2) := by decide +kernel
theorem dX4_init_50 : decode cX4_init 50 = .ok (.putfield 26, 3) := by decide +kernel
theorem dX4_init_53 : decode cX4_init 53 = .ok (.iconst 0, 1) := by decide +kernel
theorem dX4_init_54 : decode cX4_init 54 = .ok (.istore_n 1, 1) := by decide +kernel
theorem dX4_init_55 : decode cX4_init 55 = .ok (.iload_n 1, 1) := by decide +kernel
theorem dX4_init_56 : decode cX4_init 56 = .ok (.bipush 16, 2) := by decide +kernel
theorem dX4_init_58 : decode cX4_init 58 = .ok (.if_icmp .ge 21, 3) := by decide +kernel
theorem dX4_init_61 : decode cX4_init 61 = .ok (.aload_n 0, 1) := by decide +kernel
theorem dX4_init_62 : decode cX4_init 62 = .ok (.getfield 7, 3) := by decide +kernel
theorem dX4_init_65 : decode cX4_init 65 = .ok (.iconst 0, 1) := by decide +kernel
theorem dX4_init_66 : decode cX4_init 66 = .ok (.iload_n 1, 1) := by decide +kernel
theorem dX4_init_67 : decode cX4_init 67 = .ok (.iadd, 1) := by decide +kernel
theorem dX4_init_68 : decode cX4_init 68 = .ok (.bipush 40, 2) := by decide +kernel
theorem dX4_init_70 : decode cX4_init 70 = .ok (.iload_n 1, 1) := by decide +kernel
theorem dX4_init_71 : decode cX4_init 71 = .ok (.imul, 1) := by decide +kernel
theorem dX4_init_72 : decode cX4_init 72 = .ok (.iastore, 1) := by decide +kernel
theorem dX4_init_73 : decode cX4_init 73 = .ok (.iinc 1 1, 3) := by decide +kernel
theorem dX4_init_76 : decode cX4_init 76 = .ok (.goto (-21), 3) := by decide +kernel
theorem dX4_init_79 : decode cX4_init 79 = .ok (.iconst 0, 1) := by decide +kernel
theorem dX4_init_80 : decode cX4_init 80 = .ok (.istore_n 1, 1) := by decide +kernel
theorem dX4_init_81 : decode cX4_init 81 = .ok (.iload_n 1, 1) := by decide +kernel
theorem dX4_init_82 : decode cX4_init 82 = .ok (.bipush 12, 2) := by decide +kernel
theorem dX4_init_84 : decode cX4_init 84 = .ok (.if_icmp .ge 22, 3) := by decide +kernel
theorem dX4_init_87 : decode cX4_init 87 = .ok (.aload_n 0, 1) := by decide +kernel
theorem dX4_init_88 : decode cX4_init 88 = .ok (.getfield 7, 3) := by decide +kernel
theorem dX4_init_91 : decode cX4_init 91 = .ok (.bipush 16, 2) := by decide +kernel
theorem dX4_init_93 : decode cX4_init 93 = .ok (.iconst 4, 1) := by decide +kernel
theorem dX4_init_94 : decode cX4_init 94 = .ok (.iload_n 1, 1) := by decide +kernel
theorem dX4_init_95 : decode cX4_init 95 = .ok (.imul, 1) := by decide +kernel
theorem dX4_init_96 : decode cX4_init 96 = .ok (.iadd, 1) := by decide +kernel
theorem dX4_init_97 : decode cX4_init 97 = .ok (.bipush (-5), 2) := by decide +kernel
theorem dX4_init_99 : decode cX4_init 99 = .ok (.iastore, 1) := by decide +kernel
theorem dX4_init_100 : decode cX4_init 100 = .ok (.iinc 1 1, 3) := by decide +kernel
theorem dX4_init_103 : decode cX4_init 103 = .ok (.goto (-22), 3) := by decide +kernel
theorem dX4_init_106 : decode cX4_init 106 = .ok (.aload_n 0, 1) := by decide +kernel
theorem dX4_init_107 : decode cX4_init 107 = .ok (.getfield 7, 3) := by decide +kernel
theorem dX4_init_110 : decode cX4_init 110 = .ok (.bipush 64, 2) := by decide +kernel
theorem dX4_init_112 : decode cX4_init 112 = .ok (.bipush 10, 2) := by decide +kernel
theorem dX4_init_114 : decode cX4_init 114 = .ok (.iastore, 1) := by decide +kernel
theorem dX4_init_115 : decode cX4_init 115 = .ok (.return_, 1) := by decide +kernel
theorem dX4_in_0 : decode cX4_in 0 = .ok (.iload_n 0, 1) := by decide +kernel
theorem dX4_in_1 : decode cX4_in 1 = .ok (.iload_n 1, 1) := by decide +kernel
theorem dX4_in_2 : decode cX4_in 2 = .ok (.if_icmp .lt 12, 3) := by decide +kernel
theorem dX4_in_5 : decode cX4_in 5 = .ok (.iload_n 0, 1) := by decide +kernel
theorem dX4_in_6 : decode cX4_in 6 = .ok (.iload_n 2, 1) := by decide +kernel
theorem dX4_in_7 : decode cX4_in 7 = .ok (.if_icmp .gt 7, 3) := by decide +kernel
theorem dX4_in_10 : decode cX4_in 10 = .ok (.iconst 1, 1) := by decide +kernel
theorem dX4_in_11 : decode cX4_in 11 = .ok (.goto 4, 3) := by decide +kernel
theorem dX4_in_14 : decode cX4_in 14 = .ok (.iconst 0, 1) := by decide +kernel
theorem dX4_in_15 : decode cX4_in 15 = .ok (.ireturn, 1) := by decide +kernel
theorem dX4_lays_0 : decode cX4_lays 0 = .ok (.iconst 0, 1) := by decide +kernel
theorem dX4_lays_1 : decode cX4_lays 1 = .ok (.istore 4, 2) := by decide +kernel
theorem dX4_lays_3 : decode cX4_lays 3 = .ok (.iload 4, 2) := by decide +kernel
theorem dX4_lays_5 : decode cX4_lays 5 = .ok (.bipush 71, 2) := by decide +kernel
theorem dX4_lays_7 : decode cX4_lays 7 = .ok (.if_icmp .ge 21, 3) := by decide +kernel
theorem dX4_lays_10 : decode cX4_lays 10 = .ok (.aload_n 2, 1) := by decide +kernel
theorem dX4_lays_11 : decode cX4_lays 11 = .ok (.iload_n 3, 1) := by decide +kernel
theorem dX4_lays_12 : decode cX4_lays 12 = .ok (.iload 4, 2) := by decide +kernel
theorem dX4_lays_14 : decode cX4_lays 14 = .ok (.iadd, 1) := by decide +kernel
theorem dX4_lays_15 : decode cX4_lays 15 = .ok (.aload_n 0, 1) := by decide +kernel
theorem dX4_lays_16 : decode cX4_lays 16 = .ok (.iload_n 1, 1) := by decide +kernel
theorem dX4_lays_17 : decode cX4_lays 17 = .ok (.iload 4, 2) := by decide +kernel
theorem dX4_lays_19 : decode cX4_lays 19 = .ok (.iadd, 1) := by decide +kernel
theorem dX4_lays_20 : decode cX4_lays 20 = .ok (.iaload, 1) := by decide +kernel
theorem dX4_lays_21 : decode cX4_lays 21 = .ok (.iastore, 1) := by decide +kernel
theorem dX4_lays_22 : decode cX4_lays 22 = .ok (.iinc 4 1, 3) := by decide +kernel
theorem dX4_lays_25 : decode cX4_lays 25 = .ok (.goto (-22), 3) := by decide +kernel
theorem dX4_lays_28 : decode cX4_lays 28 = .ok (.return_, 1) := by decide +kernel
set_option maxRecDepth 20000 in
theorem ggX4_records_X4_lays : GoodIn wsX4_records wsX4_lays := goodIn_r _ [7] (by decide +kernel) (by decide +kernel)
set_option maxRecDepth 20000 in
theorem gX4_records_X4_lays : GoodIn wsX4_records (va_wsS RX4 33 yX4_lays wsX4_lays) := goodIn_app (goodIn_of _ (by decide +kernel)) ggX4_records_X4_lays
theorem dX4_records_0 : decode cX4_records 0 = .ok (.aload_n 0, 1) := by decide +kernel
theorem dX4_records_1 : decode cX4_records 1 = .ok (.getfield 29, 3) := by decide +kernel
theorem dX4_records_4 : decode cX4_records 4 = .ok (.iconst 4, 1) := by decide +kernel
theorem dX4_records_5 : decode cX4_records 5 = .ok (.if_icmp .ne 43, 3) := by decide +kernel
theorem dX4_records_8 : decode cX4_records 8 = .ok (.iconst 0, 1) := by decide +kernel
theorem dX4_records_9 : decode cX4_records 9 = .ok (.istore_n 1, 1) := by decide +kernel
theorem dX4_records_10 : decode cX4_records 10 = .ok (.iload_n 1, 1) := by decide +kernel
theorem dX4_records_11 : decode cX4_records 11 = .ok (.sipush 213, 3) := by decide +kernel
theorem dX4_records_14 : decode cX4_records 14 = .ok (.if_icmp .ge 24, 3) := by decide +kernel
theorem dX4_records_17 : decode cX4_records 17 = .ok (.aload_n 0, 1) := by decide +kernel
theorem dX4_records_18 : decode cX4_records 18 = .ok (.getfield 16, 3) := by decide +kernel
theorem dX4_records_21 : decode cX4_records 21 = .ok (.iload_n 1, 1) := by decide +kernel
theorem dX4_records_22 : decode cX4_records 22 = .ok (.aload_n 0, 1) := by decide +kernel
theorem dX4_records_23 : decode cX4_records 23 = .ok (.getfield 16, 3) := by decide +kernel
theorem dX4_records_26 : decode cX4_records 26 = .ok (.iload_n 1, 1) := by decide +kernel
theorem dX4_records_27 : decode cX4_records 27 = .ok (.bipush 71, 2) := by decide +kernel
theorem dX4_records_29 : decode cX4_records 29 = .ok (.iadd, 1) := by decide +kernel
theorem dX4_records_30 : decode cX4_records 30 = .ok (.iaload, 1) := by decide +kernel
theorem dX4_records_31 : decode cX4_records 31 = .ok (.iastore, 1) := by decide +kernel
theorem dX4_records_32 : decode cX4_records 32 = .ok (.iinc 1 1, 3) := by decide +kernel
theorem dX4_records_35 : decode cX4_records 35 = .ok (.goto (-25), 3) := by decide +kernel
theorem dX4_records_38 : decode cX4_records 38 = .ok (.aload_n 0, 1) := by decide +kernel
theorem dX4_records_39 : decode cX4_records 39 = .ok (.dup, 1) := by decide +kernel
theorem dX4_records_40 : decode cX4_records 40 = .ok (.getfield 29, 3) := by decide +kernel
theorem dX4_records_43 : decode cX4_records 43 = .ok (.iconst 1, 1) := by decide +kernel
theorem dX4_records_44 : decode cX4_records 44 = .ok (.isub, 1) := by decide +kernel
theorem dX4_records_45 : decode cX4_records 45 = .ok (.putfield 29, 3) := by decide +kernel
theorem dX4_records_48 : decode cX4_records 48 = .ok (.aload_n 0, 1) := by decide +kernel
theorem dX4_records_49 : decode cX4_records 49 = .ok (.getfield 7, 3) := by decide +kernel
theorem dX4_records_52 : decode cX4_records 52 = .ok (.iconst 0, 1) := by decide +kernel
theorem dX4_records_53 : decode cX4_records 53 = .ok (.aload_n 0, 1) := by decide +kernel
theorem dX4_records_54 : decode cX4_records 54 = .ok (.getfield 16, 3) := by decide +kernel
theorem dX4_records_57 : decode cX4_records 57 = .ok (.bipush 71, 2) := by decide +kernel
theorem dX4_records_59 : decode cX4_records 59 = .ok (.aload_n 0, 1) := by decide +kernel
theorem dX4_records_60 : decode cX4_records 60 = .ok (.getfield 29, 3) := by decide +kernel
theorem dX4_records_63 : decode cX4_records 63 = .ok (.imul, 1) := by decide +kernel
theorem dX4_records_64 : decode cX4_records 64 = .ok (.invokestatic 33, 3) := by decide +kernel
theorem dX4_records_67 : decode cX4_records 67 = .ok (.aload_n 0, 1) := by decide +kernel
theorem dX4_records_68 : decode cX4_records 68 = .ok (.dup, 1) := by decide +kernel
theorem dX4_records_69 : decode cX4_records 69 = .ok (.getfield 29, 3) := by decide +kernel
theorem dX4_records_72 : decode cX4_records 72 = .ok (.iconst 1, 1) := by decide +kernel
theorem dX4_records_73 : decode cX4_records 73 = .ok (.iadd, 1) := by decide +kernel
theorem dX4_records_74 : decode cX4_records 74 = .ok (.putfield 29, 3) := by decide +kernel
theorem dX4_records_77 : decode cX4_records 77 = .ok (.return_, 1) := by decide +kernel
set_option maxRecDepth 20000 in
theorem ggX4_isPad_X4_in : GoodIn wsX4_isPad wsX4_in := goodIn_r _ [4] (by decide +kernel) (by decide +kernel)
set_option maxRecDepth 20000 in
theorem gX4_isPad_X4_in : GoodIn wsX4_isPad (va_wsS RX4 37 yX4_in wsX4_in) := goodIn_app (goodIn_of _ (by decide +kernel)) ggX4_isPad_X4_in
theorem dX4_isPad_0 : decode cX4_isPad 0 = .ok (.iload_n 0, 1) := by decide +kernel
theorem dX4_isPad_1 : decode cX4_isPad 1 = .ok (.iconst 0, 1) := by decide +kernel
theorem dX4_isPad_2 : decode cX4_isPad 2 = .ok (.bipush 11, 2) := by decide +kernel
theorem dX4_isPad_4 : decode cX4_isPad 4 = .ok (.invokestatic 37, 3) := by decide +kernel
theorem dX4_isPad_7 : decode cX4_isPad 7 = .ok (.ireturn, 1) := by decide +kernel
set_option maxRecDepth 20000 in
theorem ggX4_isLead_X4_in : GoodIn wsX4_isLead wsX4_in := goodIn_r _ [4] (by decide +kernel) (by decide +kernel)
set_option maxRecDepth 20000 in
theorem gX4_isLead_X4_in : GoodIn wsX4_isLead (va_wsS RX4 37 yX4_in wsX4_in) := goodIn_app (goodIn_of _ (by decide +kernel)) ggX4_isLead_X4_in
theorem dX4_isLead_0 : decode cX4_isLead 0 = .ok (.iload_n 0, 1) := by decide +kernel
theorem dX4_isLead_1 : decode cX4_isLead 1 = .ok (.iconst 0, 1) := by decide +kernel
theorem dX4_isLead_2 : decode cX4_isLead 2 = .ok (.bipush 15, 2) := by decide +kernel
theorem dX4_isLead_4 : decode cX4_isLead 4 = .ok (.invokestatic 37, 3) := by decide +kernel
theorem dX4_isLead_7 : decode cX4_isLead 7 = .ok (.ireturn, 1) := by decide +kernel
set_option maxRecDepth 20000 in
theorem ggX4_isHeight_X4_in : GoodIn wsX4_isHeight wsX4_in := goodIn_r _ [4] (by decide +kernel) (by decide +kernel)
set_option maxRecDepth 20000 in
theorem gX4_isHeight_X4_in : GoodIn wsX4_isHeight (va_wsS RX4 37 yX4_in wsX4_in) := goodIn_app (goodIn_of _ (by decide +kernel)) ggX4_isHeight_X4_in
theorem dX4_isHeight_0 : decode cX4_isHeight 0 = .ok (.iload_n 0, 1) := by decide +kernel
theorem dX4_isHeight_1 : decode cX4_isHeight 1 = .ok (.bipush 10, 2) := by decide +kernel
theorem dX4_isHeight_3 : decode cX4_isHeight 3 = .ok (.sipush 200, 3) := by decide +kernel
theorem dX4_isHeight_6 : decode cX4_isHeight 6 = .ok (.invokestatic 37, 3) := by decide +kernel
theorem dX4_isHeight_9 : decode cX4_isHeight 9 = .ok (.ireturn, 1) := by decide +kernel
theorem dX4_of_0 : decode cX4_of 0 = .ok (.aload_n 0, 1) := by decide +kernel
theorem dX4_of_1 : decode cX4_of 1 = .ok (.bipush 16, 2) := by decide +kernel
theorem dX4_of_3 : decode cX4_of 3 = .ok (.iconst 4, 1) := by decide +kernel
theorem dX4_of_4 : decode cX4_of 4 = .ok (.iload_n 1, 1) := by decide +kernel
theorem dX4_of_5 : decode cX4_of 5 = .ok (.imul, 1) := by decide +kernel
theorem dX4_of_6 : decode cX4_of 6 = .ok (.iadd, 1) := by decide +kernel
theorem dX4_of_7 : decode cX4_of 7 = .ok (.iload_n 2, 1) := by decide +kernel
theorem dX4_of_8 : decode cX4_of 8 = .ok (.iadd, 1) := by decide +kernel
theorem dX4_of_9 : decode cX4_of 9 = .ok (.iaload, 1) := by decide +kernel
theorem dX4_of_10 : decode cX4_of 10 = .ok (.ireturn, 1) := by decide +kernel
set_option maxRecDepth 20000 in
theorem ggX4_hasWire_X4_isPad : GoodIn wsX4_hasWire wsX4_isPad := goodIn_r _ [5, 6, 7, 4, 8] (by decide +kernel) (by decide +kernel)
set_option maxRecDepth 20000 in
theorem gX4_hasWire_X4_isPad : GoodIn wsX4_hasWire (va_wsS RX4 41 yX4_isPad wsX4_isPad) := goodIn_app (goodIn_of _ (by decide +kernel)) ggX4_hasWire_X4_isPad
set_option maxRecDepth 20000 in
theorem ggX4_hasWire_X4_of : GoodIn wsX4_hasWire wsX4_of := goodIn_r _ [11] (by decide +kernel) (by decide +kernel)
set_option maxRecDepth 20000 in
theorem gX4_hasWire_X4_of : GoodIn wsX4_hasWire (va_wsS RX4 45 yX4_of wsX4_of) := goodIn_app (goodIn_of _ (by decide +kernel)) ggX4_hasWire_X4_of
theorem dX4_hasWire_0 : decode cX4_hasWire 0 = .ok (.iload_n 1, 1) := by decide +kernel
theorem dX4_hasWire_1 : decode cX4_hasWire 1 = .ok (.invokestatic 41, 3) := by decide +kernel
theorem dX4_hasWire_4 : decode cX4_hasWire 4 = .ok (.ifCond .eq 21, 3) := by decide +kernel
theorem dX4_hasWire_7 : decode cX4_hasWire 7 = .ok (.aload_n 0, 1) := by decide +kernel
theorem dX4_hasWire_8 : decode cX4_hasWire 8 = .ok (.getfield 7, 3) := by decide +kernel
theorem dX4_hasWire_11 : decode cX4_hasWire 11 = .ok (.iload_n 1, 1) := by decide +kernel
theorem dX4_hasWire_12 : decode cX4_hasWire 12 = .ok (.iconst 0, 1) := by decide +kernel
theorem dX4_hasWire_13 : decode cX4_hasWire 13 = .ok (.invokestatic 45, 3) := by decide +kernel
theorem dX4_hasWire_16 : decode cX4_hasWire 16 = .ok (.bipush (-5), 2) := by decide +kernel
theorem dX4_hasWire_18 : decode cX4_hasWire 18 = .ok (.if_icmp .eq 7, 3) := by decide +kernel
theorem dX4_hasWire_21 : decode cX4_hasWire 21 = .ok (.iconst 1, 1) := by decide +kernel
theorem dX4_hasWire_22 : decode cX4_hasWire 22 = .ok (.goto 4, 3) := by decide +kernel
theorem dX4_hasWire_25 : decode cX4_hasWire 25 = .ok (.iconst 0, 1) := by decide +kernel
theorem dX4_hasWire_26 : decode cX4_hasWire 26 = .ok (.ireturn, 1) := by decide +kernel
set_option maxRecDepth 20000 in
theorem ggX4_padOf_X4_of : GoodIn wsX4_padOf wsX4_of := goodIn_r _ [4] (by decide +kernel) (by decide +kernel)
set_option maxRecDepth 20000 in
theorem gX4_padOf_X4_of : GoodIn wsX4_padOf (va_wsS RX4 45 yX4_of wsX4_of) := goodIn_app (goodIn_of _ (by decide +kernel)) ggX4_padOf_X4_of
theorem dX4_padOf_0 : decode cX4_padOf 0 = .ok (.bipush (-5), 2) := by decide +kernel
theorem dX4_padOf_2 : decode cX4_padOf 2 = .ok (.istore_n 2, 1) := by decide +kernel
theorem dX4_padOf_3 : decode cX4_padOf 3 = .ok (.iconst 0, 1) := by decide +kernel
theorem dX4_padOf_4 : decode cX4_padOf 4 = .ok (.istore_n 3, 1) := by decide +kernel
theorem dX4_padOf_5 : decode cX4_padOf 5 = .ok (.iload_n 3, 1) := by decide +kernel
theorem dX4_padOf_6 : decode cX4_padOf 6 = .ok (.bipush 12, 2) := by decide +kernel
theorem dX4_padOf_8 : decode cX4_padOf 8 = .ok (.if_icmp .ge 25, 3) := by decide +kernel
theorem dX4_padOf_11 : decode cX4_padOf 11 = .ok (.aload_n 0, 1) := by decide +kernel
theorem dX4_padOf_12 : decode cX4_padOf 12 = .ok (.iload_n 3, 1) := by decide +kernel
theorem dX4_padOf_13 : decode cX4_padOf 13 = .ok (.iconst 0, 1) := by decide +kernel
theorem dX4_padOf_14 : decode cX4_padOf 14 = .ok (.invokestatic 45, 3) := by decide +kernel
theorem dX4_padOf_17 : decode cX4_padOf 17 = .ok (.iload_n 1, 1) := by decide +kernel
theorem dX4_padOf_18 : decode cX4_padOf 18 = .ok (.if_icmp .ne 7, 3) := by decide +kernel
theorem dX4_padOf_21 : decode cX4_padOf 21 = .ok (.iload_n 3, 1) := by decide +kernel
theorem dX4_padOf_22 : decode cX4_padOf 22 = .ok (.goto 4, 3) := by decide +kernel
theorem dX4_padOf_25 : decode cX4_padOf 25 = .ok (.iload_n 2, 1) := by decide +kernel
theorem dX4_padOf_26 : decode cX4_padOf 26 = .ok (.istore_n 2, 1) := by decide +kernel
theorem dX4_padOf_27 : decode cX4_padOf 27 = .ok (.iinc 3 1, 3) := by decide +kernel
theorem dX4_padOf_30 : decode cX4_padOf 30 = .ok (.goto (-25), 3) := by decide +kernel
theorem dX4_padOf_33 : decode cX4_padOf 33 = .ok (.iload_n 2, 1) := by decide +kernel
theorem dX4_padOf_34 : decode cX4_padOf 34 = .ok (.ireturn, 1) := by decide +kernel
set_option maxRecDepth 20000 in
theorem ggX4_wires_X4_hasWire : GoodIn wsX4_wires wsX4_hasWire := goodIn_r _ [5, 6, 7, 8, 4, 9, 10, 11, 12, 13, 14, 15, 16, 17, 18, 19, 20, 21, 22, 23, 24, 25, 26] (by decide +kernel) (by decide +kernel)
set_option maxRecDepth 20000 in
theorem gX4_wires_X4_hasWire : GoodIn wsX4_wires (wsV RX4 49 RX4 yX4_hasWire wsX4_hasWire) := goodIn_app (goodIn_of _ (by decide +kernel)) ggX4_wires_X4_hasWire
theorem dX4_wires_0 : decode cX4_wires 0 = .ok (.iconst 0, 1) := by decide +kernel
theorem dX4_wires_1 : decode cX4_wires 1 = .ok (.istore_n 1, 1) := by decide +kernel
theorem dX4_wires_2 : decode cX4_wires 2 = .ok (.iconst 0, 1) := by decide +kernel
theorem dX4_wires_3 : decode cX4_wires 3 = .ok (.istore_n 2, 1) := by decide +kernel
theorem dX4_wires_4 : decode cX4_wires 4 = .ok (.iload_n 2, 1) := by decide +kernel
theorem dX4_wires_5 : decode cX4_wires 5 = .ok (.bipush 12, 2) := by decide +kernel
theorem dX4_wires_7 : decode cX4_wires 7 = .ok (.if_icmp .ge 25, 3) := by decide +kernel
theorem dX4_wires_10 : decode cX4_wires 10 = .ok (.iload_n 1, 1) := by decide +kernel
theorem dX4_wires_11 : decode cX4_wires 11 = .ok (.aload_n 0, 1) := by decide +kernel
theorem dX4_wires_12 : decode cX4_wires 12 = .ok (.iload_n 2, 1) := by decide +kernel
theorem dX4_wires_13 : decode cX4_wires 13 = .ok (.invokevirtual 49, 3) := by decide +kernel
theorem dX4_wires_16 : decode cX4_wires 16 = .ok (.ifCond .eq 7, 3) := by decide +kernel
theorem dX4_wires_19 : decode cX4_wires 19 = .ok (.iconst 1, 1) := by decide +kernel
theorem dX4_wires_20 : decode cX4_wires 20 = .ok (.goto 4, 3) := by decide +kernel
theorem dX4_wires_23 : decode cX4_wires 23 = .ok (.iconst 0, 1) := by decide +kernel
theorem dX4_wires_24 : decode cX4_wires 24 = .ok (.iadd, 1) := by decide +kernel
theorem dX4_wires_25 : decode cX4_wires 25 = .ok (.istore_n 1, 1) := by decide +kernel
theorem dX4_wires_26 : decode cX4_wires 26 = .ok (.iinc 2 1, 3) := by decide +kernel
theorem dX4_wires_29 : decode cX4_wires 29 = .ok (.goto (-25), 3) := by decide +kernel
theorem dX4_wires_32 : decode cX4_wires 32 = .ok (.iload_n 1, 1) := by decide +kernel
theorem dX4_wires_33 : decode cX4_wires 33 = .ok (.ireturn, 1) := by decide +kernel
theorem dX4_padX_0 : decode cX4_padX 0 = .ok (.bipush 100, 2) := by decide +kernel
theorem dX4_padX_2 : decode cX4_padX 2 = .ok (.bipush 20, 2) := by decide +kernel
theorem dX4_padX_4 : decode cX4_padX 4 = .ok (.iload_n 0, 1) := by decide +kernel
theorem dX4_padX_5 : decode cX4_padX 5 = .ok (.imul, 1) := by decide +kernel
theorem dX4_padX_6 : decode cX4_padX 6 = .ok (.iadd, 1) := by decide +kernel
theorem dX4_padX_7 : decode cX4_padX 7 = .ok (.ireturn, 1) := by decide +kernel
theorem dX4_apart_0 : decode cX4_apart 0 = .ok (.iload_n 0, 1) := by decide +kernel
theorem dX4_apart_1 : decode cX4_apart 1 = .ok (.iload_n 1, 1) := by decide +kernel
theorem dX4_apart_2 : decode cX4_apart 2 = .ok (.if_icmp .ge 9, 3) := by decide +kernel
theorem dX4_apart_5 : decode cX4_apart 5 = .ok (.iload_n 1, 1) := by decide +kernel
theorem dX4_apart_6 : decode cX4_apart 6 = .ok (.iload_n 0, 1) := by decide +kernel
theorem dX4_apart_7 : decode cX4_apart 7 = .ok (.isub, 1) := by decide +kernel
theorem dX4_apart_8 : decode cX4_apart 8 = .ok (.goto 6, 3) := by decide +kernel
theorem dX4_apart_11 : decode cX4_apart 11 = .ok (.iload_n 0, 1) := by decide +kernel
theorem dX4_apart_12 : decode cX4_apart 12 = .ok (.iload_n 1, 1) := by decide +kernel
theorem dX4_apart_13 : decode cX4_apart 13 = .ok (.isub, 1) := by decide +kernel
theorem dX4_apart_14 : decode cX4_apart 14 = .ok (.ireturn, 1) := by decide +kernel
set_option maxRecDepth 20000 in
theorem ggX4_mayLay_X4_of : GoodIn wsX4_mayLay wsX4_of := goodIn_r _ [4] (by decide +kernel) (by decide +kernel)
set_option maxRecDepth 20000 in
theorem gX4_mayLay_X4_of : GoodIn wsX4_mayLay (va_wsS RX4 45 yX4_of wsX4_of) := goodIn_app (goodIn_of _ (by decide +kernel)) ggX4_mayLay_X4_of
set_option maxRecDepth 20000 in
theorem ggX4_mayLay_X4_padOf : GoodIn wsX4_mayLay wsX4_padOf := goodIn_r _ [7, 1, 2, 3, 4] (by decide +kernel) (by decide +kernel)
set_option maxRecDepth 20000 in
theorem gX4_mayLay_X4_padOf : GoodIn wsX4_mayLay (va_wsS RX4 52 yX4_padOf wsX4_padOf) := goodIn_app (goodIn_of _ (by decide +kernel)) ggX4_mayLay_X4_padOf
theorem dX4_mayLay_0 : decode cX4_mayLay 0 = .ok (.aload_n 0, 1) := by decide +kernel
theorem dX4_mayLay_1 : decode cX4_mayLay 1 = .ok (.iload_n 1, 1) := by decide +kernel
theorem dX4_mayLay_2 : decode cX4_mayLay 2 = .ok (.iconst 0, 1) := by decide +kernel
theorem dX4_mayLay_3 : decode cX4_mayLay 3 = .ok (.invokestatic 45, 3) := by decide +kernel
theorem dX4_mayLay_6 : decode cX4_mayLay 6 = .ok (.bipush (-5), 2) := by decide +kernel
theorem dX4_mayLay_8 : decode cX4_mayLay 8 = .ok (.if_icmp .ne 13, 3) := by decide +kernel
theorem dX4_mayLay_11 : decode cX4_mayLay 11 = .ok (.aload_n 0, 1) := by decide +kernel
theorem dX4_mayLay_12 : decode cX4_mayLay 12 = .ok (.iload_n 2, 1) := by decide +kernel
theorem dX4_mayLay_13 : decode cX4_mayLay 13 = .ok (.invokestatic 52, 3) := by decide +kernel
theorem dX4_mayLay_16 : decode cX4_mayLay 16 = .ok (.bipush (-5), 2) := by decide +kernel
theorem dX4_mayLay_18 : decode cX4_mayLay 18 = .ok (.if_icmp .eq 6, 3) := by decide +kernel
theorem dX4_mayLay_21 : decode cX4_mayLay 21 = .ok (.bipush (-4), 2) := by decide +kernel
theorem dX4_mayLay_23 : decode cX4_mayLay 23 = .ok (.ireturn, 1) := by decide +kernel
theorem dX4_mayLay_24 : decode cX4_mayLay 24 = .ok (.aload_n 0, 1) := by decide +kernel
theorem dX4_mayLay_25 : decode cX4_mayLay 25 = .ok (.bipush 66, 2) := by decide +kernel
theorem dX4_mayLay_27 : decode cX4_mayLay 27 = .ok (.iaload, 1) := by decide +kernel
theorem dX4_mayLay_28 : decode cX4_mayLay 28 = .ok (.iconst 1, 1) := by decide +kernel
theorem dX4_mayLay_29 : decode cX4_mayLay 29 = .ok (.if_icmp .ne 8, 3) := by decide +kernel
theorem dX4_mayLay_32 : decode cX4_mayLay 32 = .ok (.bipush (-6), 2) := by decide +kernel
theorem dX4_mayLay_34 : decode cX4_mayLay 34 = .ok (.goto 19, 3) := by decide +kernel
theorem dX4_mayLay_37 : decode cX4_mayLay 37 = .ok (.aload_n 0, 1) := by decide +kernel
theorem dX4_mayLay_38 : decode cX4_mayLay 38 = .ok (.bipush 65, 2) := by decide +kernel
theorem dX4_mayLay_40 : decode cX4_mayLay 40 = .ok (.iaload, 1) := by decide +kernel
theorem dX4_mayLay_41 : decode cX4_mayLay 41 = .ok (.sipush 200, 3) := by decide +kernel
theorem dX4_mayLay_44 : decode cX4_mayLay 44 = .ok (.if_icmp .lt 8, 3) := by decide +kernel
theorem dX4_mayLay_47 : decode cX4_mayLay 47 = .ok (.bipush (-7), 2) := by decide +kernel
theorem dX4_mayLay_49 : decode cX4_mayLay 49 = .ok (.goto 4, 3) := by decide +kernel
theorem dX4_mayLay_52 : decode cX4_mayLay 52 = .ok (.iconst 0, 1) := by decide +kernel
theorem dX4_mayLay_53 : decode cX4_mayLay 53 = .ok (.ireturn, 1) := by decide +kernel
set_option maxRecDepth 20000 in
theorem ggX4_strengthFor_X4_padX : GoodIn wsX4_strengthFor wsX4_padX := goodIn_r _ [4] (by decide +kernel) (by decide +kernel)
set_option maxRecDepth 20000 in
theorem gX4_strengthFor_X4_padX : GoodIn wsX4_strengthFor (va_wsS RX4 56 yX4_padX wsX4_padX) := goodIn_app (goodIn_of _ (by decide +kernel)) ggX4_strengthFor_X4_padX
set_option maxRecDepth 20000 in
theorem ggX4_strengthFor_X4_apart : GoodIn wsX4_strengthFor wsX4_apart := goodIn_r _ [7] (by decide +kernel) (by decide +kernel)
set_option maxRecDepth 20000 in
theorem gX4_strengthFor_X4_apart : GoodIn wsX4_strengthFor (va_wsS RX4 60 yX4_apart wsX4_apart) := goodIn_app (goodIn_of _ (by decide +kernel)) ggX4_strengthFor_X4_apart
theorem dX4_strengthFor_0 : decode cX4_strengthFor 0 = .ok (.bipush 100, 2) := by decide +kernel
theorem dX4_strengthFor_2 : decode cX4_strengthFor 2 = .ok (.aload_n 0, 1) := by decide +kernel
theorem dX4_strengthFor_3 : decode cX4_strengthFor 3 = .ok (.bipush 65, 2) := by decide +kernel
theorem dX4_strengthFor_5 : decode cX4_strengthFor 5 = .ok (.iaload, 1) := by decide +kernel
theorem dX4_strengthFor_6 : decode cX4_strengthFor 6 = .ok (.iconst 4, 1) := by decide +kernel
theorem dX4_strengthFor_7 : decode cX4_strengthFor 7 = .ok (.idiv, 1) := by decide +kernel
theorem dX4_strengthFor_8 : decode cX4_strengthFor 8 = .ok (.isub, 1) := by decide +kernel
theorem dX4_strengthFor_9 : decode cX4_strengthFor 9 = .ok (.istore_n 3, 1) := by decide +kernel
theorem dX4_strengthFor_10 : decode cX4_strengthFor 10 = .ok (.iload_n 3, 1) := by decide +kernel
theorem dX4_strengthFor_11 : decode cX4_strengthFor 11 = .ok (.ifCond .ge 7, 3) := by decide +kernel
theorem dX4_strengthFor_14 : decode cX4_strengthFor 14 = .ok (.iconst 0, 1) := by decide +kernel
theorem dX4_strengthFor_15 : decode cX4_strengthFor 15 = .ok (.goto 4, 3) := by decide +kernel
theorem dX4_strengthFor_18 : decode cX4_strengthFor 18 = .ok (.iload_n 3, 1) := by decide +kernel
theorem dX4_strengthFor_19 : decode cX4_strengthFor 19 = .ok (.iload_n 1, 1) := by decide +kernel
theorem dX4_strengthFor_20 : decode cX4_strengthFor 20 = .ok (.invokestatic 56, 3) := by decide +kernel
theorem dX4_strengthFor_23 : decode cX4_strengthFor 23 = .ok (.aload_n 0, 1) := by decide +kernel
theorem dX4_strengthFor_24 : decode cX4_strengthFor 24 = .ok (.iconst 0, 1) := by decide +kernel
theorem dX4_strengthFor_25 : decode cX4_strengthFor 25 = .ok (.iload_n 2, 1) := by decide +kernel
theorem dX4_strengthFor_26 : decode cX4_strengthFor 26 = .ok (.iadd, 1) := by decide +kernel
theorem dX4_strengthFor_27 : decode cX4_strengthFor 27 = .ok (.iaload, 1) := by decide +kernel
theorem dX4_strengthFor_28 : decode cX4_strengthFor 28 = .ok (.invokestatic 60, 3) := by decide +kernel
theorem dX4_strengthFor_31 : decode cX4_strengthFor 31 = .ok (.bipush 20, 2) := by decide +kernel
theorem dX4_strengthFor_33 : decode cX4_strengthFor 33 = .ok (.idiv, 1) := by decide +kernel
theorem dX4_strengthFor_34 : decode cX4_strengthFor 34 = .ok (.isub, 1) := by decide +kernel
theorem dX4_strengthFor_35 : decode cX4_strengthFor 35 = .ok (.istore 4, 2) := by decide +kernel
theorem dX4_strengthFor_37 : decode cX4_strengthFor 37 = .ok (.iload 4, 2) := by decide +kernel
theorem dX4_strengthFor_39 : decode cX4_strengthFor 39 = .ok (.ifCond .ge 7, 3) := by decide +kernel
theorem dX4_strengthFor_42 : decode cX4_strengthFor 42 = .ok (.iconst 0, 1) := by decide +kernel
theorem dX4_strengthFor_43 : decode cX4_strengthFor 43 = .ok (.goto 5, 3) := by decide +kernel
theorem dX4_strengthFor_46 : decode cX4_strengthFor 46 = .ok (.iload 4, 2) := by decide +kernel
theorem dX4_strengthFor_48 : decode cX4_strengthFor 48 = .ok (.ireturn, 1) := by decide +kernel
set_option maxRecDepth 20000 in
theorem ggX4_laid_X4_strengthFor : GoodIn wsX4_laid wsX4_strengthFor := goodIn_r _ [4, 5, 6, 3, 7, 8, 9, 10] (by decide +kernel) (by decide +kernel)
set_option maxRecDepth 20000 in
theorem gX4_laid_X4_strengthFor : GoodIn wsX4_laid (va_wsS RX4 64 yX4_strengthFor wsX4_strengthFor) := goodIn_app (goodIn_of _ (by decide +kernel)) ggX4_laid_X4_strengthFor
theorem dX4_laid_0 : decode cX4_laid 0 = .ok (.aload_n 0, 1) := by decide +kernel
theorem dX4_laid_1 : decode cX4_laid 1 = .ok (.iload_n 1, 1) := by decide +kernel
theorem dX4_laid_2 : decode cX4_laid 2 = .ok (.iload_n 2, 1) := by decide +kernel
theorem dX4_laid_3 : decode cX4_laid 3 = .ok (.invokestatic 64, 3) := by decide +kernel
theorem dX4_laid_6 : decode cX4_laid 6 = .ok (.istore 4, 2) := by decide +kernel
theorem dX4_laid_8 : decode cX4_laid 8 = .ok (.bipush 16, 2) := by decide +kernel
theorem dX4_laid_10 : decode cX4_laid 10 = .ok (.iconst 4, 1) := by decide +kernel
theorem dX4_laid_11 : decode cX4_laid 11 = .ok (.iload_n 1, 1) := by decide +kernel
theorem dX4_laid_12 : decode cX4_laid 12 = .ok (.imul, 1) := by decide +kernel
theorem dX4_laid_13 : decode cX4_laid 13 = .ok (.iadd, 1) := by decide +kernel
theorem dX4_laid_14 : decode cX4_laid 14 = .ok (.istore 5, 2) := by decide +kernel
theorem dX4_laid_16 : decode cX4_laid 16 = .ok (.aload_n 0, 1) := by decide +kernel
theorem dX4_laid_17 : decode cX4_laid 17 = .ok (.iload 5, 2) := by decide +kernel
theorem dX4_laid_19 : decode cX4_laid 19 = .ok (.iconst 0, 1) := by decide +kernel
theorem dX4_laid_20 : decode cX4_laid 20 = .ok (.iadd, 1) := by decide +kernel
theorem dX4_laid_21 : decode cX4_laid 21 = .ok (.iload_n 2, 1) := by decide +kernel
theorem dX4_laid_22 : decode cX4_laid 22 = .ok (.iastore, 1) := by decide +kernel
theorem dX4_laid_23 : decode cX4_laid 23 = .ok (.aload_n 0, 1) := by decide +kernel
theorem dX4_laid_24 : decode cX4_laid 24 = .ok (.iload 5, 2) := by decide +kernel
theorem dX4_laid_26 : decode cX4_laid 26 = .ok (.iconst 1, 1) := by decide +kernel
theorem dX4_laid_27 : decode cX4_laid 27 = .ok (.iadd, 1) := by decide +kernel
theorem dX4_laid_28 : decode cX4_laid 28 = .ok (.iload_n 3, 1) := by decide +kernel
theorem dX4_laid_29 : decode cX4_laid 29 = .ok (.iastore, 1) := by decide +kernel
theorem dX4_laid_30 : decode cX4_laid 30 = .ok (.aload_n 0, 1) := by decide +kernel
theorem dX4_laid_31 : decode cX4_laid 31 = .ok (.iload 5, 2) := by decide +kernel
theorem dX4_laid_33 : decode cX4_laid 33 = .ok (.iconst 2, 1) := by decide +kernel
theorem dX4_laid_34 : decode cX4_laid 34 = .ok (.iadd, 1) := by decide +kernel
theorem dX4_laid_35 : decode cX4_laid 35 = .ok (.iload 4, 2) := by decide +kernel
theorem dX4_laid_37 : decode cX4_laid 37 = .ok (.iastore, 1) := by decide +kernel
theorem dX4_laid_38 : decode cX4_laid 38 = .ok (.aload_n 0, 1) := by decide +kernel
theorem dX4_laid_39 : decode cX4_laid 39 = .ok (.iload 5, 2) := by decide +kernel
theorem dX4_laid_41 : decode cX4_laid 41 = .ok (.iconst 3, 1) := by decide +kernel
theorem dX4_laid_42 : decode cX4_laid 42 = .ok (.iadd, 1) := by decide +kernel
theorem dX4_laid_43 : decode cX4_laid 43 = .ok (.aload_n 0, 1) := by decide +kernel
theorem dX4_laid_44 : decode cX4_laid 44 = .ok (.bipush 68, 2) := by decide +kernel
theorem dX4_laid_46 : decode cX4_laid 46 = .ok (.iaload, 1) := by decide +kernel
theorem dX4_laid_47 : decode cX4_laid 47 = .ok (.iastore, 1) := by decide +kernel
theorem dX4_laid_48 : decode cX4_laid 48 = .ok (.aload_n 0, 1) := by decide +kernel
theorem dX4_laid_49 : decode cX4_laid 49 = .ok (.bipush 65, 2) := by decide +kernel
theorem dX4_laid_51 : decode cX4_laid 51 = .ok (.iaload, 1) := by decide +kernel
theorem dX4_laid_52 : decode cX4_laid 52 = .ok (.iconst 2, 1) := by decide +kernel
theorem dX4_laid_53 : decode cX4_laid 53 = .ok (.iadd, 1) := by decide +kernel
theorem dX4_laid_54 : decode cX4_laid 54 = .ok (.iload_n 3, 1) := by decide +kernel
theorem dX4_laid_55 : decode cX4_laid 55 = .ok (.bipush 50, 2) := by decide +kernel
theorem dX4_laid_57 : decode cX4_laid 57 = .ok (.idiv, 1) := by decide +kernel
theorem dX4_laid_58 : decode cX4_laid 58 = .ok (.iadd, 1) := by decide +kernel
theorem dX4_laid_59 : decode cX4_laid 59 = .ok (.istore 6, 2) := by decide +kernel
theorem dX4_laid_61 : decode cX4_laid 61 = .ok (.aload_n 0, 1) := by decide +kernel
theorem dX4_laid_62 : decode cX4_laid 62 = .ok (.bipush 65, 2) := by decide +kernel
theorem dX4_laid_64 : decode cX4_laid 64 = .ok (.iload 6, 2) := by decide +kernel
theorem dX4_laid_66 : decode cX4_laid 66 = .ok (.sipush 999, 3) := by decide +kernel
theorem dX4_laid_69 : decode cX4_laid 69 = .ok (.if_icmp .le 9, 3) := by decide +kernel
theorem dX4_laid_72 : decode cX4_laid 72 = .ok (.sipush 999, 3) := by decide +kernel
theorem dX4_laid_75 : decode cX4_laid 75 = .ok (.goto 5, 3) := by decide +kernel
theorem dX4_laid_78 : decode cX4_laid 78 = .ok (.iload 6, 2) := by decide +kernel
theorem dX4_laid_80 : decode cX4_laid 80 = .ok (.iastore, 1) := by decide +kernel
theorem dX4_laid_81 : decode cX4_laid 81 = .ok (.aload_n 0, 1) := by decide +kernel
theorem dX4_laid_82 : decode cX4_laid 82 = .ok (.bipush 68, 2) := by decide +kernel
theorem dX4_laid_84 : decode cX4_laid 84 = .ok (.dup2, 1) := by decide +kernel
theorem dX4_laid_85 : decode cX4_laid 85 = .ok (.iaload, 1) := by decide +kernel
theorem dX4_laid_86 : decode cX4_laid 86 = .ok (.iconst 1, 1) := by decide +kernel
theorem dX4_laid_87 : decode cX4_laid 87 = .ok (.iadd, 1) := by decide +kernel
theorem dX4_laid_88 : decode cX4_laid 88 = .ok (.iastore, 1) := by decide +kernel
theorem dX4_laid_89 : decode cX4_laid 89 = .ok (.aload_n 0, 1) := by decide +kernel
theorem dX4_laid_90 : decode cX4_laid 90 = .ok (.bipush 68, 2) := by decide +kernel
theorem dX4_laid_92 : decode cX4_laid 92 = .ok (.iaload, 1) := by decide +kernel
theorem dX4_laid_93 : decode cX4_laid 93 = .ok (.bipush 7, 2) := by decide +kernel
theorem dX4_laid_95 : decode cX4_laid 95 = .ok (.irem, 1) := by decide +kernel
theorem dX4_laid_96 : decode cX4_laid 96 = .ok (.ifCond .ne 16, 3) := by decide +kernel
theorem dX4_laid_99 : decode cX4_laid 99 = .ok (.aload_n 0, 1) := by decide +kernel
theorem dX4_laid_100 : decode cX4_laid 100 = .ok (.bipush 66, 2) := by decide +kernel
theorem dX4_laid_102 : decode cX4_laid 102 = .ok (.iconst 1, 1) := by decide +kernel
theorem dX4_laid_103 : decode cX4_laid 103 = .ok (.iastore, 1) := by decide +kernel
theorem dX4_laid_104 : decode cX4_laid 104 = .ok (.aload_n 0, 1) := by decide +kernel
theorem dX4_laid_105 : decode cX4_laid 105 = .ok (.bipush 67, 2) := by decide +kernel
theorem dX4_laid_107 : decode cX4_laid 107 = .ok (.dup2, 1) := by decide +kernel
theorem dX4_laid_108 : decode cX4_laid 108 = .ok (.iaload, 1) := by decide +kernel
theorem dX4_laid_109 : decode cX4_laid 109 = .ok (.iconst 1, 1) := by decide +kernel
theorem dX4_laid_110 : decode cX4_laid 110 = .ok (.iadd, 1) := by decide +kernel
theorem dX4_laid_111 : decode cX4_laid 111 = .ok (.iastore, 1) := by decide +kernel
theorem dX4_laid_112 : decode cX4_laid 112 = .ok (.iload 4, 2) := by decide +kernel
theorem dX4_laid_114 : decode cX4_laid 114 = .ok (.ireturn, 1) := by decide +kernel
theorem dX4_goes_0 : decode cX4_goes 0 = .ok (.bipush 16, 2) := by decide +kernel
theorem dX4_goes_2 : decode cX4_goes 2 = .ok (.iconst 4, 1) := by decide +kernel
theorem dX4_goes_3 : decode cX4_goes 3 = .ok (.iload_n 1, 1) := by decide +kernel
theorem dX4_goes_4 : decode cX4_goes 4 = .ok (.imul, 1) := by decide +kernel
theorem dX4_goes_5 : decode cX4_goes 5 = .ok (.iadd, 1) := by decide +kernel
theorem dX4_goes_6 : decode cX4_goes 6 = .ok (.istore_n 2, 1) := by decide +kernel
theorem dX4_goes_7 : decode cX4_goes 7 = .ok (.aload_n 0, 1) := by decide +kernel
theorem dX4_goes_8 : decode cX4_goes 8 = .ok (.getfield 7, 3) := by decide +kernel
theorem dX4_goes_11 : decode cX4_goes 11 = .ok (.iload_n 2, 1) := by decide +kernel
theorem dX4_goes_12 : decode cX4_goes 12 = .ok (.iconst 0, 1) := by decide +kernel
theorem dX4_goes_13 : decode cX4_goes 13 = .ok (.iadd, 1) := by decide +kernel
theorem dX4_goes_14 : decode cX4_goes 14 = .ok (.bipush (-5), 2) := by decide +kernel
theorem dX4_goes_16 : decode cX4_goes 16 = .ok (.iastore, 1) := by decide +kernel
theorem dX4_goes_17 : decode cX4_goes 17 = .ok (.aload_n 0, 1) := by decide +kernel
theorem dX4_goes_18 : decode cX4_goes 18 = .ok (.getfield 7, 3) := by decide +kernel
theorem dX4_goes_21 : decode cX4_goes 21 = .ok (.iload_n 2, 1) := by decide +kernel
theorem dX4_goes_22 : decode cX4_goes 22 = .ok (.iconst 1, 1) := by decide +kernel
theorem dX4_goes_23 : decode cX4_goes 23 = .ok (.iadd, 1) := by decide +kernel
theorem dX4_goes_24 : decode cX4_goes 24 = .ok (.iconst 0, 1) := by decide +kernel
theorem dX4_goes_25 : decode cX4_goes 25 = .ok (.iastore, 1) := by decide +kernel
theorem dX4_goes_26 : decode cX4_goes 26 = .ok (.aload_n 0, 1) := by decide +kernel
theorem dX4_goes_27 : decode cX4_goes 27 = .ok (.getfield 7, 3) := by decide +kernel
theorem dX4_goes_30 : decode cX4_goes 30 = .ok (.iload_n 2, 1) := by decide +kernel
theorem dX4_goes_31 : decode cX4_goes 31 = .ok (.iconst 2, 1) := by decide +kernel
theorem dX4_goes_32 : decode cX4_goes 32 = .ok (.iadd, 1) := by decide +kernel
theorem dX4_goes_33 : decode cX4_goes 33 = .ok (.iconst 0, 1) := by decide +kernel
theorem dX4_goes_34 : decode cX4_goes 34 = .ok (.iastore, 1) := by decide +kernel
theorem dX4_goes_35 : decode cX4_goes 35 = .ok (.aload_n 0, 1) := by decide +kernel
theorem dX4_goes_36 : decode cX4_goes 36 = .ok (.getfield 7, 3) := by decide +kernel
theorem dX4_goes_39 : decode cX4_goes 39 = .ok (.iload_n 2, 1) := by decide +kernel
theorem dX4_goes_40 : decode cX4_goes 40 = .ok (.iconst 3, 1) := by decide +kernel
theorem dX4_goes_41 : decode cX4_goes 41 = .ok (.iadd, 1) := by decide +kernel
theorem dX4_goes_42 : decode cX4_goes 42 = .ok (.iconst 0, 1) := by decide +kernel
theorem dX4_goes_43 : decode cX4_goes 43 = .ok (.iastore, 1) := by decide +kernel
theorem dX4_goes_44 : decode cX4_goes 44 = .ok (.return_, 1) := by decide +kernel
set_option maxRecDepth 20000 in
theorem ggX4_lay_X4_isPad : GoodIn wsX4_lay wsX4_isPad := goodIn_r _ [5, 6, 7, 4, 8] (by decide +kernel) (by decide +kernel)
set_option maxRecDepth 20000 in
theorem gX4_lay_X4_isPad : GoodIn wsX4_lay (va_wsS RX4 41 yX4_isPad wsX4_isPad) := goodIn_app (goodIn_of _ (by decide +kernel)) ggX4_lay_X4_isPad
set_option maxRecDepth 20000 in
theorem ggX4_lay_X4_isLead : GoodIn wsX4_lay wsX4_isLead := goodIn_r _ [11, 6, 7, 4, 8] (by decide +kernel) (by decide +kernel)
set_option maxRecDepth 20000 in
theorem gX4_lay_X4_isLead : GoodIn wsX4_lay (va_wsS RX4 67 yX4_isLead wsX4_isLead) := goodIn_app (goodIn_of _ (by decide +kernel)) ggX4_lay_X4_isLead
set_option maxRecDepth 20000 in
theorem ggX4_lay_X4_isHeight : GoodIn wsX4_lay wsX4_isHeight := goodIn_r _ [14, 6, 7, 4, 8] (by decide +kernel) (by decide +kernel)
set_option maxRecDepth 20000 in
theorem gX4_lay_X4_isHeight : GoodIn wsX4_lay (va_wsS RX4 70 yX4_isHeight wsX4_isHeight) := goodIn_app (goodIn_of _ (by decide +kernel)) ggX4_lay_X4_isHeight
set_option maxRecDepth 20000 in
theorem ggX4_lay_X4_mayLay : GoodIn wsX4_lay wsX4_mayLay := goodIn_r _ [17, 18, 19, 4, 20, 21, 22, 23] (by decide +kernel) (by decide +kernel)
set_option maxRecDepth 20000 in
theorem gX4_lay_X4_mayLay : GoodIn wsX4_lay (va_wsS RX4 73 yX4_mayLay wsX4_mayLay) := goodIn_app (goodIn_of _ (by decide +kernel)) ggX4_lay_X4_mayLay
set_option maxRecDepth 20000 in
theorem ggX4_lay_X4_records : GoodIn wsX4_lay wsX4_records := goodIn_r _ [27, 28, 29, 1, 30, 31, 4, 32, 45, 46, 47, 48, 49, 50, 51, 52, 53, 54, 55] (by decide +kernel) (by decide +kernel)
set_option maxRecDepth 20000 in
theorem gX4_lay_X4_records : GoodIn wsX4_lay (wsV RX4 76 RX4 yX4_records wsX4_records) := goodIn_app (goodIn_of _ (by decide +kernel)) ggX4_lay_X4_records
set_option maxRecDepth 20000 in
theorem ggX4_lay_X4_laid : GoodIn wsX4_lay wsX4_laid := goodIn_r _ [35, 36, 37, 4, 38, 39, 40, 41, 42, 43, 44] (by decide +kernel) (by decide +kernel)
set_option maxRecDepth 20000 in
theorem gX4_lay_X4_laid : GoodIn wsX4_lay (va_wsS RX4 79 yX4_laid wsX4_laid) := goodIn_app (goodIn_of _ (by decide +kernel)) ggX4_lay_X4_laid
theorem dX4_lay_0 : decode cX4_lay 0 = .ok (.iload_n 1, 1) := by decide +kernel
theorem dX4_lay_1 : decode cX4_lay 1 = .ok (.invokestatic 41, 3) := by decide +kernel
theorem dX4_lay_4 : decode cX4_lay 4 = .ok (.ifCond .eq 10, 3) := by decide +kernel
theorem dX4_lay_7 : decode cX4_lay 7 = .ok (.iload_n 2, 1) := by decide +kernel
theorem dX4_lay_8 : decode cX4_lay 8 = .ok (.invokestatic 67, 3) := by decide +kernel
theorem dX4_lay_11 : decode cX4_lay 11 = .ok (.ifCond .ne 5, 3) := by decide +kernel
theorem dX4_lay_14 : decode cX4_lay 14 = .ok (.iconst (-1), 1) := by decide +kernel
theorem dX4_lay_15 : decode cX4_lay 15 = .ok (.ireturn, 1) := by decide +kernel
theorem dX4_lay_16 : decode cX4_lay 16 = .ok (.iload_n 3, 1) := by decide +kernel
theorem dX4_lay_17 : decode cX4_lay 17 = .ok (.invokestatic 70, 3) := by decide +kernel
theorem dX4_lay_20 : decode cX4_lay 20 = .ok (.ifCond .ne 6, 3) := by decide +kernel
theorem dX4_lay_23 : decode cX4_lay 23 = .ok (.bipush (-2), 2) := by decide +kernel
theorem dX4_lay_25 : decode cX4_lay 25 = .ok (.ireturn, 1) := by decide +kernel
theorem dX4_lay_26 : decode cX4_lay 26 = .ok (.aload_n 0, 1) := by decide +kernel
theorem dX4_lay_27 : decode cX4_lay 27 = .ok (.getfield 7, 3) := by decide +kernel
theorem dX4_lay_30 : decode cX4_lay 30 = .ok (.iload_n 1, 1) := by decide +kernel
theorem dX4_lay_31 : decode cX4_lay 31 = .ok (.iload_n 2, 1) := by decide +kernel
theorem dX4_lay_32 : decode cX4_lay 32 = .ok (.invokestatic 73, 3) := by decide +kernel
theorem dX4_lay_35 : decode cX4_lay 35 = .ok (.istore 4, 2) := by decide +kernel
theorem dX4_lay_37 : decode cX4_lay 37 = .ok (.iload 4, 2) := by decide +kernel
theorem dX4_lay_39 : decode cX4_lay 39 = .ok (.ifCond .ge 6, 3) := by decide +kernel
theorem dX4_lay_42 : decode cX4_lay 42 = .ok (.iload 4, 2) := by decide +kernel
theorem dX4_lay_44 : decode cX4_lay 44 = .ok (.ireturn, 1) := by decide +kernel
theorem dX4_lay_45 : decode cX4_lay 45 = .ok (.aload_n 0, 1) := by decide +kernel
theorem dX4_lay_46 : decode cX4_lay 46 = .ok (.invokevirtual 76, 3) := by decide +kernel
theorem dX4_lay_49 : decode cX4_lay 49 = .ok (.aload_n 0, 1) := by decide +kernel
theorem dX4_lay_50 : decode cX4_lay 50 = .ok (.getfield 7, 3) := by decide +kernel
theorem dX4_lay_53 : decode cX4_lay 53 = .ok (.iload_n 1, 1) := by decide +kernel
theorem dX4_lay_54 : decode cX4_lay 54 = .ok (.iload_n 2, 1) := by decide +kernel
theorem dX4_lay_55 : decode cX4_lay 55 = .ok (.iload_n 3, 1) := by decide +kernel
theorem dX4_lay_56 : decode cX4_lay 56 = .ok (.invokestatic 79, 3) := by decide +kernel
theorem dX4_lay_59 : decode cX4_lay 59 = .ok (.ireturn, 1) := by decide +kernel
set_option maxRecDepth 20000 in
theorem ggX4_layAll_X4_fault : GoodIn wsX4_layAll wsX4_fault := goodIn_r _ [9, 10, 3, 11, 12, 13, 14, 8, 15, 4, 16, 17, 18, 19, 20, 21, 22, 23, 24, 25, 26, 27, 28, 29, 30, 31, 73, 74, 75, 76, 77, 78, 79, 80, 81, 82, 83] (by decide +kernel) (by decide +kernel)
set_option maxRecDepth 20000 in
theorem gX4_layAll_X4_fault : GoodIn wsX4_layAll (wsV RX4 83 RX4 yX4_fault wsX4_fault) := goodIn_app (goodIn_of _ (by decide +kernel)) ggX4_layAll_X4_fault
set_option maxRecDepth 20000 in
theorem ggX4_layAll_X4_lays : GoodIn wsX4_layAll wsX4_lays := goodIn_r _ [34] (by decide +kernel) (by decide +kernel)
set_option maxRecDepth 20000 in
theorem gX4_layAll_X4_lays : GoodIn wsX4_layAll (va_wsS RX4 33 yX4_lays wsX4_lays) := goodIn_app (goodIn_of _ (by decide +kernel)) ggX4_layAll_X4_lays
set_option maxRecDepth 20000 in
theorem ggX4_layAll_X4_mayLay : GoodIn wsX4_layAll wsX4_mayLay := goodIn_r _ [37, 38, 39, 8, 40, 41, 42, 43] (by decide +kernel) (by decide +kernel)
set_option maxRecDepth 20000 in
theorem gX4_layAll_X4_mayLay : GoodIn wsX4_layAll (va_wsS RX4 73 yX4_mayLay wsX4_mayLay) := goodIn_app (goodIn_of _ (by decide +kernel)) ggX4_layAll_X4_mayLay
set_option maxRecDepth 20000 in
theorem ggX4_layAll_X4_laid : GoodIn wsX4_layAll wsX4_laid := goodIn_r _ [46, 47, 48, 8, 49, 50, 51, 52, 53, 54, 55] (by decide +kernel) (by decide +kernel)
set_option maxRecDepth 20000 in
theorem gX4_layAll_X4_laid : GoodIn wsX4_layAll (va_wsS RX4 79 yX4_laid wsX4_laid) := goodIn_app (goodIn_of _ (by decide +kernel)) ggX4_layAll_X4_laid
set_option maxRecDepth 20000 in
theorem ggX4_layAll_X4_records : GoodIn wsX4_layAll wsX4_records := goodIn_r _ [59, 60, 61, 1, 32, 33, 8, 34, 73, 74, 75, 76, 77, 78, 79, 80, 81, 82, 83] (by decide +kernel) (by decide +kernel)
set_option maxRecDepth 20000 in
theorem gX4_layAll_X4_records : GoodIn wsX4_layAll (wsV RX4 76 RX4 yX4_records wsX4_records) := goodIn_app (goodIn_of _ (by decide +kernel)) ggX4_layAll_X4_records
set_option maxRecDepth 20000 in
theorem ggX4_layAll_X4_wires : GoodIn wsX4_layAll wsX4_wires := goodIn_r _ [65, 66, 67, 68, 8, 69, 1, 70, 71, 72, 25, 26, 27, 38, 39, 40, 73, 74, 75, 76, 77, 78, 79, 80, 81, 82, 83] (by decide +kernel) (by decide +kernel)
set_option maxRecDepth 20000 in
theorem gX4_layAll_X4_wires : GoodIn wsX4_layAll (wsV RX4 90 RX4 yX4_wires wsX4_wires) := goodIn_app (goodIn_of _ (by decide +kernel)) ggX4_layAll_X4_wires
theorem dX4_layAll_0 : decode cX4_layAll 0 = .ok (.aload_n 0, 1) := by decide +kernel
theorem dX4_layAll_1 : decode cX4_layAll 1 = .ok (.invokevirtual 83, 3) := by decide +kernel
theorem dX4_layAll_4 : decode cX4_layAll 4 = .ok (.istore_n 1, 1) := by decide +kernel
theorem dX4_layAll_5 : decode cX4_layAll 5 = .ok (.iload_n 1, 1) := by decide +kernel
theorem dX4_layAll_6 : decode cX4_layAll 6 = .ok (.bipush (-5), 2) := by decide +kernel
theorem dX4_layAll_8 : decode cX4_layAll 8 = .ok (.if_icmp .eq 8, 3) := by decide +kernel
theorem dX4_layAll_11 : decode cX4_layAll 11 = .ok (.bipush (-100), 2) := by decide +kernel
theorem dX4_layAll_13 : decode cX4_layAll 13 = .ok (.iload_n 1, 1) := by decide +kernel
theorem dX4_layAll_14 : decode cX4_layAll 14 = .ok (.isub, 1) := by decide +kernel
theorem dX4_layAll_15 : decode cX4_layAll 15 = .ok (.ireturn, 1) := by decide +kernel
theorem dX4_layAll_16 : decode cX4_layAll 16 = .ok (.aload_n 0, 1) := by decide +kernel
theorem dX4_layAll_17 : decode cX4_layAll 17 = .ok (.getfield 7, 3) := by decide +kernel
theorem dX4_layAll_20 : decode cX4_layAll 20 = .ok (.iconst 0, 1) := by decide +kernel
theorem dX4_layAll_21 : decode cX4_layAll 21 = .ok (.aload_n 0, 1) := by decide +kernel
theorem dX4_layAll_22 : decode cX4_layAll 22 = .ok (.getfield 13, 3) := by decide +kernel
theorem dX4_layAll_25 : decode cX4_layAll 25 = .ok (.iconst 0, 1) := by decide +kernel
theorem dX4_layAll_26 : decode cX4_layAll 26 = .ok (.invokestatic 33, 3) := by decide +kernel
theorem dX4_layAll_29 : decode cX4_layAll 29 = .ok (.iconst 0, 1) := by decide +kernel
theorem dX4_layAll_30 : decode cX4_layAll 30 = .ok (.istore_n 2, 1) := by decide +kernel
theorem dX4_layAll_31 : decode cX4_layAll 31 = .ok (.iload_n 2, 1) := by decide +kernel
theorem dX4_layAll_32 : decode cX4_layAll 32 = .ok (.aload_n 0, 1) := by decide +kernel
theorem dX4_layAll_33 : decode cX4_layAll 33 = .ok (.getfield 87, 3) := by decide +kernel
theorem dX4_layAll_36 : decode cX4_layAll 36 = .ok (.if_icmp .ge 79, 3) := by decide +kernel
theorem dX4_layAll_39 : decode cX4_layAll 39 = .ok (.aload_n 0, 1) := by decide +kernel
theorem dX4_layAll_40 : decode cX4_layAll 40 = .ok (.getfield 13, 3) := by decide +kernel
theorem dX4_layAll_43 : decode cX4_layAll 43 = .ok (.aload_n 0, 1) := by decide +kernel
theorem dX4_layAll_44 : decode cX4_layAll 44 = .ok (.getfield 26, 3) := by decide +kernel
theorem dX4_layAll_47 : decode cX4_layAll 47 = .ok (.iconst 3, 1) := by decide +kernel
theorem dX4_layAll_48 : decode cX4_layAll 48 = .ok (.iload_n 2, 1) := by decide +kernel
theorem dX4_layAll_49 : decode cX4_layAll 49 = .ok (.imul, 1) := by decide +kernel
theorem dX4_layAll_50 : decode cX4_layAll 50 = .ok (.iaload, 1) := by decide +kernel
theorem dX4_layAll_51 : decode cX4_layAll 51 = .ok (.aload_n 0, 1) := by decide +kernel
theorem dX4_layAll_52 : decode cX4_layAll 52 = .ok (.getfield 26, 3) := by decide +kernel
theorem dX4_layAll_55 : decode cX4_layAll 55 = .ok (.iconst 3, 1) := by decide +kernel
theorem dX4_layAll_56 : decode cX4_layAll 56 = .ok (.iload_n 2, 1) := by decide +kernel
theorem dX4_layAll_57 : decode cX4_layAll 57 = .ok (.imul, 1) := by decide +kernel
theorem dX4_layAll_58 : decode cX4_layAll 58 = .ok (.iconst 1, 1) := by decide +kernel
theorem dX4_layAll_59 : decode cX4_layAll 59 = .ok (.iadd, 1) := by decide +kernel
theorem dX4_layAll_60 : decode cX4_layAll 60 = .ok (.iaload, 1) := by decide +kernel
theorem dX4_layAll_61 : decode cX4_layAll 61 = .ok (.invokestatic 73, 3) := by decide +kernel
theorem dX4_layAll_64 : decode cX4_layAll 64 = .ok (.istore_n 3, 1) := by decide +kernel
theorem dX4_layAll_65 : decode cX4_layAll 65 = .ok (.iload_n 3, 1) := by decide +kernel
theorem dX4_layAll_66 : decode cX4_layAll 66 = .ok (.ifCond .lt 41, 3) := by decide +kernel
theorem dX4_layAll_69 : decode cX4_layAll 69 = .ok (.aload_n 0, 1) := by decide +kernel
theorem dX4_layAll_70 : decode cX4_layAll 70 = .ok (.getfield 13, 3) := by decide +kernel
end
section
theorem dX4_layAll_73 : decode cX4_layAll 73 = .ok (.aload_n 0, 1) := by decide +kernel
theorem dX4_layAll_74 : decode cX4_layAll 74 = .ok (.getfield 26, 3) := by decide +kernel
theorem dX4_layAll_77 : decode cX4_layAll 77 = .ok (.iconst 3, 1) := by decide +kernel
theorem dX4_layAll_78 : decode cX4_layAll 78 = .ok (.iload_n 2, 1) := by decide +kernel
theorem dX4_layAll_79 : decode cX4_layAll 79 = .ok (.imul, 1) := by decide +kernel
theorem dX4_layAll_80 : decode cX4_layAll 80 = .ok (.iaload, 1) := by decide +kernel
theorem dX4_layAll_81 : decode cX4_layAll 81 = .ok (.aload_n 0, 1) := by decide +kernel
theorem dX4_layAll_82 : decode cX4_layAll 82 = .ok (.getfield 26, 3) := by decide +kernel
theorem dX4_layAll_85 : decode cX4_layAll 85 = .ok (.iconst 3, 1) := by decide +kernel
theorem dX4_layAll_86 : decode cX4_layAll 86 = .ok (.iload_n 2, 1) := by decide +kernel
theorem dX4_layAll_87 : decode cX4_layAll 87 = .ok (.imul, 1) := by decide +kernel
theorem dX4_layAll_88 : decode cX4_layAll 88 = .ok (.iconst 1, 1) := by decide +kernel
theorem dX4_layAll_89 : decode cX4_layAll 89 = .ok (.iadd, 1) := by decide +kernel
theorem dX4_layAll_90 : decode cX4_layAll 90 = .ok (.iaload, 1) := by decide +kernel
theorem dX4_layAll_91 : decode cX4_layAll 91 = .ok (.aload_n 0, 1) := by decide +kernel
theorem dX4_layAll_92 : decode cX4_layAll 92 = .ok (.getfield 26, 3) := by decide +kernel
theorem dX4_layAll_95 : decode cX4_layAll 95 = .ok (.iconst 3, 1) := by decide +kernel
theorem dX4_layAll_96 : decode cX4_layAll 96 = .ok (.iload_n 2, 1) := by decide +kernel
theorem dX4_layAll_97 : decode cX4_layAll 97 = .ok (.imul, 1) := by decide +kernel
theorem dX4_layAll_98 : decode cX4_layAll 98 = .ok (.iconst 2, 1) := by decide +kernel
theorem dX4_layAll_99 : decode cX4_layAll 99 = .ok (.iadd, 1) := by decide +kernel
theorem dX4_layAll_100 : decode cX4_layAll 100 = .ok (.iaload, 1) := by decide +kernel
theorem dX4_layAll_101 : decode cX4_layAll 101 = .ok (.invokestatic 79, 3) := by decide +kernel
theorem dX4_layAll_104 : decode cX4_layAll 104 = .ok (.ifCond .ge 5, 3) := by decide +kernel
theorem dX4_layAll_107 : decode cX4_layAll 107 = .ok (.iload_n 3, 1) := by decide +kernel
theorem dX4_layAll_108 : decode cX4_layAll 108 = .ok (.ireturn, 1) := by decide +kernel
theorem dX4_layAll_109 : decode cX4_layAll 109 = .ok (.iinc 2 1, 3) := by decide +kernel
theorem dX4_layAll_112 : decode cX4_layAll 112 = .ok (.goto (-81), 3) := by decide +kernel
theorem dX4_layAll_115 : decode cX4_layAll 115 = .ok (.aload_n 0, 1) := by decide +kernel
theorem dX4_layAll_116 : decode cX4_layAll 116 = .ok (.invokevirtual 76, 3) := by decide +kernel
theorem dX4_layAll_119 : decode cX4_layAll 119 = .ok (.aload_n 0, 1) := by decide +kernel
theorem dX4_layAll_120 : decode cX4_layAll 120 = .ok (.getfield 13, 3) := by decide +kernel
theorem dX4_layAll_123 : decode cX4_layAll 123 = .ok (.iconst 0, 1) := by decide +kernel
theorem dX4_layAll_124 : decode cX4_layAll 124 = .ok (.aload_n 0, 1) := by decide +kernel
theorem dX4_layAll_125 : decode cX4_layAll 125 = .ok (.getfield 7, 3) := by decide +kernel
theorem dX4_layAll_128 : decode cX4_layAll 128 = .ok (.iconst 0, 1) := by decide +kernel
theorem dX4_layAll_129 : decode cX4_layAll 129 = .ok (.invokestatic 33, 3) := by decide +kernel
theorem dX4_layAll_132 : decode cX4_layAll 132 = .ok (.aload_n 0, 1) := by decide +kernel
theorem dX4_layAll_133 : decode cX4_layAll 133 = .ok (.invokevirtual 90, 3) := by decide +kernel
theorem dX4_layAll_136 : decode cX4_layAll 136 = .ok (.ireturn, 1) := by decide +kernel
set_option maxRecDepth 20000 in
theorem ggX4_takeOff_X4_hasWire : GoodIn wsX4_takeOff wsX4_hasWire := goodIn_r _ [6, 1, 7, 8, 5, 9, 10, 11, 12, 13, 14, 15, 29, 30, 31, 32, 33, 34, 35, 36, 37, 38, 39] (by decide +kernel) (by decide +kernel)
set_option maxRecDepth 20000 in
theorem gX4_takeOff_X4_hasWire : GoodIn wsX4_takeOff (wsV RX4 49 RX4 yX4_hasWire wsX4_hasWire) := goodIn_app (goodIn_of _ (by decide +kernel)) ggX4_takeOff_X4_hasWire
set_option maxRecDepth 20000 in
theorem ggX4_takeOff_X4_records : GoodIn wsX4_takeOff wsX4_records := goodIn_r _ [19, 20, 21, 1, 22, 23, 5, 24, 29, 30, 31, 32, 33, 34, 35, 36, 37, 38, 39] (by decide +kernel) (by decide +kernel)
set_option maxRecDepth 20000 in
theorem gX4_takeOff_X4_records : GoodIn wsX4_takeOff (wsV RX4 76 RX4 yX4_records wsX4_records) := goodIn_app (goodIn_of _ (by decide +kernel)) ggX4_takeOff_X4_records
set_option maxRecDepth 20000 in
theorem ggX4_takeOff_X4_of : GoodIn wsX4_takeOff wsX4_of := goodIn_r _ [15] (by decide +kernel) (by decide +kernel)
set_option maxRecDepth 20000 in
theorem gX4_takeOff_X4_of : GoodIn wsX4_takeOff (va_wsS RX4 45 yX4_of wsX4_of) := goodIn_app (goodIn_of _ (by decide +kernel)) ggX4_takeOff_X4_of
set_option maxRecDepth 20000 in
theorem ggX4_takeOff_X4_goes : GoodIn wsX4_takeOff wsX4_goes := goodIn_r _ [28, 1, 29, 30, 31, 32, 33, 34, 35, 36, 37, 38, 39] (by decide +kernel) (by decide +kernel)
set_option maxRecDepth 20000 in
theorem gX4_takeOff_X4_goes : GoodIn wsX4_takeOff (wsV RX4 93 RX4 yX4_goes wsX4_goes) := goodIn_app (goodIn_of _ (by decide +kernel)) ggX4_takeOff_X4_goes
theorem dX4_takeOff_0 : decode cX4_takeOff 0 = .ok (.aload_n 0, 1) := by decide +kernel
theorem dX4_takeOff_1 : decode cX4_takeOff 1 = .ok (.iload_n 1, 1) := by decide +kernel
theorem dX4_takeOff_2 : decode cX4_takeOff 2 = .ok (.invokevirtual 49, 3) := by decide +kernel
theorem dX4_takeOff_5 : decode cX4_takeOff 5 = .ok (.ifCond .ne 5, 3) := by decide +kernel
theorem dX4_takeOff_8 : decode cX4_takeOff 8 = .ok (.iconst (-1), 1) := by decide +kernel
theorem dX4_takeOff_9 : decode cX4_takeOff 9 = .ok (.ireturn, 1) := by decide +kernel
theorem dX4_takeOff_10 : decode cX4_takeOff 10 = .ok (.aload_n 0, 1) := by decide +kernel
theorem dX4_takeOff_11 : decode cX4_takeOff 11 = .ok (.invokevirtual 76, 3) := by decide +kernel
theorem dX4_takeOff_14 : decode cX4_takeOff 14 = .ok (.aload_n 0, 1) := by decide +kernel
theorem dX4_takeOff_15 : decode cX4_takeOff 15 = .ok (.getfield 7, 3) := by decide +kernel
theorem dX4_takeOff_18 : decode cX4_takeOff 18 = .ok (.iload_n 1, 1) := by decide +kernel
theorem dX4_takeOff_19 : decode cX4_takeOff 19 = .ok (.iconst 2, 1) := by decide +kernel
theorem dX4_takeOff_20 : decode cX4_takeOff 20 = .ok (.invokestatic 45, 3) := by decide +kernel
theorem dX4_takeOff_23 : decode cX4_takeOff 23 = .ok (.istore_n 2, 1) := by decide +kernel
theorem dX4_takeOff_24 : decode cX4_takeOff 24 = .ok (.aload_n 0, 1) := by decide +kernel
theorem dX4_takeOff_25 : decode cX4_takeOff 25 = .ok (.iload_n 1, 1) := by decide +kernel
theorem dX4_takeOff_26 : decode cX4_takeOff 26 = .ok (.invokevirtual 93, 3) := by decide +kernel
theorem dX4_takeOff_29 : decode cX4_takeOff 29 = .ok (.iload_n 2, 1) := by decide +kernel
theorem dX4_takeOff_30 : decode cX4_takeOff 30 = .ok (.ireturn, 1) := by decide +kernel
set_option maxRecDepth 20000 in
theorem ggX4_bend_X4_hasWire : GoodIn wsX4_bend wsX4_hasWire := goodIn_r _ [5, 6, 7, 8, 4, 9, 10, 11, 12, 13, 14, 15, 32, 33, 34, 35, 36, 37, 38, 39, 40, 41, 42] (by decide +kernel) (by decide +kernel)
set_option maxRecDepth 20000 in
theorem gX4_bend_X4_hasWire : GoodIn wsX4_bend (wsV RX4 49 RX4 yX4_hasWire wsX4_hasWire) := goodIn_app (goodIn_of _ (by decide +kernel)) ggX4_bend_X4_hasWire
set_option maxRecDepth 20000 in
theorem ggX4_bend_X4_isHeight : GoodIn wsX4_bend wsX4_isHeight := goodIn_r _ [18, 10, 11, 4, 12] (by decide +kernel) (by decide +kernel)
set_option maxRecDepth 20000 in
theorem gX4_bend_X4_isHeight : GoodIn wsX4_bend (va_wsS RX4 70 yX4_isHeight wsX4_isHeight) := goodIn_app (goodIn_of _ (by decide +kernel)) ggX4_bend_X4_isHeight
set_option maxRecDepth 20000 in
theorem ggX4_bend_X4_becomes : GoodIn wsX4_bend wsX4_becomes := goodIn_r _ [22, 6, 23, 24, 25, 4, 26, 27, 28, 29, 30, 31, 32, 33, 34, 35, 36, 37, 38, 39, 40, 41, 42] (by decide +kernel) (by decide +kernel)
set_option maxRecDepth 20000 in
theorem gX4_bend_X4_becomes : GoodIn wsX4_bend (wsV RX4 97 RX4 yX4_becomes wsX4_becomes) := goodIn_app (goodIn_of _ (by decide +kernel)) ggX4_bend_X4_becomes
theorem dX4_bend_0 : decode cX4_bend 0 = .ok (.aload_n 0, 1) := by decide +kernel
theorem dX4_bend_1 : decode cX4_bend 1 = .ok (.iload_n 1, 1) := by decide +kernel
theorem dX4_bend_2 : decode cX4_bend 2 = .ok (.invokevirtual 49, 3) := by decide +kernel
theorem dX4_bend_5 : decode cX4_bend 5 = .ok (.ifCond .ne 5, 3) := by decide +kernel
theorem dX4_bend_8 : decode cX4_bend 8 = .ok (.iconst (-1), 1) := by decide +kernel
theorem dX4_bend_9 : decode cX4_bend 9 = .ok (.ireturn, 1) := by decide +kernel
theorem dX4_bend_10 : decode cX4_bend 10 = .ok (.iload_n 2, 1) := by decide +kernel
theorem dX4_bend_11 : decode cX4_bend 11 = .ok (.invokestatic 70, 3) := by decide +kernel
theorem dX4_bend_14 : decode cX4_bend 14 = .ok (.ifCond .eq 19, 3) := by decide +kernel
theorem dX4_bend_17 : decode cX4_bend 17 = .ok (.aload_n 0, 1) := by decide +kernel
theorem dX4_bend_18 : decode cX4_bend 18 = .ok (.bipush 16, 2) := by decide +kernel
theorem dX4_bend_20 : decode cX4_bend 20 = .ok (.iconst 4, 1) := by decide +kernel
theorem dX4_bend_21 : decode cX4_bend 21 = .ok (.iload_n 1, 1) := by decide +kernel
theorem dX4_bend_22 : decode cX4_bend 22 = .ok (.imul, 1) := by decide +kernel
theorem dX4_bend_23 : decode cX4_bend 23 = .ok (.iadd, 1) := by decide +kernel
theorem dX4_bend_24 : decode cX4_bend 24 = .ok (.iconst 1, 1) := by decide +kernel
theorem dX4_bend_25 : decode cX4_bend 25 = .ok (.iadd, 1) := by decide +kernel
theorem dX4_bend_26 : decode cX4_bend 26 = .ok (.iload_n 2, 1) := by decide +kernel
theorem dX4_bend_27 : decode cX4_bend 27 = .ok (.invokevirtual 97, 3) := by decide +kernel
theorem dX4_bend_30 : decode cX4_bend 30 = .ok (.goto 5, 3) := by decide +kernel
theorem dX4_bend_33 : decode cX4_bend 33 = .ok (.bipush (-2), 2) := by decide +kernel
theorem dX4_bend_35 : decode cX4_bend 35 = .ok (.ireturn, 1) := by decide +kernel
set_option maxRecDepth 20000 in
theorem ggX4_becomes_X4_records : GoodIn wsX4_becomes wsX4_records := goodIn_r _ [6, 7, 8, 1, 9, 10, 5, 11, 12, 13, 14, 15, 16, 17, 18, 19, 20, 21, 22] (by decide +kernel) (by decide +kernel)
set_option maxRecDepth 20000 in
theorem gX4_becomes_X4_records : GoodIn wsX4_becomes (wsV RX4 76 RX4 yX4_records wsX4_records) := goodIn_app (goodIn_of _ (by decide +kernel)) ggX4_becomes_X4_records
theorem dX4_becomes_0 : decode cX4_becomes 0 = .ok (.aload_n 0, 1) := by decide +kernel
theorem dX4_becomes_1 : decode cX4_becomes 1 = .ok (.getfield 7, 3) := by decide +kernel
theorem dX4_becomes_4 : decode cX4_becomes 4 = .ok (.iload_n 1, 1) := by decide +kernel
theorem dX4_becomes_5 : decode cX4_becomes 5 = .ok (.iaload, 1) := by decide +kernel
theorem dX4_becomes_6 : decode cX4_becomes 6 = .ok (.istore_n 3, 1) := by decide +kernel
theorem dX4_becomes_7 : decode cX4_becomes 7 = .ok (.iload_n 3, 1) := by decide +kernel
theorem dX4_becomes_8 : decode cX4_becomes 8 = .ok (.iload_n 2, 1) := by decide +kernel
theorem dX4_becomes_9 : decode cX4_becomes 9 = .ok (.if_icmp .ne 6, 3) := by decide +kernel
theorem dX4_becomes_12 : decode cX4_becomes 12 = .ok (.bipush (-5), 2) := by decide +kernel
theorem dX4_becomes_14 : decode cX4_becomes 14 = .ok (.ireturn, 1) := by decide +kernel
theorem dX4_becomes_15 : decode cX4_becomes 15 = .ok (.aload_n 0, 1) := by decide +kernel
theorem dX4_becomes_16 : decode cX4_becomes 16 = .ok (.invokevirtual 76, 3) := by decide +kernel
theorem dX4_becomes_19 : decode cX4_becomes 19 = .ok (.aload_n 0, 1) := by decide +kernel
theorem dX4_becomes_20 : decode cX4_becomes 20 = .ok (.getfield 7, 3) := by decide +kernel
theorem dX4_becomes_23 : decode cX4_becomes 23 = .ok (.iload_n 1, 1) := by decide +kernel
theorem dX4_becomes_24 : decode cX4_becomes 24 = .ok (.iload_n 2, 1) := by decide +kernel
theorem dX4_becomes_25 : decode cX4_becomes 25 = .ok (.iastore, 1) := by decide +kernel
theorem dX4_becomes_26 : decode cX4_becomes 26 = .ok (.iload_n 3, 1) := by decide +kernel
theorem dX4_becomes_27 : decode cX4_becomes 27 = .ok (.ireturn, 1) := by decide +kernel
set_option maxRecDepth 20000 in
theorem ggX4_moveLead_X4_isLead : GoodIn wsX4_moveLead wsX4_isLead := goodIn_r _ [5, 6, 7, 4, 8] (by decide +kernel) (by decide +kernel)
set_option maxRecDepth 20000 in
theorem gX4_moveLead_X4_isLead : GoodIn wsX4_moveLead (va_wsS RX4 67 yX4_isLead wsX4_isLead) := goodIn_app (goodIn_of _ (by decide +kernel)) ggX4_moveLead_X4_isLead
set_option maxRecDepth 20000 in
theorem ggX4_moveLead_X4_in : GoodIn wsX4_moveLead wsX4_in := goodIn_r _ [8] (by decide +kernel) (by decide +kernel)
set_option maxRecDepth 20000 in
theorem gX4_moveLead_X4_in : GoodIn wsX4_moveLead (va_wsS RX4 37 yX4_in wsX4_in) := goodIn_app (goodIn_of _ (by decide +kernel)) ggX4_moveLead_X4_in
set_option maxRecDepth 20000 in
theorem ggX4_moveLead_X4_padOf : GoodIn wsX4_moveLead wsX4_padOf := goodIn_r _ [11, 12, 13, 4, 14] (by decide +kernel) (by decide +kernel)
set_option maxRecDepth 20000 in
theorem gX4_moveLead_X4_padOf : GoodIn wsX4_moveLead (va_wsS RX4 52 yX4_padOf wsX4_padOf) := goodIn_app (goodIn_of _ (by decide +kernel)) ggX4_moveLead_X4_padOf
set_option maxRecDepth 20000 in
theorem ggX4_moveLead_X4_becomes : GoodIn wsX4_moveLead wsX4_becomes := goodIn_r _ [18, 1, 19, 20, 21, 4, 22, 23, 24, 25, 26, 27, 28, 29, 30, 31, 32, 33, 34, 35, 36, 37, 38] (by decide +kernel) (by decide +kernel)
set_option maxRecDepth 20000 in
theorem gX4_moveLead_X4_becomes : GoodIn wsX4_moveLead (wsV RX4 97 RX4 yX4_becomes wsX4_becomes) := goodIn_app (goodIn_of _ (by decide +kernel)) ggX4_moveLead_X4_becomes
theorem dX4_moveLead_0 : decode cX4_moveLead 0 = .ok (.iload_n 1, 1) := by decide +kernel
theorem dX4_moveLead_1 : decode cX4_moveLead 1 = .ok (.invokestatic 67, 3) := by decide +kernel
theorem dX4_moveLead_4 : decode cX4_moveLead 4 = .ok (.ifCond .ne 5, 3) := by decide +kernel
theorem dX4_moveLead_7 : decode cX4_moveLead 7 = .ok (.iconst (-1), 1) := by decide +kernel
theorem dX4_moveLead_8 : decode cX4_moveLead 8 = .ok (.ireturn, 1) := by decide +kernel
theorem dX4_moveLead_9 : decode cX4_moveLead 9 = .ok (.iload_n 2, 1) := by decide +kernel
theorem dX4_moveLead_10 : decode cX4_moveLead 10 = .ok (.iconst 0, 1) := by decide +kernel
theorem dX4_moveLead_11 : decode cX4_moveLead 11 = .ok (.sipush 600, 3) := by decide +kernel
theorem dX4_moveLead_14 : decode cX4_moveLead 14 = .ok (.invokestatic 37, 3) := by decide +kernel
theorem dX4_moveLead_17 : decode cX4_moveLead 17 = .ok (.ifCond .ne 6, 3) := by decide +kernel
theorem dX4_moveLead_20 : decode cX4_moveLead 20 = .ok (.bipush (-2), 2) := by decide +kernel
theorem dX4_moveLead_22 : decode cX4_moveLead 22 = .ok (.ireturn, 1) := by decide +kernel
theorem dX4_moveLead_23 : decode cX4_moveLead 23 = .ok (.aload_n 0, 1) := by decide +kernel
theorem dX4_moveLead_24 : decode cX4_moveLead 24 = .ok (.getfield 7, 3) := by decide +kernel
theorem dX4_moveLead_27 : decode cX4_moveLead 27 = .ok (.iload_n 1, 1) := by decide +kernel
theorem dX4_moveLead_28 : decode cX4_moveLead 28 = .ok (.invokestatic 52, 3) := by decide +kernel
theorem dX4_moveLead_31 : decode cX4_moveLead 31 = .ok (.bipush (-5), 2) := by decide +kernel
theorem dX4_moveLead_33 : decode cX4_moveLead 33 = .ok (.if_icmp .eq 8, 3) := by decide +kernel
theorem dX4_moveLead_36 : decode cX4_moveLead 36 = .ok (.bipush (-4), 2) := by decide +kernel
theorem dX4_moveLead_38 : decode cX4_moveLead 38 = .ok (.goto 11, 3) := by decide +kernel
theorem dX4_moveLead_41 : decode cX4_moveLead 41 = .ok (.aload_n 0, 1) := by decide +kernel
theorem dX4_moveLead_42 : decode cX4_moveLead 42 = .ok (.iconst 0, 1) := by decide +kernel
theorem dX4_moveLead_43 : decode cX4_moveLead 43 = .ok (.iload_n 1, 1) := by decide +kernel
theorem dX4_moveLead_44 : decode cX4_moveLead 44 = .ok (.iadd, 1) := by decide +kernel
theorem dX4_moveLead_45 : decode cX4_moveLead 45 = .ok (.iload_n 2, 1) := by decide +kernel
theorem dX4_moveLead_46 : decode cX4_moveLead 46 = .ok (.invokevirtual 97, 3) := by decide +kernel
theorem dX4_moveLead_49 : decode cX4_moveLead 49 = .ok (.ireturn, 1) := by decide +kernel
set_option maxRecDepth 20000 in
theorem ggX4_setWidth_X4_in : GoodIn wsX4_setWidth wsX4_in := goodIn_r _ [4] (by decide +kernel) (by decide +kernel)
set_option maxRecDepth 20000 in
theorem gX4_setWidth_X4_in : GoodIn wsX4_setWidth (va_wsS RX4 37 yX4_in wsX4_in) := goodIn_app (goodIn_of _ (by decide +kernel)) ggX4_setWidth_X4_in
set_option maxRecDepth 20000 in
theorem ggX4_setWidth_X4_becomes : GoodIn wsX4_setWidth wsX4_becomes := goodIn_r _ [8, 9, 10, 11, 12, 3, 13, 14, 15, 16, 17, 18, 19, 20, 21, 22, 23, 24, 25, 26, 27, 28, 29] (by decide +kernel) (by decide +kernel)
set_option maxRecDepth 20000 in
theorem gX4_setWidth_X4_becomes : GoodIn wsX4_setWidth (wsV RX4 97 RX4 yX4_becomes wsX4_becomes) := goodIn_app (goodIn_of _ (by decide +kernel)) ggX4_setWidth_X4_becomes
theorem dX4_setWidth_0 : decode cX4_setWidth 0 = .ok (.iload_n 1, 1) := by decide +kernel
theorem dX4_setWidth_1 : decode cX4_setWidth 1 = .ok (.iconst 1, 1) := by decide +kernel
theorem dX4_setWidth_2 : decode cX4_setWidth 2 = .ok (.bipush 50, 2) := by decide +kernel
theorem dX4_setWidth_4 : decode cX4_setWidth 4 = .ok (.invokestatic 37, 3) := by decide +kernel
theorem dX4_setWidth_7 : decode cX4_setWidth 7 = .ok (.ifCond .eq 13, 3) := by decide +kernel
theorem dX4_setWidth_10 : decode cX4_setWidth 10 = .ok (.aload_n 0, 1) := by decide +kernel
theorem dX4_setWidth_11 : decode cX4_setWidth 11 = .ok (.bipush 64, 2) := by decide +kernel
theorem dX4_setWidth_13 : decode cX4_setWidth 13 = .ok (.iload_n 1, 1) := by decide +kernel
theorem dX4_setWidth_14 : decode cX4_setWidth 14 = .ok (.invokevirtual 97, 3) := by decide +kernel
theorem dX4_setWidth_17 : decode cX4_setWidth 17 = .ok (.goto 5, 3) := by decide +kernel
theorem dX4_setWidth_20 : decode cX4_setWidth 20 = .ok (.bipush (-2), 2) := by decide +kernel
theorem dX4_setWidth_22 : decode cX4_setWidth 22 = .ok (.ireturn, 1) := by decide +kernel
set_option maxRecDepth 20000 in
theorem ggX4_changeTool_X4_records : GoodIn wsX4_changeTool wsX4_records := goodIn_r _ [6, 7, 8, 1, 9, 10, 5, 11, 12, 13, 14, 15, 16, 17, 18, 19, 20, 21, 22] (by decide +kernel) (by decide +kernel)
set_option maxRecDepth 20000 in
theorem gX4_changeTool_X4_records : GoodIn wsX4_changeTool (wsV RX4 76 RX4 yX4_records wsX4_records) := goodIn_app (goodIn_of _ (by decide +kernel)) ggX4_changeTool_X4_records
theorem dX4_changeTool_0 : decode cX4_changeTool 0 = .ok (.aload_n 0, 1) := by decide +kernel
theorem dX4_changeTool_1 : decode cX4_changeTool 1 = .ok (.getfield 7, 3) := by decide +kernel
theorem dX4_changeTool_4 : decode cX4_changeTool 4 = .ok (.bipush 65, 2) := by decide +kernel
theorem dX4_changeTool_6 : decode cX4_changeTool 6 = .ok (.iaload, 1) := by decide +kernel
theorem dX4_changeTool_7 : decode cX4_changeTool 7 = .ok (.istore_n 1, 1) := by decide +kernel
theorem dX4_changeTool_8 : decode cX4_changeTool 8 = .ok (.iload_n 1, 1) := by decide +kernel
theorem dX4_changeTool_9 : decode cX4_changeTool 9 = .ok (.ifCond .ne 6, 3) := by decide +kernel
theorem dX4_changeTool_12 : decode cX4_changeTool 12 = .ok (.bipush (-5), 2) := by decide +kernel
theorem dX4_changeTool_14 : decode cX4_changeTool 14 = .ok (.ireturn, 1) := by decide +kernel
theorem dX4_changeTool_15 : decode cX4_changeTool 15 = .ok (.aload_n 0, 1) := by decide +kernel
theorem dX4_changeTool_16 : decode cX4_changeTool 16 = .ok (.invokevirtual 76, 3) := by decide +kernel
theorem dX4_changeTool_19 : decode cX4_changeTool 19 = .ok (.aload_n 0, 1) := by decide +kernel
theorem dX4_changeTool_20 : decode cX4_changeTool 20 = .ok (.getfield 7, 3) := by decide +kernel
theorem dX4_changeTool_23 : decode cX4_changeTool 23 = .ok (.bipush 65, 2) := by decide +kernel
theorem dX4_changeTool_25 : decode cX4_changeTool 25 = .ok (.iconst 0, 1) := by decide +kernel
theorem dX4_changeTool_26 : decode cX4_changeTool 26 = .ok (.iastore, 1) := by decide +kernel
theorem dX4_changeTool_27 : decode cX4_changeTool 27 = .ok (.aload_n 0, 1) := by decide +kernel
theorem dX4_changeTool_28 : decode cX4_changeTool 28 = .ok (.getfield 7, 3) := by decide +kernel
theorem dX4_changeTool_31 : decode cX4_changeTool 31 = .ok (.bipush 70, 2) := by decide +kernel
theorem dX4_changeTool_33 : decode cX4_changeTool 33 = .ok (.dup2, 1) := by decide +kernel
theorem dX4_changeTool_34 : decode cX4_changeTool 34 = .ok (.iaload, 1) := by decide +kernel
theorem dX4_changeTool_35 : decode cX4_changeTool 35 = .ok (.iconst 1, 1) := by decide +kernel
theorem dX4_changeTool_36 : decode cX4_changeTool 36 = .ok (.iadd, 1) := by decide +kernel
theorem dX4_changeTool_37 : decode cX4_changeTool 37 = .ok (.iastore, 1) := by decide +kernel
theorem dX4_changeTool_38 : decode cX4_changeTool 38 = .ok (.iload_n 1, 1) := by decide +kernel
theorem dX4_changeTool_39 : decode cX4_changeTool 39 = .ok (.ireturn, 1) := by decide +kernel
set_option maxRecDepth 20000 in
theorem ggX4_thread_X4_records : GoodIn wsX4_thread wsX4_records := goodIn_r _ [6, 7, 8, 1, 9, 10, 5, 11, 12, 13, 14, 15, 16, 17, 18, 19, 20, 21, 22] (by decide +kernel) (by decide +kernel)
set_option maxRecDepth 20000 in
theorem gX4_thread_X4_records : GoodIn wsX4_thread (wsV RX4 76 RX4 yX4_records wsX4_records) := goodIn_app (goodIn_of _ (by decide +kernel)) ggX4_thread_X4_records
theorem dX4_thread_0 : decode cX4_thread 0 = .ok (.aload_n 0, 1) := by decide +kernel
theorem dX4_thread_1 : decode cX4_thread 1 = .ok (.getfield 7, 3) := by decide +kernel
theorem dX4_thread_4 : decode cX4_thread 4 = .ok (.bipush 66, 2) := by decide +kernel
theorem dX4_thread_6 : decode cX4_thread 6 = .ok (.iaload, 1) := by decide +kernel
theorem dX4_thread_7 : decode cX4_thread 7 = .ok (.ifCond .ne 6, 3) := by decide +kernel
theorem dX4_thread_10 : decode cX4_thread 10 = .ok (.bipush (-5), 2) := by decide +kernel
theorem dX4_thread_12 : decode cX4_thread 12 = .ok (.ireturn, 1) := by decide +kernel
theorem dX4_thread_13 : decode cX4_thread 13 = .ok (.aload_n 0, 1) := by decide +kernel
theorem dX4_thread_14 : decode cX4_thread 14 = .ok (.invokevirtual 76, 3) := by decide +kernel
theorem dX4_thread_17 : decode cX4_thread 17 = .ok (.aload_n 0, 1) := by decide +kernel
theorem dX4_thread_18 : decode cX4_thread 18 = .ok (.getfield 7, 3) := by decide +kernel
theorem dX4_thread_21 : decode cX4_thread 21 = .ok (.bipush 66, 2) := by decide +kernel
theorem dX4_thread_23 : decode cX4_thread 23 = .ok (.iconst 0, 1) := by decide +kernel
theorem dX4_thread_24 : decode cX4_thread 24 = .ok (.iastore, 1) := by decide +kernel
theorem dX4_thread_25 : decode cX4_thread 25 = .ok (.aload_n 0, 1) := by decide +kernel
theorem dX4_thread_26 : decode cX4_thread 26 = .ok (.getfield 7, 3) := by decide +kernel
theorem dX4_thread_29 : decode cX4_thread 29 = .ok (.bipush 67, 2) := by decide +kernel
theorem dX4_thread_31 : decode cX4_thread 31 = .ok (.iaload, 1) := by decide +kernel
theorem dX4_thread_32 : decode cX4_thread 32 = .ok (.ireturn, 1) := by decide +kernel
set_option maxRecDepth 20000 in
theorem ggX4_pulls_X4_goes : GoodIn wsX4_pulls wsX4_goes := goodIn_r _ [6, 1, 7, 8, 9, 10, 11, 12, 13, 14, 15, 16, 17] (by decide +kernel) (by decide +kernel)
set_option maxRecDepth 20000 in
theorem gX4_pulls_X4_goes : GoodIn wsX4_pulls (wsV RX4 93 RX4 yX4_goes wsX4_goes) := goodIn_app (goodIn_of _ (by decide +kernel)) ggX4_pulls_X4_goes
theorem dX4_pulls_0 : decode cX4_pulls 0 = .ok (.bipush 16, 2) := by decide +kernel
theorem dX4_pulls_2 : decode cX4_pulls 2 = .ok (.iconst 4, 1) := by decide +kernel
theorem dX4_pulls_3 : decode cX4_pulls 3 = .ok (.iload_n 1, 1) := by decide +kernel
theorem dX4_pulls_4 : decode cX4_pulls 4 = .ok (.imul, 1) := by decide +kernel
theorem dX4_pulls_5 : decode cX4_pulls 5 = .ok (.iadd, 1) := by decide +kernel
theorem dX4_pulls_6 : decode cX4_pulls 6 = .ok (.iconst 2, 1) := by decide +kernel
theorem dX4_pulls_7 : decode cX4_pulls 7 = .ok (.iadd, 1) := by decide +kernel
theorem dX4_pulls_8 : decode cX4_pulls 8 = .ok (.istore_n 3, 1) := by decide +kernel
theorem dX4_pulls_9 : decode cX4_pulls 9 = .ok (.aload_n 0, 1) := by decide +kernel
theorem dX4_pulls_10 : decode cX4_pulls 10 = .ok (.getfield 7, 3) := by decide +kernel
theorem dX4_pulls_13 : decode cX4_pulls 13 = .ok (.iload_n 3, 1) := by decide +kernel
theorem dX4_pulls_14 : decode cX4_pulls 14 = .ok (.iaload, 1) := by decide +kernel
theorem dX4_pulls_15 : decode cX4_pulls 15 = .ok (.iload_n 2, 1) := by decide +kernel
theorem dX4_pulls_16 : decode cX4_pulls 16 = .ok (.if_icmp .ge 23, 3) := by decide +kernel
theorem dX4_pulls_19 : decode cX4_pulls 19 = .ok (.aload_n 0, 1) := by decide +kernel
theorem dX4_pulls_20 : decode cX4_pulls 20 = .ok (.iload_n 1, 1) := by decide +kernel
theorem dX4_pulls_21 : decode cX4_pulls 21 = .ok (.invokevirtual 93, 3) := by decide +kernel
theorem dX4_pulls_24 : decode cX4_pulls 24 = .ok (.aload_n 0, 1) := by decide +kernel
theorem dX4_pulls_25 : decode cX4_pulls 25 = .ok (.getfield 7, 3) := by decide +kernel
theorem dX4_pulls_28 : decode cX4_pulls 28 = .ok (.bipush 69, 2) := by decide +kernel
theorem dX4_pulls_30 : decode cX4_pulls 30 = .ok (.dup2, 1) := by decide +kernel
theorem dX4_pulls_31 : decode cX4_pulls 31 = .ok (.iaload, 1) := by decide +kernel
theorem dX4_pulls_32 : decode cX4_pulls 32 = .ok (.iconst 1, 1) := by decide +kernel
theorem dX4_pulls_33 : decode cX4_pulls 33 = .ok (.iadd, 1) := by decide +kernel
theorem dX4_pulls_34 : decode cX4_pulls 34 = .ok (.iastore, 1) := by decide +kernel
theorem dX4_pulls_35 : decode cX4_pulls 35 = .ok (.sipush 1000, 3) := by decide +kernel
theorem dX4_pulls_38 : decode cX4_pulls 38 = .ok (.ireturn, 1) := by decide +kernel
theorem dX4_pulls_39 : decode cX4_pulls 39 = .ok (.aload_n 0, 1) := by decide +kernel
theorem dX4_pulls_40 : decode cX4_pulls 40 = .ok (.getfield 7, 3) := by decide +kernel
theorem dX4_pulls_43 : decode cX4_pulls 43 = .ok (.iload_n 3, 1) := by decide +kernel
theorem dX4_pulls_44 : decode cX4_pulls 44 = .ok (.dup2, 1) := by decide +kernel
theorem dX4_pulls_45 : decode cX4_pulls 45 = .ok (.iaload, 1) := by decide +kernel
theorem dX4_pulls_46 : decode cX4_pulls 46 = .ok (.iload_n 2, 1) := by decide +kernel
theorem dX4_pulls_47 : decode cX4_pulls 47 = .ok (.bipush 10, 2) := by decide +kernel
theorem dX4_pulls_49 : decode cX4_pulls 49 = .ok (.idiv, 1) := by decide +kernel
theorem dX4_pulls_50 : decode cX4_pulls 50 = .ok (.isub, 1) := by decide +kernel
theorem dX4_pulls_51 : decode cX4_pulls 51 = .ok (.iastore, 1) := by decide +kernel
theorem dX4_pulls_52 : decode cX4_pulls 52 = .ok (.aload_n 0, 1) := by decide +kernel
theorem dX4_pulls_53 : decode cX4_pulls 53 = .ok (.getfield 7, 3) := by decide +kernel
theorem dX4_pulls_56 : decode cX4_pulls 56 = .ok (.iload_n 3, 1) := by decide +kernel
theorem dX4_pulls_57 : decode cX4_pulls 57 = .ok (.iaload, 1) := by decide +kernel
theorem dX4_pulls_58 : decode cX4_pulls 58 = .ok (.ireturn, 1) := by decide +kernel
set_option maxRecDepth 20000 in
theorem ggX4_pull_X4_hasWire : GoodIn wsX4_pull wsX4_hasWire := goodIn_r _ [5, 6, 7, 8, 4, 9, 10, 11, 12, 13, 14, 15, 33, 34, 35, 36, 37, 38, 39, 40, 41, 42, 43] (by decide +kernel) (by decide +kernel)
set_option maxRecDepth 20000 in
theorem gX4_pull_X4_hasWire : GoodIn wsX4_pull (wsV RX4 49 RX4 yX4_hasWire wsX4_hasWire) := goodIn_app (goodIn_of _ (by decide +kernel)) ggX4_pull_X4_hasWire
set_option maxRecDepth 20000 in
theorem ggX4_pull_X4_in : GoodIn wsX4_pull wsX4_in := goodIn_r _ [12] (by decide +kernel) (by decide +kernel)
set_option maxRecDepth 20000 in
theorem gX4_pull_X4_in : GoodIn wsX4_pull (va_wsS RX4 37 yX4_in wsX4_in) := goodIn_app (goodIn_of _ (by decide +kernel)) ggX4_pull_X4_in
set_option maxRecDepth 20000 in
theorem ggX4_pull_X4_records : GoodIn wsX4_pull wsX4_records := goodIn_r _ [19, 20, 21, 6, 22, 23, 4, 24, 33, 34, 35, 36, 37, 38, 39, 40, 41, 42, 43] (by decide +kernel) (by decide +kernel)
set_option maxRecDepth 20000 in
theorem gX4_pull_X4_records : GoodIn wsX4_pull (wsV RX4 76 RX4 yX4_records wsX4_records) := goodIn_app (goodIn_of _ (by decide +kernel)) ggX4_pull_X4_records
set_option maxRecDepth 20000 in
theorem ggX4_pull_X4_pulls : GoodIn wsX4_pull wsX4_pulls := goodIn_r _ [28, 6, 29, 30, 31, 4, 32, 33, 34, 35, 36, 37, 38, 39, 40, 41, 42, 43] (by decide +kernel) (by decide +kernel)
set_option maxRecDepth 20000 in
theorem gX4_pull_X4_pulls : GoodIn wsX4_pull (wsV RX4 100 RX4 yX4_pulls wsX4_pulls) := goodIn_app (goodIn_of _ (by decide +kernel)) ggX4_pull_X4_pulls
theorem dX4_pull_0 : decode cX4_pull 0 = .ok (.aload_n 0, 1) := by decide +kernel
theorem dX4_pull_1 : decode cX4_pull 1 = .ok (.iload_n 1, 1) := by decide +kernel
theorem dX4_pull_2 : decode cX4_pull 2 = .ok (.invokevirtual 49, 3) := by decide +kernel
theorem dX4_pull_5 : decode cX4_pull 5 = .ok (.ifCond .ne 5, 3) := by decide +kernel
theorem dX4_pull_8 : decode cX4_pull 8 = .ok (.iconst (-1), 1) := by decide +kernel
theorem dX4_pull_9 : decode cX4_pull 9 = .ok (.ireturn, 1) := by decide +kernel
theorem dX4_pull_10 : decode cX4_pull 10 = .ok (.iload_n 2, 1) := by decide +kernel
theorem dX4_pull_11 : decode cX4_pull 11 = .ok (.iconst 1, 1) := by decide +kernel
theorem dX4_pull_12 : decode cX4_pull 12 = .ok (.bipush 100, 2) := by decide +kernel
theorem dX4_pull_14 : decode cX4_pull 14 = .ok (.invokestatic 37, 3) := by decide +kernel
theorem dX4_pull_17 : decode cX4_pull 17 = .ok (.ifCond .ne 6, 3) := by decide +kernel
theorem dX4_pull_20 : decode cX4_pull 20 = .ok (.bipush (-2), 2) := by decide +kernel
theorem dX4_pull_22 : decode cX4_pull 22 = .ok (.ireturn, 1) := by decide +kernel
theorem dX4_pull_23 : decode cX4_pull 23 = .ok (.aload_n 0, 1) := by decide +kernel
theorem dX4_pull_24 : decode cX4_pull 24 = .ok (.invokevirtual 76, 3) := by decide +kernel
theorem dX4_pull_27 : decode cX4_pull 27 = .ok (.aload_n 0, 1) := by decide +kernel
theorem dX4_pull_28 : decode cX4_pull 28 = .ok (.iload_n 1, 1) := by decide +kernel
theorem dX4_pull_29 : decode cX4_pull 29 = .ok (.iload_n 2, 1) := by decide +kernel
theorem dX4_pull_30 : decode cX4_pull 30 = .ok (.invokevirtual 100, 3) := by decide +kernel
theorem dX4_pull_33 : decode cX4_pull 33 = .ok (.ireturn, 1) := by decide +kernel
set_option maxRecDepth 20000 in
theorem ggX4_sample_X4_in : GoodIn wsX4_sample wsX4_in := goodIn_r _ [4] (by decide +kernel) (by decide +kernel)
set_option maxRecDepth 20000 in
theorem gX4_sample_X4_in : GoodIn wsX4_sample (va_wsS RX4 37 yX4_in wsX4_in) := goodIn_app (goodIn_of _ (by decide +kernel)) ggX4_sample_X4_in
set_option maxRecDepth 20000 in
theorem ggX4_sample_X4_wires : GoodIn wsX4_sample wsX4_wires := goodIn_r _ [8, 9, 10, 11, 3, 12, 13, 14, 15, 16, 1, 2, 4, 17, 18, 19, 37, 38, 39, 40, 41, 42, 43, 44, 45, 46, 47] (by decide +kernel) (by decide +kernel)
set_option maxRecDepth 20000 in
theorem gX4_sample_X4_wires : GoodIn wsX4_sample (wsV RX4 90 RX4 yX4_wires wsX4_wires) := goodIn_app (goodIn_of _ (by decide +kernel)) ggX4_sample_X4_wires
set_option maxRecDepth 20000 in
theorem ggX4_sample_X4_records : GoodIn wsX4_sample wsX4_records := goodIn_r _ [23, 24, 25, 13, 26, 27, 3, 28, 37, 38, 39, 40, 41, 42, 43, 44, 45, 46, 47] (by decide +kernel) (by decide +kernel)
set_option maxRecDepth 20000 in
theorem gX4_sample_X4_records : GoodIn wsX4_sample (wsV RX4 76 RX4 yX4_records wsX4_records) := goodIn_app (goodIn_of _ (by decide +kernel)) ggX4_sample_X4_records
set_option maxRecDepth 20000 in
theorem ggX4_sample_X4_hasWire : GoodIn wsX4_sample wsX4_hasWire := goodIn_r _ [12, 13, 14, 15, 3, 16, 1, 2, 4, 17, 18, 19, 37, 38, 39, 40, 41, 42, 43, 44, 45, 46, 47] (by decide +kernel) (by decide +kernel)
set_option maxRecDepth 20000 in
theorem gX4_sample_X4_hasWire : GoodIn wsX4_sample (wsV RX4 49 RX4 yX4_hasWire wsX4_hasWire) := goodIn_app (goodIn_of _ (by decide +kernel)) ggX4_sample_X4_hasWire
set_option maxRecDepth 20000 in
theorem ggX4_sample_X4_pulls : GoodIn wsX4_sample wsX4_pulls := goodIn_r _ [32, 13, 33, 34, 35, 3, 36, 37, 38, 39, 40, 41, 42, 43, 44, 45, 46, 47] (by decide +kernel) (by decide +kernel)
set_option maxRecDepth 20000 in
theorem gX4_sample_X4_pulls : GoodIn wsX4_sample (wsV RX4 100 RX4 yX4_pulls wsX4_pulls) := goodIn_app (goodIn_of _ (by decide +kernel)) ggX4_sample_X4_pulls
theorem dX4_sample_0 : decode cX4_sample 0 = .ok (.iload_n 1, 1) := by decide +kernel
theorem dX4_sample_1 : decode cX4_sample 1 = .ok (.iconst 1, 1) := by decide +kernel
theorem dX4_sample_2 : decode cX4_sample 2 = .ok (.bipush 12, 2) := by decide +kernel
theorem dX4_sample_4 : decode cX4_sample 4 = .ok (.invokestatic 37, 3) := by decide +kernel
theorem dX4_sample_7 : decode cX4_sample 7 = .ok (.ifCond .eq 13, 3) := by decide +kernel
theorem dX4_sample_10 : decode cX4_sample 10 = .ok (.iload_n 2, 1) := by decide +kernel
theorem dX4_sample_11 : decode cX4_sample 11 = .ok (.iconst 1, 1) := by decide +kernel
theorem dX4_sample_12 : decode cX4_sample 12 = .ok (.bipush 100, 2) := by decide +kernel
theorem dX4_sample_14 : decode cX4_sample 14 = .ok (.invokestatic 37, 3) := by decide +kernel
theorem dX4_sample_17 : decode cX4_sample 17 = .ok (.ifCond .ne 6, 3) := by decide +kernel
theorem dX4_sample_20 : decode cX4_sample 20 = .ok (.bipush (-2), 2) := by decide +kernel
theorem dX4_sample_22 : decode cX4_sample 22 = .ok (.ireturn, 1) := by decide +kernel
theorem dX4_sample_23 : decode cX4_sample 23 = .ok (.aload_n 0, 1) := by decide +kernel
theorem dX4_sample_24 : decode cX4_sample 24 = .ok (.invokevirtual 90, 3) := by decide +kernel
theorem dX4_sample_27 : decode cX4_sample 27 = .ok (.ifCond .ne 6, 3) := by decide +kernel
theorem dX4_sample_30 : decode cX4_sample 30 = .ok (.bipush (-5), 2) := by decide +kernel
theorem dX4_sample_32 : decode cX4_sample 32 = .ok (.ireturn, 1) := by decide +kernel
theorem dX4_sample_33 : decode cX4_sample 33 = .ok (.aload_n 0, 1) := by decide +kernel
theorem dX4_sample_34 : decode cX4_sample 34 = .ok (.invokevirtual 76, 3) := by decide +kernel
theorem dX4_sample_37 : decode cX4_sample 37 = .ok (.iconst 0, 1) := by decide +kernel
theorem dX4_sample_38 : decode cX4_sample 38 = .ok (.istore_n 3, 1) := by decide +kernel
theorem dX4_sample_39 : decode cX4_sample 39 = .ok (.iconst 0, 1) := by decide +kernel
theorem dX4_sample_40 : decode cX4_sample 40 = .ok (.istore 4, 2) := by decide +kernel
theorem dX4_sample_42 : decode cX4_sample 42 = .ok (.iconst 0, 1) := by decide +kernel
theorem dX4_sample_43 : decode cX4_sample 43 = .ok (.istore 5, 2) := by decide +kernel
theorem dX4_sample_45 : decode cX4_sample 45 = .ok (.iload 5, 2) := by decide +kernel
theorem dX4_sample_47 : decode cX4_sample 47 = .ok (.bipush 12, 2) := by decide +kernel
theorem dX4_sample_49 : decode cX4_sample 49 = .ok (.if_icmp .ge 49, 3) := by decide +kernel
theorem dX4_sample_52 : decode cX4_sample 52 = .ok (.aload_n 0, 1) := by decide +kernel
theorem dX4_sample_53 : decode cX4_sample 53 = .ok (.iload 5, 2) := by decide +kernel
theorem dX4_sample_55 : decode cX4_sample 55 = .ok (.invokevirtual 49, 3) := by decide +kernel
theorem dX4_sample_58 : decode cX4_sample 58 = .ok (.ifCond .eq 34, 3) := by decide +kernel
theorem dX4_sample_61 : decode cX4_sample 61 = .ok (.iload_n 3, 1) := by decide +kernel
theorem dX4_sample_62 : decode cX4_sample 62 = .ok (.iload 4, 2) := by decide +kernel
theorem dX4_sample_64 : decode cX4_sample 64 = .ok (.iload_n 1, 1) := by decide +kernel
theorem dX4_sample_65 : decode cX4_sample 65 = .ok (.irem, 1) := by decide +kernel
theorem dX4_sample_66 : decode cX4_sample 66 = .ok (.ifCond .ne 20, 3) := by decide +kernel
theorem dX4_sample_69 : decode cX4_sample 69 = .ok (.aload_n 0, 1) := by decide +kernel
theorem dX4_sample_70 : decode cX4_sample 70 = .ok (.iload 5, 2) := by decide +kernel
theorem dX4_sample_72 : decode cX4_sample 72 = .ok (.iload_n 2, 1) := by decide +kernel
theorem dX4_sample_73 : decode cX4_sample 73 = .ok (.invokevirtual 100, 3) := by decide +kernel
theorem dX4_sample_76 : decode cX4_sample 76 = .ok (.sipush 1000, 3) := by decide +kernel
theorem dX4_sample_79 : decode cX4_sample 79 = .ok (.if_icmp .ne 7, 3) := by decide +kernel
theorem dX4_sample_82 : decode cX4_sample 82 = .ok (.iconst 1, 1) := by decide +kernel
theorem dX4_sample_83 : decode cX4_sample 83 = .ok (.goto 4, 3) := by decide +kernel
theorem dX4_sample_86 : decode cX4_sample 86 = .ok (.iconst 0, 1) := by decide +kernel
theorem dX4_sample_87 : decode cX4_sample 87 = .ok (.iadd, 1) := by decide +kernel
theorem dX4_sample_88 : decode cX4_sample 88 = .ok (.istore_n 3, 1) := by decide +kernel
theorem dX4_sample_89 : decode cX4_sample 89 = .ok (.iinc 4 1, 3) := by decide +kernel
theorem dX4_sample_92 : decode cX4_sample 92 = .ok (.iinc 5 1, 3) := by decide +kernel
theorem dX4_sample_95 : decode cX4_sample 95 = .ok (.goto (-50), 3) := by decide +kernel
theorem dX4_sample_98 : decode cX4_sample 98 = .ok (.iload_n 3, 1) := by decide +kernel
theorem dX4_sample_99 : decode cX4_sample 99 = .ok (.ireturn, 1) := by decide +kernel
theorem dX4_heightOf_0 : decode cX4_heightOf 0 = .ok (.iload_n 0, 1) := by decide +kernel
theorem dX4_heightOf_1 : decode cX4_heightOf 1 = .ok (.iload_n 1, 1) := by decide +kernel
theorem dX4_heightOf_2 : decode cX4_heightOf 2 = .ok (.imul, 1) := by decide +kernel
theorem dX4_heightOf_3 : decode cX4_heightOf 3 = .ok (.sipush 200, 3) := by decide +kernel
theorem dX4_heightOf_6 : decode cX4_heightOf 6 = .ok (.iload_n 1, 1) := by decide +kernel
theorem dX4_heightOf_7 : decode cX4_heightOf 7 = .ok (.isub, 1) := by decide +kernel
theorem dX4_heightOf_8 : decode cX4_heightOf 8 = .ok (.imul, 1) := by decide +kernel
theorem dX4_heightOf_9 : decode cX4_heightOf 9 = .ok (.iconst 4, 1) := by decide +kernel
theorem dX4_heightOf_10 : decode cX4_heightOf 10 = .ok (.imul, 1) := by decide +kernel
theorem dX4_heightOf_11 : decode cX4_heightOf 11 = .ok (.ldc 103, 2) := by decide +kernel
theorem dX4_heightOf_13 : decode cX4_heightOf 13 = .ok (.idiv, 1) := by decide +kernel
theorem dX4_heightOf_14 : decode cX4_heightOf 14 = .ok (.ireturn, 1) := by decide +kernel
set_option maxRecDepth 20000 in
theorem ggX4_crossingY_X4_of : GoodIn wsX4_crossingY wsX4_of := goodIn_r _ [5] (by decide +kernel) (by decide +kernel)
set_option maxRecDepth 20000 in
theorem gX4_crossingY_X4_of : GoodIn wsX4_crossingY (va_wsS RX4 45 yX4_of wsX4_of) := goodIn_app (goodIn_of _ (by decide +kernel)) ggX4_crossingY_X4_of
set_option maxRecDepth 20000 in
theorem ggX4_crossingY_X4_padX : GoodIn wsX4_crossingY wsX4_padX := goodIn_r _ [8] (by decide +kernel) (by decide +kernel)
set_option maxRecDepth 20000 in
theorem gX4_crossingY_X4_padX : GoodIn wsX4_crossingY (va_wsS RX4 56 yX4_padX wsX4_padX) := goodIn_app (goodIn_of _ (by decide +kernel)) ggX4_crossingY_X4_padX
theorem dX4_crossingY_0 : decode cX4_crossingY 0 = .ok (.iload_n 1, 1) := by decide +kernel
theorem dX4_crossingY_1 : decode cX4_crossingY 1 = .ok (.iload_n 2, 1) := by decide +kernel
theorem dX4_crossingY_2 : decode cX4_crossingY 2 = .ok (.if_icmp .ge 7, 3) := by decide +kernel
theorem dX4_crossingY_5 : decode cX4_crossingY 5 = .ok (.iload_n 1, 1) := by decide +kernel
theorem dX4_crossingY_6 : decode cX4_crossingY 6 = .ok (.goto 4, 3) := by decide +kernel
theorem dX4_crossingY_9 : decode cX4_crossingY 9 = .ok (.iload_n 2, 1) := by decide +kernel
theorem dX4_crossingY_10 : decode cX4_crossingY 10 = .ok (.istore_n 3, 1) := by decide +kernel
theorem dX4_crossingY_11 : decode cX4_crossingY 11 = .ok (.iload_n 1, 1) := by decide +kernel
theorem dX4_crossingY_12 : decode cX4_crossingY 12 = .ok (.iload_n 2, 1) := by decide +kernel
theorem dX4_crossingY_13 : decode cX4_crossingY 13 = .ok (.if_icmp .ge 7, 3) := by decide +kernel
theorem dX4_crossingY_16 : decode cX4_crossingY 16 = .ok (.iload_n 2, 1) := by decide +kernel
theorem dX4_crossingY_17 : decode cX4_crossingY 17 = .ok (.goto 4, 3) := by decide +kernel
theorem dX4_crossingY_20 : decode cX4_crossingY 20 = .ok (.iload_n 1, 1) := by decide +kernel
theorem dX4_crossingY_21 : decode cX4_crossingY 21 = .ok (.istore 4, 2) := by decide +kernel
theorem dX4_crossingY_23 : decode cX4_crossingY 23 = .ok (.aload_n 0, 1) := by decide +kernel
theorem dX4_crossingY_24 : decode cX4_crossingY 24 = .ok (.getfield 7, 3) := by decide +kernel
theorem dX4_crossingY_27 : decode cX4_crossingY 27 = .ok (.iconst 0, 1) := by decide +kernel
theorem dX4_crossingY_28 : decode cX4_crossingY 28 = .ok (.aload_n 0, 1) := by decide +kernel
theorem dX4_crossingY_29 : decode cX4_crossingY 29 = .ok (.getfield 7, 3) := by decide +kernel
theorem dX4_crossingY_32 : decode cX4_crossingY 32 = .ok (.iload_n 3, 1) := by decide +kernel
theorem dX4_crossingY_33 : decode cX4_crossingY 33 = .ok (.iconst 0, 1) := by decide +kernel
theorem dX4_crossingY_34 : decode cX4_crossingY 34 = .ok (.invokestatic 45, 3) := by decide +kernel
theorem dX4_crossingY_37 : decode cX4_crossingY 37 = .ok (.iadd, 1) := by decide +kernel
theorem dX4_crossingY_38 : decode cX4_crossingY 38 = .ok (.iaload, 1) := by decide +kernel
theorem dX4_crossingY_39 : decode cX4_crossingY 39 = .ok (.aload_n 0, 1) := by decide +kernel
theorem dX4_crossingY_40 : decode cX4_crossingY 40 = .ok (.getfield 7, 3) := by decide +kernel
theorem dX4_crossingY_43 : decode cX4_crossingY 43 = .ok (.iconst 0, 1) := by decide +kernel
theorem dX4_crossingY_44 : decode cX4_crossingY 44 = .ok (.aload_n 0, 1) := by decide +kernel
theorem dX4_crossingY_45 : decode cX4_crossingY 45 = .ok (.getfield 7, 3) := by decide +kernel
theorem dX4_crossingY_48 : decode cX4_crossingY 48 = .ok (.iload 4, 2) := by decide +kernel
theorem dX4_crossingY_50 : decode cX4_crossingY 50 = .ok (.iconst 0, 1) := by decide +kernel
theorem dX4_crossingY_51 : decode cX4_crossingY 51 = .ok (.invokestatic 45, 3) := by decide +kernel
theorem dX4_crossingY_54 : decode cX4_crossingY 54 = .ok (.iadd, 1) := by decide +kernel
theorem dX4_crossingY_55 : decode cX4_crossingY 55 = .ok (.iaload, 1) := by decide +kernel
theorem dX4_crossingY_56 : decode cX4_crossingY 56 = .ok (.isub, 1) := by decide +kernel
theorem dX4_crossingY_57 : decode cX4_crossingY 57 = .ok (.istore 5, 2) := by decide +kernel
theorem dX4_crossingY_59 : decode cX4_crossingY 59 = .ok (.iload 4, 2) := by decide +kernel
theorem dX4_crossingY_61 : decode cX4_crossingY 61 = .ok (.invokestatic 56, 3) := by decide +kernel
theorem dX4_crossingY_64 : decode cX4_crossingY 64 = .ok (.iload_n 3, 1) := by decide +kernel
theorem dX4_crossingY_65 : decode cX4_crossingY 65 = .ok (.invokestatic 56, 3) := by decide +kernel
theorem dX4_crossingY_68 : decode cX4_crossingY 68 = .ok (.isub, 1) := by decide +kernel
theorem dX4_crossingY_69 : decode cX4_crossingY 69 = .ok (.istore 6, 2) := by decide +kernel
theorem dX4_crossingY_71 : decode cX4_crossingY 71 = .ok (.iload_n 3, 1) := by decide +kernel
theorem dX4_crossingY_72 : decode cX4_crossingY 72 = .ok (.iload 4, 2) := by decide +kernel
theorem dX4_crossingY_74 : decode cX4_crossingY 74 = .ok (.if_icmp .eq 8, 3) := by decide +kernel
theorem dX4_crossingY_77 : decode cX4_crossingY 77 = .ok (.iload 5, 2) := by decide +kernel
theorem dX4_crossingY_79 : decode cX4_crossingY 79 = .ok (.ifCond .gt 8, 3) := by decide +kernel
theorem dX4_crossingY_82 : decode cX4_crossingY 82 = .ok (.bipush (-5), 2) := by decide +kernel
theorem dX4_crossingY_84 : decode cX4_crossingY 84 = .ok (.goto 15, 3) := by decide +kernel
theorem dX4_crossingY_87 : decode cX4_crossingY 87 = .ok (.sipush 200, 3) := by decide +kernel
theorem dX4_crossingY_90 : decode cX4_crossingY 90 = .ok (.iload 6, 2) := by decide +kernel
theorem dX4_crossingY_92 : decode cX4_crossingY 92 = .ok (.imul, 1) := by decide +kernel
theorem dX4_crossingY_93 : decode cX4_crossingY 93 = .ok (.iload 6, 2) := by decide +kernel
theorem dX4_crossingY_95 : decode cX4_crossingY 95 = .ok (.iload 5, 2) := by decide +kernel
theorem dX4_crossingY_97 : decode cX4_crossingY 97 = .ok (.iadd, 1) := by decide +kernel
theorem dX4_crossingY_98 : decode cX4_crossingY 98 = .ok (.idiv, 1) := by decide +kernel
theorem dX4_crossingY_99 : decode cX4_crossingY 99 = .ok (.ireturn, 1) := by decide +kernel
set_option maxRecDepth 20000 in
theorem ggX4_gap_X4_crossingY : GoodIn wsX4_gap wsX4_crossingY := goodIn_r _ [6, 1, 7, 8, 5, 9, 10, 11, 12, 20, 21, 22, 23, 24, 25, 26, 27, 28, 29, 30] (by decide +kernel) (by decide +kernel)
set_option maxRecDepth 20000 in
theorem gX4_gap_X4_crossingY : GoodIn wsX4_gap (wsV RX4 104 RX4 yX4_crossingY wsX4_crossingY) := goodIn_app (goodIn_of _ (by decide +kernel)) ggX4_gap_X4_crossingY
set_option maxRecDepth 20000 in
theorem ggX4_gap_X4_heightOf : GoodIn wsX4_gap wsX4_heightOf := goodIn_r _ [15, 16] (by decide +kernel) (by decide +kernel)
set_option maxRecDepth 20000 in
theorem gX4_gap_X4_heightOf : GoodIn wsX4_gap (va_wsS RX4 107 yX4_heightOf wsX4_heightOf) := goodIn_app (goodIn_of _ (by decide +kernel)) ggX4_gap_X4_heightOf
set_option maxRecDepth 20000 in
theorem ggX4_gap_X4_of : GoodIn wsX4_gap wsX4_of := goodIn_r _ [9] (by decide +kernel) (by decide +kernel)
set_option maxRecDepth 20000 in
theorem gX4_gap_X4_of : GoodIn wsX4_gap (va_wsS RX4 45 yX4_of wsX4_of) := goodIn_app (goodIn_of _ (by decide +kernel)) ggX4_gap_X4_of
set_option maxRecDepth 20000 in
theorem ggX4_gap_X4_apart : GoodIn wsX4_gap wsX4_apart := goodIn_r _ [19] (by decide +kernel) (by decide +kernel)
set_option maxRecDepth 20000 in
theorem gX4_gap_X4_apart : GoodIn wsX4_gap (va_wsS RX4 60 yX4_apart wsX4_apart) := goodIn_app (goodIn_of _ (by decide +kernel)) ggX4_gap_X4_apart
theorem dX4_gap_0 : decode cX4_gap 0 = .ok (.aload_n 0, 1) := by decide +kernel
theorem dX4_gap_1 : decode cX4_gap 1 = .ok (.iload_n 1, 1) := by decide +kernel
theorem dX4_gap_2 : decode cX4_gap 2 = .ok (.iload_n 3, 1) := by decide +kernel
theorem dX4_gap_3 : decode cX4_gap 3 = .ok (.invokevirtual 104, 3) := by decide +kernel
theorem dX4_gap_6 : decode cX4_gap 6 = .ok (.istore 4, 2) := by decide +kernel
theorem dX4_gap_8 : decode cX4_gap 8 = .ok (.iload_n 2, 1) := by decide +kernel
theorem dX4_gap_9 : decode cX4_gap 9 = .ok (.iload 4, 2) := by decide +kernel
theorem dX4_gap_11 : decode cX4_gap 11 = .ok (.invokestatic 107, 3) := by decide +kernel
theorem dX4_gap_14 : decode cX4_gap 14 = .ok (.aload_n 0, 1) := by decide +kernel
theorem dX4_gap_15 : decode cX4_gap 15 = .ok (.getfield 7, 3) := by decide +kernel
theorem dX4_gap_18 : decode cX4_gap 18 = .ok (.iload_n 3, 1) := by decide +kernel
theorem dX4_gap_19 : decode cX4_gap 19 = .ok (.iconst 1, 1) := by decide +kernel
theorem dX4_gap_20 : decode cX4_gap 20 = .ok (.invokestatic 45, 3) := by decide +kernel
theorem dX4_gap_23 : decode cX4_gap 23 = .ok (.iload 4, 2) := by decide +kernel
theorem dX4_gap_25 : decode cX4_gap 25 = .ok (.invokestatic 107, 3) := by decide +kernel
theorem dX4_gap_28 : decode cX4_gap 28 = .ok (.invokestatic 60, 3) := by decide +kernel
theorem dX4_gap_31 : decode cX4_gap 31 = .ok (.ireturn, 1) := by decide +kernel
set_option maxRecDepth 20000 in
theorem ggX4_cross_X4_hasWire : GoodIn wsX4_cross wsX4_hasWire := goodIn_r _ [5, 6, 7, 8, 4, 9, 10, 11, 12, 13, 14, 15, 23, 24, 25, 26, 27, 28, 29, 30, 31, 32, 33] (by decide +kernel) (by decide +kernel)
set_option maxRecDepth 20000 in
theorem gX4_cross_X4_hasWire : GoodIn wsX4_cross (wsV RX4 49 RX4 yX4_hasWire wsX4_hasWire) := goodIn_app (goodIn_of _ (by decide +kernel)) ggX4_cross_X4_hasWire
set_option maxRecDepth 20000 in
theorem ggX4_cross_X4_crossingY : GoodIn wsX4_cross wsX4_crossingY := goodIn_r _ [19, 6, 13, 14, 4, 15, 20, 21, 22, 23, 24, 25, 26, 27, 28, 29, 30, 31, 32, 33] (by decide +kernel) (by decide +kernel)
set_option maxRecDepth 20000 in
theorem gX4_cross_X4_crossingY : GoodIn wsX4_cross (wsV RX4 104 RX4 yX4_crossingY wsX4_crossingY) := goodIn_app (goodIn_of _ (by decide +kernel)) ggX4_cross_X4_crossingY
theorem dX4_cross_0 : decode cX4_cross 0 = .ok (.aload_n 0, 1) := by decide +kernel
theorem dX4_cross_1 : decode cX4_cross 1 = .ok (.iload_n 1, 1) := by decide +kernel
theorem dX4_cross_2 : decode cX4_cross 2 = .ok (.invokevirtual 49, 3) := by decide +kernel
theorem dX4_cross_5 : decode cX4_cross 5 = .ok (.ifCond .eq 26, 3) := by decide +kernel
theorem dX4_cross_8 : decode cX4_cross 8 = .ok (.aload_n 0, 1) := by decide +kernel
theorem dX4_cross_9 : decode cX4_cross 9 = .ok (.iload_n 2, 1) := by decide +kernel
theorem dX4_cross_10 : decode cX4_cross 10 = .ok (.invokevirtual 49, 3) := by decide +kernel
theorem dX4_cross_13 : decode cX4_cross 13 = .ok (.ifCond .eq 18, 3) := by decide +kernel
theorem dX4_cross_16 : decode cX4_cross 16 = .ok (.aload_n 0, 1) := by decide +kernel
theorem dX4_cross_17 : decode cX4_cross 17 = .ok (.iload_n 1, 1) := by decide +kernel
theorem dX4_cross_18 : decode cX4_cross 18 = .ok (.iload_n 2, 1) := by decide +kernel
theorem dX4_cross_19 : decode cX4_cross 19 = .ok (.invokevirtual 104, 3) := by decide +kernel
theorem dX4_cross_22 : decode cX4_cross 22 = .ok (.bipush (-5), 2) := by decide +kernel
theorem dX4_cross_24 : decode cX4_cross 24 = .ok (.if_icmp .eq 7, 3) := by decide +kernel
theorem dX4_cross_27 : decode cX4_cross 27 = .ok (.iconst 1, 1) := by decide +kernel
theorem dX4_cross_28 : decode cX4_cross 28 = .ok (.goto 4, 3) := by decide +kernel
theorem dX4_cross_31 : decode cX4_cross 31 = .ok (.iconst 0, 1) := by decide +kernel
theorem dX4_cross_32 : decode cX4_cross 32 = .ok (.ireturn, 1) := by decide +kernel
set_option maxRecDepth 20000 in
theorem ggX4_crossings_X4_cross : GoodIn wsX4_crossings wsX4_cross := goodIn_r _ [5, 6, 7, 8, 4, 9, 10, 11, 12, 13, 14, 15, 16, 17, 18, 19, 20, 21, 22, 23, 24, 25, 26, 27, 28, 29, 30, 31, 32, 33, 34, 35, 36, 37] (by decide +kernel) (by decide +kernel)
set_option maxRecDepth 20000 in
theorem gX4_crossings_X4_cross : GoodIn wsX4_crossings (wsV RX4 110 RX4 yX4_cross wsX4_cross) := goodIn_app (goodIn_of _ (by decide +kernel)) ggX4_crossings_X4_cross
theorem dX4_crossings_0 : decode cX4_crossings 0 = .ok (.iconst 0, 1) := by decide +kernel
theorem dX4_crossings_1 : decode cX4_crossings 1 = .ok (.istore_n 2, 1) := by decide +kernel
theorem dX4_crossings_2 : decode cX4_crossings 2 = .ok (.iconst 0, 1) := by decide +kernel
theorem dX4_crossings_3 : decode cX4_crossings 3 = .ok (.istore_n 3, 1) := by decide +kernel
theorem dX4_crossings_4 : decode cX4_crossings 4 = .ok (.iload_n 3, 1) := by decide +kernel
theorem dX4_crossings_5 : decode cX4_crossings 5 = .ok (.bipush 12, 2) := by decide +kernel
theorem dX4_crossings_7 : decode cX4_crossings 7 = .ok (.if_icmp .ge 26, 3) := by decide +kernel
theorem dX4_crossings_10 : decode cX4_crossings 10 = .ok (.iload_n 2, 1) := by decide +kernel
theorem dX4_crossings_11 : decode cX4_crossings 11 = .ok (.aload_n 0, 1) := by decide +kernel
theorem dX4_crossings_12 : decode cX4_crossings 12 = .ok (.iload_n 1, 1) := by decide +kernel
theorem dX4_crossings_13 : decode cX4_crossings 13 = .ok (.iload_n 3, 1) := by decide +kernel
theorem dX4_crossings_14 : decode cX4_crossings 14 = .ok (.invokevirtual 110, 3) := by decide +kernel
theorem dX4_crossings_17 : decode cX4_crossings 17 = .ok (.ifCond .eq 7, 3) := by decide +kernel
theorem dX4_crossings_20 : decode cX4_crossings 20 = .ok (.iconst 1, 1) := by decide +kernel
theorem dX4_crossings_21 : decode cX4_crossings 21 = .ok (.goto 4, 3) := by decide +kernel
theorem dX4_crossings_24 : decode cX4_crossings 24 = .ok (.iconst 0, 1) := by decide +kernel
theorem dX4_crossings_25 : decode cX4_crossings 25 = .ok (.iadd, 1) := by decide +kernel
theorem dX4_crossings_26 : decode cX4_crossings 26 = .ok (.istore_n 2, 1) := by decide +kernel
theorem dX4_crossings_27 : decode cX4_crossings 27 = .ok (.iinc 3 1, 3) := by decide +kernel
theorem dX4_crossings_30 : decode cX4_crossings 30 = .ok (.goto (-26), 3) := by decide +kernel
theorem dX4_crossings_33 : decode cX4_crossings 33 = .ok (.iload_n 2, 1) := by decide +kernel
theorem dX4_crossings_34 : decode cX4_crossings 34 = .ok (.ireturn, 1) := by decide +kernel
set_option maxRecDepth 20000 in
theorem ggX4_shortOnes_X4_cross : GoodIn wsX4_shortOnes wsX4_cross := goodIn_r _ [6, 7, 8, 9, 5, 10, 1, 11, 12, 13, 14, 15, 16, 17, 18, 19, 20, 21, 22, 23, 24, 25, 26, 38, 39, 40, 41, 42, 43, 44, 45, 46, 47, 48] (by decide +kernel) (by decide +kernel)
set_option maxRecDepth 20000 in
theorem gX4_shortOnes_X4_cross : GoodIn wsX4_shortOnes (wsV RX4 110 RX4 yX4_cross wsX4_cross) := goodIn_app (goodIn_of _ (by decide +kernel)) ggX4_shortOnes_X4_cross
set_option maxRecDepth 20000 in
theorem ggX4_shortOnes_X4_gap : GoodIn wsX4_shortOnes wsX4_gap := goodIn_r _ [30, 1, 20, 21, 22, 5, 23, 17, 18, 19, 24, 25, 26, 31, 32, 33, 34, 35, 36, 37, 38, 39, 40, 41, 42, 43, 44, 45, 46, 47, 48] (by decide +kernel) (by decide +kernel)
set_option maxRecDepth 20000 in
theorem gX4_shortOnes_X4_gap : GoodIn wsX4_shortOnes (wsV RX4 114 RX4 yX4_gap wsX4_gap) := goodIn_app (goodIn_of _ (by decide +kernel)) ggX4_shortOnes_X4_gap
theorem dX4_shortOnes_0 : decode cX4_shortOnes 0 = .ok (.iconst 0, 1) := by decide +kernel
theorem dX4_shortOnes_1 : decode cX4_shortOnes 1 = .ok (.istore_n 3, 1) := by decide +kernel
theorem dX4_shortOnes_2 : decode cX4_shortOnes 2 = .ok (.iconst 0, 1) := by decide +kernel
theorem dX4_shortOnes_3 : decode cX4_shortOnes 3 = .ok (.istore 4, 2) := by decide +kernel
theorem dX4_shortOnes_5 : decode cX4_shortOnes 5 = .ok (.iload 4, 2) := by decide +kernel
theorem dX4_shortOnes_7 : decode cX4_shortOnes 7 = .ok (.bipush 12, 2) := by decide +kernel
theorem dX4_shortOnes_9 : decode cX4_shortOnes 9 = .ok (.if_icmp .ge 45, 3) := by decide +kernel
theorem dX4_shortOnes_12 : decode cX4_shortOnes 12 = .ok (.iload_n 3, 1) := by decide +kernel
theorem dX4_shortOnes_13 : decode cX4_shortOnes 13 = .ok (.aload_n 0, 1) := by decide +kernel
theorem dX4_shortOnes_14 : decode cX4_shortOnes 14 = .ok (.iload_n 1, 1) := by decide +kernel
theorem dX4_shortOnes_15 : decode cX4_shortOnes 15 = .ok (.iload 4, 2) := by decide +kernel
theorem dX4_shortOnes_17 : decode cX4_shortOnes 17 = .ok (.invokevirtual 110, 3) := by decide +kernel
theorem dX4_shortOnes_20 : decode cX4_shortOnes 20 = .ok (.ifCond .eq 25, 3) := by decide +kernel
theorem dX4_shortOnes_23 : decode cX4_shortOnes 23 = .ok (.aload_n 0, 1) := by decide +kernel
theorem dX4_shortOnes_24 : decode cX4_shortOnes 24 = .ok (.iload_n 1, 1) := by decide +kernel
theorem dX4_shortOnes_25 : decode cX4_shortOnes 25 = .ok (.iload_n 2, 1) := by decide +kernel
theorem dX4_shortOnes_26 : decode cX4_shortOnes 26 = .ok (.iload 4, 2) := by decide +kernel
theorem dX4_shortOnes_28 : decode cX4_shortOnes 28 = .ok (.invokevirtual 114, 3) := by decide +kernel
theorem dX4_shortOnes_31 : decode cX4_shortOnes 31 = .ok (.aload_n 0, 1) := by decide +kernel
theorem dX4_shortOnes_32 : decode cX4_shortOnes 32 = .ok (.getfield 7, 3) := by decide +kernel
theorem dX4_shortOnes_35 : decode cX4_shortOnes 35 = .ok (.bipush 64, 2) := by decide +kernel
theorem dX4_shortOnes_37 : decode cX4_shortOnes 37 = .ok (.iaload, 1) := by decide +kernel
theorem dX4_shortOnes_38 : decode cX4_shortOnes 38 = .ok (.if_icmp .ge 7, 3) := by decide +kernel
theorem dX4_shortOnes_41 : decode cX4_shortOnes 41 = .ok (.iconst 1, 1) := by decide +kernel
theorem dX4_shortOnes_42 : decode cX4_shortOnes 42 = .ok (.goto 4, 3) := by decide +kernel
theorem dX4_shortOnes_45 : decode cX4_shortOnes 45 = .ok (.iconst 0, 1) := by decide +kernel
theorem dX4_shortOnes_46 : decode cX4_shortOnes 46 = .ok (.iadd, 1) := by decide +kernel
theorem dX4_shortOnes_47 : decode cX4_shortOnes 47 = .ok (.istore_n 3, 1) := by decide +kernel
theorem dX4_shortOnes_48 : decode cX4_shortOnes 48 = .ok (.iinc 4 1, 3) := by decide +kernel
theorem dX4_shortOnes_51 : decode cX4_shortOnes 51 = .ok (.goto (-46), 3) := by decide +kernel
theorem dX4_shortOnes_54 : decode cX4_shortOnes 54 = .ok (.iload_n 3, 1) := by decide +kernel
theorem dX4_shortOnes_55 : decode cX4_shortOnes 55 = .ok (.ireturn, 1) := by decide +kernel
set_option maxRecDepth 20000 in
theorem ggX4_leastGap_X4_cross : GoodIn wsX4_leastGap wsX4_cross := goodIn_r _ [6, 7, 8, 9, 5, 10, 1, 11, 12, 13, 14, 15, 16, 17, 18, 19, 20, 21, 22, 23, 24, 25, 26, 38, 39, 40, 41, 42, 43, 44, 45, 46, 47, 48] (by decide +kernel) (by decide +kernel)
set_option maxRecDepth 20000 in
theorem gX4_leastGap_X4_cross : GoodIn wsX4_leastGap (wsV RX4 110 RX4 yX4_cross wsX4_cross) := goodIn_app (goodIn_of _ (by decide +kernel)) ggX4_leastGap_X4_cross
set_option maxRecDepth 20000 in
theorem ggX4_leastGap_X4_of : GoodIn wsX4_leastGap wsX4_of := goodIn_r _ [19] (by decide +kernel) (by decide +kernel)
set_option maxRecDepth 20000 in
theorem gX4_leastGap_X4_of : GoodIn wsX4_leastGap (va_wsS RX4 45 yX4_of wsX4_of) := goodIn_app (goodIn_of _ (by decide +kernel)) ggX4_leastGap_X4_of
set_option maxRecDepth 20000 in
theorem ggX4_leastGap_X4_gap : GoodIn wsX4_leastGap wsX4_gap := goodIn_r _ [30, 1, 20, 21, 22, 5, 23, 17, 18, 19, 24, 25, 26, 31, 32, 33, 34, 35, 36, 37, 38, 39, 40, 41, 42, 43, 44, 45, 46, 47, 48] (by decide +kernel) (by decide +kernel)
set_option maxRecDepth 20000 in
theorem gX4_leastGap_X4_gap : GoodIn wsX4_leastGap (wsV RX4 114 RX4 yX4_gap wsX4_gap) := goodIn_app (goodIn_of _ (by decide +kernel)) ggX4_leastGap_X4_gap
theorem dX4_leastGap_0 : decode cX4_leastGap 0 = .ok (.bipush (-5), 2) := by decide +kernel
theorem dX4_leastGap_2 : decode cX4_leastGap 2 = .ok (.istore_n 2, 1) := by decide +kernel
theorem dX4_leastGap_3 : decode cX4_leastGap 3 = .ok (.iconst 0, 1) := by decide +kernel
theorem dX4_leastGap_4 : decode cX4_leastGap 4 = .ok (.istore_n 3, 1) := by decide +kernel
theorem dX4_leastGap_5 : decode cX4_leastGap 5 = .ok (.iload_n 3, 1) := by decide +kernel
theorem dX4_leastGap_6 : decode cX4_leastGap 6 = .ok (.bipush 12, 2) := by decide +kernel
theorem dX4_leastGap_8 : decode cX4_leastGap 8 = .ok (.if_icmp .ge 54, 3) := by decide +kernel
theorem dX4_leastGap_11 : decode cX4_leastGap 11 = .ok (.aload_n 0, 1) := by decide +kernel
theorem dX4_leastGap_12 : decode cX4_leastGap 12 = .ok (.iload_n 1, 1) := by decide +kernel
theorem dX4_leastGap_13 : decode cX4_leastGap 13 = .ok (.iload_n 3, 1) := by decide +kernel
theorem dX4_leastGap_14 : decode cX4_leastGap 14 = .ok (.invokevirtual 110, 3) := by decide +kernel
theorem dX4_leastGap_17 : decode cX4_leastGap 17 = .ok (.ifCond .eq 39, 3) := by decide +kernel
theorem dX4_leastGap_20 : decode cX4_leastGap 20 = .ok (.aload_n 0, 1) := by decide +kernel
theorem dX4_leastGap_21 : decode cX4_leastGap 21 = .ok (.iload_n 1, 1) := by decide +kernel
theorem dX4_leastGap_22 : decode cX4_leastGap 22 = .ok (.aload_n 0, 1) := by decide +kernel
theorem dX4_leastGap_23 : decode cX4_leastGap 23 = .ok (.getfield 7, 3) := by decide +kernel
theorem dX4_leastGap_26 : decode cX4_leastGap 26 = .ok (.iload_n 1, 1) := by decide +kernel
theorem dX4_leastGap_27 : decode cX4_leastGap 27 = .ok (.iconst 1, 1) := by decide +kernel
theorem dX4_leastGap_28 : decode cX4_leastGap 28 = .ok (.invokestatic 45, 3) := by decide +kernel
theorem dX4_leastGap_31 : decode cX4_leastGap 31 = .ok (.iload_n 3, 1) := by decide +kernel
theorem dX4_leastGap_32 : decode cX4_leastGap 32 = .ok (.invokevirtual 114, 3) := by decide +kernel
theorem dX4_leastGap_35 : decode cX4_leastGap 35 = .ok (.istore 4, 2) := by decide +kernel
theorem dX4_leastGap_37 : decode cX4_leastGap 37 = .ok (.iload_n 2, 1) := by decide +kernel
theorem dX4_leastGap_38 : decode cX4_leastGap 38 = .ok (.bipush (-5), 2) := by decide +kernel
theorem dX4_leastGap_40 : decode cX4_leastGap 40 = .ok (.if_icmp .eq 9, 3) := by decide +kernel
theorem dX4_leastGap_43 : decode cX4_leastGap 43 = .ok (.iload 4, 2) := by decide +kernel
theorem dX4_leastGap_45 : decode cX4_leastGap 45 = .ok (.iload_n 2, 1) := by decide +kernel
theorem dX4_leastGap_46 : decode cX4_leastGap 46 = .ok (.if_icmp .ge 8, 3) := by decide +kernel
theorem dX4_leastGap_49 : decode cX4_leastGap 49 = .ok (.iload 4, 2) := by decide +kernel
theorem dX4_leastGap_51 : decode cX4_leastGap 51 = .ok (.goto 4, 3) := by decide +kernel
theorem dX4_leastGap_54 : decode cX4_leastGap 54 = .ok (.iload_n 2, 1) := by decide +kernel
theorem dX4_leastGap_55 : decode cX4_leastGap 55 = .ok (.istore_n 2, 1) := by decide +kernel
theorem dX4_leastGap_56 : decode cX4_leastGap 56 = .ok (.iinc 3 1, 3) := by decide +kernel
theorem dX4_leastGap_59 : decode cX4_leastGap 59 = .ok (.goto (-54), 3) := by decide +kernel
theorem dX4_leastGap_62 : decode cX4_leastGap 62 = .ok (.iload_n 2, 1) := by decide +kernel
theorem dX4_leastGap_63 : decode cX4_leastGap 63 = .ok (.ireturn, 1) := by decide +kernel
theorem dX4_type_0 : decode cX4_type 0 = .ok (.aload_n 0, 1) := by decide +kernel
theorem dX4_type_1 : decode cX4_type 1 = .ok (.getfield 118, 3) := by decide +kernel
theorem dX4_type_4 : decode cX4_type 4 = .ok (.bipush 80, 2) := by decide +kernel
theorem dX4_type_6 : decode cX4_type 6 = .ok (.if_icmp .ne 6, 3) := by decide +kernel
theorem dX4_type_9 : decode cX4_type 9 = .ok (.bipush (-3), 2) := by decide +kernel
theorem dX4_type_11 : decode cX4_type 11 = .ok (.ireturn, 1) := by decide +kernel
theorem dX4_type_12 : decode cX4_type 12 = .ok (.aload_n 0, 1) := by decide +kernel
theorem dX4_type_13 : decode cX4_type 13 = .ok (.getfield 22, 3) := by decide +kernel
theorem dX4_type_16 : decode cX4_type 16 = .ok (.aload_n 0, 1) := by decide +kernel
theorem dX4_type_17 : decode cX4_type 17 = .ok (.getfield 118, 3) := by decide +kernel
theorem dX4_type_20 : decode cX4_type 20 = .ok (.iload_n 1, 1) := by decide +kernel
theorem dX4_type_21 : decode cX4_type 21 = .ok (.castore, 1) := by decide +kernel
theorem dX4_type_22 : decode cX4_type 22 = .ok (.aload_n 0, 1) := by decide +kernel
theorem dX4_type_23 : decode cX4_type 23 = .ok (.dup, 1) := by decide +kernel
theorem dX4_type_24 : decode cX4_type 24 = .ok (.getfield 118, 3) := by decide +kernel
theorem dX4_type_27 : decode cX4_type 27 = .ok (.iconst 1, 1) := by decide +kernel
theorem dX4_type_28 : decode cX4_type 28 = .ok (.iadd, 1) := by decide +kernel
theorem dX4_type_29 : decode cX4_type 29 = .ok (.putfield 118, 3) := by decide +kernel
theorem dX4_type_32 : decode cX4_type 32 = .ok (.aload_n 0, 1) := by decide +kernel
theorem dX4_type_33 : decode cX4_type 33 = .ok (.getfield 118, 3) := by decide +kernel
theorem dX4_type_36 : decode cX4_type 36 = .ok (.ireturn, 1) := by decide +kernel
theorem dX4_clearText_0 : decode cX4_clearText 0 = .ok (.aload_n 0, 1) := by decide +kernel
theorem dX4_clearText_1 : decode cX4_clearText 1 = .ok (.getfield 118, 3) := by decide +kernel
theorem dX4_clearText_4 : decode cX4_clearText 4 = .ok (.istore_n 1, 1) := by decide +kernel
theorem dX4_clearText_5 : decode cX4_clearText 5 = .ok (.aload_n 0, 1) := by decide +kernel
theorem dX4_clearText_6 : decode cX4_clearText 6 = .ok (.iconst 0, 1) := by decide +kernel
theorem dX4_clearText_7 : decode cX4_clearText 7 = .ok (.putfield 118, 3) := by decide +kernel
theorem dX4_clearText_10 : decode cX4_clearText 10 = .ok (.iload_n 1, 1) := by decide +kernel
theorem dX4_clearText_11 : decode cX4_clearText 11 = .ok (.ireturn, 1) := by decide +kernel
set_option maxRecDepth 20000 in
theorem ggX4_sees_X4_in : GoodIn wsX4_sees wsX4_in := goodIn_r _ [7] (by decide +kernel) (by decide +kernel)
set_option maxRecDepth 20000 in
theorem gX4_sees_X4_in : GoodIn wsX4_sees (va_wsS RX4 37 yX4_in wsX4_in) := goodIn_app (goodIn_of _ (by decide +kernel)) ggX4_sees_X4_in
theorem dX4_sees_0 : decode cX4_sees 0 = .ok (.aload_n 0, 1) := by decide +kernel
theorem dX4_sees_1 : decode cX4_sees 1 = .ok (.getfield 121, 3) := by decide +kernel
theorem dX4_sees_4 : decode cX4_sees 4 = .ok (.aload_n 0, 1) := by decide +kernel
theorem dX4_sees_5 : decode cX4_sees 5 = .ok (.getfield 118, 3) := by decide +kernel
theorem dX4_sees_8 : decode cX4_sees 8 = .ok (.if_icmp .ge 24, 3) := by decide +kernel
theorem dX4_sees_11 : decode cX4_sees 11 = .ok (.aload_n 0, 1) := by decide +kernel
theorem dX4_sees_12 : decode cX4_sees 12 = .ok (.getfield 22, 3) := by decide +kernel
theorem dX4_sees_15 : decode cX4_sees 15 = .ok (.aload_n 0, 1) := by decide +kernel
theorem dX4_sees_16 : decode cX4_sees 16 = .ok (.getfield 121, 3) := by decide +kernel
theorem dX4_sees_19 : decode cX4_sees 19 = .ok (.caload, 1) := by decide +kernel
theorem dX4_sees_20 : decode cX4_sees 20 = .ok (.iload_n 1, 1) := by decide +kernel
theorem dX4_sees_21 : decode cX4_sees 21 = .ok (.iload_n 2, 1) := by decide +kernel
theorem dX4_sees_22 : decode cX4_sees 22 = .ok (.invokestatic 37, 3) := by decide +kernel
theorem dX4_sees_25 : decode cX4_sees 25 = .ok (.ifCond .eq 7, 3) := by decide +kernel
theorem dX4_sees_28 : decode cX4_sees 28 = .ok (.iconst 1, 1) := by decide +kernel
theorem dX4_sees_29 : decode cX4_sees 29 = .ok (.goto 4, 3) := by decide +kernel
theorem dX4_sees_32 : decode cX4_sees 32 = .ok (.iconst 0, 1) := by decide +kernel
theorem dX4_sees_33 : decode cX4_sees 33 = .ok (.ireturn, 1) := by decide +kernel
set_option maxRecDepth 20000 in
theorem ggX4_takes_X4_sees : GoodIn wsX4_takes wsX4_sees := goodIn_r _ [6, 1, 7, 8, 9, 10, 5, 11, 12, 13, 14, 15, 16, 17, 18, 19, 20, 21, 22] (by decide +kernel) (by decide +kernel)
set_option maxRecDepth 20000 in
theorem gX4_takes_X4_sees : GoodIn wsX4_takes (wsV RX4 124 RX4 yX4_sees wsX4_sees) := goodIn_app (goodIn_of _ (by decide +kernel)) ggX4_takes_X4_sees
theorem dX4_takes_0 : decode cX4_takes 0 = .ok (.aload_n 0, 1) := by decide +kernel
theorem dX4_takes_1 : decode cX4_takes 1 = .ok (.iload_n 1, 1) := by decide +kernel
theorem dX4_takes_2 : decode cX4_takes 2 = .ok (.iload_n 1, 1) := by decide +kernel
theorem dX4_takes_3 : decode cX4_takes 3 = .ok (.invokevirtual 124, 3) := by decide +kernel
theorem dX4_takes_6 : decode cX4_takes 6 = .ok (.istore_n 2, 1) := by decide +kernel
theorem dX4_takes_7 : decode cX4_takes 7 = .ok (.aload_n 0, 1) := by decide +kernel
theorem dX4_takes_8 : decode cX4_takes 8 = .ok (.dup, 1) := by decide +kernel
theorem dX4_takes_9 : decode cX4_takes 9 = .ok (.getfield 121, 3) := by decide +kernel
theorem dX4_takes_12 : decode cX4_takes 12 = .ok (.iload_n 2, 1) := by decide +kernel
theorem dX4_takes_13 : decode cX4_takes 13 = .ok (.ifCond .eq 7, 3) := by decide +kernel
theorem dX4_takes_16 : decode cX4_takes 16 = .ok (.iconst 1, 1) := by decide +kernel
theorem dX4_takes_17 : decode cX4_takes 17 = .ok (.goto 4, 3) := by decide +kernel
theorem dX4_takes_20 : decode cX4_takes 20 = .ok (.iconst 0, 1) := by decide +kernel
theorem dX4_takes_21 : decode cX4_takes 21 = .ok (.iadd, 1) := by decide +kernel
theorem dX4_takes_22 : decode cX4_takes 22 = .ok (.putfield 121, 3) := by decide +kernel
theorem dX4_takes_25 : decode cX4_takes 25 = .ok (.iload_n 2, 1) := by decide +kernel
theorem dX4_takes_26 : decode cX4_takes 26 = .ok (.ireturn, 1) := by decide +kernel
set_option maxRecDepth 20000 in
theorem ggX4_isNumber_X4_sees : GoodIn wsX4_isNumber wsX4_sees := goodIn_r _ [9, 2, 10, 1, 11, 12, 8, 13, 14, 15, 16, 17, 18, 19, 20, 21, 22, 23, 24] (by decide +kernel) (by decide +kernel)
set_option maxRecDepth 20000 in
theorem gX4_isNumber_X4_sees : GoodIn wsX4_isNumber (wsV RX4 124 RX4 yX4_sees wsX4_sees) := goodIn_app (goodIn_of _ (by decide +kernel)) ggX4_isNumber_X4_sees
theorem dX4_isNumber_0 : decode cX4_isNumber 0 = .ok (.aload_n 0, 1) := by decide +kernel
theorem dX4_isNumber_1 : decode cX4_isNumber 1 = .ok (.iload_n 2, 1) := by decide +kernel
theorem dX4_isNumber_2 : decode cX4_isNumber 2 = .ok (.ifCond .le 8, 3) := by decide +kernel
theorem dX4_isNumber_5 : decode cX4_isNumber 5 = .ok (.bipush 49, 2) := by decide +kernel
theorem dX4_isNumber_7 : decode cX4_isNumber 7 = .ok (.goto 5, 3) := by decide +kernel
theorem dX4_isNumber_10 : decode cX4_isNumber 10 = .ok (.bipush 48, 2) := by decide +kernel
theorem dX4_isNumber_12 : decode cX4_isNumber 12 = .ok (.bipush 57, 2) := by decide +kernel
theorem dX4_isNumber_14 : decode cX4_isNumber 14 = .ok (.invokevirtual 124, 3) := by decide +kernel
theorem dX4_isNumber_17 : decode cX4_isNumber 17 = .ok (.ifCond .ne 5, 3) := by decide +kernel
theorem dX4_isNumber_20 : decode cX4_isNumber 20 = .ok (.iconst 0, 1) := by decide +kernel
theorem dX4_isNumber_21 : decode cX4_isNumber 21 = .ok (.ireturn, 1) := by decide +kernel
theorem dX4_isNumber_22 : decode cX4_isNumber 22 = .ok (.aload_n 0, 1) := by decide +kernel
theorem dX4_isNumber_23 : decode cX4_isNumber 23 = .ok (.getfield 22, 3) := by decide +kernel
theorem dX4_isNumber_26 : decode cX4_isNumber 26 = .ok (.aload_n 0, 1) := by decide +kernel
theorem dX4_isNumber_27 : decode cX4_isNumber 27 = .ok (.getfield 121, 3) := by decide +kernel
theorem dX4_isNumber_30 : decode cX4_isNumber 30 = .ok (.caload, 1) := by decide +kernel
theorem dX4_isNumber_31 : decode cX4_isNumber 31 = .ok (.bipush 48, 2) := by decide +kernel
theorem dX4_isNumber_33 : decode cX4_isNumber 33 = .ok (.isub, 1) := by decide +kernel
theorem dX4_isNumber_34 : decode cX4_isNumber 34 = .ok (.istore 4, 2) := by decide +kernel
theorem dX4_isNumber_36 : decode cX4_isNumber 36 = .ok (.aload_n 0, 1) := by decide +kernel
theorem dX4_isNumber_37 : decode cX4_isNumber 37 = .ok (.dup, 1) := by decide +kernel
theorem dX4_isNumber_38 : decode cX4_isNumber 38 = .ok (.getfield 121, 3) := by decide +kernel
theorem dX4_isNumber_41 : decode cX4_isNumber 41 = .ok (.iconst 1, 1) := by decide +kernel
theorem dX4_isNumber_42 : decode cX4_isNumber 42 = .ok (.iadd, 1) := by decide +kernel
theorem dX4_isNumber_43 : decode cX4_isNumber 43 = .ok (.putfield 121, 3) := by decide +kernel
theorem dX4_isNumber_46 : decode cX4_isNumber 46 = .ok (.iload 4, 2) := by decide +kernel
theorem dX4_isNumber_48 : decode cX4_isNumber 48 = .ok (.ifCond .le 69, 3) := by decide +kernel
theorem dX4_isNumber_51 : decode cX4_isNumber 51 = .ok (.aload_n 0, 1) := by decide +kernel
theorem dX4_isNumber_52 : decode cX4_isNumber 52 = .ok (.bipush 48, 2) := by decide +kernel
theorem dX4_isNumber_54 : decode cX4_isNumber 54 = .ok (.bipush 57, 2) := by decide +kernel
theorem dX4_isNumber_56 : decode cX4_isNumber 56 = .ok (.invokevirtual 124, 3) := by decide +kernel
theorem dX4_isNumber_59 : decode cX4_isNumber 59 = .ok (.ifCond .eq 58, 3) := by decide +kernel
theorem dX4_isNumber_62 : decode cX4_isNumber 62 = .ok (.bipush 10, 2) := by decide +kernel
theorem dX4_isNumber_64 : decode cX4_isNumber 64 = .ok (.iload 4, 2) := by decide +kernel
theorem dX4_isNumber_66 : decode cX4_isNumber 66 = .ok (.imul, 1) := by decide +kernel
theorem dX4_isNumber_67 : decode cX4_isNumber 67 = .ok (.aload_n 0, 1) := by decide +kernel
theorem dX4_isNumber_68 : decode cX4_isNumber 68 = .ok (.getfield 22, 3) := by decide +kernel
theorem dX4_isNumber_71 : decode cX4_isNumber 71 = .ok (.aload_n 0, 1) := by decide +kernel
theorem dX4_isNumber_72 : decode cX4_isNumber 72 = .ok (.getfield 121, 3) := by decide +kernel
theorem dX4_isNumber_75 : decode cX4_isNumber 75 = .ok (.caload, 1) := by decide +kernel
theorem dX4_isNumber_76 : decode cX4_isNumber 76 = .ok (.iadd, 1) := by decide +kernel
theorem dX4_isNumber_77 : decode cX4_isNumber 77 = .ok (.bipush 48, 2) := by decide +kernel
theorem dX4_isNumber_79 : decode cX4_isNumber 79 = .ok (.isub, 1) := by decide +kernel
theorem dX4_isNumber_80 : decode cX4_isNumber 80 = .ok (.iload_n 3, 1) := by decide +kernel
theorem dX4_isNumber_81 : decode cX4_isNumber 81 = .ok (.if_icmp .gt 36, 3) := by decide +kernel
theorem dX4_isNumber_84 : decode cX4_isNumber 84 = .ok (.bipush 10, 2) := by decide +kernel
theorem dX4_isNumber_86 : decode cX4_isNumber 86 = .ok (.iload 4, 2) := by decide +kernel
theorem dX4_isNumber_88 : decode cX4_isNumber 88 = .ok (.imul, 1) := by decide +kernel
theorem dX4_isNumber_89 : decode cX4_isNumber 89 = .ok (.aload_n 0, 1) := by decide +kernel
theorem dX4_isNumber_90 : decode cX4_isNumber 90 = .ok (.getfield 22, 3) := by decide +kernel
theorem dX4_isNumber_93 : decode cX4_isNumber 93 = .ok (.aload_n 0, 1) := by decide +kernel
theorem dX4_isNumber_94 : decode cX4_isNumber 94 = .ok (.getfield 121, 3) := by decide +kernel
theorem dX4_isNumber_97 : decode cX4_isNumber 97 = .ok (.caload, 1) := by decide +kernel
theorem dX4_isNumber_98 : decode cX4_isNumber 98 = .ok (.iadd, 1) := by decide +kernel
theorem dX4_isNumber_99 : decode cX4_isNumber 99 = .ok (.bipush 48, 2) := by decide +kernel
theorem dX4_isNumber_101 : decode cX4_isNumber 101 = .ok (.isub, 1) := by decide +kernel
theorem dX4_isNumber_102 : decode cX4_isNumber 102 = .ok (.istore 4, 2) := by decide +kernel
theorem dX4_isNumber_104 : decode cX4_isNumber 104 = .ok (.aload_n 0, 1) := by decide +kernel
theorem dX4_isNumber_105 : decode cX4_isNumber 105 = .ok (.dup, 1) := by decide +kernel
theorem dX4_isNumber_106 : decode cX4_isNumber 106 = .ok (.getfield 121, 3) := by decide +kernel
theorem dX4_isNumber_109 : decode cX4_isNumber 109 = .ok (.iconst 1, 1) := by decide +kernel
theorem dX4_isNumber_110 : decode cX4_isNumber 110 = .ok (.iadd, 1) := by decide +kernel
theorem dX4_isNumber_111 : decode cX4_isNumber 111 = .ok (.putfield 121, 3) := by decide +kernel
theorem dX4_isNumber_114 : decode cX4_isNumber 114 = .ok (.goto (-68), 3) := by decide +kernel
theorem dX4_isNumber_117 : decode cX4_isNumber 117 = .ok (.aload_n 0, 1) := by decide +kernel
theorem dX4_isNumber_118 : decode cX4_isNumber 118 = .ok (.getfield 26, 3) := by decide +kernel
theorem dX4_isNumber_121 : decode cX4_isNumber 121 = .ok (.iconst 3, 1) := by decide +kernel
theorem dX4_isNumber_122 : decode cX4_isNumber 122 = .ok (.aload_n 0, 1) := by decide +kernel
theorem dX4_isNumber_123 : decode cX4_isNumber 123 = .ok (.getfield 87, 3) := by decide +kernel
theorem dX4_isNumber_126 : decode cX4_isNumber 126 = .ok (.imul, 1) := by decide +kernel
theorem dX4_isNumber_127 : decode cX4_isNumber 127 = .ok (.iload_n 1, 1) := by decide +kernel
theorem dX4_isNumber_128 : decode cX4_isNumber 128 = .ok (.iadd, 1) := by decide +kernel
theorem dX4_isNumber_129 : decode cX4_isNumber 129 = .ok (.iload 4, 2) := by decide +kernel
theorem dX4_isNumber_131 : decode cX4_isNumber 131 = .ok (.iastore, 1) := by decide +kernel
theorem dX4_isNumber_132 : decode cX4_isNumber 132 = .ok (.iload 4, 2) := by decide +kernel
theorem dX4_isNumber_134 : decode cX4_isNumber 134 = .ok (.iload_n 2, 1) := by decide +kernel
theorem dX4_isNumber_135 : decode cX4_isNumber 135 = .ok (.if_icmp .lt 7, 3) := by decide +kernel
theorem dX4_isNumber_138 : decode cX4_isNumber 138 = .ok (.iconst 1, 1) := by decide +kernel
theorem dX4_isNumber_139 : decode cX4_isNumber 139 = .ok (.goto 4, 3) := by decide +kernel
theorem dX4_isNumber_142 : decode cX4_isNumber 142 = .ok (.iconst 0, 1) := by decide +kernel
theorem dX4_isNumber_143 : decode cX4_isNumber 143 = .ok (.ireturn, 1) := by decide +kernel
set_option maxRecDepth 20000 in
theorem ggX4_isWire_X4_isNumber : GoodIn wsX4_isWire wsX4_isNumber := goodIn_r _ [7, 8, 9, 1, 2, 10, 11, 12, 6, 13, 14, 15, 16, 17, 22, 23, 24, 25, 26, 27, 28, 29, 30, 31, 32] (by decide +kernel) (by decide +kernel)
set_option maxRecDepth 20000 in
theorem gX4_isWire_X4_isNumber : GoodIn wsX4_isWire (wsV RX4 127 RX4 yX4_isNumber wsX4_isNumber) := goodIn_app (goodIn_of _ (by decide +kernel)) ggX4_isWire_X4_isNumber
set_option maxRecDepth 20000 in
theorem ggX4_isWire_X4_takes : GoodIn wsX4_isWire wsX4_takes := goodIn_r _ [21, 9, 10, 11, 12, 6, 13, 14, 8, 15, 16, 17, 22, 23, 24, 25, 26, 27, 28, 29, 30, 31, 32] (by decide +kernel) (by decide +kernel)
set_option maxRecDepth 20000 in
theorem gX4_isWire_X4_takes : GoodIn wsX4_isWire (wsV RX4 130 RX4 yX4_takes wsX4_takes) := goodIn_app (goodIn_of _ (by decide +kernel)) ggX4_isWire_X4_takes
theorem dX4_isWire_0 : decode cX4_isWire 0 = .ok (.aload_n 0, 1) := by decide +kernel
theorem dX4_isWire_1 : decode cX4_isWire 1 = .ok (.iconst 0, 1) := by decide +kernel
theorem dX4_isWire_2 : decode cX4_isWire 2 = .ok (.iconst 0, 1) := by decide +kernel
theorem dX4_isWire_3 : decode cX4_isWire 3 = .ok (.bipush 11, 2) := by decide +kernel
theorem dX4_isWire_5 : decode cX4_isWire 5 = .ok (.invokevirtual 127, 3) := by decide +kernel
theorem dX4_isWire_8 : decode cX4_isWire 8 = .ok (.ifCond .eq 27, 3) := by decide +kernel
theorem dX4_isWire_11 : decode cX4_isWire 11 = .ok (.aload_n 0, 1) := by decide +kernel
theorem dX4_isWire_12 : decode cX4_isWire 12 = .ok (.bipush 45, 2) := by decide +kernel
theorem dX4_isWire_14 : decode cX4_isWire 14 = .ok (.invokevirtual 130, 3) := by decide +kernel
theorem dX4_isWire_17 : decode cX4_isWire 17 = .ok (.ifCond .eq 18, 3) := by decide +kernel
theorem dX4_isWire_20 : decode cX4_isWire 20 = .ok (.aload_n 0, 1) := by decide +kernel
theorem dX4_isWire_21 : decode cX4_isWire 21 = .ok (.iconst 1, 1) := by decide +kernel
theorem dX4_isWire_22 : decode cX4_isWire 22 = .ok (.iconst 0, 1) := by decide +kernel
theorem dX4_isWire_23 : decode cX4_isWire 23 = .ok (.bipush 15, 2) := by decide +kernel
theorem dX4_isWire_25 : decode cX4_isWire 25 = .ok (.invokevirtual 127, 3) := by decide +kernel
theorem dX4_isWire_28 : decode cX4_isWire 28 = .ok (.ifCond .eq 7, 3) := by decide +kernel
theorem dX4_isWire_31 : decode cX4_isWire 31 = .ok (.iconst 1, 1) := by decide +kernel
theorem dX4_isWire_32 : decode cX4_isWire 32 = .ok (.goto 4, 3) := by decide +kernel
theorem dX4_isWire_35 : decode cX4_isWire 35 = .ok (.iconst 0, 1) := by decide +kernel
theorem dX4_isWire_36 : decode cX4_isWire 36 = .ok (.istore_n 1, 1) := by decide +kernel
theorem dX4_isWire_37 : decode cX4_isWire 37 = .ok (.aload_n 0, 1) := by decide +kernel
theorem dX4_isWire_38 : decode cX4_isWire 38 = .ok (.getfield 26, 3) := by decide +kernel
theorem dX4_isWire_41 : decode cX4_isWire 41 = .ok (.iconst 3, 1) := by decide +kernel
theorem dX4_isWire_42 : decode cX4_isWire 42 = .ok (.aload_n 0, 1) := by decide +kernel
theorem dX4_isWire_43 : decode cX4_isWire 43 = .ok (.getfield 87, 3) := by decide +kernel
theorem dX4_isWire_46 : decode cX4_isWire 46 = .ok (.imul, 1) := by decide +kernel
theorem dX4_isWire_47 : decode cX4_isWire 47 = .ok (.iconst 2, 1) := by decide +kernel
theorem dX4_isWire_48 : decode cX4_isWire 48 = .ok (.iadd, 1) := by decide +kernel
theorem dX4_isWire_49 : decode cX4_isWire 49 = .ok (.bipush 60, 2) := by decide +kernel
theorem dX4_isWire_51 : decode cX4_isWire 51 = .ok (.iastore, 1) := by decide +kernel
theorem dX4_isWire_52 : decode cX4_isWire 52 = .ok (.iload_n 1, 1) := by decide +kernel
theorem dX4_isWire_53 : decode cX4_isWire 53 = .ok (.ifCond .eq 29, 3) := by decide +kernel
theorem dX4_isWire_56 : decode cX4_isWire 56 = .ok (.aload_n 0, 1) := by decide +kernel
theorem dX4_isWire_57 : decode cX4_isWire 57 = .ok (.bipush 58, 2) := by decide +kernel
theorem dX4_isWire_59 : decode cX4_isWire 59 = .ok (.invokevirtual 130, 3) := by decide +kernel
theorem dX4_isWire_62 : decode cX4_isWire 62 = .ok (.ifCond .eq 16, 3) := by decide +kernel
theorem dX4_isWire_65 : decode cX4_isWire 65 = .ok (.aload_n 0, 1) := by decide +kernel
theorem dX4_isWire_66 : decode cX4_isWire 66 = .ok (.iconst 2, 1) := by decide +kernel
theorem dX4_isWire_67 : decode cX4_isWire 67 = .ok (.bipush 10, 2) := by decide +kernel
theorem dX4_isWire_69 : decode cX4_isWire 69 = .ok (.sipush 200, 3) := by decide +kernel
theorem dX4_isWire_72 : decode cX4_isWire 72 = .ok (.invokevirtual 127, 3) := by decide +kernel
theorem dX4_isWire_75 : decode cX4_isWire 75 = .ok (.ifCond .eq 7, 3) := by decide +kernel
theorem dX4_isWire_78 : decode cX4_isWire 78 = .ok (.iconst 1, 1) := by decide +kernel
theorem dX4_isWire_79 : decode cX4_isWire 79 = .ok (.goto 4, 3) := by decide +kernel
theorem dX4_isWire_82 : decode cX4_isWire 82 = .ok (.iconst 0, 1) := by decide +kernel
theorem dX4_isWire_83 : decode cX4_isWire 83 = .ok (.ireturn, 1) := by decide +kernel
set_option maxRecDepth 20000 in
theorem ggX4_fault_X4_isWire : GoodIn wsX4_fault wsX4_isWire := goodIn_r _ [8, 9, 2, 10, 11, 12, 7, 13, 14, 1, 15, 16, 17, 18, 3, 19, 20, 21, 22, 23, 24, 25, 26, 27, 28, 29, 30, 31, 32, 33, 34, 35, 36] (by decide +kernel) (by decide +kernel)
set_option maxRecDepth 20000 in
theorem gX4_fault_X4_isWire : GoodIn wsX4_fault (wsV RX4 133 RX4 yX4_isWire wsX4_isWire) := goodIn_app (goodIn_of _ (by decide +kernel)) ggX4_fault_X4_isWire
set_option maxRecDepth 20000 in
theorem ggX4_fault_X4_takes : GoodIn wsX4_fault wsX4_takes := goodIn_r _ [25, 1, 15, 16, 17, 7, 18, 3, 14, 19, 20, 21, 26, 27, 28, 29, 30, 31, 32, 33, 34, 35, 36] (by decide +kernel) (by decide +kernel)
set_option maxRecDepth 20000 in
theorem gX4_fault_X4_takes : GoodIn wsX4_fault (wsV RX4 130 RX4 yX4_takes wsX4_takes) := goodIn_app (goodIn_of _ (by decide +kernel)) ggX4_fault_X4_takes
theorem dX4_fault_0 : decode cX4_fault 0 = .ok (.aload_n 0, 1) := by decide +kernel
theorem dX4_fault_1 : decode cX4_fault 1 = .ok (.iconst 0, 1) := by decide +kernel
theorem dX4_fault_2 : decode cX4_fault 2 = .ok (.putfield 121, 3) := by decide +kernel
theorem dX4_fault_5 : decode cX4_fault 5 = .ok (.aload_n 0, 1) := by decide +kernel
theorem dX4_fault_6 : decode cX4_fault 6 = .ok (.iconst 0, 1) := by decide +kernel
theorem dX4_fault_7 : decode cX4_fault 7 = .ok (.putfield 87, 3) := by decide +kernel
theorem dX4_fault_10 : decode cX4_fault 10 = .ok (.iconst 1, 1) := by decide +kernel
theorem dX4_fault_11 : decode cX4_fault 11 = .ok (.istore_n 1, 1) := by decide +kernel
theorem dX4_fault_12 : decode cX4_fault 12 = .ok (.iload_n 1, 1) := by decide +kernel
theorem dX4_fault_13 : decode cX4_fault 13 = .ok (.ifCond .eq 35, 3) := by decide +kernel
theorem dX4_fault_16 : decode cX4_fault 16 = .ok (.aload_n 0, 1) := by decide +kernel
theorem dX4_fault_17 : decode cX4_fault 17 = .ok (.invokevirtual 133, 3) := by decide +kernel
theorem dX4_fault_20 : decode cX4_fault 20 = .ok (.ifCond .ne 8, 3) := by decide +kernel
theorem dX4_fault_23 : decode cX4_fault 23 = .ok (.aload_n 0, 1) := by decide +kernel
theorem dX4_fault_24 : decode cX4_fault 24 = .ok (.getfield 121, 3) := by decide +kernel
theorem dX4_fault_27 : decode cX4_fault 27 = .ok (.ireturn, 1) := by decide +kernel
theorem dX4_fault_28 : decode cX4_fault 28 = .ok (.aload_n 0, 1) := by decide +kernel
theorem dX4_fault_29 : decode cX4_fault 29 = .ok (.dup, 1) := by decide +kernel
theorem dX4_fault_30 : decode cX4_fault 30 = .ok (.getfield 87, 3) := by decide +kernel
theorem dX4_fault_33 : decode cX4_fault 33 = .ok (.iconst 1, 1) := by decide +kernel
theorem dX4_fault_34 : decode cX4_fault 34 = .ok (.iadd, 1) := by decide +kernel
theorem dX4_fault_35 : decode cX4_fault 35 = .ok (.putfield 87, 3) := by decide +kernel
theorem dX4_fault_38 : decode cX4_fault 38 = .ok (.aload_n 0, 1) := by decide +kernel
theorem dX4_fault_39 : decode cX4_fault 39 = .ok (.bipush 44, 2) := by decide +kernel
theorem dX4_fault_41 : decode cX4_fault 41 = .ok (.invokevirtual 130, 3) := by decide +kernel
theorem dX4_fault_44 : decode cX4_fault 44 = .ok (.istore_n 1, 1) := by decide +kernel
theorem dX4_fault_45 : decode cX4_fault 45 = .ok (.goto (-33), 3) := by decide +kernel
theorem dX4_fault_48 : decode cX4_fault 48 = .ok (.aload_n 0, 1) := by decide +kernel
theorem dX4_fault_49 : decode cX4_fault 49 = .ok (.getfield 121, 3) := by decide +kernel
theorem dX4_fault_52 : decode cX4_fault 52 = .ok (.aload_n 0, 1) := by decide +kernel
theorem dX4_fault_53 : decode cX4_fault 53 = .ok (.getfield 118, 3) := by decide +kernel
theorem dX4_fault_56 : decode cX4_fault 56 = .ok (.if_icmp .ne 8, 3) := by decide +kernel
theorem dX4_fault_59 : decode cX4_fault 59 = .ok (.bipush (-5), 2) := by decide +kernel
theorem dX4_fault_61 : decode cX4_fault 61 = .ok (.goto 7, 3) := by decide +kernel
theorem dX4_fault_64 : decode cX4_fault 64 = .ok (.aload_n 0, 1) := by decide +kernel
theorem dX4_fault_65 : decode cX4_fault 65 = .ok (.getfield 121, 3) := by decide +kernel
theorem dX4_fault_68 : decode cX4_fault 68 = .ok (.ireturn, 1) := by decide +kernel
set_option maxRecDepth 20000 in
theorem ggX4_undo_X4_lays : GoodIn wsX4_undo wsX4_lays := goodIn_r _ [7] (by decide +kernel) (by decide +kernel)
set_option maxRecDepth 20000 in
theorem gX4_undo_X4_lays : GoodIn wsX4_undo (va_wsS RX4 33 yX4_lays wsX4_lays) := goodIn_app (goodIn_of _ (by decide +kernel)) ggX4_undo_X4_lays
theorem dX4_undo_0 : decode cX4_undo 0 = .ok (.aload_n 0, 1) := by decide +kernel
theorem dX4_undo_1 : decode cX4_undo 1 = .ok (.getfield 29, 3) := by decide +kernel
theorem dX4_undo_4 : decode cX4_undo 4 = .ok (.ifCond .ne 6, 3) := by decide +kernel
theorem dX4_undo_7 : decode cX4_undo 7 = .ok (.bipush (-5), 2) := by decide +kernel
theorem dX4_undo_9 : decode cX4_undo 9 = .ok (.ireturn, 1) := by decide +kernel
theorem dX4_undo_10 : decode cX4_undo 10 = .ok (.aload_n 0, 1) := by decide +kernel
theorem dX4_undo_11 : decode cX4_undo 11 = .ok (.dup, 1) := by decide +kernel
theorem dX4_undo_12 : decode cX4_undo 12 = .ok (.getfield 29, 3) := by decide +kernel
theorem dX4_undo_15 : decode cX4_undo 15 = .ok (.iconst 1, 1) := by decide +kernel
theorem dX4_undo_16 : decode cX4_undo 16 = .ok (.isub, 1) := by decide +kernel
theorem dX4_undo_17 : decode cX4_undo 17 = .ok (.putfield 29, 3) := by decide +kernel
theorem dX4_undo_20 : decode cX4_undo 20 = .ok (.aload_n 0, 1) := by decide +kernel
theorem dX4_undo_21 : decode cX4_undo 21 = .ok (.getfield 16, 3) := by decide +kernel
theorem dX4_undo_24 : decode cX4_undo 24 = .ok (.bipush 71, 2) := by decide +kernel
theorem dX4_undo_26 : decode cX4_undo 26 = .ok (.aload_n 0, 1) := by decide +kernel
theorem dX4_undo_27 : decode cX4_undo 27 = .ok (.getfield 29, 3) := by decide +kernel
theorem dX4_undo_30 : decode cX4_undo 30 = .ok (.imul, 1) := by decide +kernel
theorem dX4_undo_31 : decode cX4_undo 31 = .ok (.aload_n 0, 1) := by decide +kernel
theorem dX4_undo_32 : decode cX4_undo 32 = .ok (.getfield 7, 3) := by decide +kernel
theorem dX4_undo_35 : decode cX4_undo 35 = .ok (.iconst 0, 1) := by decide +kernel
theorem dX4_undo_36 : decode cX4_undo 36 = .ok (.invokestatic 33, 3) := by decide +kernel
theorem dX4_undo_39 : decode cX4_undo 39 = .ok (.aload_n 0, 1) := by decide +kernel
theorem dX4_undo_40 : decode cX4_undo 40 = .ok (.getfield 29, 3) := by decide +kernel
theorem dX4_undo_43 : decode cX4_undo 43 = .ok (.ireturn, 1) := by decide +kernel
set_option maxRecDepth 20000 in
theorem ggX4_keep_X4_lays : GoodIn wsX4_keep wsX4_lays := goodIn_r _ [7] (by decide +kernel) (by decide +kernel)
set_option maxRecDepth 20000 in
theorem gX4_keep_X4_lays : GoodIn wsX4_keep (va_wsS RX4 33 yX4_lays wsX4_lays) := goodIn_app (goodIn_of _ (by decide +kernel)) ggX4_keep_X4_lays
set_option maxRecDepth 20000 in
theorem ggX4_keep_X4_wires : GoodIn wsX4_keep wsX4_wires := goodIn_r _ [11, 12, 13, 14, 6, 15, 1, 16, 17, 18, 19, 20, 21, 22, 23, 24, 25, 26, 27, 28, 29, 30, 31, 32, 33, 34, 35] (by decide +kernel) (by decide +kernel)
set_option maxRecDepth 20000 in
theorem gX4_keep_X4_wires : GoodIn wsX4_keep (wsV RX4 90 RX4 yX4_wires wsX4_wires) := goodIn_app (goodIn_of _ (by decide +kernel)) ggX4_keep_X4_wires
theorem dX4_keep_0 : decode cX4_keep 0 = .ok (.aload_n 0, 1) := by decide +kernel
theorem dX4_keep_1 : decode cX4_keep 1 = .ok (.getfield 7, 3) := by decide +kernel
theorem dX4_keep_4 : decode cX4_keep 4 = .ok (.iconst 0, 1) := by decide +kernel
theorem dX4_keep_5 : decode cX4_keep 5 = .ok (.aload_n 0, 1) := by decide +kernel
theorem dX4_keep_6 : decode cX4_keep 6 = .ok (.getfield 19, 3) := by decide +kernel
theorem dX4_keep_9 : decode cX4_keep 9 = .ok (.iconst 0, 1) := by decide +kernel
theorem dX4_keep_10 : decode cX4_keep 10 = .ok (.invokestatic 33, 3) := by decide +kernel
theorem dX4_keep_13 : decode cX4_keep 13 = .ok (.aload_n 0, 1) := by decide +kernel
theorem dX4_keep_14 : decode cX4_keep 14 = .ok (.iconst 1, 1) := by decide +kernel
theorem dX4_keep_15 : decode cX4_keep 15 = .ok (.putfield 137, 3) := by decide +kernel
theorem dX4_keep_18 : decode cX4_keep 18 = .ok (.aload_n 0, 1) := by decide +kernel
theorem dX4_keep_19 : decode cX4_keep 19 = .ok (.invokevirtual 90, 3) := by decide +kernel
theorem dX4_keep_22 : decode cX4_keep 22 = .ok (.ireturn, 1) := by decide +kernel
set_option maxRecDepth 20000 in
theorem ggX4_restore_X4_records : GoodIn wsX4_restore wsX4_records := goodIn_r _ [8, 9, 10, 3, 11, 12, 7, 13, 31, 32, 33, 34, 35, 36, 37, 38, 39, 40, 41] (by decide +kernel) (by decide +kernel)
set_option maxRecDepth 20000 in
theorem gX4_restore_X4_records : GoodIn wsX4_restore (wsV RX4 76 RX4 yX4_records wsX4_records) := goodIn_app (goodIn_of _ (by decide +kernel)) ggX4_restore_X4_records
set_option maxRecDepth 20000 in
theorem ggX4_restore_X4_lays : GoodIn wsX4_restore wsX4_lays := goodIn_r _ [13] (by decide +kernel) (by decide +kernel)
set_option maxRecDepth 20000 in
theorem gX4_restore_X4_lays : GoodIn wsX4_restore (va_wsS RX4 33 yX4_lays wsX4_lays) := goodIn_app (goodIn_of _ (by decide +kernel)) ggX4_restore_X4_lays
set_option maxRecDepth 20000 in
theorem ggX4_restore_X4_wires : GoodIn wsX4_restore wsX4_wires := goodIn_r _ [17, 18, 19, 20, 7, 21, 3, 22, 23, 24, 25, 26, 27, 28, 29, 30, 31, 32, 33, 34, 35, 36, 37, 38, 39, 40, 41] (by decide +kernel) (by decide +kernel)
set_option maxRecDepth 20000 in
theorem gX4_restore_X4_wires : GoodIn wsX4_restore (wsV RX4 90 RX4 yX4_wires wsX4_wires) := goodIn_app (goodIn_of _ (by decide +kernel)) ggX4_restore_X4_wires
theorem dX4_restore_0 : decode cX4_restore 0 = .ok (.aload_n 0, 1) := by decide +kernel
theorem dX4_restore_1 : decode cX4_restore 1 = .ok (.getfield 137, 3) := by decide +kernel
theorem dX4_restore_4 : decode cX4_restore 4 = .ok (.ifCond .ne 6, 3) := by decide +kernel
theorem dX4_restore_7 : decode cX4_restore 7 = .ok (.bipush (-5), 2) := by decide +kernel
theorem dX4_restore_9 : decode cX4_restore 9 = .ok (.ireturn, 1) := by decide +kernel
theorem dX4_restore_10 : decode cX4_restore 10 = .ok (.aload_n 0, 1) := by decide +kernel
theorem dX4_restore_11 : decode cX4_restore 11 = .ok (.invokevirtual 76, 3) := by decide +kernel
theorem dX4_restore_14 : decode cX4_restore 14 = .ok (.aload_n 0, 1) := by decide +kernel
theorem dX4_restore_15 : decode cX4_restore 15 = .ok (.getfield 19, 3) := by decide +kernel
theorem dX4_restore_18 : decode cX4_restore 18 = .ok (.iconst 0, 1) := by decide +kernel
theorem dX4_restore_19 : decode cX4_restore 19 = .ok (.aload_n 0, 1) := by decide +kernel
theorem dX4_restore_20 : decode cX4_restore 20 = .ok (.getfield 7, 3) := by decide +kernel
theorem dX4_restore_23 : decode cX4_restore 23 = .ok (.iconst 0, 1) := by decide +kernel
theorem dX4_restore_24 : decode cX4_restore 24 = .ok (.invokestatic 33, 3) := by decide +kernel
theorem dX4_restore_27 : decode cX4_restore 27 = .ok (.aload_n 0, 1) := by decide +kernel
theorem dX4_restore_28 : decode cX4_restore 28 = .ok (.invokevirtual 90, 3) := by decide +kernel
theorem dX4_restore_31 : decode cX4_restore 31 = .ok (.ireturn, 1) := by decide +kernel
set_option maxRecDepth 20000 in
theorem ggX4_wire_X4_hasWire : GoodIn wsX4_wire wsX4_hasWire := goodIn_r _ [6, 1, 7, 8, 5, 9, 10, 11, 12, 13, 14, 15, 50, 51, 52, 53, 54, 55, 56, 57, 58, 59, 60] (by decide +kernel) (by decide +kernel)
set_option maxRecDepth 20000 in
theorem gX4_wire_X4_hasWire : GoodIn wsX4_wire (wsV RX4 49 RX4 yX4_hasWire wsX4_hasWire) := goodIn_app (goodIn_of _ (by decide +kernel)) ggX4_wire_X4_hasWire
set_option maxRecDepth 20000 in
theorem ggX4_wire_X4_of : GoodIn wsX4_wire wsX4_of := goodIn_r _ [15] (by decide +kernel) (by decide +kernel)
set_option maxRecDepth 20000 in
theorem gX4_wire_X4_of : GoodIn wsX4_wire (va_wsS RX4 45 yX4_of wsX4_of) := goodIn_app (goodIn_of _ (by decide +kernel)) ggX4_wire_X4_of
set_option maxRecDepth 20000 in
theorem ggX4_wire_X4_crossings : GoodIn wsX4_wire wsX4_crossings := goodIn_r _ [19, 20, 21, 22, 5, 23, 2, 3, 4, 6, 1, 7, 8, 9, 10, 11, 12, 13, 14, 15, 24, 25, 26, 27, 28, 29, 30, 50, 51, 52, 53, 54, 55, 56, 57, 58, 59, 60] (by decide +kernel) (by decide +kernel)
set_option maxRecDepth 20000 in
theorem gX4_wire_X4_crossings : GoodIn wsX4_wire (wsV RX4 141 RX4 yX4_crossings wsX4_crossings) := goodIn_app (goodIn_of _ (by decide +kernel)) ggX4_wire_X4_crossings
set_option maxRecDepth 20000 in
theorem ggX4_wire_X4_shortOnes : GoodIn wsX4_wire wsX4_shortOnes := goodIn_r _ [34, 1, 20, 21, 22, 5, 23, 2, 3, 4, 6, 7, 8, 9, 10, 11, 12, 13, 14, 15, 24, 25, 26, 27, 28, 29, 30, 35, 36, 37, 38, 39, 40, 41, 42, 43, 44, 45, 50, 51, 52, 53, 54, 55, 56, 57, 58, 59, 60] (by decide +kernel) (by decide +kernel)
set_option maxRecDepth 20000 in
theorem gX4_wire_X4_shortOnes : GoodIn wsX4_wire (wsV RX4 144 RX4 yX4_shortOnes wsX4_shortOnes) := goodIn_app (goodIn_of _ (by decide +kernel)) ggX4_wire_X4_shortOnes
set_option maxRecDepth 20000 in
theorem ggX4_wire_X4_leastGap : GoodIn wsX4_wire wsX4_leastGap := goodIn_r _ [49, 1, 20, 21, 22, 5, 23, 2, 3, 4, 6, 7, 8, 9, 10, 11, 12, 13, 14, 15, 24, 25, 26, 27, 28, 29, 30, 35, 36, 37, 38, 39, 40, 41, 42, 43, 44, 45, 50, 51, 52, 53, 54, 55, 56, 57, 58, 59, 60] (by decide +kernel) (by decide +kernel)
set_option maxRecDepth 20000 in
theorem gX4_wire_X4_leastGap : GoodIn wsX4_wire (wsV RX4 147 RX4 yX4_leastGap wsX4_leastGap) := goodIn_app (goodIn_of _ (by decide +kernel)) ggX4_wire_X4_leastGap
theorem dX4_wire_0 : decode cX4_wire 0 = .ok (.aload_n 0, 1) := by decide +kernel
theorem dX4_wire_1 : decode cX4_wire 1 = .ok (.iload_n 1, 1) := by decide +kernel
theorem dX4_wire_2 : decode cX4_wire 2 = .ok (.invokevirtual 49, 3) := by decide +kernel
theorem dX4_wire_5 : decode cX4_wire 5 = .ok (.ifCond .ne 5, 3) := by decide +kernel
theorem dX4_wire_8 : decode cX4_wire 8 = .ok (.iconst (-1), 1) := by decide +kernel
theorem dX4_wire_9 : decode cX4_wire 9 = .ok (.ireturn, 1) := by decide +kernel
theorem dX4_wire_10 : decode cX4_wire 10 = .ok (.iload_n 2, 1) := by decide +kernel
theorem dX4_wire_11 : decode cX4_wire 11 = .ok (.tableswitch 88 0 6 #[41, 41, 41, 51, 57, 72, 78], 41) := by decide +kernel
theorem dX4_wire_52 : decode cX4_wire 52 = .ok (.aload_n 0, 1) := by decide +kernel
theorem dX4_wire_53 : decode cX4_wire 53 = .ok (.getfield 7, 3) := by decide +kernel
theorem dX4_wire_56 : decode cX4_wire 56 = .ok (.iload_n 1, 1) := by decide +kernel
theorem dX4_wire_57 : decode cX4_wire 57 = .ok (.iload_n 2, 1) := by decide +kernel
theorem dX4_wire_58 : decode cX4_wire 58 = .ok (.invokestatic 45, 3) := by decide +kernel
theorem dX4_wire_61 : decode cX4_wire 61 = .ok (.ireturn, 1) := by decide +kernel
theorem dX4_wire_62 : decode cX4_wire 62 = .ok (.aload_n 0, 1) := by decide +kernel
theorem dX4_wire_63 : decode cX4_wire 63 = .ok (.iload_n 1, 1) := by decide +kernel
theorem dX4_wire_64 : decode cX4_wire 64 = .ok (.invokevirtual 141, 3) := by decide +kernel
theorem dX4_wire_67 : decode cX4_wire 67 = .ok (.ireturn, 1) := by decide +kernel
theorem dX4_wire_68 : decode cX4_wire 68 = .ok (.aload_n 0, 1) := by decide +kernel
theorem dX4_wire_69 : decode cX4_wire 69 = .ok (.iload_n 1, 1) := by decide +kernel
theorem dX4_wire_70 : decode cX4_wire 70 = .ok (.aload_n 0, 1) := by decide +kernel
theorem dX4_wire_71 : decode cX4_wire 71 = .ok (.getfield 7, 3) := by decide +kernel
theorem dX4_wire_74 : decode cX4_wire 74 = .ok (.iload_n 1, 1) := by decide +kernel
theorem dX4_wire_75 : decode cX4_wire 75 = .ok (.iconst 1, 1) := by decide +kernel
theorem dX4_wire_76 : decode cX4_wire 76 = .ok (.invokestatic 45, 3) := by decide +kernel
theorem dX4_wire_79 : decode cX4_wire 79 = .ok (.invokevirtual 144, 3) := by decide +kernel
theorem dX4_wire_82 : decode cX4_wire 82 = .ok (.ireturn, 1) := by decide +kernel
theorem dX4_wire_83 : decode cX4_wire 83 = .ok (.aload_n 0, 1) := by decide +kernel
theorem dX4_wire_84 : decode cX4_wire 84 = .ok (.iload_n 1, 1) := by decide +kernel
theorem dX4_wire_85 : decode cX4_wire 85 = .ok (.invokevirtual 147, 3) := by decide +kernel
theorem dX4_wire_88 : decode cX4_wire 88 = .ok (.ireturn, 1) := by decide +kernel
theorem dX4_wire_89 : decode cX4_wire 89 = .ok (.aload_n 0, 1) := by decide +kernel
theorem dX4_wire_90 : decode cX4_wire 90 = .ok (.getfield 7, 3) := by decide +kernel
theorem dX4_wire_93 : decode cX4_wire 93 = .ok (.iload_n 1, 1) := by decide +kernel
theorem dX4_wire_94 : decode cX4_wire 94 = .ok (.iconst 3, 1) := by decide +kernel
theorem dX4_wire_95 : decode cX4_wire 95 = .ok (.invokestatic 45, 3) := by decide +kernel
theorem dX4_wire_98 : decode cX4_wire 98 = .ok (.ireturn, 1) := by decide +kernel
theorem dX4_wire_99 : decode cX4_wire 99 = .ok (.bipush (-2), 2) := by decide +kernel
theorem dX4_wire_101 : decode cX4_wire 101 = .ok (.ireturn, 1) := by decide +kernel
set_option maxRecDepth 20000 in
theorem ggX4_heightAt_X4_hasWire : GoodIn wsX4_heightAt wsX4_hasWire := goodIn_r _ [6, 1, 7, 8, 5, 9, 10, 11, 12, 13, 14, 15, 20, 21, 22, 23, 24, 25, 26, 27, 28, 29, 30] (by decide +kernel) (by decide +kernel)
set_option maxRecDepth 20000 in
theorem gX4_heightAt_X4_hasWire : GoodIn wsX4_heightAt (wsV RX4 49 RX4 yX4_hasWire wsX4_hasWire) := goodIn_app (goodIn_of _ (by decide +kernel)) ggX4_heightAt_X4_hasWire
set_option maxRecDepth 20000 in
theorem ggX4_heightAt_X4_in : GoodIn wsX4_heightAt wsX4_in := goodIn_r _ [12] (by decide +kernel) (by decide +kernel)
set_option maxRecDepth 20000 in
theorem gX4_heightAt_X4_in : GoodIn wsX4_heightAt (va_wsS RX4 37 yX4_in wsX4_in) := goodIn_app (goodIn_of _ (by decide +kernel)) ggX4_heightAt_X4_in
set_option maxRecDepth 20000 in
theorem ggX4_heightAt_X4_of : GoodIn wsX4_heightAt wsX4_of := goodIn_r _ [15] (by decide +kernel) (by decide +kernel)
set_option maxRecDepth 20000 in
theorem gX4_heightAt_X4_of : GoodIn wsX4_heightAt (va_wsS RX4 45 yX4_of wsX4_of) := goodIn_app (goodIn_of _ (by decide +kernel)) ggX4_heightAt_X4_of
set_option maxRecDepth 20000 in
theorem ggX4_heightAt_X4_heightOf : GoodIn wsX4_heightAt wsX4_heightOf := goodIn_r _ [18, 19] (by decide +kernel) (by decide +kernel)
set_option maxRecDepth 20000 in
theorem gX4_heightAt_X4_heightOf : GoodIn wsX4_heightAt (va_wsS RX4 107 yX4_heightOf wsX4_heightOf) := goodIn_app (goodIn_of _ (by decide +kernel)) ggX4_heightAt_X4_heightOf
theorem dX4_heightAt_0 : decode cX4_heightAt 0 = .ok (.aload_n 0, 1) := by decide +kernel
theorem dX4_heightAt_1 : decode cX4_heightAt 1 = .ok (.iload_n 1, 1) := by decide +kernel
theorem dX4_heightAt_2 : decode cX4_heightAt 2 = .ok (.invokevirtual 49, 3) := by decide +kernel
theorem dX4_heightAt_5 : decode cX4_heightAt 5 = .ok (.ifCond .ne 5, 3) := by decide +kernel
theorem dX4_heightAt_8 : decode cX4_heightAt 8 = .ok (.iconst (-1), 1) := by decide +kernel
theorem dX4_heightAt_9 : decode cX4_heightAt 9 = .ok (.ireturn, 1) := by decide +kernel
theorem dX4_heightAt_10 : decode cX4_heightAt 10 = .ok (.iload_n 2, 1) := by decide +kernel
theorem dX4_heightAt_11 : decode cX4_heightAt 11 = .ok (.iconst 0, 1) := by decide +kernel
theorem dX4_heightAt_12 : decode cX4_heightAt 12 = .ok (.sipush 200, 3) := by decide +kernel
theorem dX4_heightAt_15 : decode cX4_heightAt 15 = .ok (.invokestatic 37, 3) := by decide +kernel
theorem dX4_heightAt_18 : decode cX4_heightAt 18 = .ok (.ifCond .eq 19, 3) := by decide +kernel
theorem dX4_heightAt_21 : decode cX4_heightAt 21 = .ok (.aload_n 0, 1) := by decide +kernel
theorem dX4_heightAt_22 : decode cX4_heightAt 22 = .ok (.getfield 7, 3) := by decide +kernel
theorem dX4_heightAt_25 : decode cX4_heightAt 25 = .ok (.iload_n 1, 1) := by decide +kernel
theorem dX4_heightAt_26 : decode cX4_heightAt 26 = .ok (.iconst 1, 1) := by decide +kernel
theorem dX4_heightAt_27 : decode cX4_heightAt 27 = .ok (.invokestatic 45, 3) := by decide +kernel
end
section
theorem dX4_heightAt_30 : decode cX4_heightAt 30 = .ok (.iload_n 2, 1) := by decide +kernel
theorem dX4_heightAt_31 : decode cX4_heightAt 31 = .ok (.invokestatic 107, 3) := by decide +kernel
theorem dX4_heightAt_34 : decode cX4_heightAt 34 = .ok (.goto 5, 3) := by decide +kernel
theorem dX4_heightAt_37 : decode cX4_heightAt 37 = .ok (.bipush (-2), 2) := by decide +kernel
theorem dX4_heightAt_39 : decode cX4_heightAt 39 = .ok (.ireturn, 1) := by decide +kernel
set_option maxRecDepth 20000 in
theorem ggX4_crossing_X4_hasWire : GoodIn wsX4_crossing wsX4_hasWire := goodIn_r _ [6, 1, 7, 8, 5, 9, 10, 11, 12, 13, 14, 15, 34, 35, 36, 37, 38, 39, 40, 41, 42, 43, 44] (by decide +kernel) (by decide +kernel)
set_option maxRecDepth 20000 in
theorem gX4_crossing_X4_hasWire : GoodIn wsX4_crossing (wsV RX4 49 RX4 yX4_hasWire wsX4_hasWire) := goodIn_app (goodIn_of _ (by decide +kernel)) ggX4_crossing_X4_hasWire
set_option maxRecDepth 20000 in
theorem ggX4_crossing_X4_in : GoodIn wsX4_crossing wsX4_in := goodIn_r _ [12] (by decide +kernel) (by decide +kernel)
set_option maxRecDepth 20000 in
theorem gX4_crossing_X4_in : GoodIn wsX4_crossing (va_wsS RX4 37 yX4_in wsX4_in) := goodIn_app (goodIn_of _ (by decide +kernel)) ggX4_crossing_X4_in
set_option maxRecDepth 20000 in
theorem ggX4_crossing_X4_crossingY : GoodIn wsX4_crossing wsX4_crossingY := goodIn_r _ [19, 1, 13, 14, 5, 15, 20, 21, 22, 34, 35, 36, 37, 38, 39, 40, 41, 42, 43, 44] (by decide +kernel) (by decide +kernel)
set_option maxRecDepth 20000 in
theorem gX4_crossing_X4_crossingY : GoodIn wsX4_crossing (wsV RX4 104 RX4 yX4_crossingY wsX4_crossingY) := goodIn_app (goodIn_of _ (by decide +kernel)) ggX4_crossing_X4_crossingY
set_option maxRecDepth 20000 in
theorem ggX4_crossing_X4_of : GoodIn wsX4_crossing wsX4_of := goodIn_r _ [15] (by decide +kernel) (by decide +kernel)
set_option maxRecDepth 20000 in
theorem gX4_crossing_X4_of : GoodIn wsX4_crossing (va_wsS RX4 45 yX4_of wsX4_of) := goodIn_app (goodIn_of _ (by decide +kernel)) ggX4_crossing_X4_of
set_option maxRecDepth 20000 in
theorem ggX4_crossing_X4_gap : GoodIn wsX4_crossing wsX4_gap := goodIn_r _ [26, 1, 16, 17, 18, 5, 19, 13, 14, 15, 20, 21, 22, 27, 28, 29, 30, 31, 32, 33, 34, 35, 36, 37, 38, 39, 40, 41, 42, 43, 44] (by decide +kernel) (by decide +kernel)
set_option maxRecDepth 20000 in
theorem gX4_crossing_X4_gap : GoodIn wsX4_crossing (wsV RX4 114 RX4 yX4_gap wsX4_gap) := goodIn_app (goodIn_of _ (by decide +kernel)) ggX4_crossing_X4_gap
theorem dX4_crossing_0 : decode cX4_crossing 0 = .ok (.aload_n 0, 1) := by decide +kernel
theorem dX4_crossing_1 : decode cX4_crossing 1 = .ok (.iload_n 1, 1) := by decide +kernel
theorem dX4_crossing_2 : decode cX4_crossing 2 = .ok (.invokevirtual 49, 3) := by decide +kernel
theorem dX4_crossing_5 : decode cX4_crossing 5 = .ok (.ifCond .eq 11, 3) := by decide +kernel
theorem dX4_crossing_8 : decode cX4_crossing 8 = .ok (.aload_n 0, 1) := by decide +kernel
theorem dX4_crossing_9 : decode cX4_crossing 9 = .ok (.iload_n 2, 1) := by decide +kernel
theorem dX4_crossing_10 : decode cX4_crossing 10 = .ok (.invokevirtual 49, 3) := by decide +kernel
theorem dX4_crossing_13 : decode cX4_crossing 13 = .ok (.ifCond .ne 5, 3) := by decide +kernel
theorem dX4_crossing_16 : decode cX4_crossing 16 = .ok (.iconst (-1), 1) := by decide +kernel
theorem dX4_crossing_17 : decode cX4_crossing 17 = .ok (.ireturn, 1) := by decide +kernel
theorem dX4_crossing_18 : decode cX4_crossing 18 = .ok (.iload_n 3, 1) := by decide +kernel
theorem dX4_crossing_19 : decode cX4_crossing 19 = .ok (.iconst 0, 1) := by decide +kernel
theorem dX4_crossing_20 : decode cX4_crossing 20 = .ok (.iconst 2, 1) := by decide +kernel
theorem dX4_crossing_21 : decode cX4_crossing 21 = .ok (.invokestatic 37, 3) := by decide +kernel
theorem dX4_crossing_24 : decode cX4_crossing 24 = .ok (.ifCond .ne 6, 3) := by decide +kernel
theorem dX4_crossing_27 : decode cX4_crossing 27 = .ok (.bipush (-2), 2) := by decide +kernel
theorem dX4_crossing_29 : decode cX4_crossing 29 = .ok (.ireturn, 1) := by decide +kernel
theorem dX4_crossing_30 : decode cX4_crossing 30 = .ok (.aload_n 0, 1) := by decide +kernel
theorem dX4_crossing_31 : decode cX4_crossing 31 = .ok (.iload_n 1, 1) := by decide +kernel
theorem dX4_crossing_32 : decode cX4_crossing 32 = .ok (.iload_n 2, 1) := by decide +kernel
theorem dX4_crossing_33 : decode cX4_crossing 33 = .ok (.invokevirtual 104, 3) := by decide +kernel
theorem dX4_crossing_36 : decode cX4_crossing 36 = .ok (.istore 4, 2) := by decide +kernel
theorem dX4_crossing_38 : decode cX4_crossing 38 = .ok (.iload 4, 2) := by decide +kernel
theorem dX4_crossing_40 : decode cX4_crossing 40 = .ok (.bipush (-5), 2) := by decide +kernel
theorem dX4_crossing_42 : decode cX4_crossing 42 = .ok (.if_icmp .eq 7, 3) := by decide +kernel
theorem dX4_crossing_45 : decode cX4_crossing 45 = .ok (.iload_n 3, 1) := by decide +kernel
theorem dX4_crossing_46 : decode cX4_crossing 46 = .ok (.ifCond .ne 6, 3) := by decide +kernel
theorem dX4_crossing_49 : decode cX4_crossing 49 = .ok (.iload 4, 2) := by decide +kernel
theorem dX4_crossing_51 : decode cX4_crossing 51 = .ok (.ireturn, 1) := by decide +kernel
theorem dX4_crossing_52 : decode cX4_crossing 52 = .ok (.aload_n 0, 1) := by decide +kernel
theorem dX4_crossing_53 : decode cX4_crossing 53 = .ok (.iload_n 1, 1) := by decide +kernel
theorem dX4_crossing_54 : decode cX4_crossing 54 = .ok (.aload_n 0, 1) := by decide +kernel
theorem dX4_crossing_55 : decode cX4_crossing 55 = .ok (.getfield 7, 3) := by decide +kernel
theorem dX4_crossing_58 : decode cX4_crossing 58 = .ok (.iload_n 1, 1) := by decide +kernel
theorem dX4_crossing_59 : decode cX4_crossing 59 = .ok (.iconst 1, 1) := by decide +kernel
theorem dX4_crossing_60 : decode cX4_crossing 60 = .ok (.invokestatic 45, 3) := by decide +kernel
theorem dX4_crossing_63 : decode cX4_crossing 63 = .ok (.iload_n 2, 1) := by decide +kernel
theorem dX4_crossing_64 : decode cX4_crossing 64 = .ok (.invokevirtual 114, 3) := by decide +kernel
theorem dX4_crossing_67 : decode cX4_crossing 67 = .ok (.istore 5, 2) := by decide +kernel
theorem dX4_crossing_69 : decode cX4_crossing 69 = .ok (.iload_n 3, 1) := by decide +kernel
theorem dX4_crossing_70 : decode cX4_crossing 70 = .ok (.iconst 1, 1) := by decide +kernel
theorem dX4_crossing_71 : decode cX4_crossing 71 = .ok (.if_icmp .ne 8, 3) := by decide +kernel
theorem dX4_crossing_74 : decode cX4_crossing 74 = .ok (.iload 5, 2) := by decide +kernel
theorem dX4_crossing_76 : decode cX4_crossing 76 = .ok (.goto 20, 3) := by decide +kernel
theorem dX4_crossing_79 : decode cX4_crossing 79 = .ok (.iload 5, 2) := by decide +kernel
theorem dX4_crossing_81 : decode cX4_crossing 81 = .ok (.aload_n 0, 1) := by decide +kernel
theorem dX4_crossing_82 : decode cX4_crossing 82 = .ok (.getfield 7, 3) := by decide +kernel
theorem dX4_crossing_85 : decode cX4_crossing 85 = .ok (.bipush 64, 2) := by decide +kernel
theorem dX4_crossing_87 : decode cX4_crossing 87 = .ok (.iaload, 1) := by decide +kernel
theorem dX4_crossing_88 : decode cX4_crossing 88 = .ok (.if_icmp .ge 7, 3) := by decide +kernel
theorem dX4_crossing_91 : decode cX4_crossing 91 = .ok (.iconst 1, 1) := by decide +kernel
theorem dX4_crossing_92 : decode cX4_crossing 92 = .ok (.goto 4, 3) := by decide +kernel
theorem dX4_crossing_95 : decode cX4_crossing 95 = .ok (.iconst 0, 1) := by decide +kernel
theorem dX4_crossing_96 : decode cX4_crossing 96 = .ok (.ireturn, 1) := by decide +kernel
set_option maxRecDepth 20000 in
theorem ggX4_lead_X4_isLead : GoodIn wsX4_lead wsX4_isLead := goodIn_r _ [5, 6, 7, 4, 8] (by decide +kernel) (by decide +kernel)
set_option maxRecDepth 20000 in
theorem gX4_lead_X4_isLead : GoodIn wsX4_lead (va_wsS RX4 67 yX4_isLead wsX4_isLead) := goodIn_app (goodIn_of _ (by decide +kernel)) ggX4_lead_X4_isLead
set_option maxRecDepth 20000 in
theorem ggX4_lead_X4_padOf : GoodIn wsX4_lead wsX4_padOf := goodIn_r _ [11, 12, 13, 4, 14] (by decide +kernel) (by decide +kernel)
set_option maxRecDepth 20000 in
theorem gX4_lead_X4_padOf : GoodIn wsX4_lead (va_wsS RX4 52 yX4_padOf wsX4_padOf) := goodIn_app (goodIn_of _ (by decide +kernel)) ggX4_lead_X4_padOf
theorem dX4_lead_0 : decode cX4_lead 0 = .ok (.iload_n 1, 1) := by decide +kernel
theorem dX4_lead_1 : decode cX4_lead 1 = .ok (.invokestatic 67, 3) := by decide +kernel
theorem dX4_lead_4 : decode cX4_lead 4 = .ok (.ifCond .ne 5, 3) := by decide +kernel
theorem dX4_lead_7 : decode cX4_lead 7 = .ok (.iconst (-1), 1) := by decide +kernel
theorem dX4_lead_8 : decode cX4_lead 8 = .ok (.ireturn, 1) := by decide +kernel
theorem dX4_lead_9 : decode cX4_lead 9 = .ok (.iload_n 2, 1) := by decide +kernel
theorem dX4_lead_10 : decode cX4_lead 10 = .ok (.ifCond .ne 14, 3) := by decide +kernel
theorem dX4_lead_13 : decode cX4_lead 13 = .ok (.aload_n 0, 1) := by decide +kernel
theorem dX4_lead_14 : decode cX4_lead 14 = .ok (.getfield 7, 3) := by decide +kernel
theorem dX4_lead_17 : decode cX4_lead 17 = .ok (.iconst 0, 1) := by decide +kernel
theorem dX4_lead_18 : decode cX4_lead 18 = .ok (.iload_n 1, 1) := by decide +kernel
theorem dX4_lead_19 : decode cX4_lead 19 = .ok (.iadd, 1) := by decide +kernel
theorem dX4_lead_20 : decode cX4_lead 20 = .ok (.iaload, 1) := by decide +kernel
theorem dX4_lead_21 : decode cX4_lead 21 = .ok (.goto 21, 3) := by decide +kernel
theorem dX4_lead_24 : decode cX4_lead 24 = .ok (.iload_n 2, 1) := by decide +kernel
theorem dX4_lead_25 : decode cX4_lead 25 = .ok (.iconst 1, 1) := by decide +kernel
theorem dX4_lead_26 : decode cX4_lead 26 = .ok (.if_icmp .ne 14, 3) := by decide +kernel
theorem dX4_lead_29 : decode cX4_lead 29 = .ok (.aload_n 0, 1) := by decide +kernel
theorem dX4_lead_30 : decode cX4_lead 30 = .ok (.getfield 7, 3) := by decide +kernel
theorem dX4_lead_33 : decode cX4_lead 33 = .ok (.iload_n 1, 1) := by decide +kernel
theorem dX4_lead_34 : decode cX4_lead 34 = .ok (.invokestatic 52, 3) := by decide +kernel
theorem dX4_lead_37 : decode cX4_lead 37 = .ok (.goto 5, 3) := by decide +kernel
theorem dX4_lead_40 : decode cX4_lead 40 = .ok (.bipush (-2), 2) := by decide +kernel
theorem dX4_lead_42 : decode cX4_lead 42 = .ok (.ireturn, 1) := by decide +kernel
set_option maxRecDepth 20000 in
theorem ggX4_bestHeight_X4_hasWire : GoodIn wsX4_bestHeight wsX4_hasWire := goodIn_r _ [5, 6, 7, 8, 4, 9, 10, 11, 12, 13, 14, 15, 42, 43, 44, 45, 46, 47, 48, 49, 50, 51, 52] (by decide +kernel) (by decide +kernel)
set_option maxRecDepth 20000 in
theorem gX4_bestHeight_X4_hasWire : GoodIn wsX4_bestHeight (wsV RX4 49 RX4 yX4_hasWire wsX4_hasWire) := goodIn_app (goodIn_of _ (by decide +kernel)) ggX4_bestHeight_X4_hasWire
set_option maxRecDepth 20000 in
theorem ggX4_bestHeight_X4_in : GoodIn wsX4_bestHeight wsX4_in := goodIn_r _ [12] (by decide +kernel) (by decide +kernel)
set_option maxRecDepth 20000 in
theorem gX4_bestHeight_X4_in : GoodIn wsX4_bestHeight (va_wsS RX4 37 yX4_in wsX4_in) := goodIn_app (goodIn_of _ (by decide +kernel)) ggX4_bestHeight_X4_in
set_option maxRecDepth 20000 in
theorem ggX4_bestHeight_X4_shortOnes : GoodIn wsX4_bestHeight wsX4_shortOnes := goodIn_r _ [19, 6, 20, 21, 22, 4, 23, 1, 2, 3, 5, 7, 8, 9, 10, 11, 12, 13, 14, 15, 24, 25, 26, 27, 28, 29, 30, 31, 32, 33, 34, 35, 36, 37, 38, 39, 40, 41, 42, 43, 44, 45, 46, 47, 48, 49, 50, 51, 52] (by decide +kernel) (by decide +kernel)
set_option maxRecDepth 20000 in
theorem gX4_bestHeight_X4_shortOnes : GoodIn wsX4_bestHeight (wsV RX4 144 RX4 yX4_shortOnes wsX4_shortOnes) := goodIn_app (goodIn_of _ (by decide +kernel)) ggX4_bestHeight_X4_shortOnes
theorem dX4_bestHeight_0 : decode cX4_bestHeight 0 = .ok (.aload_n 0, 1) := by decide +kernel
theorem dX4_bestHeight_1 : decode cX4_bestHeight 1 = .ok (.iload_n 1, 1) := by decide +kernel
theorem dX4_bestHeight_2 : decode cX4_bestHeight 2 = .ok (.invokevirtual 49, 3) := by decide +kernel
theorem dX4_bestHeight_5 : decode cX4_bestHeight 5 = .ok (.ifCond .ne 5, 3) := by decide +kernel
theorem dX4_bestHeight_8 : decode cX4_bestHeight 8 = .ok (.iconst (-1), 1) := by decide +kernel
theorem dX4_bestHeight_9 : decode cX4_bestHeight 9 = .ok (.ireturn, 1) := by decide +kernel
theorem dX4_bestHeight_10 : decode cX4_bestHeight 10 = .ok (.iload_n 2, 1) := by decide +kernel
theorem dX4_bestHeight_11 : decode cX4_bestHeight 11 = .ok (.iconst 0, 1) := by decide +kernel
theorem dX4_bestHeight_12 : decode cX4_bestHeight 12 = .ok (.iconst 1, 1) := by decide +kernel
theorem dX4_bestHeight_13 : decode cX4_bestHeight 13 = .ok (.invokestatic 37, 3) := by decide +kernel
theorem dX4_bestHeight_16 : decode cX4_bestHeight 16 = .ok (.ifCond .ne 6, 3) := by decide +kernel
theorem dX4_bestHeight_19 : decode cX4_bestHeight 19 = .ok (.bipush (-2), 2) := by decide +kernel
theorem dX4_bestHeight_21 : decode cX4_bestHeight 21 = .ok (.ireturn, 1) := by decide +kernel
theorem dX4_bestHeight_22 : decode cX4_bestHeight 22 = .ok (.bipush 10, 2) := by decide +kernel
theorem dX4_bestHeight_24 : decode cX4_bestHeight 24 = .ok (.istore_n 3, 1) := by decide +kernel
theorem dX4_bestHeight_25 : decode cX4_bestHeight 25 = .ok (.aload_n 0, 1) := by decide +kernel
theorem dX4_bestHeight_26 : decode cX4_bestHeight 26 = .ok (.iload_n 1, 1) := by decide +kernel
theorem dX4_bestHeight_27 : decode cX4_bestHeight 27 = .ok (.bipush 10, 2) := by decide +kernel
theorem dX4_bestHeight_29 : decode cX4_bestHeight 29 = .ok (.invokevirtual 144, 3) := by decide +kernel
theorem dX4_bestHeight_32 : decode cX4_bestHeight 32 = .ok (.istore 4, 2) := by decide +kernel
theorem dX4_bestHeight_34 : decode cX4_bestHeight 34 = .ok (.bipush 11, 2) := by decide +kernel
theorem dX4_bestHeight_36 : decode cX4_bestHeight 36 = .ok (.istore 5, 2) := by decide +kernel
theorem dX4_bestHeight_38 : decode cX4_bestHeight 38 = .ok (.iload 5, 2) := by decide +kernel
theorem dX4_bestHeight_40 : decode cX4_bestHeight 40 = .ok (.sipush 200, 3) := by decide +kernel
theorem dX4_bestHeight_43 : decode cX4_bestHeight 43 = .ok (.if_icmp .gt 48, 3) := by decide +kernel
theorem dX4_bestHeight_46 : decode cX4_bestHeight 46 = .ok (.aload_n 0, 1) := by decide +kernel
theorem dX4_bestHeight_47 : decode cX4_bestHeight 47 = .ok (.iload_n 1, 1) := by decide +kernel
theorem dX4_bestHeight_48 : decode cX4_bestHeight 48 = .ok (.iload 5, 2) := by decide +kernel
theorem dX4_bestHeight_50 : decode cX4_bestHeight 50 = .ok (.invokevirtual 144, 3) := by decide +kernel
theorem dX4_bestHeight_53 : decode cX4_bestHeight 53 = .ok (.istore 6, 2) := by decide +kernel
theorem dX4_bestHeight_55 : decode cX4_bestHeight 55 = .ok (.iload 6, 2) := by decide +kernel
theorem dX4_bestHeight_57 : decode cX4_bestHeight 57 = .ok (.iload 4, 2) := by decide +kernel
theorem dX4_bestHeight_59 : decode cX4_bestHeight 59 = .ok (.if_icmp .ge 8, 3) := by decide +kernel
theorem dX4_bestHeight_62 : decode cX4_bestHeight 62 = .ok (.iload 5, 2) := by decide +kernel
theorem dX4_bestHeight_64 : decode cX4_bestHeight 64 = .ok (.goto 4, 3) := by decide +kernel
theorem dX4_bestHeight_67 : decode cX4_bestHeight 67 = .ok (.iload_n 3, 1) := by decide +kernel
theorem dX4_bestHeight_68 : decode cX4_bestHeight 68 = .ok (.istore_n 3, 1) := by decide +kernel
theorem dX4_bestHeight_69 : decode cX4_bestHeight 69 = .ok (.iload 6, 2) := by decide +kernel
theorem dX4_bestHeight_71 : decode cX4_bestHeight 71 = .ok (.iload 4, 2) := by decide +kernel
theorem dX4_bestHeight_73 : decode cX4_bestHeight 73 = .ok (.if_icmp .ge 8, 3) := by decide +kernel
theorem dX4_bestHeight_76 : decode cX4_bestHeight 76 = .ok (.iload 6, 2) := by decide +kernel
theorem dX4_bestHeight_78 : decode cX4_bestHeight 78 = .ok (.goto 5, 3) := by decide +kernel
theorem dX4_bestHeight_81 : decode cX4_bestHeight 81 = .ok (.iload 4, 2) := by decide +kernel
theorem dX4_bestHeight_83 : decode cX4_bestHeight 83 = .ok (.istore 4, 2) := by decide +kernel
theorem dX4_bestHeight_85 : decode cX4_bestHeight 85 = .ok (.iinc 5 1, 3) := by decide +kernel
theorem dX4_bestHeight_88 : decode cX4_bestHeight 88 = .ok (.goto (-50), 3) := by decide +kernel
theorem dX4_bestHeight_91 : decode cX4_bestHeight 91 = .ok (.iload_n 2, 1) := by decide +kernel
theorem dX4_bestHeight_92 : decode cX4_bestHeight 92 = .ok (.ifCond .ne 7, 3) := by decide +kernel
theorem dX4_bestHeight_95 : decode cX4_bestHeight 95 = .ok (.iload_n 3, 1) := by decide +kernel
theorem dX4_bestHeight_96 : decode cX4_bestHeight 96 = .ok (.goto 5, 3) := by decide +kernel
theorem dX4_bestHeight_99 : decode cX4_bestHeight 99 = .ok (.iload 4, 2) := by decide +kernel
theorem dX4_bestHeight_101 : decode cX4_bestHeight 101 = .ok (.ireturn, 1) := by decide +kernel
set_option maxRecDepth 20000 in
theorem ggX4_laysLeft_X4_isHeight : GoodIn wsX4_laysLeft wsX4_isHeight := goodIn_r _ [5, 6, 7, 4, 8] (by decide +kernel) (by decide +kernel)
set_option maxRecDepth 20000 in
theorem gX4_laysLeft_X4_isHeight : GoodIn wsX4_laysLeft (va_wsS RX4 70 yX4_isHeight wsX4_isHeight) := goodIn_app (goodIn_of _ (by decide +kernel)) ggX4_laysLeft_X4_isHeight
theorem dX4_laysLeft_0 : decode cX4_laysLeft 0 = .ok (.iload_n 1, 1) := by decide +kernel
theorem dX4_laysLeft_1 : decode cX4_laysLeft 1 = .ok (.invokestatic 70, 3) := by decide +kernel
theorem dX4_laysLeft_4 : decode cX4_laysLeft 4 = .ok (.ifCond .ne 6, 3) := by decide +kernel
theorem dX4_laysLeft_7 : decode cX4_laysLeft 7 = .ok (.bipush (-2), 2) := by decide +kernel
theorem dX4_laysLeft_9 : decode cX4_laysLeft 9 = .ok (.ireturn, 1) := by decide +kernel
theorem dX4_laysLeft_10 : decode cX4_laysLeft 10 = .ok (.iconst 0, 1) := by decide +kernel
theorem dX4_laysLeft_11 : decode cX4_laysLeft 11 = .ok (.istore_n 2, 1) := by decide +kernel
theorem dX4_laysLeft_12 : decode cX4_laysLeft 12 = .ok (.aload_n 0, 1) := by decide +kernel
theorem dX4_laysLeft_13 : decode cX4_laysLeft 13 = .ok (.getfield 7, 3) := by decide +kernel
theorem dX4_laysLeft_16 : decode cX4_laysLeft 16 = .ok (.bipush 65, 2) := by decide +kernel
theorem dX4_laysLeft_18 : decode cX4_laysLeft 18 = .ok (.iaload, 1) := by decide +kernel
theorem dX4_laysLeft_19 : decode cX4_laysLeft 19 = .ok (.istore_n 3, 1) := by decide +kernel
theorem dX4_laysLeft_20 : decode cX4_laysLeft 20 = .ok (.aload_n 0, 1) := by decide +kernel
theorem dX4_laysLeft_21 : decode cX4_laysLeft 21 = .ok (.getfield 7, 3) := by decide +kernel
theorem dX4_laysLeft_24 : decode cX4_laysLeft 24 = .ok (.bipush 66, 2) := by decide +kernel
theorem dX4_laysLeft_26 : decode cX4_laysLeft 26 = .ok (.iaload, 1) := by decide +kernel
theorem dX4_laysLeft_27 : decode cX4_laysLeft 27 = .ok (.iconst 1, 1) := by decide +kernel
theorem dX4_laysLeft_28 : decode cX4_laysLeft 28 = .ok (.if_icmp .ne 7, 3) := by decide +kernel
theorem dX4_laysLeft_31 : decode cX4_laysLeft 31 = .ok (.iconst 1, 1) := by decide +kernel
theorem dX4_laysLeft_32 : decode cX4_laysLeft 32 = .ok (.goto 4, 3) := by decide +kernel
theorem dX4_laysLeft_35 : decode cX4_laysLeft 35 = .ok (.iconst 0, 1) := by decide +kernel
theorem dX4_laysLeft_36 : decode cX4_laysLeft 36 = .ok (.istore 4, 2) := by decide +kernel
theorem dX4_laysLeft_38 : decode cX4_laysLeft 38 = .ok (.iload 4, 2) := by decide +kernel
theorem dX4_laysLeft_40 : decode cX4_laysLeft 40 = .ok (.ifCond .ne 47, 3) := by decide +kernel
theorem dX4_laysLeft_43 : decode cX4_laysLeft 43 = .ok (.iload_n 3, 1) := by decide +kernel
theorem dX4_laysLeft_44 : decode cX4_laysLeft 44 = .ok (.sipush 200, 3) := by decide +kernel
theorem dX4_laysLeft_47 : decode cX4_laysLeft 47 = .ok (.if_icmp .ge 40, 3) := by decide +kernel
theorem dX4_laysLeft_50 : decode cX4_laysLeft 50 = .ok (.iinc 2 1, 3) := by decide +kernel
theorem dX4_laysLeft_53 : decode cX4_laysLeft 53 = .ok (.iload_n 3, 1) := by decide +kernel
theorem dX4_laysLeft_54 : decode cX4_laysLeft 54 = .ok (.iconst 2, 1) := by decide +kernel
theorem dX4_laysLeft_55 : decode cX4_laysLeft 55 = .ok (.iload_n 1, 1) := by decide +kernel
theorem dX4_laysLeft_56 : decode cX4_laysLeft 56 = .ok (.bipush 50, 2) := by decide +kernel
theorem dX4_laysLeft_58 : decode cX4_laysLeft 58 = .ok (.idiv, 1) := by decide +kernel
theorem dX4_laysLeft_59 : decode cX4_laysLeft 59 = .ok (.iadd, 1) := by decide +kernel
theorem dX4_laysLeft_60 : decode cX4_laysLeft 60 = .ok (.iadd, 1) := by decide +kernel
theorem dX4_laysLeft_61 : decode cX4_laysLeft 61 = .ok (.istore_n 3, 1) := by decide +kernel
theorem dX4_laysLeft_62 : decode cX4_laysLeft 62 = .ok (.aload_n 0, 1) := by decide +kernel
theorem dX4_laysLeft_63 : decode cX4_laysLeft 63 = .ok (.getfield 7, 3) := by decide +kernel
theorem dX4_laysLeft_66 : decode cX4_laysLeft 66 = .ok (.bipush 68, 2) := by decide +kernel
theorem dX4_laysLeft_68 : decode cX4_laysLeft 68 = .ok (.iaload, 1) := by decide +kernel
theorem dX4_laysLeft_69 : decode cX4_laysLeft 69 = .ok (.iload_n 2, 1) := by decide +kernel
theorem dX4_laysLeft_70 : decode cX4_laysLeft 70 = .ok (.iadd, 1) := by decide +kernel
theorem dX4_laysLeft_71 : decode cX4_laysLeft 71 = .ok (.bipush 7, 2) := by decide +kernel
theorem dX4_laysLeft_73 : decode cX4_laysLeft 73 = .ok (.irem, 1) := by decide +kernel
theorem dX4_laysLeft_74 : decode cX4_laysLeft 74 = .ok (.ifCond .ne 7, 3) := by decide +kernel
theorem dX4_laysLeft_77 : decode cX4_laysLeft 77 = .ok (.iconst 1, 1) := by decide +kernel
theorem dX4_laysLeft_78 : decode cX4_laysLeft 78 = .ok (.goto 4, 3) := by decide +kernel
theorem dX4_laysLeft_81 : decode cX4_laysLeft 81 = .ok (.iconst 0, 1) := by decide +kernel
theorem dX4_laysLeft_82 : decode cX4_laysLeft 82 = .ok (.istore 4, 2) := by decide +kernel
theorem dX4_laysLeft_84 : decode cX4_laysLeft 84 = .ok (.goto (-46), 3) := by decide +kernel
theorem dX4_laysLeft_87 : decode cX4_laysLeft 87 = .ok (.iload_n 2, 1) := by decide +kernel
theorem dX4_laysLeft_88 : decode cX4_laysLeft 88 = .ok (.ireturn, 1) := by decide +kernel
set_option maxRecDepth 20000 in
theorem ggX4_all_X4_of : GoodIn wsX4_all wsX4_of := goodIn_r _ [5] (by decide +kernel) (by decide +kernel)
set_option maxRecDepth 20000 in
theorem gX4_all_X4_of : GoodIn wsX4_all (va_wsS RX4 45 yX4_of wsX4_of) := goodIn_app (goodIn_of _ (by decide +kernel)) ggX4_all_X4_of
set_option maxRecDepth 20000 in
theorem ggX4_all_X4_shortOnes : GoodIn wsX4_all wsX4_shortOnes := goodIn_r _ [9, 1, 10, 11, 12, 4, 13, 14, 15, 16, 17, 18, 19, 20, 21, 22, 23, 2, 3, 5, 24, 25, 26, 27, 28, 29, 30, 31, 32, 33, 34, 35, 36, 37, 38, 39, 40, 41, 46, 47, 48, 49, 50, 51, 52, 53, 54, 55, 56] (by decide +kernel) (by decide +kernel)
set_option maxRecDepth 20000 in
theorem gX4_all_X4_shortOnes : GoodIn wsX4_all (wsV RX4 144 RX4 yX4_shortOnes wsX4_shortOnes) := goodIn_app (goodIn_of _ (by decide +kernel)) ggX4_all_X4_shortOnes
set_option maxRecDepth 20000 in
theorem ggX4_all_X4_crossings : GoodIn wsX4_all wsX4_crossings := goodIn_r _ [45, 10, 11, 12, 4, 13, 14, 15, 16, 17, 1, 18, 19, 20, 21, 22, 23, 2, 3, 5, 24, 25, 26, 27, 28, 29, 30, 46, 47, 48, 49, 50, 51, 52, 53, 54, 55, 56] (by decide +kernel) (by decide +kernel)
set_option maxRecDepth 20000 in
theorem gX4_all_X4_crossings : GoodIn wsX4_all (wsV RX4 141 RX4 yX4_crossings wsX4_crossings) := goodIn_app (goodIn_of _ (by decide +kernel)) ggX4_all_X4_crossings
theorem dX4_all_0 : decode cX4_all 0 = .ok (.iconst 0, 1) := by decide +kernel
theorem dX4_all_1 : decode cX4_all 1 = .ok (.istore_n 2, 1) := by decide +kernel
theorem dX4_all_2 : decode cX4_all 2 = .ok (.iconst 0, 1) := by decide +kernel
theorem dX4_all_3 : decode cX4_all 3 = .ok (.istore_n 3, 1) := by decide +kernel
theorem dX4_all_4 : decode cX4_all 4 = .ok (.iload_n 3, 1) := by decide +kernel
theorem dX4_all_5 : decode cX4_all 5 = .ok (.bipush 12, 2) := by decide +kernel
theorem dX4_all_7 : decode cX4_all 7 = .ok (.if_icmp .ge 38, 3) := by decide +kernel
theorem dX4_all_10 : decode cX4_all 10 = .ok (.iload_n 2, 1) := by decide +kernel
theorem dX4_all_11 : decode cX4_all 11 = .ok (.iload_n 1, 1) := by decide +kernel
theorem dX4_all_12 : decode cX4_all 12 = .ok (.ifCond .eq 20, 3) := by decide +kernel
theorem dX4_all_15 : decode cX4_all 15 = .ok (.aload_n 0, 1) := by decide +kernel
theorem dX4_all_16 : decode cX4_all 16 = .ok (.iload_n 3, 1) := by decide +kernel
theorem dX4_all_17 : decode cX4_all 17 = .ok (.aload_n 0, 1) := by decide +kernel
theorem dX4_all_18 : decode cX4_all 18 = .ok (.getfield 7, 3) := by decide +kernel
theorem dX4_all_21 : decode cX4_all 21 = .ok (.iload_n 3, 1) := by decide +kernel
theorem dX4_all_22 : decode cX4_all 22 = .ok (.iconst 1, 1) := by decide +kernel
theorem dX4_all_23 : decode cX4_all 23 = .ok (.invokestatic 45, 3) := by decide +kernel
theorem dX4_all_26 : decode cX4_all 26 = .ok (.invokevirtual 144, 3) := by decide +kernel
theorem dX4_all_29 : decode cX4_all 29 = .ok (.goto 8, 3) := by decide +kernel
theorem dX4_all_32 : decode cX4_all 32 = .ok (.aload_n 0, 1) := by decide +kernel
theorem dX4_all_33 : decode cX4_all 33 = .ok (.iload_n 3, 1) := by decide +kernel
theorem dX4_all_34 : decode cX4_all 34 = .ok (.invokevirtual 141, 3) := by decide +kernel
theorem dX4_all_37 : decode cX4_all 37 = .ok (.iadd, 1) := by decide +kernel
theorem dX4_all_38 : decode cX4_all 38 = .ok (.istore_n 2, 1) := by decide +kernel
theorem dX4_all_39 : decode cX4_all 39 = .ok (.iinc 3 1, 3) := by decide +kernel
theorem dX4_all_42 : decode cX4_all 42 = .ok (.goto (-38), 3) := by decide +kernel
theorem dX4_all_45 : decode cX4_all 45 = .ok (.iload_n 2, 1) := by decide +kernel
theorem dX4_all_46 : decode cX4_all 46 = .ok (.iconst 2, 1) := by decide +kernel
theorem dX4_all_47 : decode cX4_all 47 = .ok (.idiv, 1) := by decide +kernel
theorem dX4_all_48 : decode cX4_all 48 = .ok (.ireturn, 1) := by decide +kernel
set_option maxRecDepth 20000 in
theorem ggX4_weakest_X4_hasWire : GoodIn wsX4_weakest wsX4_hasWire := goodIn_r _ [6, 1, 7, 8, 5, 9, 10, 11, 12, 13, 14, 15, 16, 17, 18, 19, 20, 21, 22, 23, 24, 25, 26] (by decide +kernel) (by decide +kernel)
set_option maxRecDepth 20000 in
theorem gX4_weakest_X4_hasWire : GoodIn wsX4_weakest (wsV RX4 49 RX4 yX4_hasWire wsX4_hasWire) := goodIn_app (goodIn_of _ (by decide +kernel)) ggX4_weakest_X4_hasWire
set_option maxRecDepth 20000 in
theorem ggX4_weakest_X4_of : GoodIn wsX4_weakest wsX4_of := goodIn_r _ [15] (by decide +kernel) (by decide +kernel)
set_option maxRecDepth 20000 in
theorem gX4_weakest_X4_of : GoodIn wsX4_weakest (va_wsS RX4 45 yX4_of wsX4_of) := goodIn_app (goodIn_of _ (by decide +kernel)) ggX4_weakest_X4_of
theorem dX4_weakest_0 : decode cX4_weakest 0 = .ok (.bipush (-5), 2) := by decide +kernel
theorem dX4_weakest_2 : decode cX4_weakest 2 = .ok (.istore_n 1, 1) := by decide +kernel
theorem dX4_weakest_3 : decode cX4_weakest 3 = .ok (.iconst 0, 1) := by decide +kernel
theorem dX4_weakest_4 : decode cX4_weakest 4 = .ok (.istore_n 2, 1) := by decide +kernel
theorem dX4_weakest_5 : decode cX4_weakest 5 = .ok (.iload_n 2, 1) := by decide +kernel
theorem dX4_weakest_6 : decode cX4_weakest 6 = .ok (.bipush 12, 2) := by decide +kernel
theorem dX4_weakest_8 : decode cX4_weakest 8 = .ok (.if_icmp .ge 50, 3) := by decide +kernel
theorem dX4_weakest_11 : decode cX4_weakest 11 = .ok (.aload_n 0, 1) := by decide +kernel
theorem dX4_weakest_12 : decode cX4_weakest 12 = .ok (.iload_n 2, 1) := by decide +kernel
theorem dX4_weakest_13 : decode cX4_weakest 13 = .ok (.invokevirtual 49, 3) := by decide +kernel
theorem dX4_weakest_16 : decode cX4_weakest 16 = .ok (.ifCond .eq 34, 3) := by decide +kernel
theorem dX4_weakest_19 : decode cX4_weakest 19 = .ok (.iload_n 1, 1) := by decide +kernel
theorem dX4_weakest_20 : decode cX4_weakest 20 = .ok (.bipush (-5), 2) := by decide +kernel
theorem dX4_weakest_22 : decode cX4_weakest 22 = .ok (.if_icmp .eq 24, 3) := by decide +kernel
theorem dX4_weakest_25 : decode cX4_weakest 25 = .ok (.aload_n 0, 1) := by decide +kernel
theorem dX4_weakest_26 : decode cX4_weakest 26 = .ok (.getfield 7, 3) := by decide +kernel
theorem dX4_weakest_29 : decode cX4_weakest 29 = .ok (.iload_n 2, 1) := by decide +kernel
theorem dX4_weakest_30 : decode cX4_weakest 30 = .ok (.iconst 2, 1) := by decide +kernel
theorem dX4_weakest_31 : decode cX4_weakest 31 = .ok (.invokestatic 45, 3) := by decide +kernel
theorem dX4_weakest_34 : decode cX4_weakest 34 = .ok (.aload_n 0, 1) := by decide +kernel
theorem dX4_weakest_35 : decode cX4_weakest 35 = .ok (.getfield 7, 3) := by decide +kernel
theorem dX4_weakest_38 : decode cX4_weakest 38 = .ok (.iload_n 1, 1) := by decide +kernel
theorem dX4_weakest_39 : decode cX4_weakest 39 = .ok (.iconst 2, 1) := by decide +kernel
theorem dX4_weakest_40 : decode cX4_weakest 40 = .ok (.invokestatic 45, 3) := by decide +kernel
theorem dX4_weakest_43 : decode cX4_weakest 43 = .ok (.if_icmp .ge 7, 3) := by decide +kernel
theorem dX4_weakest_46 : decode cX4_weakest 46 = .ok (.iload_n 2, 1) := by decide +kernel
theorem dX4_weakest_47 : decode cX4_weakest 47 = .ok (.goto 4, 3) := by decide +kernel
theorem dX4_weakest_50 : decode cX4_weakest 50 = .ok (.iload_n 1, 1) := by decide +kernel
theorem dX4_weakest_51 : decode cX4_weakest 51 = .ok (.istore_n 1, 1) := by decide +kernel
theorem dX4_weakest_52 : decode cX4_weakest 52 = .ok (.iinc 2 1, 3) := by decide +kernel
theorem dX4_weakest_55 : decode cX4_weakest 55 = .ok (.goto (-50), 3) := by decide +kernel
theorem dX4_weakest_58 : decode cX4_weakest 58 = .ok (.iload_n 1, 1) := by decide +kernel
theorem dX4_weakest_59 : decode cX4_weakest 59 = .ok (.ireturn, 1) := by decide +kernel
set_option maxRecDepth 20000 in
theorem ggX4_strengths_X4_of : GoodIn wsX4_strengths wsX4_of := goodIn_r _ [5] (by decide +kernel) (by decide +kernel)
set_option maxRecDepth 20000 in
theorem gX4_strengths_X4_of : GoodIn wsX4_strengths (va_wsS RX4 45 yX4_of wsX4_of) := goodIn_app (goodIn_of _ (by decide +kernel)) ggX4_strengths_X4_of
theorem dX4_strengths_0 : decode cX4_strengths 0 = .ok (.iconst 0, 1) := by decide +kernel
theorem dX4_strengths_1 : decode cX4_strengths 1 = .ok (.istore_n 1, 1) := by decide +kernel
theorem dX4_strengths_2 : decode cX4_strengths 2 = .ok (.iconst 0, 1) := by decide +kernel
theorem dX4_strengths_3 : decode cX4_strengths 3 = .ok (.istore_n 2, 1) := by decide +kernel
theorem dX4_strengths_4 : decode cX4_strengths 4 = .ok (.iload_n 2, 1) := by decide +kernel
theorem dX4_strengths_5 : decode cX4_strengths 5 = .ok (.bipush 12, 2) := by decide +kernel
theorem dX4_strengths_7 : decode cX4_strengths 7 = .ok (.if_icmp .ge 21, 3) := by decide +kernel
theorem dX4_strengths_10 : decode cX4_strengths 10 = .ok (.iload_n 1, 1) := by decide +kernel
theorem dX4_strengths_11 : decode cX4_strengths 11 = .ok (.aload_n 0, 1) := by decide +kernel
theorem dX4_strengths_12 : decode cX4_strengths 12 = .ok (.getfield 7, 3) := by decide +kernel
theorem dX4_strengths_15 : decode cX4_strengths 15 = .ok (.iload_n 2, 1) := by decide +kernel
theorem dX4_strengths_16 : decode cX4_strengths 16 = .ok (.iconst 2, 1) := by decide +kernel
theorem dX4_strengths_17 : decode cX4_strengths 17 = .ok (.invokestatic 45, 3) := by decide +kernel
theorem dX4_strengths_20 : decode cX4_strengths 20 = .ok (.iadd, 1) := by decide +kernel
theorem dX4_strengths_21 : decode cX4_strengths 21 = .ok (.istore_n 1, 1) := by decide +kernel
theorem dX4_strengths_22 : decode cX4_strengths 22 = .ok (.iinc 2 1, 3) := by decide +kernel
theorem dX4_strengths_25 : decode cX4_strengths 25 = .ok (.goto (-21), 3) := by decide +kernel
theorem dX4_strengths_28 : decode cX4_strengths 28 = .ok (.iload_n 1, 1) := by decide +kernel
theorem dX4_strengths_29 : decode cX4_strengths 29 = .ok (.ireturn, 1) := by decide +kernel
set_option maxRecDepth 20000 in
theorem ggX4_count_X4_wires : GoodIn wsX4_count wsX4_wires := goodIn_r _ [8, 9, 10, 11, 7, 12, 1, 13, 14, 15, 16, 17, 18, 19, 20, 21, 64, 65, 66, 67, 68, 69, 70, 71, 72, 73, 74] (by decide +kernel) (by decide +kernel)
set_option maxRecDepth 20000 in
theorem gX4_count_X4_wires : GoodIn wsX4_count (wsV RX4 90 RX4 yX4_wires wsX4_wires) := goodIn_app (goodIn_of _ (by decide +kernel)) ggX4_count_X4_wires
set_option maxRecDepth 20000 in
theorem ggX4_count_X4_all : GoodIn wsX4_count wsX4_all := goodIn_r _ [25, 1, 19, 20, 7, 21, 26, 27, 28, 29, 30, 31, 32, 33, 9, 10, 11, 12, 13, 14, 15, 16, 17, 18, 34, 35, 36, 37, 38, 39, 40, 41, 42, 43, 44, 45, 46, 47, 48, 49, 50, 51, 52, 53, 54, 55, 64, 65, 66, 67, 68, 69, 70, 71, 72, 73, 74] (by decide +kernel) (by decide +kernel)
set_option maxRecDepth 20000 in
theorem gX4_count_X4_all : GoodIn wsX4_count (wsV RX4 150 RX4 yX4_all wsX4_all) := goodIn_app (goodIn_of _ (by decide +kernel)) ggX4_count_X4_all
set_option maxRecDepth 20000 in
theorem ggX4_count_X4_weakest : GoodIn wsX4_count wsX4_weakest := goodIn_r _ [59, 1, 9, 10, 11, 7, 12, 13, 14, 15, 16, 17, 18, 19, 20, 21, 64, 65, 66, 67, 68, 69, 70, 71, 72, 73, 74] (by decide +kernel) (by decide +kernel)
set_option maxRecDepth 20000 in
theorem gX4_count_X4_weakest : GoodIn wsX4_count (wsV RX4 154 RX4 yX4_weakest wsX4_weakest) := goodIn_app (goodIn_of _ (by decide +kernel)) ggX4_count_X4_weakest
set_option maxRecDepth 20000 in
theorem ggX4_count_X4_strengths : GoodIn wsX4_count wsX4_strengths := goodIn_r _ [63, 1, 19, 20, 7, 21, 64, 65, 66, 67, 68, 69, 70, 71, 72, 73, 74] (by decide +kernel) (by decide +kernel)
set_option maxRecDepth 20000 in
theorem gX4_count_X4_strengths : GoodIn wsX4_count (wsV RX4 157 RX4 yX4_strengths wsX4_strengths) := goodIn_app (goodIn_of _ (by decide +kernel)) ggX4_count_X4_strengths
theorem dX4_count_0 : decode cX4_count 0 = .ok (.iload_n 1, 1) := by decide +kernel
theorem dX4_count_1 : decode cX4_count 1 = .ok (.tableswitch 164 0 13 #[71, 76, 84, 90, 96, 104, 112, 120, 128, 136, 141, 146, 154, 159], 71) := by decide +kernel
theorem dX4_count_72 : decode cX4_count 72 = .ok (.aload_n 0, 1) := by decide +kernel
theorem dX4_count_73 : decode cX4_count 73 = .ok (.invokevirtual 90, 3) := by decide +kernel
theorem dX4_count_76 : decode cX4_count 76 = .ok (.ireturn, 1) := by decide +kernel
theorem dX4_count_77 : decode cX4_count 77 = .ok (.aload_n 0, 1) := by decide +kernel
theorem dX4_count_78 : decode cX4_count 78 = .ok (.getfield 7, 3) := by decide +kernel
theorem dX4_count_81 : decode cX4_count 81 = .ok (.bipush 68, 2) := by decide +kernel
theorem dX4_count_83 : decode cX4_count 83 = .ok (.iaload, 1) := by decide +kernel
theorem dX4_count_84 : decode cX4_count 84 = .ok (.ireturn, 1) := by decide +kernel
theorem dX4_count_85 : decode cX4_count 85 = .ok (.aload_n 0, 1) := by decide +kernel
theorem dX4_count_86 : decode cX4_count 86 = .ok (.iconst 0, 1) := by decide +kernel
theorem dX4_count_87 : decode cX4_count 87 = .ok (.invokevirtual 150, 3) := by decide +kernel
theorem dX4_count_90 : decode cX4_count 90 = .ok (.ireturn, 1) := by decide +kernel
theorem dX4_count_91 : decode cX4_count 91 = .ok (.aload_n 0, 1) := by decide +kernel
theorem dX4_count_92 : decode cX4_count 92 = .ok (.iconst 1, 1) := by decide +kernel
theorem dX4_count_93 : decode cX4_count 93 = .ok (.invokevirtual 150, 3) := by decide +kernel
theorem dX4_count_96 : decode cX4_count 96 = .ok (.ireturn, 1) := by decide +kernel
theorem dX4_count_97 : decode cX4_count 97 = .ok (.aload_n 0, 1) := by decide +kernel
theorem dX4_count_98 : decode cX4_count 98 = .ok (.getfield 7, 3) := by decide +kernel
theorem dX4_count_101 : decode cX4_count 101 = .ok (.bipush 65, 2) := by decide +kernel
theorem dX4_count_103 : decode cX4_count 103 = .ok (.iaload, 1) := by decide +kernel
theorem dX4_count_104 : decode cX4_count 104 = .ok (.ireturn, 1) := by decide +kernel
theorem dX4_count_105 : decode cX4_count 105 = .ok (.aload_n 0, 1) := by decide +kernel
theorem dX4_count_106 : decode cX4_count 106 = .ok (.getfield 7, 3) := by decide +kernel
theorem dX4_count_109 : decode cX4_count 109 = .ok (.bipush 66, 2) := by decide +kernel
theorem dX4_count_111 : decode cX4_count 111 = .ok (.iaload, 1) := by decide +kernel
theorem dX4_count_112 : decode cX4_count 112 = .ok (.ireturn, 1) := by decide +kernel
theorem dX4_count_113 : decode cX4_count 113 = .ok (.aload_n 0, 1) := by decide +kernel
theorem dX4_count_114 : decode cX4_count 114 = .ok (.getfield 7, 3) := by decide +kernel
theorem dX4_count_117 : decode cX4_count 117 = .ok (.bipush 67, 2) := by decide +kernel
theorem dX4_count_119 : decode cX4_count 119 = .ok (.iaload, 1) := by decide +kernel
theorem dX4_count_120 : decode cX4_count 120 = .ok (.ireturn, 1) := by decide +kernel
theorem dX4_count_121 : decode cX4_count 121 = .ok (.aload_n 0, 1) := by decide +kernel
theorem dX4_count_122 : decode cX4_count 122 = .ok (.getfield 7, 3) := by decide +kernel
theorem dX4_count_125 : decode cX4_count 125 = .ok (.bipush 64, 2) := by decide +kernel
theorem dX4_count_127 : decode cX4_count 127 = .ok (.iaload, 1) := by decide +kernel
theorem dX4_count_128 : decode cX4_count 128 = .ok (.ireturn, 1) := by decide +kernel
theorem dX4_count_129 : decode cX4_count 129 = .ok (.aload_n 0, 1) := by decide +kernel
theorem dX4_count_130 : decode cX4_count 130 = .ok (.getfield 7, 3) := by decide +kernel
theorem dX4_count_133 : decode cX4_count 133 = .ok (.bipush 69, 2) := by decide +kernel
theorem dX4_count_135 : decode cX4_count 135 = .ok (.iaload, 1) := by decide +kernel
theorem dX4_count_136 : decode cX4_count 136 = .ok (.ireturn, 1) := by decide +kernel
theorem dX4_count_137 : decode cX4_count 137 = .ok (.aload_n 0, 1) := by decide +kernel
theorem dX4_count_138 : decode cX4_count 138 = .ok (.invokevirtual 154, 3) := by decide +kernel
theorem dX4_count_141 : decode cX4_count 141 = .ok (.ireturn, 1) := by decide +kernel
theorem dX4_count_142 : decode cX4_count 142 = .ok (.aload_n 0, 1) := by decide +kernel
theorem dX4_count_143 : decode cX4_count 143 = .ok (.invokevirtual 157, 3) := by decide +kernel
theorem dX4_count_146 : decode cX4_count 146 = .ok (.ireturn, 1) := by decide +kernel
theorem dX4_count_147 : decode cX4_count 147 = .ok (.aload_n 0, 1) := by decide +kernel
theorem dX4_count_148 : decode cX4_count 148 = .ok (.getfield 7, 3) := by decide +kernel
theorem dX4_count_151 : decode cX4_count 151 = .ok (.bipush 70, 2) := by decide +kernel
theorem dX4_count_153 : decode cX4_count 153 = .ok (.iaload, 1) := by decide +kernel
theorem dX4_count_154 : decode cX4_count 154 = .ok (.ireturn, 1) := by decide +kernel
theorem dX4_count_155 : decode cX4_count 155 = .ok (.aload_n 0, 1) := by decide +kernel
theorem dX4_count_156 : decode cX4_count 156 = .ok (.getfield 29, 3) := by decide +kernel
theorem dX4_count_159 : decode cX4_count 159 = .ok (.ireturn, 1) := by decide +kernel
theorem dX4_count_160 : decode cX4_count 160 = .ok (.aload_n 0, 1) := by decide +kernel
theorem dX4_count_161 : decode cX4_count 161 = .ok (.getfield 118, 3) := by decide +kernel
theorem dX4_count_164 : decode cX4_count 164 = .ok (.ireturn, 1) := by decide +kernel
theorem dX4_count_165 : decode cX4_count 165 = .ok (.bipush (-2), 2) := by decide +kernel
theorem dX4_count_167 : decode cX4_count 167 = .ok (.ireturn, 1) := by decide +kernel
theorem dJ9_abs_0f7a4_0 : decode cJ9_abs_0f7a4 0 = .ok (.iload_n 0, 1) := by decide +kernel
theorem dJ9_abs_0f7a4_1 : decode cJ9_abs_0f7a4 1 = .ok (.ifCond .ge 8, 3) := by decide +kernel
theorem dJ9_abs_0f7a4_4 : decode cJ9_abs_0f7a4 4 = .ok (.iload_n 0, 1) := by decide +kernel
theorem dJ9_abs_0f7a4_5 : decode cJ9_abs_0f7a4 5 = .ok (.ineg, 1) := by decide +kernel
theorem dJ9_abs_0f7a4_6 : decode cJ9_abs_0f7a4 6 = .ok (.goto 4, 3) := by decide +kernel
theorem dJ9_abs_0f7a4_9 : decode cJ9_abs_0f7a4 9 = .ok (.iload_n 0, 1) := by decide +kernel
theorem dJ9_abs_0f7a4_10 : decode cJ9_abs_0f7a4 10 = .ok (.ireturn, 1) := by decide +kernel
theorem dJ9_max_7cf53_0 : decode cJ9_max_7cf53 0 = .ok (.iload_n 0, 1) := by decide +kernel
theorem dJ9_max_7cf53_1 : decode cJ9_max_7cf53 1 = .ok (.iload_n 1, 1) := by decide +kernel
theorem dJ9_max_7cf53_2 : decode cJ9_max_7cf53 2 = .ok (.if_icmp .lt 7, 3) := by decide +kernel
theorem dJ9_max_7cf53_5 : decode cJ9_max_7cf53 5 = .ok (.iload_n 0, 1) := by decide +kernel
theorem dJ9_max_7cf53_6 : decode cJ9_max_7cf53 6 = .ok (.goto 4, 3) := by decide +kernel
theorem dJ9_max_7cf53_9 : decode cJ9_max_7cf53 9 = .ok (.iload_n 1, 1) := by decide +kernel
theorem dJ9_max_7cf53_10 : decode cJ9_max_7cf53 10 = .ok (.ireturn, 1) := by decide +kernel
theorem dJ9_min_7cf53_0 : decode cJ9_min_7cf53 0 = .ok (.iload_n 0, 1) := by decide +kernel
theorem dJ9_min_7cf53_1 : decode cJ9_min_7cf53 1 = .ok (.iload_n 1, 1) := by decide +kernel
theorem dJ9_min_7cf53_2 : decode cJ9_min_7cf53 2 = .ok (.if_icmp .gt 7, 3) := by decide +kernel
theorem dJ9_min_7cf53_5 : decode cJ9_min_7cf53 5 = .ok (.iload_n 0, 1) := by decide +kernel
theorem dJ9_min_7cf53_6 : decode cJ9_min_7cf53 6 = .ok (.goto 4, 3) := by decide +kernel
theorem dJ9_min_7cf53_9 : decode cJ9_min_7cf53 9 = .ok (.iload_n 1, 1) := by decide +kernel
theorem dJ9_min_7cf53_10 : decode cJ9_min_7cf53 10 = .ok (.ireturn, 1) := by decide +kernel
theorem dJ7_fill_53178_0 : decode cJ7_fill_53178 0 = .ok (.iconst 0, 1) := by decide +kernel
theorem dJ7_fill_53178_1 : decode cJ7_fill_53178 1 = .ok (.istore_n 2, 1) := by decide +kernel
theorem dJ7_fill_53178_2 : decode cJ7_fill_53178 2 = .ok (.aload_n 0, 1) := by decide +kernel
theorem dJ7_fill_53178_3 : decode cJ7_fill_53178 3 = .ok (.arraylength, 1) := by decide +kernel
theorem dJ7_fill_53178_4 : decode cJ7_fill_53178 4 = .ok (.istore_n 3, 1) := by decide +kernel
theorem dJ7_fill_53178_5 : decode cJ7_fill_53178 5 = .ok (.iload_n 2, 1) := by decide +kernel
theorem dJ7_fill_53178_6 : decode cJ7_fill_53178 6 = .ok (.iload_n 3, 1) := by decide +kernel
theorem dJ7_fill_53178_7 : decode cJ7_fill_53178 7 = .ok (.if_icmp .ge 13, 3) := by decide +kernel
theorem dJ7_fill_53178_10 : decode cJ7_fill_53178 10 = .ok (.aload_n 0, 1) := by decide +kernel
theorem dJ7_fill_53178_11 : decode cJ7_fill_53178 11 = .ok (.iload_n 2, 1) := by decide +kernel
theorem dJ7_fill_53178_12 : decode cJ7_fill_53178 12 = .ok (.iload_n 1, 1) := by decide +kernel
theorem dJ7_fill_53178_13 : decode cJ7_fill_53178 13 = .ok (.iastore, 1) := by decide +kernel
theorem dJ7_fill_53178_14 : decode cJ7_fill_53178 14 = .ok (.iinc 2 1, 3) := by decide +kernel
theorem dJ7_fill_53178_17 : decode cJ7_fill_53178 17 = .ok (.goto (-12), 3) := by decide +kernel
theorem dJ7_fill_53178_20 : decode cJ7_fill_53178 20 = .ok (.return_, 1) := by decide +kernel
set_option maxRecDepth 20000 in
theorem ggL_law_X3_init : GoodIn wsL_law wsX3_init := goodIn_r _ [8, 9, 10, 11, 12, 13, 14, 15, 16, 17, 18, 19, 20, 21, 22, 23, 24, 25, 26, 27, 28, 29, 30, 31, 32, 33, 34, 35, 36, 37, 38, 39, 40, 41, 42, 43, 44, 45, 46, 47, 48, 49, 50, 51, 52, 53, 54, 55, 56, 57, 660, 661, 662, 663, 664, 665, 666, 667, 668, 669, 670, 671, 643, 644, 645, 646, 647, 648, 672, 673, 674, 675, 676, 677, 678, 679, 680] (by decide +kernel) (by decide +kernel)
set_option maxRecDepth 20000 in
theorem gL_law_X3_init : GoodIn wsL_law (wsX3_init) := ggL_law_X3_init
set_option maxRecDepth 20000 in
theorem ggL_law_X4_init : GoodIn wsL_law wsX4_init := goodIn_r _ [60, 61, 10, 11, 31, 62, 63, 64, 65, 53, 66, 67, 649, 650, 651, 652, 653, 654, 655, 656, 657, 658, 659] (by decide +kernel) (by decide +kernel)
set_option maxRecDepth 20000 in
theorem gL_law_X4_init : GoodIn wsL_law (wsX4_init) := ggL_law_X4_init
set_option maxRecDepth 20000 in
theorem ggL_law_X3_lay : GoodIn wsL_law wsX3_lay := goodIn_r _ [71, 15, 22, 72, 73, 2, 74, 75, 76, 77, 78, 79, 80, 81, 82, 83, 84, 85, 86, 14, 87, 88, 89, 90, 91, 92, 93, 33, 94, 95, 96, 97, 98, 99, 100, 21, 101, 48, 102, 103, 104, 105, 47, 106, 107, 108, 109, 110, 111, 112, 113, 32, 114, 115, 116, 117, 34, 35, 36, 118, 37, 119, 120, 121, 122, 123, 124, 125, 126, 127, 128, 129, 130, 131, 132, 133, 134, 135, 136, 137, 138, 139, 140, 141, 142, 143, 144, 145, 146, 147, 148, 149, 150, 151, 152, 643, 644, 645, 646, 647, 648, 660, 661, 662, 663, 664, 665, 666, 667, 668, 669, 670, 671, 672, 673] (by decide +kernel) (by decide +kernel)
set_option maxRecDepth 20000 in
theorem gL_law_X3_lay : GoodIn wsL_law (wsV RL 13 RX3 yX3_lay wsX3_lay) := goodIn_app (goodIn_of _ (by decide +kernel)) ggL_law_X3_lay
set_option maxRecDepth 20000 in
theorem ggL_law_X4_lay : GoodIn wsL_law wsX4_lay := goodIn_r _ [156, 62, 157, 158, 5, 159, 160, 161, 162, 163, 164, 165, 166, 167, 168, 169, 170, 171, 172, 173, 174, 175, 176, 177, 178, 179, 180, 181, 182, 64, 183, 184, 185, 186, 187, 188, 189, 190, 191, 192, 193, 194, 195, 196, 197, 649, 650, 651, 652, 653, 654, 655, 656, 657, 658, 659] (by decide +kernel) (by decide +kernel)
set_option maxRecDepth 20000 in
theorem gL_law_X4_lay : GoodIn wsL_law (wsV RL 17 RX4 yX4_lay wsX4_lay) := goodIn_app (goodIn_of _ (by decide +kernel)) ggL_law_X4_lay
set_option maxRecDepth 20000 in
theorem ggL_law_X3_layAll : GoodIn wsL_law wsX3_layAll := goodIn_r _ [201, 26, 16, 15, 22, 202, 203, 204, 25, 205, 206, 207, 208, 209, 210, 211, 212, 55, 56, 57, 213, 214, 215, 216, 217, 218, 219, 220, 54, 221, 222, 223, 224, 82, 2, 83, 225, 226, 227, 228, 229, 230, 231, 232, 233, 234, 235, 236, 237, 111, 112, 14, 113, 32, 114, 115, 116, 117, 33, 34, 35, 36, 118, 37, 89, 119, 88, 120, 121, 238, 239, 240, 241, 242, 243, 244, 245, 246, 247, 248, 249, 250, 251, 252, 253, 254, 255, 256, 257, 258, 85, 86, 87, 90, 91, 92, 93, 73, 74, 94, 95, 96, 97, 259, 260, 261, 262, 263, 123, 124, 125, 76, 77, 126, 127, 128, 129, 130, 131, 132, 133, 134, 135, 136, 137, 138, 139, 140, 141, 142, 143, 144, 145, 146, 147, 148, 98, 99, 100, 21, 101, 48, 102, 103, 104, 105, 47, 106, 107, 108, 109, 110, 264, 265, 266, 267, 643, 644, 645, 646, 647, 648, 674, 675, 676, 677, 678, 679, 680, 660, 661, 662, 663, 664, 665, 666, 667, 668, 669, 670, 671, 672, 673] (by decide +kernel) (by decide +kernel)
set_option maxRecDepth 20000 in
theorem gL_law_X3_layAll : GoodIn wsL_law (wsV RL 18 RX3 yX3_layAll wsX3_layAll) := goodIn_app (goodIn_of _ (by decide +kernel)) ggL_law_X3_layAll
set_option maxRecDepth 20000 in
theorem ggL_law_X4_layAll : GoodIn wsL_law wsX4_layAll := goodIn_r _ [271, 62, 63, 272, 67, 273, 274, 275, 5, 276, 277, 278, 279, 280, 281, 282, 283, 284, 285, 286, 66, 287, 288, 289, 290, 160, 161, 162, 291, 292, 293, 294, 183, 184, 185, 169, 170, 171, 172, 173, 174, 175, 176, 177, 186, 187, 188, 189, 190, 191, 192, 193, 194, 195, 196, 197, 178, 179, 180, 181, 182, 64, 295, 296, 297, 298, 299, 300, 301, 302, 157, 158, 159, 649, 650, 651, 652, 653, 654, 655, 656, 657, 658, 659] (by decide +kernel) (by decide +kernel)
set_option maxRecDepth 20000 in
theorem gL_law_X4_layAll : GoodIn wsL_law (wsV RL 22 RX4 yX4_layAll wsX4_layAll) := goodIn_app (goodIn_of _ (by decide +kernel)) ggL_law_X4_layAll
set_option maxRecDepth 20000 in
theorem ggL_law_X3_takeOff : GoodIn wsL_law wsX3_takeOff := goodIn_r _ [306, 15, 22, 307, 91, 92, 14, 93, 33, 73, 2, 74, 98, 99, 100, 21, 101, 48, 102, 103, 104, 105, 47, 106, 107, 108, 109, 82, 83, 110, 111, 112, 113, 32, 114, 115, 116, 117, 34, 35, 36, 118, 37, 89, 119, 88, 120, 121, 149, 150, 151, 152, 308, 309, 310, 311, 643, 644, 645, 646, 647, 648, 660, 661, 662, 663, 664, 665, 666, 667, 668, 669, 670, 671, 672, 673] (by decide +kernel) (by decide +kernel)
set_option maxRecDepth 20000 in
theorem gL_law_X3_takeOff : GoodIn wsL_law (wsV RL 23 RX3 yX3_takeOff wsX3_takeOff) := goodIn_app (goodIn_of _ (by decide +kernel)) ggL_law_X3_takeOff
set_option maxRecDepth 20000 in
theorem ggL_law_X4_takeOff : GoodIn wsL_law wsX4_takeOff := goodIn_r _ [315, 62, 299, 300, 301, 5, 302, 157, 158, 159, 160, 161, 162, 172, 173, 174, 178, 179, 180, 181, 182, 64, 183, 184, 185, 316, 317, 318, 319, 649, 650, 651, 652, 653, 654, 655, 656, 657, 658, 659] (by decide +kernel) (by decide +kernel)
set_option maxRecDepth 20000 in
theorem gL_law_X4_takeOff : GoodIn wsL_law (wsV RL 27 RX4 yX4_takeOff wsX4_takeOff) := goodIn_app (goodIn_of _ (by decide +kernel)) ggL_law_X4_takeOff
set_option maxRecDepth 20000 in
theorem ggL_law_X3_bend : GoodIn wsL_law wsX3_bend := goodIn_r _ [323, 15, 22, 307, 91, 92, 14, 93, 33, 73, 2, 74, 78, 79, 80, 81, 82, 83, 324, 325, 326, 327, 34, 98, 99, 100, 21, 101, 48, 102, 103, 104, 105, 47, 106, 107, 108, 109, 110, 111, 112, 113, 32, 114, 115, 116, 117, 35, 36, 118, 37, 89, 119, 88, 120, 121, 328, 329, 330, 331, 643, 644, 645, 646, 647, 648, 660, 661, 662, 663, 664, 665, 666, 667, 668, 669, 670, 671, 672, 673] (by decide +kernel) (by decide +kernel)
set_option maxRecDepth 20000 in
theorem gL_law_X3_bend : GoodIn wsL_law (wsV RL 28 RX3 yX3_bend wsX3_bend) := goodIn_app (goodIn_of _ (by decide +kernel)) ggL_law_X3_bend
set_option maxRecDepth 20000 in
theorem ggL_law_X4_bend : GoodIn wsL_law wsX4_bend := goodIn_r _ [335, 299, 300, 301, 5, 302, 62, 157, 158, 159, 160, 161, 162, 172, 173, 174, 166, 167, 168, 336, 337, 338, 339, 178, 179, 180, 181, 182, 64, 183, 184, 185, 649, 650, 651, 652, 653, 654, 655, 656, 657, 658, 659] (by decide +kernel) (by decide +kernel)
set_option maxRecDepth 20000 in
theorem gL_law_X4_bend : GoodIn wsL_law (wsV RL 32 RX4 yX4_bend wsX4_bend) := goodIn_app (goodIn_of _ (by decide +kernel)) ggL_law_X4_bend
set_option maxRecDepth 20000 in
theorem ggL_law_X3_moveLead : GoodIn wsL_law wsX3_moveLead := goodIn_r _ [343, 15, 22, 75, 76, 2, 77, 81, 82, 83, 344, 95, 96, 14, 97, 33, 90, 91, 92, 93, 73, 74, 345, 140, 141, 142, 32, 98, 99, 100, 21, 101, 48, 102, 103, 104, 105, 47, 106, 107, 108, 109, 110, 111, 112, 113, 114, 115, 116, 117, 34, 35, 36, 118, 37, 89, 119, 88, 120, 121, 346, 347, 348, 349, 643, 644, 645, 646, 647, 648, 660, 661, 662, 663, 664, 665, 666, 667, 668, 669, 670, 671, 672, 673] (by decide +kernel) (by decide +kernel)
set_option maxRecDepth 20000 in
theorem gL_law_X3_moveLead : GoodIn wsL_law (wsV RL 33 RX3 yX3_moveLead wsX3_moveLead) := goodIn_app (goodIn_of _ (by decide +kernel)) ggL_law_X3_moveLead
set_option maxRecDepth 20000 in
theorem ggL_law_X4_moveLead : GoodIn wsL_law wsX4_moveLead := goodIn_r _ [353, 62, 163, 164, 5, 165, 160, 161, 162, 175, 176, 177, 172, 173, 174, 336, 337, 338, 339, 178, 179, 180, 181, 182, 64, 183, 184, 185, 649, 650, 651, 652, 653, 654, 655, 656, 657, 658, 659] (by decide +kernel) (by decide +kernel)
set_option maxRecDepth 20000 in
theorem gL_law_X4_moveLead : GoodIn wsL_law (wsV RL 36 RX4 yX4_moveLead wsX4_moveLead) := goodIn_app (goodIn_of _ (by decide +kernel)) ggL_law_X4_moveLead
set_option maxRecDepth 20000 in
theorem ggL_law_X3_setWidth : GoodIn wsL_law wsX3_setWidth := goodIn_r _ [357, 15, 22, 81, 82, 2, 83, 98, 99, 100, 21, 101, 48, 102, 103, 104, 105, 47, 106, 107, 108, 109, 110, 111, 112, 14, 113, 32, 114, 115, 116, 117, 33, 34, 35, 36, 118, 37, 89, 119, 88, 120, 121, 643, 644, 645, 646, 647, 648, 660, 661, 662, 663, 664, 665, 666, 667, 668, 669, 670, 671, 672, 673] (by decide +kernel) (by decide +kernel)
set_option maxRecDepth 20000 in
theorem gL_law_X3_setWidth : GoodIn wsL_law (wsV RL 37 RX3 yX3_setWidth wsX3_setWidth) := goodIn_app (goodIn_of _ (by decide +kernel)) ggL_law_X3_setWidth
set_option maxRecDepth 20000 in
theorem ggL_law_X4_setWidth : GoodIn wsL_law wsX4_setWidth := goodIn_r _ [361, 160, 161, 5, 162, 336, 337, 338, 339, 62, 178, 179, 180, 181, 182, 64, 183, 184, 185, 649, 650, 651, 652, 653, 654, 655, 656, 657, 658, 659] (by decide +kernel) (by decide +kernel)
set_option maxRecDepth 20000 in
theorem gL_law_X4_setWidth : GoodIn wsL_law (wsV RL 40 RX4 yX4_setWidth wsX4_setWidth) := goodIn_app (goodIn_of _ (by decide +kernel)) ggL_law_X4_setWidth
set_option maxRecDepth 20000 in
theorem ggL_law_X3_changeTool : GoodIn wsL_law wsX3_changeTool := goodIn_r _ [365, 15, 22, 98, 99, 100, 21, 101, 48, 102, 103, 104, 105, 47, 106, 107, 108, 109, 82, 2, 83, 110, 111, 112, 14, 113, 32, 114, 115, 116, 117, 33, 34, 35, 36, 118, 37, 89, 119, 88, 120, 121, 643, 644, 645, 646, 647, 648, 660, 661, 662, 663, 664, 665, 666, 667, 668, 669, 670, 671, 672, 673] (by decide +kernel) (by decide +kernel)
set_option maxRecDepth 20000 in
theorem gL_law_X3_changeTool : GoodIn wsL_law (wsV RL 41 RX3 yX3_changeTool wsX3_changeTool) := goodIn_app (goodIn_of _ (by decide +kernel)) ggL_law_X3_changeTool
set_option maxRecDepth 20000 in
theorem ggL_law_X4_changeTool : GoodIn wsL_law wsX4_changeTool := goodIn_r _ [369, 62, 178, 179, 180, 5, 181, 182, 64, 183, 184, 185, 649, 650, 651, 652, 653, 654, 655, 656, 657, 658, 659] (by decide +kernel) (by decide +kernel)
set_option maxRecDepth 20000 in
theorem gL_law_X4_changeTool : GoodIn wsL_law (wsV RL 44 RX4 yX4_changeTool wsX4_changeTool) := goodIn_app (goodIn_of _ (by decide +kernel)) ggL_law_X4_changeTool
set_option maxRecDepth 20000 in
theorem ggL_law_X3_thread : GoodIn wsL_law wsX3_thread := goodIn_r _ [373, 15, 22, 98, 99, 100, 21, 101, 48, 102, 103, 104, 105, 47, 106, 107, 108, 109, 82, 2, 83, 110, 111, 112, 14, 113, 32, 114, 115, 116, 117, 33, 34, 35, 36, 118, 37, 89, 119, 88, 120, 121, 643, 644, 645, 646, 647, 648, 660, 661, 662, 663, 664, 665, 666, 667, 668, 669, 670, 671, 672, 673] (by decide +kernel) (by decide +kernel)
set_option maxRecDepth 20000 in
theorem gL_law_X3_thread : GoodIn wsL_law (wsV RL 45 RX3 yX3_thread wsX3_thread) := goodIn_app (goodIn_of _ (by decide +kernel)) ggL_law_X3_thread
set_option maxRecDepth 20000 in
theorem ggL_law_X4_thread : GoodIn wsL_law wsX4_thread := goodIn_r _ [377, 62, 178, 179, 180, 5, 181, 182, 64, 183, 184, 185, 649, 650, 651, 652, 653, 654, 655, 656, 657, 658, 659] (by decide +kernel) (by decide +kernel)
set_option maxRecDepth 20000 in
theorem gL_law_X4_thread : GoodIn wsL_law (wsV RL 48 RX4 yX4_thread wsX4_thread) := goodIn_app (goodIn_of _ (by decide +kernel)) ggL_law_X4_thread
set_option maxRecDepth 20000 in
theorem ggL_law_X3_pull : GoodIn wsL_law wsX3_pull := goodIn_r _ [381, 15, 22, 307, 91, 92, 14, 93, 33, 73, 2, 74, 81, 82, 83, 98, 99, 100, 21, 101, 48, 102, 103, 104, 105, 47, 106, 107, 108, 109, 110, 111, 112, 113, 32, 114, 115, 116, 117, 34, 35, 36, 118, 37, 89, 119, 88, 120, 121, 382, 383, 384, 385, 130, 131, 132, 133, 90, 386, 309, 310, 311, 149, 150, 151, 152, 643, 644, 645, 646, 647, 648, 660, 661, 662, 663, 664, 665, 666, 667, 668, 669, 670, 671, 672, 673] (by decide +kernel) (by decide +kernel)
set_option maxRecDepth 20000 in
theorem gL_law_X3_pull : GoodIn wsL_law (wsV RL 49 RX3 yX3_pull wsX3_pull) := goodIn_app (goodIn_of _ (by decide +kernel)) ggL_law_X3_pull
set_option maxRecDepth 20000 in
theorem ggL_law_X4_pull : GoodIn wsL_law wsX4_pull := goodIn_r _ [390, 299, 300, 301, 5, 302, 62, 157, 158, 159, 160, 161, 162, 172, 173, 174, 178, 179, 180, 181, 182, 64, 183, 184, 185, 391, 392, 393, 394, 316, 317, 318, 319, 649, 650, 651, 652, 653, 654, 655, 656, 657, 658, 659] (by decide +kernel) (by decide +kernel)
set_option maxRecDepth 20000 in
theorem gL_law_X4_pull : GoodIn wsL_law (wsV RL 52 RX4 yX4_pull wsX4_pull) := goodIn_app (goodIn_of _ (by decide +kernel)) ggL_law_X4_pull
set_option maxRecDepth 20000 in
theorem ggL_law_X3_sample : GoodIn wsL_law wsX3_sample := goodIn_r _ [398, 15, 22, 81, 82, 2, 83, 264, 265, 266, 14, 267, 90, 91, 92, 93, 33, 73, 74, 98, 99, 100, 21, 101, 48, 102, 103, 104, 105, 47, 106, 107, 108, 109, 110, 111, 112, 113, 32, 114, 115, 116, 117, 34, 35, 36, 118, 37, 89, 119, 88, 120, 121, 399, 400, 401, 402, 403, 383, 384, 385, 130, 131, 132, 133, 386, 309, 310, 311, 643, 644, 645, 646, 647, 648, 660, 661, 662, 663, 664, 665, 666, 667, 668, 669, 670, 671, 672, 673] (by decide +kernel) (by decide +kernel)
set_option maxRecDepth 20000 in
theorem gL_law_X3_sample : GoodIn wsL_law (wsV RL 53 RX3 yX3_sample wsX3_sample) := goodIn_app (goodIn_of _ (by decide +kernel)) ggL_law_X3_sample
set_option maxRecDepth 20000 in
theorem ggL_law_X4_sample : GoodIn wsL_law wsX4_sample := goodIn_r _ [407, 160, 161, 5, 162, 295, 296, 297, 298, 299, 300, 301, 302, 62, 157, 158, 159, 172, 173, 174, 178, 179, 180, 181, 182, 64, 183, 184, 185, 391, 392, 393, 394, 316, 317, 318, 319, 649, 650, 651, 652, 653, 654, 655, 656, 657, 658, 659] (by decide +kernel) (by decide +kernel)
set_option maxRecDepth 20000 in
theorem gL_law_X4_sample : GoodIn wsL_law (wsV RL 56 RX4 yX4_sample wsX4_sample) := goodIn_app (goodIn_of _ (by decide +kernel)) ggL_law_X4_sample
set_option maxRecDepth 20000 in
theorem ggL_law_X3_type : GoodIn wsL_law wsX3_type := goodIn_r _ [411, 26, 412, 413, 414, 25, 415, 208, 54, 416, 417, 418, 419, 643, 644, 645, 646, 647, 648, 674, 675, 676, 677, 678, 679, 680] (by decide +kernel) (by decide +kernel)
set_option maxRecDepth 20000 in
theorem gL_law_X3_type : GoodIn wsL_law (wsV RL 57 RX3 yX3_type wsX3_type) := goodIn_app (goodIn_of _ (by decide +kernel)) ggL_law_X3_type
set_option maxRecDepth 20000 in
theorem ggL_law_X4_type : GoodIn wsL_law wsX4_type := goodIn_r _ [423, 278, 66, 649, 650, 651, 652, 653, 654, 655, 656, 657, 658, 659] (by decide +kernel) (by decide +kernel)
set_option maxRecDepth 20000 in
theorem gL_law_X4_type : GoodIn wsL_law (wsV RL 61 RX4 yX4_type wsX4_type) := goodIn_app (goodIn_of _ (by decide +kernel)) ggL_law_X4_type
set_option maxRecDepth 20000 in
theorem ggL_law_X3_clearText : GoodIn wsL_law wsX3_clearText := goodIn_r _ [427, 26, 416, 417, 418, 25, 419, 208, 428, 429, 430, 431, 643, 644, 645, 646, 647, 648, 674, 675, 676, 677, 678, 679, 680] (by decide +kernel) (by decide +kernel)
set_option maxRecDepth 20000 in
theorem gL_law_X3_clearText : GoodIn wsL_law (wsV RL 62 RX3 yX3_clearText wsX3_clearText) := goodIn_app (goodIn_of _ (by decide +kernel)) ggL_law_X3_clearText
set_option maxRecDepth 20000 in
theorem ggL_law_X4_clearText : GoodIn wsL_law wsX4_clearText := goodIn_r _ [435, 278, 649, 650, 651, 652, 653, 654, 655, 656, 657, 658, 659] (by decide +kernel) (by decide +kernel)
set_option maxRecDepth 20000 in
theorem gL_law_X4_clearText : GoodIn wsL_law (wsV RL 65 RX4 yX4_clearText wsX4_clearText) := goodIn_app (goodIn_of _ (by decide +kernel)) ggL_law_X4_clearText
set_option maxRecDepth 20000 in
theorem ggL_law_X3_undo : GoodIn wsL_law wsX3_undo := goodIn_r _ [439, 22, 15, 440, 441, 442, 21, 443, 48, 444, 445, 446, 447, 106, 107, 108, 109, 47, 82, 2, 83, 110, 111, 112, 14, 113, 32, 114, 115, 116, 117, 33, 34, 35, 36, 118, 37, 89, 119, 88, 120, 121, 643, 644, 645, 646, 647, 648, 672, 673, 660, 661, 662, 663, 664, 665, 666, 667, 668, 669, 670, 671] (by decide +kernel) (by decide +kernel)
set_option maxRecDepth 20000 in
theorem gL_law_X3_undo : GoodIn wsL_law (wsV RL 66 RX3 yX3_undo wsX3_undo) := goodIn_app (goodIn_of _ (by decide +kernel)) ggL_law_X3_undo
set_option maxRecDepth 20000 in
theorem ggL_law_X4_undo : GoodIn wsL_law wsX4_undo := goodIn_r _ [451, 182, 64, 62, 183, 184, 5, 185, 649, 650, 651, 652, 653, 654, 655, 656, 657, 658, 659] (by decide +kernel) (by decide +kernel)
set_option maxRecDepth 20000 in
theorem gL_law_X4_undo : GoodIn wsL_law (wsV RL 69 RX4 yX4_undo wsX4_undo) := goodIn_app (goodIn_of _ (by decide +kernel)) ggL_law_X4_undo
set_option maxRecDepth 20000 in
theorem ggL_law_X3_keep : GoodIn wsL_law wsX3_keep := goodIn_r _ [455, 17, 15, 18, 237, 111, 112, 14, 113, 32, 114, 115, 116, 117, 33, 34, 35, 36, 118, 37, 89, 119, 88, 120, 121, 264, 265, 266, 267, 90, 91, 92, 93, 73, 2, 74, 643, 644, 645, 646, 647, 648, 660, 661, 662, 663, 664, 665, 666, 667, 668, 669, 670, 671] (by decide +kernel) (by decide +kernel)
set_option maxRecDepth 20000 in
theorem gL_law_X3_keep : GoodIn wsL_law (wsV RL 70 RX3 yX3_keep wsX3_keep) := goodIn_app (goodIn_of _ (by decide +kernel)) ggL_law_X3_keep
set_option maxRecDepth 20000 in
theorem ggL_law_X4_keep : GoodIn wsL_law wsX4_keep := goodIn_r _ [459, 62, 65, 460, 183, 184, 5, 185, 295, 296, 297, 298, 299, 300, 301, 302, 157, 158, 159, 160, 161, 162, 172, 173, 174, 649, 650, 651, 652, 653, 654, 655, 656, 657, 658, 659] (by decide +kernel) (by decide +kernel)
set_option maxRecDepth 20000 in
theorem gL_law_X4_keep : GoodIn wsL_law (wsV RL 73 RX4 yX4_keep wsX4_keep) := goodIn_app (goodIn_of _ (by decide +kernel)) ggL_law_X4_keep
set_option maxRecDepth 20000 in
theorem ggL_law_X3_restore : GoodIn wsL_law wsX3_restore := goodIn_r _ [464, 18, 22, 15, 17, 98, 99, 100, 21, 101, 48, 102, 103, 104, 105, 47, 106, 107, 108, 109, 82, 2, 83, 110, 111, 112, 14, 113, 32, 114, 115, 116, 117, 33, 34, 35, 36, 118, 37, 89, 119, 88, 120, 121, 237, 264, 265, 266, 267, 90, 91, 92, 93, 73, 74, 643, 644, 645, 646, 647, 648, 672, 673, 660, 661, 662, 663, 664, 665, 666, 667, 668, 669, 670, 671] (by decide +kernel) (by decide +kernel)
set_option maxRecDepth 20000 in
theorem gL_law_X3_restore : GoodIn wsL_law (wsV RL 74 RX3 yX3_restore wsX3_restore) := goodIn_app (goodIn_of _ (by decide +kernel)) ggL_law_X3_restore
set_option maxRecDepth 20000 in
theorem ggL_law_X4_restore : GoodIn wsL_law wsX4_restore := goodIn_r _ [468, 460, 65, 62, 178, 179, 180, 5, 181, 182, 64, 183, 184, 185, 295, 296, 297, 298, 299, 300, 301, 302, 157, 158, 159, 160, 161, 162, 172, 173, 174, 649, 650, 651, 652, 653, 654, 655, 656, 657, 658, 659] (by decide +kernel) (by decide +kernel)
set_option maxRecDepth 20000 in
theorem gL_law_X4_restore : GoodIn wsL_law (wsV RL 77 RX4 yX4_restore wsX4_restore) := goodIn_app (goodIn_of _ (by decide +kernel)) ggL_law_X4_restore
set_option maxRecDepth 20000 in
theorem ggL_law_X3_wire : GoodIn wsL_law wsX3_wire := goodIn_r _ [472, 15, 307, 91, 92, 14, 93, 33, 73, 2, 74, 473, 474, 475, 476, 324, 325, 326, 327, 34, 149, 150, 151, 152, 35, 477, 478, 479, 480, 481, 482, 483, 484, 90, 485, 486, 487, 488, 32, 489, 490, 491, 492, 493, 494, 495, 496, 37, 497, 498, 499, 500, 134, 135, 132, 136, 501, 502, 503, 504, 137, 138, 505, 506, 507, 508, 509, 510, 511, 512, 513, 514, 515, 516, 517, 518, 519, 36, 643, 644, 645, 646, 647, 648, 660, 661, 662, 663, 664, 665, 666, 667, 668, 669, 670, 671] (by decide +kernel) (by decide +kernel)
set_option maxRecDepth 20000 in
theorem gL_law_X3_wire : GoodIn wsL_law (wsV RL 78 RX3 yX3_wire wsX3_wire) := goodIn_app (goodIn_of _ (by decide +kernel)) ggL_law_X3_wire
set_option maxRecDepth 20000 in
theorem ggL_law_X4_wire : GoodIn wsL_law wsX4_wire := goodIn_r _ [523, 62, 299, 300, 301, 5, 302, 157, 158, 159, 160, 161, 162, 172, 173, 174, 524, 525, 526, 527, 528, 529, 530, 531, 532, 533, 534, 535, 192, 193, 194, 536, 537, 538, 539, 540, 541, 542, 543, 544, 545, 546, 547, 195, 196, 197, 548, 549, 550, 551, 649, 650, 651, 652, 653, 654, 655, 656, 657, 658, 659] (by decide +kernel) (by decide +kernel)
set_option maxRecDepth 20000 in
theorem gL_law_X4_wire : GoodIn wsL_law (wsV RL 81 RX4 yX4_wire wsX4_wire) := goodIn_app (goodIn_of _ (by decide +kernel)) ggL_law_X4_wire
set_option maxRecDepth 20000 in
theorem ggL_law_X3_heightAt : GoodIn wsL_law wsX3_heightAt := goodIn_r _ [555, 15, 307, 91, 92, 14, 93, 33, 73, 2, 74, 81, 82, 83, 324, 325, 326, 327, 34, 556, 505, 506, 507, 643, 644, 645, 646, 647, 648, 660, 661, 662, 663, 664, 665, 666, 667, 668, 669, 670, 671] (by decide +kernel) (by decide +kernel)
set_option maxRecDepth 20000 in
theorem gL_law_X3_heightAt : GoodIn wsL_law (wsV RL 82 RX3 yX3_heightAt wsX3_heightAt) := goodIn_app (goodIn_of _ (by decide +kernel)) ggL_law_X3_heightAt
set_option maxRecDepth 20000 in
theorem ggL_law_X4_heightAt : GoodIn wsL_law wsX4_heightAt := goodIn_r _ [560, 62, 299, 300, 301, 5, 302, 157, 158, 159, 160, 161, 162, 172, 173, 174, 544, 545, 546, 547, 649, 650, 651, 652, 653, 654, 655, 656, 657, 658, 659] (by decide +kernel) (by decide +kernel)
set_option maxRecDepth 20000 in
theorem gL_law_X4_heightAt : GoodIn wsL_law (wsV RL 85 RX4 yX4_heightAt wsX4_heightAt) := goodIn_app (goodIn_of _ (by decide +kernel)) ggL_law_X4_heightAt
set_option maxRecDepth 20000 in
theorem ggL_law_X3_crossing : GoodIn wsL_law wsX3_crossing := goodIn_r _ [564, 15, 307, 91, 92, 14, 93, 33, 73, 2, 74, 81, 82, 83, 565, 482, 483, 484, 90, 485, 486, 487, 488, 32, 566, 502, 503, 504, 134, 135, 132, 136, 137, 138, 324, 325, 326, 327, 34, 567, 498, 499, 500, 501, 505, 506, 507, 508, 568, 494, 495, 496, 37, 481, 497, 643, 644, 645, 646, 647, 648, 660, 661, 662, 663, 664, 665, 666, 667, 668, 669, 670, 671] (by decide +kernel) (by decide +kernel)
set_option maxRecDepth 20000 in
theorem gL_law_X3_crossing : GoodIn wsL_law (wsV RL 86 RX3 yX3_crossing wsX3_crossing) := goodIn_app (goodIn_of _ (by decide +kernel)) ggL_law_X3_crossing
set_option maxRecDepth 20000 in
theorem ggL_law_X4_crossing : GoodIn wsL_law wsX4_crossing := goodIn_r _ [572, 62, 299, 300, 301, 5, 302, 157, 158, 159, 160, 161, 162, 172, 173, 174, 532, 533, 534, 535, 192, 193, 194, 540, 541, 542, 543, 544, 545, 546, 547, 195, 196, 197, 649, 650, 651, 652, 653, 654, 655, 656, 657, 658, 659] (by decide +kernel) (by decide +kernel)
set_option maxRecDepth 20000 in
theorem gL_law_X4_crossing : GoodIn wsL_law (wsV RL 89 RX4 yX4_crossing wsX4_crossing) := goodIn_app (goodIn_of _ (by decide +kernel)) ggL_law_X4_crossing
set_option maxRecDepth 20000 in
theorem ggL_law_X3_lead : GoodIn wsL_law wsX3_lead := goodIn_r _ [576, 15, 75, 76, 2, 77, 345, 140, 141, 14, 142, 32, 344, 95, 96, 97, 33, 90, 91, 92, 93, 73, 74, 643, 644, 645, 646, 647, 648, 660, 661, 662, 663, 664, 665, 666, 667, 668, 669, 670, 671] (by decide +kernel) (by decide +kernel)
set_option maxRecDepth 20000 in
theorem gL_law_X3_lead : GoodIn wsL_law (wsV RL 90 RX3 yX3_lead wsX3_lead) := goodIn_app (goodIn_of _ (by decide +kernel)) ggL_law_X3_lead
set_option maxRecDepth 20000 in
theorem ggL_law_X4_lead : GoodIn wsL_law wsX4_lead := goodIn_r _ [580, 62, 163, 164, 5, 165, 160, 161, 162, 175, 176, 177, 172, 173, 174, 649, 650, 651, 652, 653, 654, 655, 656, 657, 658, 659] (by decide +kernel) (by decide +kernel)
set_option maxRecDepth 20000 in
theorem gL_law_X4_lead : GoodIn wsL_law (wsV RL 93 RX4 yX4_lead wsX4_lead) := goodIn_app (goodIn_of _ (by decide +kernel)) ggL_law_X4_lead
set_option maxRecDepth 20000 in
theorem ggL_law_X3_bestHeight : GoodIn wsL_law wsX3_bestHeight := goodIn_r _ [584, 15, 307, 91, 92, 14, 93, 33, 73, 2, 74, 81, 82, 83, 585, 586, 587, 588, 589, 490, 491, 492, 493, 494, 495, 496, 37, 481, 482, 483, 484, 90, 485, 486, 487, 488, 32, 497, 498, 499, 500, 134, 135, 132, 136, 501, 502, 503, 504, 137, 138, 505, 506, 507, 508, 325, 326, 327, 34, 489, 643, 644, 645, 646, 647, 648, 660, 661, 662, 663, 664, 665, 666, 667, 668, 669, 670, 671] (by decide +kernel) (by decide +kernel)
set_option maxRecDepth 20000 in
theorem gL_law_X3_bestHeight : GoodIn wsL_law (wsV RL 94 RX3 yX3_bestHeight wsX3_bestHeight) := goodIn_app (goodIn_of _ (by decide +kernel)) ggL_law_X3_bestHeight
set_option maxRecDepth 20000 in
theorem ggL_law_X4_bestHeight : GoodIn wsL_law wsX4_bestHeight := goodIn_r _ [593, 299, 300, 301, 5, 302, 62, 157, 158, 159, 160, 161, 162, 172, 173, 174, 536, 537, 538, 539, 528, 529, 530, 531, 532, 533, 534, 535, 192, 193, 194, 540, 541, 542, 543, 544, 545, 546, 547, 195, 196, 197, 649, 650, 651, 652, 653, 654, 655, 656, 657, 658, 659] (by decide +kernel) (by decide +kernel)
set_option maxRecDepth 20000 in
theorem gL_law_X4_bestHeight : GoodIn wsL_law (wsV RL 97 RX4 yX4_bestHeight wsX4_bestHeight) := goodIn_app (goodIn_of _ (by decide +kernel)) ggL_law_X4_bestHeight
set_option maxRecDepth 20000 in
theorem ggL_law_X3_laysLeft : GoodIn wsL_law wsX3_laysLeft := goodIn_r _ [597, 15, 78, 79, 2, 80, 81, 82, 83, 598, 599, 600, 14, 601, 89, 88, 118, 143, 144, 145, 146, 147, 148, 643, 644, 645, 646, 647, 648, 660, 661, 662, 663, 664, 665, 666, 667, 668, 669, 670, 671] (by decide +kernel) (by decide +kernel)
set_option maxRecDepth 20000 in
theorem gL_law_X3_laysLeft : GoodIn wsL_law (wsV RL 98 RX3 yX3_laysLeft wsX3_laysLeft) := goodIn_app (goodIn_of _ (by decide +kernel)) ggL_law_X3_laysLeft
set_option maxRecDepth 20000 in
theorem ggL_law_X4_laysLeft : GoodIn wsL_law wsX4_laysLeft := goodIn_r _ [605, 62, 166, 167, 5, 168, 160, 161, 162, 649, 650, 651, 652, 653, 654, 655, 656, 657, 658, 659] (by decide +kernel) (by decide +kernel)
set_option maxRecDepth 20000 in
theorem gL_law_X4_laysLeft : GoodIn wsL_law (wsV RL 101 RX4 yX4_laysLeft wsX4_laysLeft) := goodIn_app (goodIn_of _ (by decide +kernel)) ggL_law_X4_laysLeft
set_option maxRecDepth 20000 in
theorem ggL_law_X3_count : GoodIn wsL_law wsX3_count := goodIn_r _ [609, 15, 22, 26, 264, 265, 266, 14, 267, 90, 91, 92, 93, 33, 73, 2, 74, 610, 611, 612, 613, 481, 482, 483, 484, 485, 486, 487, 488, 32, 614, 615, 616, 617, 508, 325, 326, 327, 34, 493, 494, 495, 496, 37, 497, 498, 499, 500, 134, 135, 132, 136, 501, 502, 503, 504, 137, 138, 505, 506, 507, 618, 619, 620, 621, 35, 622, 150, 151, 152, 623, 624, 625, 626, 440, 441, 442, 21, 443, 48, 416, 417, 418, 25, 419, 208, 643, 644, 645, 646, 647, 648, 660, 661, 662, 663, 664, 665, 666, 667, 668, 669, 670, 671, 672, 673, 674, 675, 676, 677, 678, 679, 680] (by decide +kernel) (by decide +kernel)
set_option maxRecDepth 20000 in
theorem gL_law_X3_count : GoodIn wsL_law (wsV RL 102 RX3 yX3_count wsX3_count) := goodIn_app (goodIn_of _ (by decide +kernel)) ggL_law_X3_count
set_option maxRecDepth 20000 in
theorem ggL_law_X4_count : GoodIn wsL_law wsX4_count := goodIn_r _ [630, 62, 182, 278, 295, 296, 297, 5, 298, 299, 300, 301, 302, 157, 158, 159, 160, 161, 162, 172, 173, 174, 631, 632, 633, 634, 536, 537, 538, 539, 528, 529, 530, 531, 532, 533, 534, 535, 192, 193, 194, 540, 541, 542, 543, 544, 545, 546, 547, 195, 196, 197, 524, 525, 526, 527, 635, 636, 637, 638, 639, 640, 641, 642, 649, 650, 651, 652, 653, 654, 655, 656, 657, 658, 659] (by decide +kernel) (by decide +kernel)
set_option maxRecDepth 20000 in
theorem gL_law_X4_count : GoodIn wsL_law (wsV RL 105 RX4 yX4_count wsX4_count) := goodIn_app (goodIn_of _ (by decide +kernel)) ggL_law_X4_count
theorem dL_law_0 : decode cL_law 0 = .ok (.new 7, 3) := by decide +kernel
theorem dL_law_3 : decode cL_law 3 = .ok (.dup, 1) := by decide +kernel
theorem dL_law_4 : decode cL_law 4 = .ok (.invokespecial 9, 3) := by decide +kernel
theorem dL_law_7 : decode cL_law 7 = .ok (.astore_n 1, 1) := by decide +kernel
theorem dL_law_8 : decode cL_law 8 = .ok (.new 10, 3) := by decide +kernel
theorem dL_law_11 : decode cL_law 11 = .ok (.dup, 1) := by decide +kernel
theorem dL_law_12 : decode cL_law 12 = .ok (.invokespecial 12, 3) := by decide +kernel
theorem dL_law_15 : decode cL_law 15 = .ok (.astore_n 2, 1) := by decide +kernel
theorem dL_law_16 : decode cL_law 16 = .ok (.iconst 0, 1) := by decide +kernel
theorem dL_law_17 : decode cL_law 17 = .ok (.istore_n 3, 1) := by decide +kernel
theorem dL_law_18 : decode cL_law 18 = .ok (.iload_n 3, 1) := by decide +kernel
theorem dL_law_19 : decode cL_law 19 = .ok (.aload_n 0, 1) := by decide +kernel
theorem dL_law_20 : decode cL_law 20 = .ok (.arraylength, 1) := by decide +kernel
theorem dL_law_21 : decode cL_law 21 = .ok (.iconst 4, 1) := by decide +kernel
theorem dL_law_22 : decode cL_law 22 = .ok (.isub, 1) := by decide +kernel
theorem dL_law_23 : decode cL_law 23 = .ok (.if_icmp .gt 677, 3) := by decide +kernel
theorem dL_law_26 : decode cL_law 26 = .ok (.aload_n 0, 1) := by decide +kernel
theorem dL_law_27 : decode cL_law 27 = .ok (.iload_n 3, 1) := by decide +kernel
theorem dL_law_28 : decode cL_law 28 = .ok (.iaload, 1) := by decide +kernel
theorem dL_law_29 : decode cL_law 29 = .ok (.bipush 31, 2) := by decide +kernel
theorem dL_law_31 : decode cL_law 31 = .ok (.iand, 1) := by decide +kernel
theorem dL_law_32 : decode cL_law 32 = .ok (.tableswitch 662 0 21 #[104, 147, 160, 183, 216, 249, 272, 285, 298, 331, 364, 389, 402, 415, 428, 441, 474, 507, 550, 583, 616, 639], 104) := by decide +kernel
theorem dL_law_136 : decode cL_law 136 = .ok (.aload_n 1, 1) := by decide +kernel
theorem dL_law_137 : decode cL_law 137 = .ok (.aload_n 0, 1) := by decide +kernel
theorem dL_law_138 : decode cL_law 138 = .ok (.iload_n 3, 1) := by decide +kernel
theorem dL_law_139 : decode cL_law 139 = .ok (.iconst 1, 1) := by decide +kernel
theorem dL_law_140 : decode cL_law 140 = .ok (.iadd, 1) := by decide +kernel
theorem dL_law_141 : decode cL_law 141 = .ok (.iaload, 1) := by decide +kernel
theorem dL_law_142 : decode cL_law 142 = .ok (.aload_n 0, 1) := by decide +kernel
theorem dL_law_143 : decode cL_law 143 = .ok (.iload_n 3, 1) := by decide +kernel
theorem dL_law_144 : decode cL_law 144 = .ok (.iconst 2, 1) := by decide +kernel
theorem dL_law_145 : decode cL_law 145 = .ok (.iadd, 1) := by decide +kernel
theorem dL_law_146 : decode cL_law 146 = .ok (.iaload, 1) := by decide +kernel
theorem dL_law_147 : decode cL_law 147 = .ok (.aload_n 0, 1) := by decide +kernel
theorem dL_law_148 : decode cL_law 148 = .ok (.iload_n 3, 1) := by decide +kernel
theorem dL_law_149 : decode cL_law 149 = .ok (.iconst 3, 1) := by decide +kernel
theorem dL_law_150 : decode cL_law 150 = .ok (.iadd, 1) := by decide +kernel
theorem dL_law_151 : decode cL_law 151 = .ok (.iaload, 1) := by decide +kernel
theorem dL_law_152 : decode cL_law 152 = .ok (.invokevirtual 13, 3) := by decide +kernel
theorem dL_law_155 : decode cL_law 155 = .ok (.aload_n 2, 1) := by decide +kernel
theorem dL_law_156 : decode cL_law 156 = .ok (.aload_n 0, 1) := by decide +kernel
theorem dL_law_157 : decode cL_law 157 = .ok (.iload_n 3, 1) := by decide +kernel
theorem dL_law_158 : decode cL_law 158 = .ok (.iconst 1, 1) := by decide +kernel
theorem dL_law_159 : decode cL_law 159 = .ok (.iadd, 1) := by decide +kernel
theorem dL_law_160 : decode cL_law 160 = .ok (.iaload, 1) := by decide +kernel
theorem dL_law_161 : decode cL_law 161 = .ok (.aload_n 0, 1) := by decide +kernel
theorem dL_law_162 : decode cL_law 162 = .ok (.iload_n 3, 1) := by decide +kernel
theorem dL_law_163 : decode cL_law 163 = .ok (.iconst 2, 1) := by decide +kernel
theorem dL_law_164 : decode cL_law 164 = .ok (.iadd, 1) := by decide +kernel
theorem dL_law_165 : decode cL_law 165 = .ok (.iaload, 1) := by decide +kernel
theorem dL_law_166 : decode cL_law 166 = .ok (.aload_n 0, 1) := by decide +kernel
theorem dL_law_167 : decode cL_law 167 = .ok (.iload_n 3, 1) := by decide +kernel
theorem dL_law_168 : decode cL_law 168 = .ok (.iconst 3, 1) := by decide +kernel
theorem dL_law_169 : decode cL_law 169 = .ok (.iadd, 1) := by decide +kernel
theorem dL_law_170 : decode cL_law 170 = .ok (.iaload, 1) := by decide +kernel
theorem dL_law_171 : decode cL_law 171 = .ok (.invokevirtual 17, 3) := by decide +kernel
theorem dL_law_174 : decode cL_law 174 = .ok (.if_icmp .eq 520, 3) := by decide +kernel
theorem dL_law_177 : decode cL_law 177 = .ok (.iconst 0, 1) := by decide +kernel
theorem dL_law_178 : decode cL_law 178 = .ok (.ireturn, 1) := by decide +kernel
theorem dL_law_179 : decode cL_law 179 = .ok (.aload_n 1, 1) := by decide +kernel
theorem dL_law_180 : decode cL_law 180 = .ok (.invokevirtual 18, 3) := by decide +kernel
theorem dL_law_183 : decode cL_law 183 = .ok (.aload_n 2, 1) := by decide +kernel
theorem dL_law_184 : decode cL_law 184 = .ok (.invokevirtual 22, 3) := by decide +kernel
theorem dL_law_187 : decode cL_law 187 = .ok (.if_icmp .eq 507, 3) := by decide +kernel
theorem dL_law_190 : decode cL_law 190 = .ok (.iconst 0, 1) := by decide +kernel
theorem dL_law_191 : decode cL_law 191 = .ok (.ireturn, 1) := by decide +kernel
theorem dL_law_192 : decode cL_law 192 = .ok (.aload_n 1, 1) := by decide +kernel
theorem dL_law_193 : decode cL_law 193 = .ok (.aload_n 0, 1) := by decide +kernel
theorem dL_law_194 : decode cL_law 194 = .ok (.iload_n 3, 1) := by decide +kernel
theorem dL_law_195 : decode cL_law 195 = .ok (.iconst 1, 1) := by decide +kernel
theorem dL_law_196 : decode cL_law 196 = .ok (.iadd, 1) := by decide +kernel
theorem dL_law_197 : decode cL_law 197 = .ok (.iaload, 1) := by decide +kernel
theorem dL_law_198 : decode cL_law 198 = .ok (.invokevirtual 23, 3) := by decide +kernel
theorem dL_law_201 : decode cL_law 201 = .ok (.aload_n 2, 1) := by decide +kernel
theorem dL_law_202 : decode cL_law 202 = .ok (.aload_n 0, 1) := by decide +kernel
theorem dL_law_203 : decode cL_law 203 = .ok (.iload_n 3, 1) := by decide +kernel
theorem dL_law_204 : decode cL_law 204 = .ok (.iconst 1, 1) := by decide +kernel
theorem dL_law_205 : decode cL_law 205 = .ok (.iadd, 1) := by decide +kernel
theorem dL_law_206 : decode cL_law 206 = .ok (.iaload, 1) := by decide +kernel
theorem dL_law_207 : decode cL_law 207 = .ok (.invokevirtual 27, 3) := by decide +kernel
theorem dL_law_210 : decode cL_law 210 = .ok (.if_icmp .eq 484, 3) := by decide +kernel
theorem dL_law_213 : decode cL_law 213 = .ok (.iconst 0, 1) := by decide +kernel
theorem dL_law_214 : decode cL_law 214 = .ok (.ireturn, 1) := by decide +kernel
theorem dL_law_215 : decode cL_law 215 = .ok (.aload_n 1, 1) := by decide +kernel
theorem dL_law_216 : decode cL_law 216 = .ok (.aload_n 0, 1) := by decide +kernel
theorem dL_law_217 : decode cL_law 217 = .ok (.iload_n 3, 1) := by decide +kernel
theorem dL_law_218 : decode cL_law 218 = .ok (.iconst 1, 1) := by decide +kernel
theorem dL_law_219 : decode cL_law 219 = .ok (.iadd, 1) := by decide +kernel
theorem dL_law_220 : decode cL_law 220 = .ok (.iaload, 1) := by decide +kernel
theorem dL_law_221 : decode cL_law 221 = .ok (.aload_n 0, 1) := by decide +kernel
theorem dL_law_222 : decode cL_law 222 = .ok (.iload_n 3, 1) := by decide +kernel
theorem dL_law_223 : decode cL_law 223 = .ok (.iconst 2, 1) := by decide +kernel
theorem dL_law_224 : decode cL_law 224 = .ok (.iadd, 1) := by decide +kernel
theorem dL_law_225 : decode cL_law 225 = .ok (.iaload, 1) := by decide +kernel
theorem dL_law_226 : decode cL_law 226 = .ok (.invokevirtual 28, 3) := by decide +kernel
theorem dL_law_229 : decode cL_law 229 = .ok (.aload_n 2, 1) := by decide +kernel
theorem dL_law_230 : decode cL_law 230 = .ok (.aload_n 0, 1) := by decide +kernel
theorem dL_law_231 : decode cL_law 231 = .ok (.iload_n 3, 1) := by decide +kernel
theorem dL_law_232 : decode cL_law 232 = .ok (.iconst 1, 1) := by decide +kernel
theorem dL_law_233 : decode cL_law 233 = .ok (.iadd, 1) := by decide +kernel
theorem dL_law_234 : decode cL_law 234 = .ok (.iaload, 1) := by decide +kernel
theorem dL_law_235 : decode cL_law 235 = .ok (.aload_n 0, 1) := by decide +kernel
theorem dL_law_236 : decode cL_law 236 = .ok (.iload_n 3, 1) := by decide +kernel
theorem dL_law_237 : decode cL_law 237 = .ok (.iconst 2, 1) := by decide +kernel
theorem dL_law_238 : decode cL_law 238 = .ok (.iadd, 1) := by decide +kernel
theorem dL_law_239 : decode cL_law 239 = .ok (.iaload, 1) := by decide +kernel
theorem dL_law_240 : decode cL_law 240 = .ok (.invokevirtual 32, 3) := by decide +kernel
theorem dL_law_243 : decode cL_law 243 = .ok (.if_icmp .eq 451, 3) := by decide +kernel
theorem dL_law_246 : decode cL_law 246 = .ok (.iconst 0, 1) := by decide +kernel
theorem dL_law_247 : decode cL_law 247 = .ok (.ireturn, 1) := by decide +kernel
theorem dL_law_248 : decode cL_law 248 = .ok (.aload_n 1, 1) := by decide +kernel
theorem dL_law_249 : decode cL_law 249 = .ok (.aload_n 0, 1) := by decide +kernel
theorem dL_law_250 : decode cL_law 250 = .ok (.iload_n 3, 1) := by decide +kernel
theorem dL_law_251 : decode cL_law 251 = .ok (.iconst 1, 1) := by decide +kernel
theorem dL_law_252 : decode cL_law 252 = .ok (.iadd, 1) := by decide +kernel
theorem dL_law_253 : decode cL_law 253 = .ok (.iaload, 1) := by decide +kernel
theorem dL_law_254 : decode cL_law 254 = .ok (.aload_n 0, 1) := by decide +kernel
theorem dL_law_255 : decode cL_law 255 = .ok (.iload_n 3, 1) := by decide +kernel
theorem dL_law_256 : decode cL_law 256 = .ok (.iconst 2, 1) := by decide +kernel
theorem dL_law_257 : decode cL_law 257 = .ok (.iadd, 1) := by decide +kernel
theorem dL_law_258 : decode cL_law 258 = .ok (.iaload, 1) := by decide +kernel
theorem dL_law_259 : decode cL_law 259 = .ok (.invokevirtual 33, 3) := by decide +kernel
theorem dL_law_262 : decode cL_law 262 = .ok (.aload_n 2, 1) := by decide +kernel
theorem dL_law_263 : decode cL_law 263 = .ok (.aload_n 0, 1) := by decide +kernel
theorem dL_law_264 : decode cL_law 264 = .ok (.iload_n 3, 1) := by decide +kernel
theorem dL_law_265 : decode cL_law 265 = .ok (.iconst 1, 1) := by decide +kernel
theorem dL_law_266 : decode cL_law 266 = .ok (.iadd, 1) := by decide +kernel
theorem dL_law_267 : decode cL_law 267 = .ok (.iaload, 1) := by decide +kernel
theorem dL_law_268 : decode cL_law 268 = .ok (.aload_n 0, 1) := by decide +kernel
theorem dL_law_269 : decode cL_law 269 = .ok (.iload_n 3, 1) := by decide +kernel
theorem dL_law_270 : decode cL_law 270 = .ok (.iconst 2, 1) := by decide +kernel
theorem dL_law_271 : decode cL_law 271 = .ok (.iadd, 1) := by decide +kernel
theorem dL_law_272 : decode cL_law 272 = .ok (.iaload, 1) := by decide +kernel
theorem dL_law_273 : decode cL_law 273 = .ok (.invokevirtual 36, 3) := by decide +kernel
theorem dL_law_276 : decode cL_law 276 = .ok (.if_icmp .eq 418, 3) := by decide +kernel
theorem dL_law_279 : decode cL_law 279 = .ok (.iconst 0, 1) := by decide +kernel
theorem dL_law_280 : decode cL_law 280 = .ok (.ireturn, 1) := by decide +kernel
theorem dL_law_281 : decode cL_law 281 = .ok (.aload_n 1, 1) := by decide +kernel
theorem dL_law_282 : decode cL_law 282 = .ok (.aload_n 0, 1) := by decide +kernel
theorem dL_law_283 : decode cL_law 283 = .ok (.iload_n 3, 1) := by decide +kernel
theorem dL_law_284 : decode cL_law 284 = .ok (.iconst 1, 1) := by decide +kernel
theorem dL_law_285 : decode cL_law 285 = .ok (.iadd, 1) := by decide +kernel
theorem dL_law_286 : decode cL_law 286 = .ok (.iaload, 1) := by decide +kernel
theorem dL_law_287 : decode cL_law 287 = .ok (.invokevirtual 37, 3) := by decide +kernel
theorem dL_law_290 : decode cL_law 290 = .ok (.aload_n 2, 1) := by decide +kernel
theorem dL_law_291 : decode cL_law 291 = .ok (.aload_n 0, 1) := by decide +kernel
theorem dL_law_292 : decode cL_law 292 = .ok (.iload_n 3, 1) := by decide +kernel
theorem dL_law_293 : decode cL_law 293 = .ok (.iconst 1, 1) := by decide +kernel
theorem dL_law_294 : decode cL_law 294 = .ok (.iadd, 1) := by decide +kernel
theorem dL_law_295 : decode cL_law 295 = .ok (.iaload, 1) := by decide +kernel
theorem dL_law_296 : decode cL_law 296 = .ok (.invokevirtual 40, 3) := by decide +kernel
theorem dL_law_299 : decode cL_law 299 = .ok (.if_icmp .eq 395, 3) := by decide +kernel
theorem dL_law_302 : decode cL_law 302 = .ok (.iconst 0, 1) := by decide +kernel
theorem dL_law_303 : decode cL_law 303 = .ok (.ireturn, 1) := by decide +kernel
theorem dL_law_304 : decode cL_law 304 = .ok (.aload_n 1, 1) := by decide +kernel
theorem dL_law_305 : decode cL_law 305 = .ok (.invokevirtual 41, 3) := by decide +kernel
theorem dL_law_308 : decode cL_law 308 = .ok (.aload_n 2, 1) := by decide +kernel
theorem dL_law_309 : decode cL_law 309 = .ok (.invokevirtual 44, 3) := by decide +kernel
theorem dL_law_312 : decode cL_law 312 = .ok (.if_icmp .eq 382, 3) := by decide +kernel
theorem dL_law_315 : decode cL_law 315 = .ok (.iconst 0, 1) := by decide +kernel
theorem dL_law_316 : decode cL_law 316 = .ok (.ireturn, 1) := by decide +kernel
theorem dL_law_317 : decode cL_law 317 = .ok (.aload_n 1, 1) := by decide +kernel
theorem dL_law_318 : decode cL_law 318 = .ok (.invokevirtual 45, 3) := by decide +kernel
theorem dL_law_321 : decode cL_law 321 = .ok (.aload_n 2, 1) := by decide +kernel
theorem dL_law_322 : decode cL_law 322 = .ok (.invokevirtual 48, 3) := by decide +kernel
theorem dL_law_325 : decode cL_law 325 = .ok (.if_icmp .eq 369, 3) := by decide +kernel
theorem dL_law_328 : decode cL_law 328 = .ok (.iconst 0, 1) := by decide +kernel
theorem dL_law_329 : decode cL_law 329 = .ok (.ireturn, 1) := by decide +kernel
theorem dL_law_330 : decode cL_law 330 = .ok (.aload_n 1, 1) := by decide +kernel
theorem dL_law_331 : decode cL_law 331 = .ok (.aload_n 0, 1) := by decide +kernel
theorem dL_law_332 : decode cL_law 332 = .ok (.iload_n 3, 1) := by decide +kernel
theorem dL_law_333 : decode cL_law 333 = .ok (.iconst 1, 1) := by decide +kernel
theorem dL_law_334 : decode cL_law 334 = .ok (.iadd, 1) := by decide +kernel
theorem dL_law_335 : decode cL_law 335 = .ok (.iaload, 1) := by decide +kernel
theorem dL_law_336 : decode cL_law 336 = .ok (.aload_n 0, 1) := by decide +kernel
theorem dL_law_337 : decode cL_law 337 = .ok (.iload_n 3, 1) := by decide +kernel
theorem dL_law_338 : decode cL_law 338 = .ok (.iconst 2, 1) := by decide +kernel
theorem dL_law_339 : decode cL_law 339 = .ok (.iadd, 1) := by decide +kernel
theorem dL_law_340 : decode cL_law 340 = .ok (.iaload, 1) := by decide +kernel
theorem dL_law_341 : decode cL_law 341 = .ok (.invokevirtual 49, 3) := by decide +kernel
theorem dL_law_344 : decode cL_law 344 = .ok (.aload_n 2, 1) := by decide +kernel
theorem dL_law_345 : decode cL_law 345 = .ok (.aload_n 0, 1) := by decide +kernel
theorem dL_law_346 : decode cL_law 346 = .ok (.iload_n 3, 1) := by decide +kernel
theorem dL_law_347 : decode cL_law 347 = .ok (.iconst 1, 1) := by decide +kernel
theorem dL_law_348 : decode cL_law 348 = .ok (.iadd, 1) := by decide +kernel
theorem dL_law_349 : decode cL_law 349 = .ok (.iaload, 1) := by decide +kernel
theorem dL_law_350 : decode cL_law 350 = .ok (.aload_n 0, 1) := by decide +kernel
theorem dL_law_351 : decode cL_law 351 = .ok (.iload_n 3, 1) := by decide +kernel
theorem dL_law_352 : decode cL_law 352 = .ok (.iconst 2, 1) := by decide +kernel
theorem dL_law_353 : decode cL_law 353 = .ok (.iadd, 1) := by decide +kernel
theorem dL_law_354 : decode cL_law 354 = .ok (.iaload, 1) := by decide +kernel
theorem dL_law_355 : decode cL_law 355 = .ok (.invokevirtual 52, 3) := by decide +kernel
theorem dL_law_358 : decode cL_law 358 = .ok (.if_icmp .eq 336, 3) := by decide +kernel
theorem dL_law_361 : decode cL_law 361 = .ok (.iconst 0, 1) := by decide +kernel
theorem dL_law_362 : decode cL_law 362 = .ok (.ireturn, 1) := by decide +kernel
theorem dL_law_363 : decode cL_law 363 = .ok (.aload_n 1, 1) := by decide +kernel
theorem dL_law_364 : decode cL_law 364 = .ok (.aload_n 0, 1) := by decide +kernel
theorem dL_law_365 : decode cL_law 365 = .ok (.iload_n 3, 1) := by decide +kernel
theorem dL_law_366 : decode cL_law 366 = .ok (.iconst 1, 1) := by decide +kernel
theorem dL_law_367 : decode cL_law 367 = .ok (.iadd, 1) := by decide +kernel
theorem dL_law_368 : decode cL_law 368 = .ok (.iaload, 1) := by decide +kernel
theorem dL_law_369 : decode cL_law 369 = .ok (.aload_n 0, 1) := by decide +kernel
theorem dL_law_370 : decode cL_law 370 = .ok (.iload_n 3, 1) := by decide +kernel
theorem dL_law_371 : decode cL_law 371 = .ok (.iconst 2, 1) := by decide +kernel
theorem dL_law_372 : decode cL_law 372 = .ok (.iadd, 1) := by decide +kernel
theorem dL_law_373 : decode cL_law 373 = .ok (.iaload, 1) := by decide +kernel
theorem dL_law_374 : decode cL_law 374 = .ok (.invokevirtual 53, 3) := by decide +kernel
theorem dL_law_377 : decode cL_law 377 = .ok (.aload_n 2, 1) := by decide +kernel
theorem dL_law_378 : decode cL_law 378 = .ok (.aload_n 0, 1) := by decide +kernel
theorem dL_law_379 : decode cL_law 379 = .ok (.iload_n 3, 1) := by decide +kernel
theorem dL_law_380 : decode cL_law 380 = .ok (.iconst 1, 1) := by decide +kernel
theorem dL_law_381 : decode cL_law 381 = .ok (.iadd, 1) := by decide +kernel
theorem dL_law_382 : decode cL_law 382 = .ok (.iaload, 1) := by decide +kernel
theorem dL_law_383 : decode cL_law 383 = .ok (.aload_n 0, 1) := by decide +kernel
theorem dL_law_384 : decode cL_law 384 = .ok (.iload_n 3, 1) := by decide +kernel
theorem dL_law_385 : decode cL_law 385 = .ok (.iconst 2, 1) := by decide +kernel
theorem dL_law_386 : decode cL_law 386 = .ok (.iadd, 1) := by decide +kernel
theorem dL_law_387 : decode cL_law 387 = .ok (.iaload, 1) := by decide +kernel
theorem dL_law_388 : decode cL_law 388 = .ok (.invokevirtual 56, 3) := by decide +kernel
theorem dL_law_391 : decode cL_law 391 = .ok (.if_icmp .eq 303, 3) := by decide +kernel
theorem dL_law_394 : decode cL_law 394 = .ok (.iconst 0, 1) := by decide +kernel
theorem dL_law_395 : decode cL_law 395 = .ok (.ireturn, 1) := by decide +kernel
theorem dL_law_396 : decode cL_law 396 = .ok (.aload_n 1, 1) := by decide +kernel
theorem dL_law_397 : decode cL_law 397 = .ok (.aload_n 0, 1) := by decide +kernel
theorem dL_law_398 : decode cL_law 398 = .ok (.iload_n 3, 1) := by decide +kernel
theorem dL_law_399 : decode cL_law 399 = .ok (.iconst 1, 1) := by decide +kernel
theorem dL_law_400 : decode cL_law 400 = .ok (.iadd, 1) := by decide +kernel
theorem dL_law_401 : decode cL_law 401 = .ok (.iaload, 1) := by decide +kernel
theorem dL_law_402 : decode cL_law 402 = .ok (.i2c, 1) := by decide +kernel
theorem dL_law_403 : decode cL_law 403 = .ok (.invokevirtual 57, 3) := by decide +kernel
theorem dL_law_406 : decode cL_law 406 = .ok (.aload_n 2, 1) := by decide +kernel
theorem dL_law_407 : decode cL_law 407 = .ok (.aload_n 0, 1) := by decide +kernel
theorem dL_law_408 : decode cL_law 408 = .ok (.iload_n 3, 1) := by decide +kernel
theorem dL_law_409 : decode cL_law 409 = .ok (.iconst 1, 1) := by decide +kernel
theorem dL_law_410 : decode cL_law 410 = .ok (.iadd, 1) := by decide +kernel
theorem dL_law_411 : decode cL_law 411 = .ok (.iaload, 1) := by decide +kernel
theorem dL_law_412 : decode cL_law 412 = .ok (.i2c, 1) := by decide +kernel
theorem dL_law_413 : decode cL_law 413 = .ok (.invokevirtual 61, 3) := by decide +kernel
theorem dL_law_416 : decode cL_law 416 = .ok (.if_icmp .eq 278, 3) := by decide +kernel
theorem dL_law_419 : decode cL_law 419 = .ok (.iconst 0, 1) := by decide +kernel
theorem dL_law_420 : decode cL_law 420 = .ok (.ireturn, 1) := by decide +kernel
theorem dL_law_421 : decode cL_law 421 = .ok (.aload_n 1, 1) := by decide +kernel
theorem dL_law_422 : decode cL_law 422 = .ok (.invokevirtual 62, 3) := by decide +kernel
theorem dL_law_425 : decode cL_law 425 = .ok (.aload_n 2, 1) := by decide +kernel
theorem dL_law_426 : decode cL_law 426 = .ok (.invokevirtual 65, 3) := by decide +kernel
theorem dL_law_429 : decode cL_law 429 = .ok (.if_icmp .eq 265, 3) := by decide +kernel
theorem dL_law_432 : decode cL_law 432 = .ok (.iconst 0, 1) := by decide +kernel
theorem dL_law_433 : decode cL_law 433 = .ok (.ireturn, 1) := by decide +kernel
theorem dL_law_434 : decode cL_law 434 = .ok (.aload_n 1, 1) := by decide +kernel
theorem dL_law_435 : decode cL_law 435 = .ok (.invokevirtual 66, 3) := by decide +kernel
theorem dL_law_438 : decode cL_law 438 = .ok (.aload_n 2, 1) := by decide +kernel
theorem dL_law_439 : decode cL_law 439 = .ok (.invokevirtual 69, 3) := by decide +kernel
theorem dL_law_442 : decode cL_law 442 = .ok (.if_icmp .eq 252, 3) := by decide +kernel
theorem dL_law_445 : decode cL_law 445 = .ok (.iconst 0, 1) := by decide +kernel
theorem dL_law_446 : decode cL_law 446 = .ok (.ireturn, 1) := by decide +kernel
theorem dL_law_447 : decode cL_law 447 = .ok (.aload_n 1, 1) := by decide +kernel
theorem dL_law_448 : decode cL_law 448 = .ok (.invokevirtual 70, 3) := by decide +kernel
theorem dL_law_451 : decode cL_law 451 = .ok (.aload_n 2, 1) := by decide +kernel
theorem dL_law_452 : decode cL_law 452 = .ok (.invokevirtual 73, 3) := by decide +kernel
theorem dL_law_455 : decode cL_law 455 = .ok (.if_icmp .eq 239, 3) := by decide +kernel
theorem dL_law_458 : decode cL_law 458 = .ok (.iconst 0, 1) := by decide +kernel
theorem dL_law_459 : decode cL_law 459 = .ok (.ireturn, 1) := by decide +kernel
theorem dL_law_460 : decode cL_law 460 = .ok (.aload_n 1, 1) := by decide +kernel
theorem dL_law_461 : decode cL_law 461 = .ok (.invokevirtual 74, 3) := by decide +kernel
theorem dL_law_464 : decode cL_law 464 = .ok (.aload_n 2, 1) := by decide +kernel
theorem dL_law_465 : decode cL_law 465 = .ok (.invokevirtual 77, 3) := by decide +kernel
theorem dL_law_468 : decode cL_law 468 = .ok (.if_icmp .eq 226, 3) := by decide +kernel
theorem dL_law_471 : decode cL_law 471 = .ok (.iconst 0, 1) := by decide +kernel
theorem dL_law_472 : decode cL_law 472 = .ok (.ireturn, 1) := by decide +kernel
theorem dL_law_473 : decode cL_law 473 = .ok (.aload_n 1, 1) := by decide +kernel
theorem dL_law_474 : decode cL_law 474 = .ok (.aload_n 0, 1) := by decide +kernel
theorem dL_law_475 : decode cL_law 475 = .ok (.iload_n 3, 1) := by decide +kernel
theorem dL_law_476 : decode cL_law 476 = .ok (.iconst 1, 1) := by decide +kernel
theorem dL_law_477 : decode cL_law 477 = .ok (.iadd, 1) := by decide +kernel
theorem dL_law_478 : decode cL_law 478 = .ok (.iaload, 1) := by decide +kernel
theorem dL_law_479 : decode cL_law 479 = .ok (.aload_n 0, 1) := by decide +kernel
theorem dL_law_480 : decode cL_law 480 = .ok (.iload_n 3, 1) := by decide +kernel
theorem dL_law_481 : decode cL_law 481 = .ok (.iconst 2, 1) := by decide +kernel
theorem dL_law_482 : decode cL_law 482 = .ok (.iadd, 1) := by decide +kernel
theorem dL_law_483 : decode cL_law 483 = .ok (.iaload, 1) := by decide +kernel
theorem dL_law_484 : decode cL_law 484 = .ok (.invokevirtual 78, 3) := by decide +kernel
theorem dL_law_487 : decode cL_law 487 = .ok (.aload_n 2, 1) := by decide +kernel
theorem dL_law_488 : decode cL_law 488 = .ok (.aload_n 0, 1) := by decide +kernel
theorem dL_law_489 : decode cL_law 489 = .ok (.iload_n 3, 1) := by decide +kernel
theorem dL_law_490 : decode cL_law 490 = .ok (.iconst 1, 1) := by decide +kernel
theorem dL_law_491 : decode cL_law 491 = .ok (.iadd, 1) := by decide +kernel
theorem dL_law_492 : decode cL_law 492 = .ok (.iaload, 1) := by decide +kernel
theorem dL_law_493 : decode cL_law 493 = .ok (.aload_n 0, 1) := by decide +kernel
theorem dL_law_494 : decode cL_law 494 = .ok (.iload_n 3, 1) := by decide +kernel
theorem dL_law_495 : decode cL_law 495 = .ok (.iconst 2, 1) := by decide +kernel
theorem dL_law_496 : decode cL_law 496 = .ok (.iadd, 1) := by decide +kernel
theorem dL_law_497 : decode cL_law 497 = .ok (.iaload, 1) := by decide +kernel
theorem dL_law_498 : decode cL_law 498 = .ok (.invokevirtual 81, 3) := by decide +kernel
theorem dL_law_501 : decode cL_law 501 = .ok (.if_icmp .eq 193, 3) := by decide +kernel
theorem dL_law_504 : decode cL_law 504 = .ok (.iconst 0, 1) := by decide +kernel
theorem dL_law_505 : decode cL_law 505 = .ok (.ireturn, 1) := by decide +kernel
theorem dL_law_506 : decode cL_law 506 = .ok (.aload_n 1, 1) := by decide +kernel
theorem dL_law_507 : decode cL_law 507 = .ok (.aload_n 0, 1) := by decide +kernel
theorem dL_law_508 : decode cL_law 508 = .ok (.iload_n 3, 1) := by decide +kernel
theorem dL_law_509 : decode cL_law 509 = .ok (.iconst 1, 1) := by decide +kernel
theorem dL_law_510 : decode cL_law 510 = .ok (.iadd, 1) := by decide +kernel
theorem dL_law_511 : decode cL_law 511 = .ok (.iaload, 1) := by decide +kernel
theorem dL_law_512 : decode cL_law 512 = .ok (.aload_n 0, 1) := by decide +kernel
theorem dL_law_513 : decode cL_law 513 = .ok (.iload_n 3, 1) := by decide +kernel
theorem dL_law_514 : decode cL_law 514 = .ok (.iconst 2, 1) := by decide +kernel
theorem dL_law_515 : decode cL_law 515 = .ok (.iadd, 1) := by decide +kernel
theorem dL_law_516 : decode cL_law 516 = .ok (.iaload, 1) := by decide +kernel
theorem dL_law_517 : decode cL_law 517 = .ok (.invokevirtual 82, 3) := by decide +kernel
theorem dL_law_520 : decode cL_law 520 = .ok (.aload_n 2, 1) := by decide +kernel
theorem dL_law_521 : decode cL_law 521 = .ok (.aload_n 0, 1) := by decide +kernel
theorem dL_law_522 : decode cL_law 522 = .ok (.iload_n 3, 1) := by decide +kernel
theorem dL_law_523 : decode cL_law 523 = .ok (.iconst 1, 1) := by decide +kernel
theorem dL_law_524 : decode cL_law 524 = .ok (.iadd, 1) := by decide +kernel
theorem dL_law_525 : decode cL_law 525 = .ok (.iaload, 1) := by decide +kernel
theorem dL_law_526 : decode cL_law 526 = .ok (.aload_n 0, 1) := by decide +kernel
theorem dL_law_527 : decode cL_law 527 = .ok (.iload_n 3, 1) := by decide +kernel
theorem dL_law_528 : decode cL_law 528 = .ok (.iconst 2, 1) := by decide +kernel
theorem dL_law_529 : decode cL_law 529 = .ok (.iadd, 1) := by decide +kernel
theorem dL_law_530 : decode cL_law 530 = .ok (.iaload, 1) := by decide +kernel
theorem dL_law_531 : decode cL_law 531 = .ok (.invokevirtual 85, 3) := by decide +kernel
theorem dL_law_534 : decode cL_law 534 = .ok (.if_icmp .eq 160, 3) := by decide +kernel
theorem dL_law_537 : decode cL_law 537 = .ok (.iconst 0, 1) := by decide +kernel
theorem dL_law_538 : decode cL_law 538 = .ok (.ireturn, 1) := by decide +kernel
theorem dL_law_539 : decode cL_law 539 = .ok (.aload_n 1, 1) := by decide +kernel
theorem dL_law_540 : decode cL_law 540 = .ok (.aload_n 0, 1) := by decide +kernel
theorem dL_law_541 : decode cL_law 541 = .ok (.iload_n 3, 1) := by decide +kernel
theorem dL_law_542 : decode cL_law 542 = .ok (.iconst 1, 1) := by decide +kernel
theorem dL_law_543 : decode cL_law 543 = .ok (.iadd, 1) := by decide +kernel
theorem dL_law_544 : decode cL_law 544 = .ok (.iaload, 1) := by decide +kernel
theorem dL_law_545 : decode cL_law 545 = .ok (.aload_n 0, 1) := by decide +kernel
theorem dL_law_546 : decode cL_law 546 = .ok (.iload_n 3, 1) := by decide +kernel
theorem dL_law_547 : decode cL_law 547 = .ok (.iconst 2, 1) := by decide +kernel
theorem dL_law_548 : decode cL_law 548 = .ok (.iadd, 1) := by decide +kernel
theorem dL_law_549 : decode cL_law 549 = .ok (.iaload, 1) := by decide +kernel
theorem dL_law_550 : decode cL_law 550 = .ok (.aload_n 0, 1) := by decide +kernel
theorem dL_law_551 : decode cL_law 551 = .ok (.iload_n 3, 1) := by decide +kernel
theorem dL_law_552 : decode cL_law 552 = .ok (.iconst 3, 1) := by decide +kernel
theorem dL_law_553 : decode cL_law 553 = .ok (.iadd, 1) := by decide +kernel
theorem dL_law_554 : decode cL_law 554 = .ok (.iaload, 1) := by decide +kernel
theorem dL_law_555 : decode cL_law 555 = .ok (.invokevirtual 86, 3) := by decide +kernel
theorem dL_law_558 : decode cL_law 558 = .ok (.aload_n 2, 1) := by decide +kernel
theorem dL_law_559 : decode cL_law 559 = .ok (.aload_n 0, 1) := by decide +kernel
theorem dL_law_560 : decode cL_law 560 = .ok (.iload_n 3, 1) := by decide +kernel
theorem dL_law_561 : decode cL_law 561 = .ok (.iconst 1, 1) := by decide +kernel
theorem dL_law_562 : decode cL_law 562 = .ok (.iadd, 1) := by decide +kernel
theorem dL_law_563 : decode cL_law 563 = .ok (.iaload, 1) := by decide +kernel
theorem dL_law_564 : decode cL_law 564 = .ok (.aload_n 0, 1) := by decide +kernel
theorem dL_law_565 : decode cL_law 565 = .ok (.iload_n 3, 1) := by decide +kernel
theorem dL_law_566 : decode cL_law 566 = .ok (.iconst 2, 1) := by decide +kernel
theorem dL_law_567 : decode cL_law 567 = .ok (.iadd, 1) := by decide +kernel
theorem dL_law_568 : decode cL_law 568 = .ok (.iaload, 1) := by decide +kernel
theorem dL_law_569 : decode cL_law 569 = .ok (.aload_n 0, 1) := by decide +kernel
theorem dL_law_570 : decode cL_law 570 = .ok (.iload_n 3, 1) := by decide +kernel
theorem dL_law_571 : decode cL_law 571 = .ok (.iconst 3, 1) := by decide +kernel
theorem dL_law_572 : decode cL_law 572 = .ok (.iadd, 1) := by decide +kernel
theorem dL_law_573 : decode cL_law 573 = .ok (.iaload, 1) := by decide +kernel
theorem dL_law_574 : decode cL_law 574 = .ok (.invokevirtual 89, 3) := by decide +kernel
theorem dL_law_577 : decode cL_law 577 = .ok (.if_icmp .eq 117, 3) := by decide +kernel
theorem dL_law_580 : decode cL_law 580 = .ok (.iconst 0, 1) := by decide +kernel
theorem dL_law_581 : decode cL_law 581 = .ok (.ireturn, 1) := by decide +kernel
theorem dL_law_582 : decode cL_law 582 = .ok (.aload_n 1, 1) := by decide +kernel
theorem dL_law_583 : decode cL_law 583 = .ok (.aload_n 0, 1) := by decide +kernel
theorem dL_law_584 : decode cL_law 584 = .ok (.iload_n 3, 1) := by decide +kernel
theorem dL_law_585 : decode cL_law 585 = .ok (.iconst 1, 1) := by decide +kernel
theorem dL_law_586 : decode cL_law 586 = .ok (.iadd, 1) := by decide +kernel
theorem dL_law_587 : decode cL_law 587 = .ok (.iaload, 1) := by decide +kernel
theorem dL_law_588 : decode cL_law 588 = .ok (.aload_n 0, 1) := by decide +kernel
theorem dL_law_589 : decode cL_law 589 = .ok (.iload_n 3, 1) := by decide +kernel
theorem dL_law_590 : decode cL_law 590 = .ok (.iconst 2, 1) := by decide +kernel
theorem dL_law_591 : decode cL_law 591 = .ok (.iadd, 1) := by decide +kernel
theorem dL_law_592 : decode cL_law 592 = .ok (.iaload, 1) := by decide +kernel
theorem dL_law_593 : decode cL_law 593 = .ok (.invokevirtual 90, 3) := by decide +kernel
theorem dL_law_596 : decode cL_law 596 = .ok (.aload_n 2, 1) := by decide +kernel
theorem dL_law_597 : decode cL_law 597 = .ok (.aload_n 0, 1) := by decide +kernel
theorem dL_law_598 : decode cL_law 598 = .ok (.iload_n 3, 1) := by decide +kernel
theorem dL_law_599 : decode cL_law 599 = .ok (.iconst 1, 1) := by decide +kernel
theorem dL_law_600 : decode cL_law 600 = .ok (.iadd, 1) := by decide +kernel
theorem dL_law_601 : decode cL_law 601 = .ok (.iaload, 1) := by decide +kernel
theorem dL_law_602 : decode cL_law 602 = .ok (.aload_n 0, 1) := by decide +kernel
theorem dL_law_603 : decode cL_law 603 = .ok (.iload_n 3, 1) := by decide +kernel
theorem dL_law_604 : decode cL_law 604 = .ok (.iconst 2, 1) := by decide +kernel
theorem dL_law_605 : decode cL_law 605 = .ok (.iadd, 1) := by decide +kernel
theorem dL_law_606 : decode cL_law 606 = .ok (.iaload, 1) := by decide +kernel
theorem dL_law_607 : decode cL_law 607 = .ok (.invokevirtual 93, 3) := by decide +kernel
theorem dL_law_610 : decode cL_law 610 = .ok (.if_icmp .eq 84, 3) := by decide +kernel
theorem dL_law_613 : decode cL_law 613 = .ok (.iconst 0, 1) := by decide +kernel
theorem dL_law_614 : decode cL_law 614 = .ok (.ireturn, 1) := by decide +kernel
theorem dL_law_615 : decode cL_law 615 = .ok (.aload_n 1, 1) := by decide +kernel
theorem dL_law_616 : decode cL_law 616 = .ok (.aload_n 0, 1) := by decide +kernel
theorem dL_law_617 : decode cL_law 617 = .ok (.iload_n 3, 1) := by decide +kernel
theorem dL_law_618 : decode cL_law 618 = .ok (.iconst 1, 1) := by decide +kernel
theorem dL_law_619 : decode cL_law 619 = .ok (.iadd, 1) := by decide +kernel
theorem dL_law_620 : decode cL_law 620 = .ok (.iaload, 1) := by decide +kernel
theorem dL_law_621 : decode cL_law 621 = .ok (.aload_n 0, 1) := by decide +kernel
theorem dL_law_622 : decode cL_law 622 = .ok (.iload_n 3, 1) := by decide +kernel
theorem dL_law_623 : decode cL_law 623 = .ok (.iconst 2, 1) := by decide +kernel
theorem dL_law_624 : decode cL_law 624 = .ok (.iadd, 1) := by decide +kernel
theorem dL_law_625 : decode cL_law 625 = .ok (.iaload, 1) := by decide +kernel
theorem dL_law_626 : decode cL_law 626 = .ok (.invokevirtual 94, 3) := by decide +kernel
theorem dL_law_629 : decode cL_law 629 = .ok (.aload_n 2, 1) := by decide +kernel
theorem dL_law_630 : decode cL_law 630 = .ok (.aload_n 0, 1) := by decide +kernel
theorem dL_law_631 : decode cL_law 631 = .ok (.iload_n 3, 1) := by decide +kernel
theorem dL_law_632 : decode cL_law 632 = .ok (.iconst 1, 1) := by decide +kernel
theorem dL_law_633 : decode cL_law 633 = .ok (.iadd, 1) := by decide +kernel
theorem dL_law_634 : decode cL_law 634 = .ok (.iaload, 1) := by decide +kernel
theorem dL_law_635 : decode cL_law 635 = .ok (.aload_n 0, 1) := by decide +kernel
theorem dL_law_636 : decode cL_law 636 = .ok (.iload_n 3, 1) := by decide +kernel
theorem dL_law_637 : decode cL_law 637 = .ok (.iconst 2, 1) := by decide +kernel
theorem dL_law_638 : decode cL_law 638 = .ok (.iadd, 1) := by decide +kernel
theorem dL_law_639 : decode cL_law 639 = .ok (.iaload, 1) := by decide +kernel
theorem dL_law_640 : decode cL_law 640 = .ok (.invokevirtual 97, 3) := by decide +kernel
theorem dL_law_643 : decode cL_law 643 = .ok (.if_icmp .eq 51, 3) := by decide +kernel
theorem dL_law_646 : decode cL_law 646 = .ok (.iconst 0, 1) := by decide +kernel
theorem dL_law_647 : decode cL_law 647 = .ok (.ireturn, 1) := by decide +kernel
theorem dL_law_648 : decode cL_law 648 = .ok (.aload_n 1, 1) := by decide +kernel
theorem dL_law_649 : decode cL_law 649 = .ok (.aload_n 0, 1) := by decide +kernel
theorem dL_law_650 : decode cL_law 650 = .ok (.iload_n 3, 1) := by decide +kernel
theorem dL_law_651 : decode cL_law 651 = .ok (.iconst 1, 1) := by decide +kernel
theorem dL_law_652 : decode cL_law 652 = .ok (.iadd, 1) := by decide +kernel
theorem dL_law_653 : decode cL_law 653 = .ok (.iaload, 1) := by decide +kernel
theorem dL_law_654 : decode cL_law 654 = .ok (.invokevirtual 98, 3) := by decide +kernel
theorem dL_law_657 : decode cL_law 657 = .ok (.aload_n 2, 1) := by decide +kernel
theorem dL_law_658 : decode cL_law 658 = .ok (.aload_n 0, 1) := by decide +kernel
theorem dL_law_659 : decode cL_law 659 = .ok (.iload_n 3, 1) := by decide +kernel
theorem dL_law_660 : decode cL_law 660 = .ok (.iconst 1, 1) := by decide +kernel
theorem dL_law_661 : decode cL_law 661 = .ok (.iadd, 1) := by decide +kernel
theorem dL_law_662 : decode cL_law 662 = .ok (.iaload, 1) := by decide +kernel
theorem dL_law_663 : decode cL_law 663 = .ok (.invokevirtual 101, 3) := by decide +kernel
theorem dL_law_666 : decode cL_law 666 = .ok (.if_icmp .eq 28, 3) := by decide +kernel
theorem dL_law_669 : decode cL_law 669 = .ok (.iconst 0, 1) := by decide +kernel
theorem dL_law_670 : decode cL_law 670 = .ok (.ireturn, 1) := by decide +kernel
theorem dL_law_671 : decode cL_law 671 = .ok (.aload_n 1, 1) := by decide +kernel
theorem dL_law_672 : decode cL_law 672 = .ok (.aload_n 0, 1) := by decide +kernel
theorem dL_law_673 : decode cL_law 673 = .ok (.iload_n 3, 1) := by decide +kernel
theorem dL_law_674 : decode cL_law 674 = .ok (.iconst 1, 1) := by decide +kernel
theorem dL_law_675 : decode cL_law 675 = .ok (.iadd, 1) := by decide +kernel
theorem dL_law_676 : decode cL_law 676 = .ok (.iaload, 1) := by decide +kernel
theorem dL_law_677 : decode cL_law 677 = .ok (.invokevirtual 102, 3) := by decide +kernel
theorem dL_law_680 : decode cL_law 680 = .ok (.aload_n 2, 1) := by decide +kernel
theorem dL_law_681 : decode cL_law 681 = .ok (.aload_n 0, 1) := by decide +kernel
theorem dL_law_682 : decode cL_law 682 = .ok (.iload_n 3, 1) := by decide +kernel
theorem dL_law_683 : decode cL_law 683 = .ok (.iconst 1, 1) := by decide +kernel
theorem dL_law_684 : decode cL_law 684 = .ok (.iadd, 1) := by decide +kernel
theorem dL_law_685 : decode cL_law 685 = .ok (.iaload, 1) := by decide +kernel
theorem dL_law_686 : decode cL_law 686 = .ok (.invokevirtual 105, 3) := by decide +kernel
theorem dL_law_689 : decode cL_law 689 = .ok (.if_icmp .eq 5, 3) := by decide +kernel
theorem dL_law_692 : decode cL_law 692 = .ok (.iconst 0, 1) := by decide +kernel
theorem dL_law_693 : decode cL_law 693 = .ok (.ireturn, 1) := by decide +kernel
theorem dL_law_694 : decode cL_law 694 = .ok (.iinc 3 4, 3) := by decide +kernel
theorem dL_law_697 : decode cL_law 697 = .ok (.goto (-679), 3) := by decide +kernel
theorem dL_law_700 : decode cL_law 700 = .ok (.iconst 1, 1) := by decide +kernel
theorem dL_law_701 : decode cL_law 701 = .ok (.ireturn, 1) := by decide +kernel
abbrev vwCl : List vw_C := [(RX0, TX0, 12), (RX1, TX1, 2), (RX2, TX2, 7), (RX3, TX3, 6), (RX4, TX4, 11)]
end
section
/-! WORLDS: the cells of one WireLoops (wX) and of one WireLoopsModel (wM), at addresses A, B; contracts Mp (reads), Mm (answers an int and changes its world), Mz (void); their calls -/
abbrev GG : Type := va_G × ClassId × ClassId × ClassId
def gTy (G : GG) : List (ClassId × FieldType) := [(G.2.1, .int), (G.2.2.1, .char), (G.2.2.2, .object "WireLoops$Chip")]
def nestW : List Cond := [
  .fieldLinkNest "WireLoops" 183 "WireLoops$Chip" "laid" "I" "WireLoops",
  .fieldLinkNest "WireLoops" 107 "WireLoops$Chip" "width" "I" "WireLoops",
  .fieldLinkNest "WireLoops" 111 "WireLoops$Chip" "wear" "I" "WireLoops",
  .fieldLinkNest "WireLoops" 114 "WireLoops$Chip" "toolsChanged" "I" "WireLoops",
  .fieldLinkNest "WireLoops" 117 "WireLoops$Chip" "tailLost" "Z" "WireLoops",
  .fieldLinkNest "WireLoops" 120 "WireLoops$Chip" "tailsLost" "I" "WireLoops",
  .fieldLinkNest "WireLoops" 192 "WireLoops$Chip" "broken" "I" "WireLoops",
  .methodLinkNest RX3 35 yX2_init RX3,
  .methodLinkNest RX0 62 yX3_isPad RX3,
  .methodLinkNest RX1 33 yX3_isWithin RX3,
  .methodLinkNest RX0 66 yX3_isLead RX3,
  .methodLinkNest RX0 113 yX3_padX RX3,
  .methodLinkNest RX2 36 yX3_isWithin RX3,
  .methodLinkNest RX0 136 yX3_loopAt RX3]
def nestOk (U : State) : Prop := ∀ w ∈ nestW, va_Nw w U
def KN (G : GG) (U : State) : Prop := va_K G.1 vwCl (gTy G) U ∧ nestOk U
theorem nestOk.warm {s U : State} (hW : s.WarmedH U.vm) (h : nestOk s) : nestOk U := by
  intro w hw
  have h1 := h w hw
  simp only [nestW, List.mem_cons, List.not_mem_nil, or_false] at hw
  rcases hw with rfl | rfl | rfl | rfl | rfl | rfl | rfl | rfl | rfl | rfl | rfl | rfl | rfl | rfl <;> first | exact va_Nw.warmF hW h1 | exact va_Nw.warmM hW h1
theorem nestOk.same {u U : State} (e : u.vm = U.vm) (h : nestOk u) : nestOk U := by
  intro w hw
  have h1 := h w hw
  simp only [nestW, List.mem_cons, List.not_mem_nil, or_false] at hw
  rcases hw with rfl | rfl | rfl | rfl | rfl | rfl | rfl | rfl | rfl | rfl | rfl | rfl | rfl | rfl <;> exact va_Nw.same rfl e h1
theorem KN.warm {G : GG} {s U : State} (hW : s.WarmedH U.vm) (h : KN G s) : KN G U := ⟨va_K.moved hW.alike h.1, nestOk.warm hW h.2⟩
theorem KN.same {G : GG} {u U : State} (e : u.vm = U.vm) (h : KN G u) : KN G U := ⟨va_K.moved (by rw [e]; exact Vm.Alike.refl U.vm) h.1, nestOk.same e h.2⟩
/-- the world of a WireLoops: chip i of 0..6 at A (6 i) .. A (6 i + 5); the object, the history, its row, the list, its four rows at A 42 .. A 49; r: how often the row of the history was turned -/
abbrev XS : Type := Nat → Nat → Nat → Int32
def chF (A : Nat → Nat) (S : XS) (i : Nat) : List Value := [.ref (A (6 * i + 1)), .ref (A (6 * i + 2)), .ref (A (6 * i + 3)), .ref (A (6 * i + 4)), .ref (A (6 * i + 5)), .int (S i 0 0), .int (S i 0 1), .int (S i 0 2), .int (S i 0 3), .int (S i 0 4), .int (S i 0 5), .int (S i 0 6)]
def wCh (G : GG) (A : Nat → Nat) (S : XS) (i : Nat) : va_W := [(A (6 * i), .inr (0, chF A S i)), (A (6 * i + 1), .inl (G.2.1, 16, .inl (S i 1))), (A (6 * i + 2), .inl (G.2.1, 12, .inl (S i 2))), (A (6 * i + 3), .inl (G.2.1, 12, .inl (S i 3))), (A (6 * i + 4), .inl (G.2.1, 12, .inl (S i 4))), (A (6 * i + 5), .inl (G.2.1, 12, .inl (S i 5)))]
def kfX (A : Nat → Nat) (r : Nat) : Nat → Option Nat := fun k => some (A (6 * (3 + (k + r) % 4)))
def obF (A : Nat → Nat) (S : XS) : List Value := [.ref (A (6 * 0)), .ref (A (6 * 1)), .ref (A (6 * 2)), .int (S 7 0 0), .ref (A 43), .ref (A 45)]
def hiF (A : Nat → Nat) (S : XS) : List Value := [.ref (A 44), .int (S 7 0 1)]
def liF (A : Nat → Nat) (S : XS) : List Value := [.ref (A 46), .int (S 7 0 2), .int (S 7 0 3), .ref (A 47), .ref (A 48), .ref (A 49), .int (S 7 0 4)]
def wRest (G : GG) (A : Nat → Nat) (S : XS) (r : Nat) : va_W := [(A 42, .inr (3, obF A S)), (A 43, .inr (1, hiF A S)), (A 44, .inl (G.2.2.2, 4, .inr (.inr (.inr (.inr (kfX A r)))))), (A 45, .inr (2, liF A S)), (A 46, .inl (G.2.2.1, 80, .inl (S 7 1))), (A 47, .inl (G.2.1, 20, .inl (S 7 2))), (A 48, .inl (G.2.1, 20, .inl (S 7 3))), (A 49, .inl (G.2.1, 20, .inl (S 7 4)))]
def wX (G : GG) (A : Nat → Nat) (S : XS) (r : Nat) : va_W := wCh G A S 0 ++ (wCh G A S 1 ++ (wCh G A S 2 ++ (wCh G A S 3 ++ (wCh G A S 4 ++ (wCh G A S 5 ++ (wCh G A S 6 ++ wRest G A S r))))))
theorem wX_o (G : GG) (A : Nat → Nat) (S : XS) (r i : Nat) (h : i < 7) : (wX G A S r)[6 * i]? = some (A (6 * i), .inr (0, chF A S i)) := by
  match i, h with
  | 0, _ => rfl
  | 1, _ => rfl
  | 2, _ => rfl
  | 3, _ => rfl
  | 4, _ => rfl
  | 5, _ => rfl
  | 6, _ => rfl
theorem wX_1 (G : GG) (A : Nat → Nat) (S : XS) (r i : Nat) (h : i < 7) : (wX G A S r)[6 * i + 1]? = some (A (6 * i + 1), .inl (G.2.1, 16, .inl (S i 1))) := by
  match i, h with
  | 0, _ => rfl
  | 1, _ => rfl
  | 2, _ => rfl
  | 3, _ => rfl
  | 4, _ => rfl
  | 5, _ => rfl
  | 6, _ => rfl
theorem wX_c (G : GG) (A : Nat → Nat) (S : XS) (r i c : Nat) (h : i < 7) (h2 : 2 ≤ c) (h5 : c ≤ 5) : (wX G A S r)[6 * i + c]? = some (A (6 * i + c), .inl (G.2.1, 12, .inl (S i c))) := by
  rcases (show c = 2 ∨ c = 3 ∨ c = 4 ∨ c = 5 by omega) with rfl | rfl | rfl | rfl <;> rcases (show i = 0 ∨ i = 1 ∨ i = 2 ∨ i = 3 ∨ i = 4 ∨ i = 5 ∨ i = 6 by omega) with rfl | rfl | rfl | rfl | rfl | rfl | rfl <;> rfl
theorem wX_42 (G : GG) (A : Nat → Nat) (S : XS) (r : Nat) : (wX G A S r)[42]? = some (A 42, .inr (3, obF A S)) := rfl
theorem wX_43 (G : GG) (A : Nat → Nat) (S : XS) (r : Nat) : (wX G A S r)[43]? = some (A 43, .inr (1, hiF A S)) := rfl
theorem wX_44 (G : GG) (A : Nat → Nat) (S : XS) (r : Nat) : (wX G A S r)[44]? = some (A 44, .inl (G.2.2.2, 4, .inr (.inr (.inr (.inr (kfX A r)))))) := rfl
theorem wX_45 (G : GG) (A : Nat → Nat) (S : XS) (r : Nat) : (wX G A S r)[45]? = some (A 45, .inr (2, liF A S)) := rfl
theorem wX_46 (G : GG) (A : Nat → Nat) (S : XS) (r : Nat) : (wX G A S r)[46]? = some (A 46, .inl (G.2.2.1, 80, .inl (S 7 1))) := rfl
theorem wX_47 (G : GG) (A : Nat → Nat) (S : XS) (r : Nat) : (wX G A S r)[47]? = some (A 47, .inl (G.2.1, 20, .inl (S 7 2))) := rfl
theorem wX_48 (G : GG) (A : Nat → Nat) (S : XS) (r : Nat) : (wX G A S r)[48]? = some (A 48, .inl (G.2.1, 20, .inl (S 7 3))) := rfl
theorem wX_49 (G : GG) (A : Nat → Nat) (S : XS) (r : Nat) : (wX G A S r)[49]? = some (A 49, .inl (G.2.1, 20, .inl (S 7 4))) := rfl
/-- row c of part i becomes f -/
def su (S : XS) (i c : Nat) (f : Nat → Int32) : XS := fun i' c' => if i' = i ∧ c' = c then f else S i' c'
theorem wX_s1 (G : GG) (A : Nat → Nat) (S : XS) (r i : Nat) (h : i < 7) (f : Nat → Int32) : (wX G A S r).set (6 * i + 1) (A (6 * i + 1), .inl (G.2.1, 16, .inl f)) = wX G A (su S i 1 f) r := by
  rcases (show i = 0 ∨ i = 1 ∨ i = 2 ∨ i = 3 ∨ i = 4 ∨ i = 5 ∨ i = 6 by omega) with rfl | rfl | rfl | rfl | rfl | rfl | rfl <;> rfl
theorem wX_sc (G : GG) (A : Nat → Nat) (S : XS) (r i c : Nat) (h : i < 7) (h2 : 2 ≤ c) (h5 : c ≤ 5) (f : Nat → Int32) : (wX G A S r).set (6 * i + c) (A (6 * i + c), .inl (G.2.1, 12, .inl f)) = wX G A (su S i c f) r := by
  rcases (show c = 2 ∨ c = 3 ∨ c = 4 ∨ c = 5 by omega) with rfl | rfl | rfl | rfl <;> rcases (show i = 0 ∨ i = 1 ∨ i = 2 ∨ i = 3 ∨ i = 4 ∨ i = 5 ∨ i = 6 by omega) with rfl | rfl | rfl | rfl | rfl | rfl | rfl <;> rfl
theorem wX_so (G : GG) (A : Nat → Nat) (S : XS) (r i k : Nat) (h : i < 7) (hk : k < 7) (v : Int32) : (wX G A S r).set (6 * i) (A (6 * i), .inr (0, (chF A S i).set (5 + k) (.int v))) = wX G A (su S i 0 (upd (S i 0) k v)) r := by
  rcases (show k = 0 ∨ k = 1 ∨ k = 2 ∨ k = 3 ∨ k = 4 ∨ k = 5 ∨ k = 6 by omega) with rfl | rfl | rfl | rfl | rfl | rfl | rfl <;> rcases (show i = 0 ∨ i = 1 ∨ i = 2 ∨ i = 3 ∨ i = 4 ∨ i = 5 ∨ i = 6 by omega) with rfl | rfl | rfl | rfl | rfl | rfl | rfl <;> rfl
theorem wX_s42 (G : GG) (A : Nat → Nat) (S : XS) (r : Nat) (v : Int32) : (wX G A S r).set 42 (A 42, .inr (3, (obF A S).set 3 (.int v))) = wX G A (su S 7 0 (upd (S 7 0) 0 v)) r := rfl
theorem wX_s43 (G : GG) (A : Nat → Nat) (S : XS) (r : Nat) (v : Int32) : (wX G A S r).set 43 (A 43, .inr (1, (hiF A S).set 1 (.int v))) = wX G A (su S 7 0 (upd (S 7 0) 1 v)) r := rfl
theorem wX_s45_1 (G : GG) (A : Nat → Nat) (S : XS) (r : Nat) (v : Int32) : (wX G A S r).set 45 (A 45, .inr (2, (liF A S).set 1 (.int v))) = wX G A (su S 7 0 (upd (S 7 0) 2 v)) r := rfl
theorem wX_s45_2 (G : GG) (A : Nat → Nat) (S : XS) (r : Nat) (v : Int32) : (wX G A S r).set 45 (A 45, .inr (2, (liF A S).set 2 (.int v))) = wX G A (su S 7 0 (upd (S 7 0) 3 v)) r := rfl
theorem wX_s45_6 (G : GG) (A : Nat → Nat) (S : XS) (r : Nat) (v : Int32) : (wX G A S r).set 45 (A 45, .inr (2, (liF A S).set 6 (.int v))) = wX G A (su S 7 0 (upd (S 7 0) 4 v)) r := rfl
theorem wX_s46 (G : GG) (A : Nat → Nat) (S : XS) (r : Nat) (f : Nat → Int32) : (wX G A S r).set 46 (A 46, .inl (G.2.2.1, 80, .inl f)) = wX G A (su S 7 1 f) r := rfl
theorem wX_s47 (G : GG) (A : Nat → Nat) (S : XS) (r : Nat) (f : Nat → Int32) : (wX G A S r).set 47 (A 47, .inl (G.2.1, 20, .inl f)) = wX G A (su S 7 2 f) r := rfl
theorem wX_s48 (G : GG) (A : Nat → Nat) (S : XS) (r : Nat) (f : Nat → Int32) : (wX G A S r).set 48 (A 48, .inl (G.2.1, 20, .inl f)) = wX G A (su S 7 3 f) r := rfl
theorem wX_s49 (G : GG) (A : Nat → Nat) (S : XS) (r : Nat) (f : Nat → Int32) : (wX G A S r).set 49 (A 49, .inl (G.2.1, 20, .inl f)) = wX G A (su S 7 4 f) r := rfl
/-- the world of a WireLoopsModel: the object at B 0, now, then, past, snapshot, text, told at B 1 .. B 6; its numbers: T 0 -/
abbrev MS : Type := Nat → Nat → Int32
def moF (B : Nat → Nat) (T : MS) : List Value := [.ref (B 1), .ref (B 2), .ref (B 3), .int (T 0 0), .ref (B 4), .int (T 0 1), .ref (B 5), .int (T 0 2), .int (T 0 3), .ref (B 6), .int (T 0 4)]
def wM (G : GG) (B : Nat → Nat) (T : MS) : va_W := [(B 0, .inr (4, moF B T)), (B 1, .inl (G.2.1, 71, .inl (T 1))), (B 2, .inl (G.2.1, 71, .inl (T 2))), (B 3, .inl (G.2.1, 284, .inl (T 3))), (B 4, .inl (G.2.1, 71, .inl (T 4))), (B 5, .inl (G.2.2.1, 80, .inl (T 5))), (B 6, .inl (G.2.1, 63, .inl (T 6)))]
def lenM (j : Nat) : Nat := if j = 3 then 284 else 71
def tu (T : MS) (j : Nat) (f : Nat → Int32) : MS := fun j' => if j' = j then f else T j'
theorem wM_o (G : GG) (B : Nat → Nat) (T : MS) : (wM G B T)[0]? = some (B 0, .inr (4, moF B T)) := rfl
theorem wM_j (G : GG) (B : Nat → Nat) (T : MS) (j : Nat) (h1 : 1 ≤ j) (h4 : j ≤ 4) : (wM G B T)[j]? = some (B j, .inl (G.2.1, lenM j, .inl (T j))) := by
  rcases (show j = 1 ∨ j = 2 ∨ j = 3 ∨ j = 4 by omega) with rfl | rfl | rfl | rfl <;> rfl
theorem wM_5 (G : GG) (B : Nat → Nat) (T : MS) : (wM G B T)[5]? = some (B 5, .inl (G.2.2.1, 80, .inl (T 5))) := rfl
theorem wM_6 (G : GG) (B : Nat → Nat) (T : MS) : (wM G B T)[6]? = some (B 6, .inl (G.2.1, 63, .inl (T 6))) := rfl
theorem wM_sj (G : GG) (B : Nat → Nat) (T : MS) (j : Nat) (h1 : 1 ≤ j) (h4 : j ≤ 4) (f : Nat → Int32) : (wM G B T).set j (B j, .inl (G.2.1, lenM j, .inl f)) = wM G B (tu T j f) := by
  rcases (show j = 1 ∨ j = 2 ∨ j = 3 ∨ j = 4 by omega) with rfl | rfl | rfl | rfl <;> rfl
theorem wM_s5 (G : GG) (B : Nat → Nat) (T : MS) (f : Nat → Int32) : (wM G B T).set 5 (B 5, .inl (G.2.2.1, 80, .inl f)) = wM G B (tu T 5 f) := rfl
theorem wM_s6 (G : GG) (B : Nat → Nat) (T : MS) (f : Nat → Int32) : (wM G B T).set 6 (B 6, .inl (G.2.1, 63, .inl f)) = wM G B (tu T 6 f) := rfl
theorem wM_so3 (G : GG) (B : Nat → Nat) (T : MS) (v : Int32) : (wM G B T).set 0 (B 0, .inr (4, (moF B T).set 3 (.int v))) = wM G B (tu T 0 (upd (T 0) 0 v)) := rfl
theorem wM_so5 (G : GG) (B : Nat → Nat) (T : MS) (v : Int32) : (wM G B T).set 0 (B 0, .inr (4, (moF B T).set 5 (.int v))) = wM G B (tu T 0 (upd (T 0) 1 v)) := rfl
theorem wM_so7 (G : GG) (B : Nat → Nat) (T : MS) (v : Int32) : (wM G B T).set 0 (B 0, .inr (4, (moF B T).set 7 (.int v))) = wM G B (tu T 0 (upd (T 0) 2 v)) := rfl
theorem wM_so8 (G : GG) (B : Nat → Nat) (T : MS) (v : Int32) : (wM G B T).set 0 (B 0, .inr (4, (moF B T).set 8 (.int v))) = wM G B (tu T 0 (upd (T 0) 3 v)) := rfl
theorem wM_so10 (G : GG) (B : Nat → Nat) (T : MS) (v : Int32) : (wM G B T).set 0 (B 0, .inr (4, (moF B T).set 10 (.int v))) = wM G B (tu T 0 (upd (T 0) 4 v)) := rfl
/-! CONTRACTS -/
def Mp (l : Launch) (y : MethodName) (ws : List Cond) (rm : Room) (G : GG) (av : List Value) (w : va_W) (res : Int32) : Prop :=
  Met l y ws rm (va_Pc av (fun U => va_P G.1 vwCl w U.heap ∧ KN G U)) (vp_Si (fun r => r = res)) 0 0 (fun _ => False)
def Mm (l : Launch) (y : MethodName) (ws : List Cond) (rm : Room) (G : GG) (av : List Value) (w : va_W) (res : Int32) (w' : va_W) : Prop :=
  ∀ sz : Nat, Met l y ws rm (va_Pc av (fun U => U.heap.size = sz ∧ va_P G.1 vwCl w U.heap ∧ KN G U ∧ va_D (fun _ => True) w)) (va_Qi (fun (r : Int32) (_ : Unit) => r = res) (fun _ t => va_P G.1 vwCl w' t.heap ∧ va_D (va_A w sz) w') (va_A w sz)) 0 0 (va_A w sz)
def Mz (l : Launch) (y : MethodName) (ws : List Cond) (rm : Room) (G : GG) (av : List Value) (w : va_W) (w' : va_W) : Prop :=
  ∀ sz : Nat, Met l y ws rm (va_Pc av (fun U => U.heap.size = sz ∧ va_P G.1 vwCl w U.heap ∧ KN G U ∧ va_D (fun _ => True) w)) (va_Qv (fun (_ : Unit) => True) (fun _ t => va_P G.1 vwCl w' t.heap ∧ va_D (va_A w sz) w') (va_A w sz)) 0 0 (va_A w sz)
theorem Mp_blind {G : GG} {av : List Value} {w : va_W} : FrameBlind (va_Pc av (fun U => va_P G.1 vwCl w U.heap ∧ KN G U)) := fun a U g mk q => by
  obtain ⟨q0, qP, qK⟩ := q
  exact ⟨q0, qP, KN.same (u := U) (U := U.calling g mk a) rfl qK⟩
theorem Mm_blind {G : GG} {av : List Value} {w : va_W} {sz : Nat} : FrameBlind (va_Pc av (fun U => U.heap.size = sz ∧ va_P G.1 vwCl w U.heap ∧ KN G U ∧ va_D (fun _ => True) w)) := fun a U g mk q => by
  obtain ⟨q0, qz, qP, qK, qD⟩ := q
  exact ⟨q0, qz, qP, KN.same (u := U) (U := U.calling g mk a) rfl qK, qD⟩
/-! a method's start: what each walk begins with -/
theorem Mp.of {l : Launch} {y : MethodName} {ws ws' : List Cond} {rm : Room} {G : GG} {av : List Value} {w : va_W} {res : Int32} {cc : ByteArray} {maxL : Nat} {ret : Option FieldType} (hy : plainName y.cls = true) (hw : ws = Cond.code y cc maxL ret :: ws') (hn : (lg_sl av).length ≤ maxL)
    (body : ∀ (p : Program) (e : Env) (s : State) (m : MethodId) (args : Array Value) (below : List Frame) (meth : Method) (c : Code), CallFix p m c cc maxL s args ws y.cls → meth.sig.returnType = ret → meth.locks = false → va_P G.1 vwCl w s.heap → KN G s → ∀ ls : Array Slot, lv_has ls maxL (lv_args 0 av) → W p l e rm s m args below meth c s.heap [] 0 0 (MQ below (vp_Si (fun r => r = res)) args s 0 0 (fun _ => False)) (F0 m 0 ls [])) : Mp l y ws rm G av w res := by
  refine Met.ofW (cc := cc) (maxL := maxL) (ret := ret) hy hw ?_
  intro p e s m args below meth c s₁ B hml hv
  obtain ⟨rfl, hP, hK⟩ := hv
  have hts := atoms_spec (ws := ws) B.pre
  have hl := lv_entry av (n := maxL) hn
  rw [lg_entry_eq]
  exact body p e s m _ below meth c ⟨B.exec, B.bytes, hml, findClass_of_methodNamed B.named, hts⟩ B.returns B.notSynchronized hP hK _ hl
theorem Mm.of {l : Launch} {y : MethodName} {ws ws' : List Cond} {rm : Room} {G : GG} {av : List Value} {w : va_W} {res : Int32} {w' : va_W} {cc : ByteArray} {maxL : Nat} {ret : Option FieldType} (hy : plainName y.cls = true) (hw : ws = Cond.code y cc maxL ret :: ws') (hn : (lg_sl av).length ≤ maxL)
    (body : ∀ (p : Program) (e : Env) (s : State) (m : MethodId) (args : Array Value) (below : List Frame) (meth : Method) (c : Code) (A0 : Nat → Prop), A0 = va_A w s.heap.size → CallFix p m c cc maxL s args ws y.cls → meth.sig.returnType = ret → meth.locks = false → va_P G.1 vwCl w s.heap → KN G s → va_D A0 w → (∀ q : Nat, s.heap.size ≤ q → A0 q) → va_S A0 s.heap s.heap [] → ∀ ls : Array Slot, lv_has ls maxL (lv_args 0 av) → W p l e rm s m args below meth c s.heap [] 0 0 (MQ below (va_Qi (fun (r : Int32) (_ : Unit) => r = res) (fun _ t => va_P G.1 vwCl w' t.heap ∧ va_D A0 w') A0) args s 0 0 A0) (F0 m 0 ls [])) : Mm l y ws rm G av w res w' := by
  intro sz
  refine Met.ofW (cc := cc) (maxL := maxL) (ret := ret) hy hw ?_
  intro p e s m args below meth c s₁ B hml hv
  obtain ⟨rfl, hsz, hP, hK, hD0⟩ := hv
  subst hsz
  have hts := atoms_spec (ws := ws) B.pre
  have hl := lv_entry av (n := maxL) hn
  rw [lg_entry_eq]
  exact body p e s m _ below meth c _ rfl ⟨B.exec, B.bytes, hml, findClass_of_methodNamed B.named, hts⟩ B.returns B.notSynchronized hP hK hD0.self (fun q h => Or.inr h) va_S.rf _ hl
theorem Mz.of {l : Launch} {y : MethodName} {ws ws' : List Cond} {rm : Room} {G : GG} {av : List Value} {w : va_W} {w' : va_W} {cc : ByteArray} {maxL : Nat} {ret : Option FieldType} (hy : plainName y.cls = true) (hw : ws = Cond.code y cc maxL ret :: ws') (hn : (lg_sl av).length ≤ maxL)
    (body : ∀ (p : Program) (e : Env) (s : State) (m : MethodId) (args : Array Value) (below : List Frame) (meth : Method) (c : Code) (A0 : Nat → Prop), A0 = va_A w s.heap.size → CallFix p m c cc maxL s args ws y.cls → meth.sig.returnType = ret → meth.locks = false → va_P G.1 vwCl w s.heap → KN G s → va_D A0 w → (∀ q : Nat, s.heap.size ≤ q → A0 q) → va_S A0 s.heap s.heap [] → ∀ ls : Array Slot, lv_has ls maxL (lv_args 0 av) → W p l e rm s m args below meth c s.heap [] 0 0 (MQ below (va_Qv (fun (_ : Unit) => True) (fun _ t => va_P G.1 vwCl w' t.heap ∧ va_D A0 w') A0) args s 0 0 A0) (F0 m 0 ls [])) : Mz l y ws rm G av w w' := by
  intro sz
  refine Met.ofW (cc := cc) (maxL := maxL) (ret := ret) hy hw ?_
  intro p e s m args below meth c s₁ B hml hv
  obtain ⟨rfl, hsz, hP, hK, hD0⟩ := hv
  subst hsz
  have hts := atoms_spec (ws := ws) B.pre
  have hl := lv_entry av (n := maxL) hn
  rw [lg_entry_eq]
  exact body p e s m _ below meth c _ rfl ⟨B.exec, B.bytes, hml, findClass_of_methodNamed B.named, hts⟩ B.returns B.notSynchronized hP hK hD0.self (fun q h => Or.inr h) va_S.rf _ hl
/-! CALLS -/
section CALLS
variable {p : Program} {l : Launch} {e : Env} {R : Room} {s : State} {m : MethodId} {args : Array Value} {below : List Frame} {meth : Method} {c : Code} {H H0 : Heap} {locs : List Loc} {cells slots : Nat} {Q : State → Prop}
variable {Ts ws : List Cond} {cc bytes : ByteArray} {nL maxL index n pc : Nat} {own C : String} {y : MethodName} {ret : Option FieldType} {rm : Room} {ls : Array Slot} {rest st0 As : List Value} {G : GG} {b : Nat} {w w' : va_W} {res : Int32} {A0 : Nat → Prop}
theorem free_w (hD : va_D A0 w) (hS : va_S A0 H0 H locs) (hA : ∀ q, H0.size ≤ q → A0 q) : ∀ q, va_A w H.size q → A0 q := by
  intro q h
  rcases h with ⟨k, e, h⟩ | h
  · exact hD.2 k (q, e) h
  · exact hA q (Nat.le_trans hS.1 h)
theorem cpV (S : CallFix p m c cc nL s args Ts own) (hM : Mp l y ws rm G (.ref b :: As) w res) (cw : CallW R s args own C index y bytes maxL ret ws rm 0 0 n) (hK : KN G s) (hP : va_P G.1 vwCl w H) (q0 : Nat) {ci N : Nat} {T : u_T} {fs : List Value} (he : w[q0]? = some (b, .inr (ci, fs))) (hc : vwCl[ci]? = some (C, T, N)) (hn : As.length = n) (hl : ls.size = nL) (hst : st0 = As.reverse ++ .ref b :: rest) (hW : (rest.map fun v => v.category).sum ≤ 8) (hdg : decode cc pc = .ok (.invokevirtual index, 3)) (hf : cells ≤ R.cells ∧ slots ≤ R.slots)
    (kk : W p l e R s m args below meth c H locs cells slots Q (F0 m (pc + 3) ls (.int res :: rest))) : W p l e R s m args below meth c H locs cells slots Q (F0 m pc ls st0) :=
  vp_callSi (W.runV S hM cw ⟨Mp_blind, va_recv hK.1 hP hc he, fun U hU hW => ⟨rfl, by rw [hU]; exact hP, KN.warm hW hK⟩⟩ rfl hn hl hst (lv_room hW) hdg hf) (fun r hr => by rw [hr]; exact kk)
theorem cpS (S : CallFix p m c cc nL s args Ts own) (hM : Mp l y ws rm G As w res) (cw : CallB R s args own index y bytes maxL ret ws rm 0 0 n ∧ (Cond.static y).before args s = true) (hK : KN G s) (hP : va_P G.1 vwCl w H) (hn : As.length = n) (hl : ls.size = nL) (hst : st0 = As.reverse ++ rest) (hW : (rest.map fun v => v.category).sum ≤ 8) (hdg : decode cc pc = .ok (.invokestatic index, 3)) (hf : cells ≤ R.cells ∧ slots ≤ R.slots)
    (kk : W p l e R s m args below meth c H locs cells slots Q (F0 m (pc + 3) ls (.int res :: rest))) : W p l e R s m args below meth c H locs cells slots Q (F0 m pc ls st0) :=
  vp_callSi (W.runS S hM cw ⟨Mp_blind, fun U hU hW => ⟨rfl, by rw [hU]; exact hP, KN.warm hW hK⟩⟩ rfl hn hl hst (lv_room hW) hdg hf) (fun r hr => by rw [hr]; exact kk)
theorem cpN {host : String} (S : CallFix p m c cc nL s args Ts own) (hM : Mp l y ws rm G As w res) (cw : va_CN R s args own index y host bytes maxL ret ws rm 0 0 n) (hstat : (Cond.static y).before args s = true) (hK : KN G s) (hP : va_P G.1 vwCl w H) (hn : As.length = n) (hl : ls.size = nL) (hst : st0 = As.reverse ++ rest) (hW : (rest.map fun v => v.category).sum ≤ 8) (hdg : decode cc pc = .ok (.invokestatic index, 3)) (hf : cells ≤ R.cells ∧ slots ≤ R.slots)
    (kk : W p l e R s m args below meth c H locs cells slots Q (F0 m (pc + 3) ls (.int res :: rest))) : W p l e R s m args below meth c H locs cells slots Q (F0 m pc ls st0) :=
  vp_callSi (va_Run.run (va_runSN S hM ⟨cw, hstat, trivial⟩ ⟨Mp_blind, fun U hU hW => ⟨rfl, by rw [hU]; exact hP, KN.warm hW hK⟩⟩ rfl hn hl hst (lv_room hW) hdg hf)) (fun r hr => by rw [hr]; exact kk)
theorem cmV (S : CallFix p m c cc nL s args Ts own) (hM : Mm l y ws rm G (.ref b :: As) w res w') (cw : CallW R s args own C index y bytes maxL ret ws rm 0 0 n) (hK : KN G s) (hP : va_P G.1 vwCl w H) (hD : va_D A0 w) (hS : va_S A0 H0 H locs) (hA : ∀ q, H0.size ≤ q → A0 q) (q0 : Nat) {ci N : Nat} {T : u_T} {fs : List Value} (he : w[q0]? = some (b, .inr (ci, fs))) (hc : vwCl[ci]? = some (C, T, N)) (hn : As.length = n) (hl : ls.size = nL) (hst : st0 = As.reverse ++ .ref b :: rest) (hW : (rest.map fun v => v.category).sum ≤ 8) (hdg : decode cc pc = .ok (.invokevirtual index, 3)) (hf : cells ≤ R.cells ∧ slots ≤ R.slots)
    (kk : ∀ (H1 : Heap) (locs1 : List Loc), va_P G.1 vwCl w' H1 → va_D A0 w' → va_S A0 H0 H1 locs1 → W p l e R s m args below meth c H1 locs1 cells slots Q (F0 m (pc + 3) ls (.int res :: rest))) : W p l e R s m args below meth c H locs cells slots Q (F0 m pc ls st0) :=
  va_calli (va_runV S (hM H.size) cw ⟨Mm_blind, va_recv hK.1 hP hc he, fun U hU hW => ⟨rfl, by rw [hU], by rw [hU]; exact hP, KN.warm hW hK, hD.weaken (fun _ _ _ _ => trivial)⟩⟩ rfl hn hl hst (lv_room hW) hdg hf) hS (fun q _ h => free_w hD hS hA q h) (free_w hD hS hA) (fun r u t H1 locs1 ht hvm hw hB hz hk hS1 => by rw [hw]; exact kk H1 locs1 (by rw [← ht]; exact hB.1) (hB.2.weaken (fun _ _ _ h => free_w hD hS hA _ h)) hS1)
theorem cmS (S : CallFix p m c cc nL s args Ts own) (hM : Mm l y ws rm G As w res w') (cw : CallB R s args own index y bytes maxL ret ws rm 0 0 n ∧ (Cond.static y).before args s = true) (hK : KN G s) (hP : va_P G.1 vwCl w H) (hD : va_D A0 w) (hS : va_S A0 H0 H locs) (hA : ∀ q, H0.size ≤ q → A0 q) (hn : As.length = n) (hl : ls.size = nL) (hst : st0 = As.reverse ++ rest) (hW : (rest.map fun v => v.category).sum ≤ 8) (hdg : decode cc pc = .ok (.invokestatic index, 3)) (hf : cells ≤ R.cells ∧ slots ≤ R.slots)
    (kk : ∀ (H1 : Heap) (locs1 : List Loc), va_P G.1 vwCl w' H1 → va_D A0 w' → va_S A0 H0 H1 locs1 → W p l e R s m args below meth c H1 locs1 cells slots Q (F0 m (pc + 3) ls (.int res :: rest))) : W p l e R s m args below meth c H locs cells slots Q (F0 m pc ls st0) :=
  va_calli (va_runS S (hM H.size) cw ⟨Mm_blind, fun U hU hW => ⟨rfl, by rw [hU], by rw [hU]; exact hP, KN.warm hW hK, hD.weaken (fun _ _ _ _ => trivial)⟩⟩ rfl hn hl hst (lv_room hW) hdg hf) hS (fun q _ h => free_w hD hS hA q h) (free_w hD hS hA) (fun r u t H1 locs1 ht hvm hw hB hz hk hS1 => by rw [hw]; exact kk H1 locs1 (by rw [← ht]; exact hB.1) (hB.2.weaken (fun _ _ _ h => free_w hD hS hA _ h)) hS1)
theorem czV (S : CallFix p m c cc nL s args Ts own) (hM : Mz l y ws rm G (.ref b :: As) w w') (cw : CallW R s args own C index y bytes maxL ret ws rm 0 0 n) (hK : KN G s) (hP : va_P G.1 vwCl w H) (hD : va_D A0 w) (hS : va_S A0 H0 H locs) (hA : ∀ q, H0.size ≤ q → A0 q) (q0 : Nat) {ci N : Nat} {T : u_T} {fs : List Value} (he : w[q0]? = some (b, .inr (ci, fs))) (hc : vwCl[ci]? = some (C, T, N)) (hn : As.length = n) (hl : ls.size = nL) (hst : st0 = As.reverse ++ .ref b :: rest) (hW : (rest.map fun v => v.category).sum ≤ 8) (hdg : decode cc pc = .ok (.invokevirtual index, 3)) (hf : cells ≤ R.cells ∧ slots ≤ R.slots)
    (kk : ∀ (H1 : Heap) (locs1 : List Loc), va_P G.1 vwCl w' H1 → va_D A0 w' → va_S A0 H0 H1 locs1 → W p l e R s m args below meth c H1 locs1 cells slots Q (F0 m (pc + 3) ls rest)) : W p l e R s m args below meth c H locs cells slots Q (F0 m pc ls st0) :=
  va_callv (va_runV S (hM H.size) cw ⟨Mm_blind, va_recv hK.1 hP hc he, fun U hU hW => ⟨rfl, by rw [hU], by rw [hU]; exact hP, KN.warm hW hK, hD.weaken (fun _ _ _ _ => trivial)⟩⟩ rfl hn hl hst (lv_room hW) hdg hf) hS (fun q _ h => free_w hD hS hA q h) (free_w hD hS hA) (fun u t H1 locs1 ht hvm hw hB hz hk hS1 => kk H1 locs1 (by rw [← ht]; exact hB.1) (hB.2.weaken (fun _ _ _ h => free_w hD hS hA _ h)) hS1)
theorem czS (S : CallFix p m c cc nL s args Ts own) (hM : Mz l y ws rm G As w w') (cw : CallB R s args own index y bytes maxL ret ws rm 0 0 n ∧ (Cond.static y).before args s = true) (hK : KN G s) (hP : va_P G.1 vwCl w H) (hD : va_D A0 w) (hS : va_S A0 H0 H locs) (hA : ∀ q, H0.size ≤ q → A0 q) (hn : As.length = n) (hl : ls.size = nL) (hst : st0 = As.reverse ++ rest) (hW : (rest.map fun v => v.category).sum ≤ 8) (hdg : decode cc pc = .ok (.invokestatic index, 3)) (hf : cells ≤ R.cells ∧ slots ≤ R.slots)
    (kk : ∀ (H1 : Heap) (locs1 : List Loc), va_P G.1 vwCl w' H1 → va_D A0 w' → va_S A0 H0 H1 locs1 → W p l e R s m args below meth c H1 locs1 cells slots Q (F0 m (pc + 3) ls rest)) : W p l e R s m args below meth c H locs cells slots Q (F0 m pc ls st0) :=
  va_callv (va_runS S (hM H.size) cw ⟨Mm_blind, fun U hU hW => ⟨rfl, by rw [hU], by rw [hU]; exact hP, KN.warm hW hK, hD.weaken (fun _ _ _ _ => trivial)⟩⟩ rfl hn hl hst (lv_room hW) hdg hf) hS (fun q _ h => free_w hD hS hA q h) (free_w hD hS hA) (fun u t H1 locs1 ht hvm hw hB hz hk hS1 => kk H1 locs1 (by rw [← ht]; exact hB.1) (hB.2.weaken (fun _ _ _ h => free_w hD hS hA _ h)) hS1)
/-! ENDS -/
variable {P0 : va_W → Prop}
theorem endP {cc : ByteArray} {v : Int32} {ty : FieldType} (hx : p.tables.exec = Jvm.exec) (hb : c.code = cc) (hr : meth.sig.returnType = some ty) (hlocks : meth.locks = false) (hn : narrow ty (.int v) = .int v) (hv : v = res) (hdg : decode cc pc = .ok (.ireturn, 1)) : W p l e R s m args below meth c s.heap [] cells slots (MQ below (vp_Si (fun r => r = res)) args s cells slots (fun _ => False)) (F0 m pc ls [.int v]) :=
  W.zret hx hb hr hn (fun t ht _ => ⟨v, rfl, hv, ht⟩) (fun q h => by cases h) hdg hlocks
theorem endM {cc : ByteArray} {v : Int32} {ty : FieldType} {w1 : va_W} (hx : p.tables.exec = Jvm.exec) (hb : c.code = cc) (hr : meth.sig.returnType = some ty) (hlocks : meth.locks = false) (hn : narrow ty (.int v) = .int v) (hP : va_P G.1 vwCl w1 H) (hD : va_D A0 w1) (hS : va_S A0 s.heap H locs) (hv : v = res ∧ w1 = w') (hdg : decode cc pc = .ok (.ireturn, 1)) : W p l e R s m args below meth c H locs cells slots (MQ below (va_Qi (fun (r : Int32) (_ : Unit) => r = res) (fun _ t => va_P G.1 vwCl w' t.heap ∧ va_D A0 w') A0) args s cells slots A0) (F0 m pc ls [.int v]) :=
  W.zret hx hb hr hn (fun t ht _ => ⟨⟨v, (), rfl, hv.1, by rw [ht, ← hv.2]; exact hP, by rw [← hv.2]; exact hD⟩, hS.F ht⟩) hS.2.2 hdg hlocks
theorem endZ {cc : ByteArray} {w1 : va_W} (hx : p.tables.exec = Jvm.exec) (hb : c.code = cc) (hr : meth.sig.returnType = none) (hlocks : meth.locks = false) (hP : va_P G.1 vwCl w1 H) (hD : va_D A0 w1) (hS : va_S A0 s.heap H locs) (hv : w1 = w') (hdg : decode cc pc = .ok (.return_, 1)) : W p l e R s m args below meth c H locs cells slots (MQ below (va_Qv (fun (_ : Unit) => True) (fun _ t => va_P G.1 vwCl w' t.heap ∧ va_D A0 w') A0) args s cells slots A0) (F0 m pc ls []) :=
  W.vret hx hb hr (fun t ht _ => ⟨⟨(), rfl, trivial, by rw [ht, ← hv]; exact hP, by rw [← hv]; exact hD⟩, hS.F ht⟩) hS.2.2 hdg hlocks
end CALLS
end
