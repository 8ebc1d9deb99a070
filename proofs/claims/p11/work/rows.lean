section
-- ===== PART A: goes FIRST, ahead of the names: the tables' words, and 'selects' of the private methods out of them =====
/-- a private method of a class that the tables say can be made, by its rows of tables_1 -/
def lw_okq (q : MethodName × Nat) : Prop := (q.1.cls ≠ "java/lang/invoke/MethodHandle" ∧ q.1.cls ≠ "java/lang/invoke/VarHandle") ∧ Cond.instantiable q.1.cls q.2 ∈ tables_1 ∧ Cond.privateMethod q.1 ∈ tables_1 ∧ Cond.instanceMethod q.1 ∈ tables_1
theorem lw_p0 : lw_okq (⟨"StatePuzzles", "find", "(LStatePuzzles$Puzzle;)I"⟩, 6) := ⟨⟨by decide +kernel, by decide +kernel⟩, List.mem_of_getElem? (i := 14) (by decide +kernel), List.mem_of_getElem? (i := 180) (by decide +kernel), List.mem_of_getElem? (i := 181) (by decide +kernel)⟩
theorem lw_p1 : lw_okq (⟨"StatePuzzles$Search", "makeRoom", "(I)V"⟩, 3) := ⟨⟨by decide +kernel, by decide +kernel⟩, List.mem_of_getElem? (i := 80) (by decide +kernel), List.mem_of_getElem? (i := 199) (by decide +kernel), List.mem_of_getElem? (i := 200) (by decide +kernel)⟩
theorem lw_p2 : lw_okq (⟨"StatePuzzles$JugSet", "readLevels", "(I)V"⟩, 5) := ⟨⟨by decide +kernel, by decide +kernel⟩, List.mem_of_getElem? (i := 22) (by decide +kernel), List.mem_of_getElem? (i := 227) (by decide +kernel), List.mem_of_getElem? (i := 228) (by decide +kernel)⟩
theorem lw_p3 : lw_okq (⟨"StatePuzzles$River", "allThings", "()I"⟩, 4) := ⟨⟨by decide +kernel, by decide +kernel⟩, List.mem_of_getElem? (i := 48) (by decide +kernel), List.mem_of_getElem? (i := 234) (by decide +kernel), List.mem_of_getElem? (i := 235) (by decide +kernel)⟩
theorem lw_p4 : lw_okq (⟨"StatePuzzles$JugSet", "roomIn", "(I)I"⟩, 5) := ⟨⟨by decide +kernel, by decide +kernel⟩, List.mem_of_getElem? (i := 22) (by decide +kernel), List.mem_of_getElem? (i := 244) (by decide +kernel), List.mem_of_getElem? (i := 245) (by decide +kernel)⟩
theorem lw_p5 : lw_okq (⟨"StatePuzzles$River", "mayBeLeft", "(I)Z"⟩, 4) := ⟨⟨by decide +kernel, by decide +kernel⟩, List.mem_of_getElem? (i := 48) (by decide +kernel), List.mem_of_getElem? (i := 264) (by decide +kernel), List.mem_of_getElem? (i := 265) (by decide +kernel)⟩
theorem lw_p6 : lw_okq (⟨"StatePuzzles$FoundSteps", "isFound", "(I)Z"⟩, 3) := ⟨⟨by decide +kernel, by decide +kernel⟩, List.mem_of_getElem? (i := 96) (by decide +kernel), List.mem_of_getElem? (i := 308) (by decide +kernel), List.mem_of_getElem? (i := 309) (by decide +kernel)⟩
theorem lw_p7 : lw_okq (⟨"StatePuzzles$RiverText", "readThings", "(LStatePuzzles$River;)I"⟩, 2) := ⟨⟨by decide +kernel, by decide +kernel⟩, List.mem_of_getElem? (i := 67) (by decide +kernel), List.mem_of_getElem? (i := 334) (by decide +kernel), List.mem_of_getElem? (i := 335) (by decide +kernel)⟩
theorem lw_p8 : lw_okq (⟨"StatePuzzles$RiverText", "unitAt", "(I)I"⟩, 2) := ⟨⟨by decide +kernel, by decide +kernel⟩, List.mem_of_getElem? (i := 67) (by decide +kernel), List.mem_of_getElem? (i := 338) (by decide +kernel), List.mem_of_getElem? (i := 339) (by decide +kernel)⟩
theorem lw_p9 : lw_okq (⟨"StatePuzzles$Tower", "tellOfFour", "(JI)I"⟩, 4) := ⟨⟨by decide +kernel, by decide +kernel⟩, List.mem_of_getElem? (i := 112) (by decide +kernel), List.mem_of_getElem? (i := 409) (by decide +kernel), List.mem_of_getElem? (i := 410) (by decide +kernel)⟩
theorem lw_p10 : lw_okq (⟨"StatePuzzlesModel", "code", "()I"⟩, 28) := ⟨⟨by decide +kernel, by decide +kernel⟩, List.mem_of_getElem? (i := 429) (by decide +kernel), List.mem_of_getElem? (i := 538) (by decide +kernel), List.mem_of_getElem? (i := 539) (by decide +kernel)⟩
theorem lw_p11 : lw_okq (⟨"StatePuzzlesModel", "begin", "(I)V"⟩, 28) := ⟨⟨by decide +kernel, by decide +kernel⟩, List.mem_of_getElem? (i := 429) (by decide +kernel), List.mem_of_getElem? (i := 542) (by decide +kernel), List.mem_of_getElem? (i := 543) (by decide +kernel)⟩
theorem lw_p12 : lw_okq (⟨"StatePuzzlesModel", "come", "(IIII)V"⟩, 28) := ⟨⟨by decide +kernel, by decide +kernel⟩, List.mem_of_getElem? (i := 429) (by decide +kernel), List.mem_of_getElem? (i := 546) (by decide +kernel), List.mem_of_getElem? (i := 547) (by decide +kernel)⟩
theorem lw_p13 : lw_okq (⟨"StatePuzzlesModel", "isGoal", "(I)Z"⟩, 28) := ⟨⟨by decide +kernel, by decide +kernel⟩, List.mem_of_getElem? (i := 429) (by decide +kernel), List.mem_of_getElem? (i := 550) (by decide +kernel), List.mem_of_getElem? (i := 551) (by decide +kernel)⟩
theorem lw_p14 : lw_okq (⟨"StatePuzzlesModel", "take", "(I)V"⟩, 28) := ⟨⟨by decide +kernel, by decide +kernel⟩, List.mem_of_getElem? (i := 429) (by decide +kernel), List.mem_of_getElem? (i := 554) (by decide +kernel), List.mem_of_getElem? (i := 555) (by decide +kernel)⟩
theorem lw_p15 : lw_okq (⟨"StatePuzzlesModel", "found", "(I)I"⟩, 28) := ⟨⟨by decide +kernel, by decide +kernel⟩, List.mem_of_getElem? (i := 429) (by decide +kernel), List.mem_of_getElem? (i := 558) (by decide +kernel), List.mem_of_getElem? (i := 559) (by decide +kernel)⟩
def lw_privs_1 : List (MethodName × Nat) := [(⟨"StatePuzzles", "find", "(LStatePuzzles$Puzzle;)I"⟩, 6), (⟨"StatePuzzles$Search", "makeRoom", "(I)V"⟩, 3), (⟨"StatePuzzles$JugSet", "readLevels", "(I)V"⟩, 5), (⟨"StatePuzzles$River", "allThings", "()I"⟩, 4), (⟨"StatePuzzles$JugSet", "roomIn", "(I)I"⟩, 5), (⟨"StatePuzzles$River", "mayBeLeft", "(I)Z"⟩, 4), (⟨"StatePuzzles$FoundSteps", "isFound", "(I)Z"⟩, 3), (⟨"StatePuzzles$RiverText", "readThings", "(LStatePuzzles$River;)I"⟩, 2), (⟨"StatePuzzles$RiverText", "unitAt", "(I)I"⟩, 2), (⟨"StatePuzzles$Tower", "tellOfFour", "(JI)I"⟩, 4), (⟨"StatePuzzlesModel", "code", "()I"⟩, 28), (⟨"StatePuzzlesModel", "begin", "(I)V"⟩, 28), (⟨"StatePuzzlesModel", "come", "(IIII)V"⟩, 28), (⟨"StatePuzzlesModel", "isGoal", "(I)Z"⟩, 28), (⟨"StatePuzzlesModel", "take", "(I)V"⟩, 28), (⟨"StatePuzzlesModel", "found", "(I)I"⟩, 28)]
theorem lw_r1 : ∀ q ∈ lw_privs_1, lw_okq q := List.forall_mem_cons.mpr ⟨lw_p0, List.forall_mem_cons.mpr ⟨lw_p1, List.forall_mem_cons.mpr ⟨lw_p2, List.forall_mem_cons.mpr ⟨lw_p3, List.forall_mem_cons.mpr ⟨lw_p4, List.forall_mem_cons.mpr ⟨lw_p5, List.forall_mem_cons.mpr ⟨lw_p6, List.forall_mem_cons.mpr ⟨lw_p7, List.forall_mem_cons.mpr ⟨lw_p8, List.forall_mem_cons.mpr ⟨lw_p9, List.forall_mem_cons.mpr ⟨lw_p10, List.forall_mem_cons.mpr ⟨lw_p11, List.forall_mem_cons.mpr ⟨lw_p12, List.forall_mem_cons.mpr ⟨lw_p13, List.forall_mem_cons.mpr ⟨lw_p14, List.forall_mem_cons.mpr ⟨lw_p15, fun _ h => absurd h List.not_mem_nil⟩⟩⟩⟩⟩⟩⟩⟩⟩⟩⟩⟩⟩⟩⟩⟩
theorem lw_p16 : lw_okq (⟨"StatePuzzlesModel", "pour", "(II)V"⟩, 28) := ⟨⟨by decide +kernel, by decide +kernel⟩, List.mem_of_getElem? (i := 429) (by decide +kernel), List.mem_of_getElem? (i := 562) (by decide +kernel), List.mem_of_getElem? (i := 563) (by decide +kernel)⟩
theorem lw_p17 : lw_okq (⟨"StatePuzzlesModel", "parse", "()I"⟩, 28) := ⟨⟨by decide +kernel, by decide +kernel⟩, List.mem_of_getElem? (i := 429) (by decide +kernel), List.mem_of_getElem? (i := 574) (by decide +kernel), List.mem_of_getElem? (i := 575) (by decide +kernel)⟩
theorem lw_p18 : lw_okq (⟨"StatePuzzlesModel", "byteAt", "(I)I"⟩, 28) := ⟨⟨by decide +kernel, by decide +kernel⟩, List.mem_of_getElem? (i := 429) (by decide +kernel), List.mem_of_getElem? (i := 578) (by decide +kernel), List.mem_of_getElem? (i := 579) (by decide +kernel)⟩
theorem lw_p19 : lw_okq (⟨"StatePuzzlesModel", "thingOf", "(I)I"⟩, 28) := ⟨⟨by decide +kernel, by decide +kernel⟩, List.mem_of_getElem? (i := 429) (by decide +kernel), List.mem_of_getElem? (i := 582) (by decide +kernel), List.mem_of_getElem? (i := 583) (by decide +kernel)⟩
theorem lw_p20 : lw_okq (⟨"StatePuzzlesModel", "countOf", "(I)I"⟩, 28) := ⟨⟨by decide +kernel, by decide +kernel⟩, List.mem_of_getElem? (i := 429) (by decide +kernel), List.mem_of_getElem? (i := 586) (by decide +kernel), List.mem_of_getElem? (i := 587) (by decide +kernel)⟩
theorem lw_p21 : lw_okq (⟨"StatePuzzlesModel", "mayStay", "(I)Z"⟩, 28) := ⟨⟨by decide +kernel, by decide +kernel⟩, List.mem_of_getElem? (i := 429) (by decide +kernel), List.mem_of_getElem? (i := 590) (by decide +kernel), List.mem_of_getElem? (i := 591) (by decide +kernel)⟩
theorem lw_p22 : lw_okq (⟨"StatePuzzlesModel", "all", "()J"⟩, 28) := ⟨⟨by decide +kernel, by decide +kernel⟩, List.mem_of_getElem? (i := 429) (by decide +kernel), List.mem_of_getElem? (i := 607) (by decide +kernel), List.mem_of_getElem? (i := 608) (by decide +kernel)⟩
theorem lw_p23 : lw_okq (⟨"StatePuzzlesModel", "findThree", "(JIIIII)V"⟩, 28) := ⟨⟨by decide +kernel, by decide +kernel⟩, List.mem_of_getElem? (i := 429) (by decide +kernel), List.mem_of_getElem? (i := 615) (by decide +kernel), List.mem_of_getElem? (i := 616) (by decide +kernel)⟩
theorem lw_p24 : lw_okq (⟨"StatePuzzlesModel", "findFour", "(JI)V"⟩, 28) := ⟨⟨by decide +kernel, by decide +kernel⟩, List.mem_of_getElem? (i := 429) (by decide +kernel), List.mem_of_getElem? (i := 619) (by decide +kernel), List.mem_of_getElem? (i := 620) (by decide +kernel)⟩
def lw_privs_2 : List (MethodName × Nat) := [(⟨"StatePuzzlesModel", "pour", "(II)V"⟩, 28), (⟨"StatePuzzlesModel", "parse", "()I"⟩, 28), (⟨"StatePuzzlesModel", "byteAt", "(I)I"⟩, 28), (⟨"StatePuzzlesModel", "thingOf", "(I)I"⟩, 28), (⟨"StatePuzzlesModel", "countOf", "(I)I"⟩, 28), (⟨"StatePuzzlesModel", "mayStay", "(I)Z"⟩, 28), (⟨"StatePuzzlesModel", "all", "()J"⟩, 28), (⟨"StatePuzzlesModel", "findThree", "(JIIIII)V"⟩, 28), (⟨"StatePuzzlesModel", "findFour", "(JI)V"⟩, 28)]
theorem lw_r2 : ∀ q ∈ lw_privs_2, lw_okq q := List.forall_mem_cons.mpr ⟨lw_p16, List.forall_mem_cons.mpr ⟨lw_p17, List.forall_mem_cons.mpr ⟨lw_p18, List.forall_mem_cons.mpr ⟨lw_p19, List.forall_mem_cons.mpr ⟨lw_p20, List.forall_mem_cons.mpr ⟨lw_p21, List.forall_mem_cons.mpr ⟨lw_p22, List.forall_mem_cons.mpr ⟨lw_p23, List.forall_mem_cons.mpr ⟨lw_p24, fun _ h => absurd h List.not_mem_nil⟩⟩⟩⟩⟩⟩⟩⟩⟩
def lw_privs : List (MethodName × Nat) := lw_privs_1 ++ (lw_privs_2)
def lw_tbl : List Cond := k2_sels lw_privs ++ tables_1
theorem lw_privs_ok : ∀ q ∈ lw_privs, lw_okq q := by
  show ∀ q ∈ lw_privs_1 ++ (lw_privs_2), lw_okq q
  exact List.forall_mem_append.mpr ⟨lw_r1, lw_r2⟩
def R_Fs : String := "StatePuzzles$FoundSteps"
def F_Fs : u_T := fun k => match k with
  | 0 => ("StatePuzzles$FoundSteps", "firsts", "[I", false)
  | 1 => ("StatePuzzles$FoundSteps", "seconds", "[I", false)
  | _ => ("StatePuzzles$FoundSteps", "count", "I", false)
def t_Fs : Nat → FieldType := fun k => match k with
  | 0 => .array .int
  | 1 => .array .int
  | _ => .int
def R_Js : String := "StatePuzzles$JugSet"
def F_Js : u_T := fun k => match k with
  | 0 => ("StatePuzzles$JugSet", "sizes", "[I", true)
  | 1 => ("StatePuzzles$JugSet", "firstLevels", "[I", true)
  | 2 => ("StatePuzzles$JugSet", "wanted", "[I", true)
  | 3 => ("StatePuzzles$JugSet", "levels", "[I", true)
  | _ => ("StatePuzzles$JugSet", "count", "I", false)
def t_Js : Nat → FieldType := fun k => match k with
  | 0 => .array .int
  | 1 => .array .int
  | 2 => .array .int
  | 3 => .array .int
  | _ => .int
def R_Rv : String := "StatePuzzles$River"
def F_Rv : u_T := fun k => match k with
  | 0 => ("StatePuzzles$River", "thingOfLetter", "[I", true)
  | 1 => ("StatePuzzles$River", "notWith", "[I", true)
  | 2 => ("StatePuzzles$River", "things", "I", false)
  | _ => ("StatePuzzles$River", "boat", "I", false)
def t_Rv : Nat → FieldType := fun k => match k with
  | 0 => .array .int
  | 1 => .array .int
  | 2 => .int
  | _ => .int
def R_Rt : String := "StatePuzzles$RiverText"
def F_Rt : u_T := fun k => match k with
  | 0 => ("StatePuzzles$RiverText", "units", "[I", true)
  | _ => ("StatePuzzles$RiverText", "count", "I", false)
def t_Rt : Nat → FieldType := fun k => match k with
  | 0 => .array .int
  | _ => .int
def R_Se : String := "StatePuzzles$Search"
def F_Se : u_T := fun k => match k with
  | 0 => ("StatePuzzles$Search", "trace", "[I", false)
  | 1 => ("StatePuzzles$Search", "queue", "[I", false)
  | _ => ("StatePuzzles$Search", "met", "I", false)
def t_Se : Nat → FieldType := fun k => match k with
  | 0 => .array .int
  | 1 => .array .int
  | _ => .int
def R_Tw : String := "StatePuzzles$Tower"
def F_Tw : u_T := fun k => match k with
  | 0 => ("StatePuzzles$Tower", "fourPegMoves", "[J", true)
  | 1 => ("StatePuzzles$Tower", "leastOnes", "[I", true)
  | 2 => ("StatePuzzles$Tower", "pegs", "I", false)
  | _ => ("StatePuzzles$Tower", "discs", "I", false)
def t_Tw : Nat → FieldType := fun k => match k with
  | 0 => .array .long
  | 1 => .array .int
  | 2 => .int
  | _ => .int
def R_Sp : String := "StatePuzzles"
def F_Sp : u_T := fun k => match k with
  | 0 => ("StatePuzzles", "jugSet", "LStatePuzzles$JugSet;", true)
  | 1 => ("StatePuzzles", "river", "LStatePuzzles$River;", true)
  | 2 => ("StatePuzzles", "riverText", "LStatePuzzles$RiverText;", true)
  | 3 => ("StatePuzzles", "search", "LStatePuzzles$Search;", true)
  | 4 => ("StatePuzzles", "found", "LStatePuzzles$FoundSteps;", true)
  | _ => ("StatePuzzles", "discTower", "LStatePuzzles$Tower;", true)
def t_Sp : Nat → FieldType := fun k => match k with
  | 0 => .object "StatePuzzles$JugSet"
  | 1 => .object "StatePuzzles$River"
  | 2 => .object "StatePuzzles$RiverText"
  | 3 => .object "StatePuzzles$Search"
  | 4 => .object "StatePuzzles$FoundSteps"
  | _ => .object "StatePuzzles$Tower"
def R_Mo : String := "StatePuzzlesModel"
def F_Mo : u_T := fun k => match k with
  | 0 => ("StatePuzzlesModel", "thrown", "I", false)
  | 1 => ("StatePuzzlesModel", "jugs", "I", false)
  | 2 => ("StatePuzzlesModel", "sizes", "[I", true)
  | 3 => ("StatePuzzlesModel", "now", "[I", true)
  | 4 => ("StatePuzzlesModel", "goals", "[I", true)
  | 5 => ("StatePuzzlesModel", "size", "I", false)
  | 6 => ("StatePuzzlesModel", "text", "[I", true)
  | 7 => ("StatePuzzlesModel", "steps", "I", false)
  | 8 => ("StatePuzzlesModel", "first", "[I", true)
  | 9 => ("StatePuzzlesModel", "second", "[I", true)
  | 10 => ("StatePuzzlesModel", "queue", "[I", true)
  | 11 => ("StatePuzzlesModel", "parent", "[I", true)
  | 12 => ("StatePuzzlesModel", "stepFrom", "[I", true)
  | 13 => ("StatePuzzlesModel", "stepTo", "[I", true)
  | 14 => ("StatePuzzlesModel", "seen", "[Z", true)
  | 15 => ("StatePuzzlesModel", "many", "I", false)
  | 16 => ("StatePuzzlesModel", "held", "[I", true)
  | 17 => ("StatePuzzlesModel", "things", "I", false)
  | 18 => ("StatePuzzlesModel", "boat", "I", false)
  | 19 => ("StatePuzzlesModel", "place", "[I", true)
  | 20 => ("StatePuzzlesModel", "apart", "[I", true)
  | 21 => ("StatePuzzlesModel", "pegs", "I", false)
  | 22 => ("StatePuzzlesModel", "discs", "I", false)
  | 23 => ("StatePuzzlesModel", "four", "[J", true)
  | 24 => ("StatePuzzlesModel", "parted", "[I", true)
  | 25 => ("StatePuzzlesModel", "moveDisc", "I", false)
  | 26 => ("StatePuzzlesModel", "moveFrom", "I", false)
  | _ => ("StatePuzzlesModel", "moveTo", "I", false)
def t_Mo : Nat → FieldType := fun k => match k with
  | 0 => .int
  | 1 => .int
  | 2 => .array .int
  | 3 => .array .int
  | 4 => .array .int
  | 5 => .int
  | 6 => .array .int
  | 7 => .int
  | 8 => .array .int
  | 9 => .array .int
  | 10 => .array .int
  | 11 => .array .int
  | 12 => .array .int
  | 13 => .array .int
  | 14 => .array .boolean
  | 15 => .int
  | 16 => .array .int
  | 17 => .int
  | 18 => .int
  | 19 => .array .int
  | 20 => .array .int
  | 21 => .int
  | 22 => .int
  | 23 => .array .long
  | 24 => .array .int
  | 25 => .int
  | 26 => .int
  | _ => .int
def R_Pz : String := "StatePuzzles$Puzzle"
abbrev vwCl : List vw_C := [(R_Fs, F_Fs, 3), (R_Js, F_Js, 5), (R_Rv, F_Rv, 4), (R_Rt, F_Rt, 2), (R_Se, F_Se, 3), (R_Tw, F_Tw, 4), (R_Sp, F_Sp, 6), (R_Mo, F_Mo, 28)]
abbrev b_Sp_init : ByteArray := prog_1_method_1_code
def y_Sp_init : MethodName := ⟨"StatePuzzles", "<init>", "()V"⟩
abbrev b_Sp_crossing : ByteArray := prog_1_method_6_code
def y_Sp_crossing : MethodName := ⟨"StatePuzzles", "crossing", "()I"⟩
abbrev b_Sp_find : ByteArray := prog_1_method_13_code
def y_Sp_find : MethodName := ⟨"StatePuzzles", "find", "(LStatePuzzles$Puzzle;)I"⟩
abbrev b_Sp_goal : ByteArray := prog_1_method_3_code
def y_Sp_goal : MethodName := ⟨"StatePuzzles", "goal", "(II)Z"⟩
abbrev b_Sp_jug : ByteArray := prog_1_method_2_code
def y_Sp_jug : MethodName := ⟨"StatePuzzles", "jug", "(II)I"⟩
abbrev b_Sp_jugs : ByteArray := prog_1_method_4_code
def y_Sp_jugs : MethodName := ⟨"StatePuzzles", "jugs", "()I"⟩
abbrev b_Sp_ring : ByteArray := prog_1_method_12_code
def y_Sp_ring : MethodName := ⟨"StatePuzzles", "ring", "(IJ)J"⟩
abbrev b_Sp_ringSteps : ByteArray := prog_1_method_16_code
def y_Sp_ringSteps : MethodName := ⟨"StatePuzzles", "ringSteps", "(I)J"⟩
abbrev b_Sp_rings : ByteArray := prog_1_method_11_code
def y_Sp_rings : MethodName := ⟨"StatePuzzles", "rings", "(I)J"⟩
abbrev b_Sp_step : ByteArray := prog_1_method_7_code
def y_Sp_step : MethodName := ⟨"StatePuzzles", "step", "(IZ)I"⟩
abbrev b_Sp_tower : ByteArray := prog_1_method_9_code
def y_Sp_tower : MethodName := ⟨"StatePuzzles", "tower", "(II)J"⟩
abbrev b_Sp_towerMove : ByteArray := prog_1_method_10_code
def y_Sp_towerMove : MethodName := ⟨"StatePuzzles", "towerMove", "(JI)I"⟩
abbrev b_Sp_triesForHeavier : ByteArray := prog_1_method_14_code
def y_Sp_triesForHeavier : MethodName := ⟨"StatePuzzles", "triesForHeavier", "(I)I"⟩
abbrev b_Sp_triesForOdd : ByteArray := prog_1_method_15_code
def y_Sp_triesForOdd : MethodName := ⟨"StatePuzzles", "triesForOdd", "(I)I"⟩
abbrev b_Sp_unit : ByteArray := prog_1_method_5_code
def y_Sp_unit : MethodName := ⟨"StatePuzzles", "unit", "(I)Z"⟩
abbrev b_Sp_weigh : ByteArray := prog_1_method_8_code
def y_Sp_weigh : MethodName := ⟨"StatePuzzles", "weigh", "(II)I"⟩
abbrev b_Fs_init : ByteArray := prog_2_method_1_code
def y_Fs_init : MethodName := ⟨"StatePuzzles$FoundSteps", "<init>", "()V"⟩
abbrev b_Fs_first : ByteArray := prog_2_method_5_code
def y_Fs_first : MethodName := ⟨"StatePuzzles$FoundSteps", "first", "(I)I"⟩
abbrev b_Fs_forget : ByteArray := prog_2_method_2_code
def y_Fs_forget : MethodName := ⟨"StatePuzzles$FoundSteps", "forget", "()V"⟩
abbrev b_Fs_isFound : ByteArray := prog_2_method_7_code
def y_Fs_isFound : MethodName := ⟨"StatePuzzles$FoundSteps", "isFound", "(I)Z"⟩
abbrev b_Fs_makeRoom : ByteArray := prog_2_method_3_code
def y_Fs_makeRoom : MethodName := ⟨"StatePuzzles$FoundSteps", "makeRoom", "(I)V"⟩
abbrev b_Fs_put : ByteArray := prog_2_method_4_code
def y_Fs_put : MethodName := ⟨"StatePuzzles$FoundSteps", "put", "(III)V"⟩
abbrev b_Fs_second : ByteArray := prog_2_method_6_code
def y_Fs_second : MethodName := ⟨"StatePuzzles$FoundSteps", "second", "(I)I"⟩
abbrev b_Js_init : ByteArray := prog_3_method_1_code
def y_Js_init : MethodName := ⟨"StatePuzzles$JugSet", "<init>", "()V"⟩
abbrev b_Js_add : ByteArray := prog_3_method_2_code
def y_Js_add : MethodName := ⟨"StatePuzzles$JugSet", "add", "(II)I"⟩
abbrev b_Js_codeOf : ByteArray := prog_3_method_10_code
def y_Js_codeOf : MethodName := ⟨"StatePuzzles$JugSet", "codeOf", "(II)I"⟩
abbrev b_Js_firstTold : ByteArray := prog_3_method_8_code
def y_Js_firstTold : MethodName := ⟨"StatePuzzles$JugSet", "firstTold", "(I)I"⟩
abbrev b_Js_isDone : ByteArray := prog_3_method_6_code
def y_Js_isDone : MethodName := ⟨"StatePuzzles$JugSet", "isDone", "(I)Z"⟩
abbrev b_Js_meetNext : ByteArray := prog_3_method_7_code
def y_Js_meetNext : MethodName := ⟨"StatePuzzles$JugSet", "meetNext", "(ILStatePuzzles$Search;)V"⟩
abbrev b_Js_readLevels : ByteArray := prog_3_method_12_code
def y_Js_readLevels : MethodName := ⟨"StatePuzzles$JugSet", "readLevels", "(I)V"⟩
abbrev b_Js_roomIn : ByteArray := prog_3_method_11_code
def y_Js_roomIn : MethodName := ⟨"StatePuzzles$JugSet", "roomIn", "(I)I"⟩
abbrev b_Js_secondTold : ByteArray := prog_3_method_9_code
def y_Js_secondTold : MethodName := ⟨"StatePuzzles$JugSet", "secondTold", "(II)I"⟩
abbrev b_Js_startState : ByteArray := prog_3_method_5_code
def y_Js_startState : MethodName := ⟨"StatePuzzles$JugSet", "startState", "()I"⟩
abbrev b_Js_stateCount : ByteArray := prog_3_method_4_code
def y_Js_stateCount : MethodName := ⟨"StatePuzzles$JugSet", "stateCount", "()I"⟩
abbrev b_Js_want : ByteArray := prog_3_method_3_code
def y_Js_want : MethodName := ⟨"StatePuzzles$JugSet", "want", "(II)Z"⟩
abbrev b_Pz_init : ByteArray := prog_4_method_1_code
def y_Pz_init : MethodName := ⟨"StatePuzzles$Puzzle", "<init>", "()V"⟩
abbrev b_Rv_init : ByteArray := prog_5_method_1_code
def y_Rv_init : MethodName := ⟨"StatePuzzles$River", "<init>", "()V"⟩
abbrev b_Rv_addThing : ByteArray := prog_5_method_3_code
def y_Rv_addThing : MethodName := ⟨"StatePuzzles$River", "addThing", "(I)Z"⟩
abbrev b_Rv_allThings : ByteArray := prog_5_method_13_code
def y_Rv_allThings : MethodName := ⟨"StatePuzzles$River", "allThings", "()I"⟩
abbrev b_Rv_clear : ByteArray := prog_5_method_2_code
def y_Rv_clear : MethodName := ⟨"StatePuzzles$River", "clear", "()V"⟩
abbrev b_Rv_firstTold : ByteArray := prog_5_method_11_code
def y_Rv_firstTold : MethodName := ⟨"StatePuzzles$River", "firstTold", "(I)I"⟩
abbrev b_Rv_isDone : ByteArray := prog_5_method_9_code
def y_Rv_isDone : MethodName := ⟨"StatePuzzles$River", "isDone", "(I)Z"⟩
abbrev b_Rv_keepApart : ByteArray := prog_5_method_5_code
def y_Rv_keepApart : MethodName := ⟨"StatePuzzles$River", "keepApart", "(II)Z"⟩
abbrev b_Rv_mayBeLeft : ByteArray := prog_5_method_14_code
def y_Rv_mayBeLeft : MethodName := ⟨"StatePuzzles$River", "mayBeLeft", "(I)Z"⟩
abbrev b_Rv_meetNext : ByteArray := prog_5_method_10_code
def y_Rv_meetNext : MethodName := ⟨"StatePuzzles$River", "meetNext", "(ILStatePuzzles$Search;)V"⟩
abbrev b_Rv_secondTold : ByteArray := prog_5_method_12_code
def y_Rv_secondTold : MethodName := ⟨"StatePuzzles$River", "secondTold", "(II)I"⟩
abbrev b_Rv_setBoat : ByteArray := prog_5_method_6_code
def y_Rv_setBoat : MethodName := ⟨"StatePuzzles$River", "setBoat", "(I)Z"⟩
abbrev b_Rv_startState : ByteArray := prog_5_method_8_code
def y_Rv_startState : MethodName := ⟨"StatePuzzles$River", "startState", "()I"⟩
abbrev b_Rv_stateCount : ByteArray := prog_5_method_7_code
def y_Rv_stateCount : MethodName := ⟨"StatePuzzles$River", "stateCount", "()I"⟩
abbrev b_Rv_thingOf : ByteArray := prog_5_method_4_code
def y_Rv_thingOf : MethodName := ⟨"StatePuzzles$River", "thingOf", "(I)I"⟩
abbrev b_Rt_init : ByteArray := prog_6_method_1_code
def y_Rt_init : MethodName := ⟨"StatePuzzles$RiverText", "<init>", "()V"⟩
abbrev b_Rt_add : ByteArray := prog_6_method_2_code
def y_Rt_add : MethodName := ⟨"StatePuzzles$RiverText", "add", "(I)Z"⟩
abbrev b_Rt_forget : ByteArray := prog_6_method_3_code
def y_Rt_forget : MethodName := ⟨"StatePuzzles$RiverText", "forget", "()V"⟩
abbrev b_Rt_readInto : ByteArray := prog_6_method_4_code
def y_Rt_readInto : MethodName := ⟨"StatePuzzles$RiverText", "readInto", "(LStatePuzzles$River;)I"⟩
abbrev b_Rt_readThings : ByteArray := prog_6_method_5_code
def y_Rt_readThings : MethodName := ⟨"StatePuzzles$RiverText", "readThings", "(LStatePuzzles$River;)I"⟩
abbrev b_Rt_unitAt : ByteArray := prog_6_method_6_code
def y_Rt_unitAt : MethodName := ⟨"StatePuzzles$RiverText", "unitAt", "(I)I"⟩
abbrev b_Se_init : ByteArray := prog_7_method_1_code
def y_Se_init : MethodName := ⟨"StatePuzzles$Search", "<init>", "()V"⟩
abbrev b_Se_before : ByteArray := prog_7_method_5_code
def y_Se_before : MethodName := ⟨"StatePuzzles$Search", "before", "(I)I"⟩
abbrev b_Se_endOf : ByteArray := prog_7_method_2_code
def y_Se_endOf : MethodName := ⟨"StatePuzzles$Search", "endOf", "(LStatePuzzles$Puzzle;)I"⟩
abbrev b_Se_makeRoom : ByteArray := prog_7_method_7_code
def y_Se_makeRoom : MethodName := ⟨"StatePuzzles$Search", "makeRoom", "(I)V"⟩
abbrev b_Se_meet : ByteArray := prog_7_method_3_code
def y_Se_meet : MethodName := ⟨"StatePuzzles$Search", "meet", "(III)V"⟩
abbrev b_Se_stepInto : ByteArray := prog_7_method_6_code
def y_Se_stepInto : MethodName := ⟨"StatePuzzles$Search", "stepInto", "(I)I"⟩
abbrev b_Se_stepsTo : ByteArray := prog_7_method_4_code
def y_Se_stepsTo : MethodName := ⟨"StatePuzzles$Search", "stepsTo", "(I)I"⟩
abbrev b_Tw_init : ByteArray := prog_8_method_1_code
def y_Tw_init : MethodName := ⟨"StatePuzzles$Tower", "<init>", "()V"⟩
abbrev b_Tw_lesserFreePeg : ByteArray := prog_8_method_8_code
def y_Tw_lesserFreePeg : MethodName := ⟨"StatePuzzles$Tower", "lesserFreePeg", "(II)I"⟩
abbrev b_Tw_moves : ByteArray := prog_8_method_3_code
def y_Tw_moves : MethodName := ⟨"StatePuzzles$Tower", "moves", "()J"⟩
abbrev b_Tw_set : ByteArray := prog_8_method_2_code
def y_Tw_set : MethodName := ⟨"StatePuzzles$Tower", "set", "(II)Z"⟩
abbrev b_Tw_tellMove : ByteArray := prog_8_method_4_code
def y_Tw_tellMove : MethodName := ⟨"StatePuzzles$Tower", "tellMove", "(JI)I"⟩
abbrev b_Tw_tellOfFour : ByteArray := prog_8_method_5_code
def y_Tw_tellOfFour : MethodName := ⟨"StatePuzzles$Tower", "tellOfFour", "(JI)I"⟩
abbrev b_Tw_tellOfThree : ByteArray := prog_8_method_6_code
def y_Tw_tellOfThree : MethodName := ⟨"StatePuzzles$Tower", "tellOfThree", "(JIIIIII)I"⟩
abbrev b_Tw_threePegMoves : ByteArray := prog_8_method_7_code
def y_Tw_threePegMoves : MethodName := ⟨"StatePuzzles$Tower", "threePegMoves", "(I)J"⟩
abbrev b_Mo_init : ByteArray := prog_10_method_1_code
def y_Mo_init : MethodName := ⟨"StatePuzzlesModel", "<init>", "()V"⟩
abbrev b_Mo_all : ByteArray := prog_10_method_24_code
def y_Mo_all : MethodName := ⟨"StatePuzzlesModel", "all", "()J"⟩
abbrev b_Mo_begin : ByteArray := prog_10_method_10_code
def y_Mo_begin : MethodName := ⟨"StatePuzzlesModel", "begin", "(I)V"⟩
abbrev b_Mo_byteAt : ByteArray := prog_10_method_15_code
def y_Mo_byteAt : MethodName := ⟨"StatePuzzlesModel", "byteAt", "(I)I"⟩
abbrev b_Mo_code : ByteArray := prog_10_method_7_code
def y_Mo_code : MethodName := ⟨"StatePuzzlesModel", "code", "()I"⟩
abbrev b_Mo_come : ByteArray := prog_10_method_11_code
def y_Mo_come : MethodName := ⟨"StatePuzzlesModel", "come", "(IIII)V"⟩
abbrev b_Mo_countOf : ByteArray := prog_10_method_19_code
def y_Mo_countOf : MethodName := ⟨"StatePuzzlesModel", "countOf", "(I)I"⟩
abbrev b_Mo_crossing : ByteArray := prog_10_method_20_code
def y_Mo_crossing : MethodName := ⟨"StatePuzzlesModel", "crossing", "()I"⟩
abbrev b_Mo_findFour : ByteArray := prog_10_method_27_code
def y_Mo_findFour : MethodName := ⟨"StatePuzzlesModel", "findFour", "(JI)V"⟩
abbrev b_Mo_findThree : ByteArray := prog_10_method_25_code
def y_Mo_findThree : MethodName := ⟨"StatePuzzlesModel", "findThree", "(JIIIII)V"⟩
abbrev b_Mo_found : ByteArray := prog_10_method_12_code
def y_Mo_found : MethodName := ⟨"StatePuzzlesModel", "found", "(I)I"⟩
abbrev b_Mo_full : ByteArray := prog_10_method_29_code
def y_Mo_full : MethodName := ⟨"StatePuzzlesModel", "full", "(I)J"⟩
abbrev b_Mo_goal : ByteArray := prog_10_method_5_code
def y_Mo_goal : MethodName := ⟨"StatePuzzlesModel", "goal", "(II)Z"⟩
abbrev b_Mo_isGoal : ByteArray := prog_10_method_9_code
def y_Mo_isGoal : MethodName := ⟨"StatePuzzlesModel", "isGoal", "(I)Z"⟩
abbrev b_Mo_jug : ByteArray := prog_10_method_4_code
def y_Mo_jug : MethodName := ⟨"StatePuzzlesModel", "jug", "(II)I"⟩
abbrev b_Mo_jugs : ByteArray := prog_10_method_13_code
def y_Mo_jugs : MethodName := ⟨"StatePuzzlesModel", "jugs", "()I"⟩
abbrev b_Mo_mayStay : ByteArray := prog_10_method_18_code
def y_Mo_mayStay : MethodName := ⟨"StatePuzzlesModel", "mayStay", "(I)Z"⟩
abbrev b_Mo_parse : ByteArray := prog_10_method_17_code
def y_Mo_parse : MethodName := ⟨"StatePuzzlesModel", "parse", "()I"⟩
abbrev b_Mo_pour : ByteArray := prog_10_method_8_code
def y_Mo_pour : MethodName := ⟨"StatePuzzlesModel", "pour", "(II)V"⟩
abbrev b_Mo_ring : ByteArray := prog_10_method_31_code
def y_Mo_ring : MethodName := ⟨"StatePuzzlesModel", "ring", "(IJ)J"⟩
abbrev b_Mo_rings : ByteArray := prog_10_method_30_code
def y_Mo_rings : MethodName := ⟨"StatePuzzlesModel", "rings", "(I)J"⟩
abbrev b_Mo_spare : ByteArray := prog_10_method_26_code
def y_Mo_spare : MethodName := ⟨"StatePuzzlesModel", "spare", "(IIZ)I"⟩
abbrev b_Mo_step : ByteArray := prog_10_method_21_code
def y_Mo_step : MethodName := ⟨"StatePuzzlesModel", "step", "(IZ)I"⟩
abbrev b_Mo_take : ByteArray := prog_10_method_6_code
def y_Mo_take : MethodName := ⟨"StatePuzzlesModel", "take", "(I)V"⟩
abbrev b_Mo_thingOf : ByteArray := prog_10_method_16_code
def y_Mo_thingOf : MethodName := ⟨"StatePuzzlesModel", "thingOf", "(I)I"⟩
abbrev b_Mo_three : ByteArray := prog_10_method_3_code
def y_Mo_three : MethodName := ⟨"StatePuzzlesModel", "three", "(I)J"⟩
abbrev b_Mo_tower : ByteArray := prog_10_method_23_code
def y_Mo_tower : MethodName := ⟨"StatePuzzlesModel", "tower", "(II)J"⟩
abbrev b_Mo_towerMove : ByteArray := prog_10_method_28_code
def y_Mo_towerMove : MethodName := ⟨"StatePuzzlesModel", "towerMove", "(JI)I"⟩
abbrev b_Mo_unit : ByteArray := prog_10_method_14_code
def y_Mo_unit : MethodName := ⟨"StatePuzzlesModel", "unit", "(I)Z"⟩
abbrev b_Mo_weigh : ByteArray := prog_10_method_22_code
def y_Mo_weigh : MethodName := ⟨"StatePuzzlesModel", "weigh", "(II)I"⟩
abbrev b_Ig_bitCount : ByteArray := prog_11_method_49_code
def y_Ig_bitCount : MethodName := ⟨"java/lang/Integer", "bitCount", "(I)I"⟩
abbrev b_Ma_min : ByteArray := prog_12_method_69_code
def y_Ma_min : MethodName := ⟨"java/lang/Math", "min", "(II)I"⟩
abbrev b_Ar_fill : ByteArray := prog_13_method_103_code
def y_Ar_fill : MethodName := ⟨"java/util/Arrays", "fill", "([II)V"⟩
end
section
/-! WORDS, WORLDS, CALLS: the same for all methods. TBL: the good words of the tables; cx: what holds at every place of a method; kt: classes, array classes, nest links; zP, zQi ..: a contract's start and end; zMet: a contract. -/
def zz_arr (w : Cond) : Bool := match w with
  | .arrayClass _ => true
  | _ => false
def zz_ok (w : Cond) : Bool := (w.onTables && w.keeps) || zz_arr w
def TBL : List Cond := lw_tbl.filter zz_ok
theorem zz_in {w : Cond} (h : w ∈ lw_tbl) (g : zz_ok w = true) : w ∈ TBL := List.mem_filter.mpr ⟨h, g⟩
theorem zz_goodW {w : Cond} (h : w ∈ TBL) : w ∈ TBL ∧ ((w.onTables && w.keeps) = true ∨ ∃ ty, w = .arrayClass ty) := by
  refine ⟨h, ?_⟩
  have h2 : zz_ok w = true := (List.mem_filter.mp h).2
  unfold zz_ok at h2
  rcases (Bool.or_eq_true _ _).mp h2 with h3 | h3
  · exact Or.inl h3
  · refine Or.inr ?_
    unfold zz_arr at h3
    split at h3
    · exact ⟨_, rfl⟩
    · cases h3
theorem zz_good {w : Cond} (h : w ∈ TBL) : GoodIn TBL (w :: TBL) := by
  intro x hx
  rcases List.mem_cons.mp hx with rfl | hx
  · exact zz_goodW h
  · exact zz_goodW hx
/-- words of nest mates and of abstract methods: they move with the machine, one by one -/
def zz_nk (w : Cond) : Bool := match w with
  | .fieldLinkNest _ _ _ _ _ _ => true
  | .methodLinkNest _ _ _ _ => true
  | .declares _ => true
  | _ => false
def NWS : List Cond := lw_tbl.filter zz_nk
theorem zz_nin {w : Cond} (h : w ∈ lw_tbl) (g : zz_nk w = true) : w ∈ NWS := List.mem_filter.mpr ⟨h, g⟩
theorem zz_nk_tab {w : Cond} (h : zz_nk w = true) : w.onTables = true := by
  unfold zz_nk at h
  split at h
  · rfl
  · rfl
  · rfl
  · cases h
theorem zz_nk_warm {w : Cond} (h : zz_nk w = true) {s U : State} (hW : s.WarmedH U.vm) (hZ : va_Nw w s) : va_Nw w U := by
  unfold zz_nk at h
  split at h
  · exact va_Nw.warmF hW hZ
  · exact va_Nw.warmM hW hZ
  · exact va_Nw.warmD hW hZ
  · cases h
abbrev zG : Type := va_G × ClassId × ClassId × ClassId
def kt (E : zG) (U : State) : Prop := va_K E.1 vwCl [(E.2.1, .int), (E.2.2.1, .long), (E.2.2.2, .boolean)] U ∧ ∀ w ∈ NWS, va_Nw w U
theorem kt.moved {E : zG} {s U : State} (hW : s.WarmedH U.vm) (h : kt E s) : kt E U := ⟨va_K.moved hW.alike h.1, fun w hw => zz_nk_warm (List.mem_filter.mp hw).2 hW (h.2 w hw)⟩
theorem kt.same {E : zG} {s U : State} (hv : s.vm = U.vm) (h : kt E s) : kt E U := ⟨va_K.moved (by rw [hv]; exact Vm.Alike.refl U.vm) h.1, fun w hw => va_Nw.same (zz_nk_tab (List.mem_filter.mp hw).2) hv (h.2 w hw)⟩
abbrev zI (E : zG) (n : Nat) (f : Nat → Int32) : va_E := .inl (E.2.1, n, .inl f)
abbrev zL (E : zG) (n : Nat) (f : Nat → Int64) : va_E := .inl (E.2.2.1, n, .inr (.inl f))
abbrev zZ (E : zG) (n : Nat) (f : Nat → Int32) : va_E := .inl (E.2.2.2, n, .inl f)
/-- room: d frames below, lo words of locals, mc cells, ms slots -/
abbrev zR (d lo mc ms : Nat) : Room := { frames := d, cells := mc, slots := ms, locals := lo }
/-- the two static tables that nobody writes: 1, 10, 100 .. -/
def stt (A : Nat → Prop) (U : State) (H : Heap) : Prop := ∃ tD tS : Nat, va_Z "StatePuzzles$JugSet" "DIGIT" "[I" (.ref tD) A U H ∧ va_T .int tD 4 (fun j => .int (nI (10 ^ j))) A U H ∧ va_Z "StatePuzzles$JugSet" "STATES" "[I" (.ref tS) A U H ∧ va_T .int tS 5 (fun j => .int (nI (10 ^ j))) A U H
theorem stt.same {A : Nat → Prop} {s U : State} {H : Heap} (hv : s.vm = U.vm) (h : stt A s H) : stt A U H := by
  obtain ⟨tD, tS, h1, h2, h3, h4⟩ := h
  have hv : s.vm.Alike U.vm := by rw [hv]; exact Vm.Alike.refl U.vm
  exact ⟨tD, tS, h1.moved hv, h2.moved hv, h3.moved hv, h4.moved hv⟩
theorem stt.call {A B : Nat → Prop} {s U : State} {H : Heap} {locs : List Loc} (hW : s.WarmedH U.vm) (h : stt A s s.heap) (hS : va_S A s.heap H locs) (hF : ∀ q, B q → A q) : stt B U H := by
  obtain ⟨tD, tS, h1, h2, h3, h4⟩ := h
  exact ⟨tD, tS, ((h1.kept hS.2.1).narrow hF).moved hW.alike, ((h2.kept hS.2.1).narrow hF).moved hW.alike, ((h3.kept hS.2.1).narrow hF).moved hW.alike, ((h4.kept hS.2.1).narrow hF).moved hW.alike⟩
def cx (p : Program) (s : State) (m : MethodId) (args : Array Value) (meth : Method) (c : Code) (cc : ByteArray) (nL : Nat) (own : String) (ret : Option FieldType) : Prop :=
  p.tables.exec = Jvm.exec ∧ c.code = cc ∧ meth.sig.returnType = ret ∧ c.maxLocals = nL ∧ s.vm.findClass own = some m.cls ∧ (∀ w ∈ TBL, w.before args s = true) ∧ meth.locks = false
def zP (E : zG) (av : List Value) (ws : va_W) (sz : Nat) : Array Value → State → Prop := va_Pc av (fun U => U.heap.size = sz ∧ va_P E.1 vwCl ws U.heap ∧ kt E U ∧ va_D (fun _ => True) ws ∧ stt (va_A ws sz) U U.heap)
theorem zP_blind {E : zG} {av : List Value} {ws : va_W} {sz : Nat} : FrameBlind (zP E av ws sz) := by
  intro a U g mk q
  obtain ⟨q0, q1, qP, qK, qD, qS⟩ := q
  exact ⟨q0, q1, qP, kt.same (s := U) (U := U.calling g mk a) rfl qK, qD, stt.same (s := U) (U := U.calling g mk a) rfl qS⟩
def zB (E : zG) (A : Nat → Prop) {S : Type} (wf : S → va_W) : S → State → Prop := fun u t => va_P E.1 vwCl (wf u) t.heap ∧ va_D A (wf u)
def zQi (E : zG) {S : Type} (post : Int32 → S → Prop) (wf : S → va_W) (A : Nat → Prop) : Array Value → State → Outcome → State → Prop := va_Qi post (zB E A wf) A
def zQl (E : zG) {S : Type} (post : Int64 → S → Prop) (wf : S → va_W) (A : Nat → Prop) : Array Value → State → Outcome → State → Prop := va_Ql post (zB E A wf) A
def zQv (E : zG) {S : Type} (post : S → Prop) (wf : S → va_W) (A : Nat → Prop) : Array Value → State → Outcome → State → Prop := va_Qv post (zB E A wf) A
def zMet (l : Launch) (y : MethodName) (cy : ByteArray) (nl : Nat) (ret : Option FieldType) (d lo mc ms : Nat) (E : zG) (av : List Value) (ws : va_W) (Qc : (Nat → Prop) → Array Value → State → Outcome → State → Prop) : Prop :=
  ∀ sz : Nat, Met l y (Cond.code y cy nl ret :: TBL) (zR d lo mc ms) (zP E av ws sz) (Qc (va_A ws sz)) mc ms (va_A ws sz)
theorem zz_met {l : Launch} {y : MethodName} {cc : ByteArray} {maxL : Nat} {ret : Option FieldType} {E : zG} {av : List Value} {ws : va_W} {d lo mc ms : Nat} {Qc : (Nat → Prop) → Array Value → State → Outcome → State → Prop}
    (hy : plainName y.cls = true) (hlen : (lg_sl av).length ≤ maxL)
    (body : ∀ (p : Program) (e : Env) (s : State) (m : MethodId) (below : List Frame) (meth : Method) (c : Code) (A : Nat → Prop) (ls : Array Slot), cx p s m av.toArray meth c cc maxL y.cls ret → meth.name = y.name → (∀ q, s.heap.size ≤ q → A q) → kt E s → stt A s s.heap → va_P E.1 vwCl ws s.heap → va_D A ws → lv_has ls maxL (lv_args 0 av) → W p l e (zR d lo mc ms) s m av.toArray below meth c s.heap [] 0 0 (MQ below (Qc A) av.toArray s mc ms A) (F0 m 0 ls [])) :
    zMet l y cc maxL ret d lo mc ms E av ws Qc := by
  intro sz
  refine Met.ofW (cc := cc) (maxL := maxL) (ret := ret) hy rfl ?_
  intro p e s m args below meth c s₁ B hml hv
  obtain ⟨rfl, hsz, hP, hK, hD0, hst⟩ := hv
  subst hsz
  have hts := atoms_spec (ws := Cond.code y cc maxL ret :: TBL) B.pre
  have hl := lv_entry av (n := maxL) hlen
  rw [lg_entry_eq]
  exact body p e s m below meth c (va_A ws s.heap.size) _ ⟨B.exec, B.bytes, B.returns, hml, findClass_of_methodNamed B.named, fun w h => hts w (List.mem_cons_of_mem _ h), B.notSynchronized⟩ (name_of_methodNamed B.named B.method).1 (fun q h => Or.inr h) hK hst hP hD0.self hl
/-- what the tables say of a method -/
def ym (y : MethodName) (cy : ByteArray) (nl : Nat) (ret : Option FieldType) (n : Nat) : Prop := Cond.code y cy nl ret ∈ TBL ∧ Cond.initialized y.cls ∈ TBL ∧ (y.cls ≠ "java/lang/invoke/MethodHandle" ∧ y.cls ≠ "java/lang/invoke/VarHandle" ∧ (parseMethodDescriptor y.desc).map (fun d => d.parameters.length) = some n)
/-- .. and of a field: place k of class ci in vwCl, as 'own' links it at 'index' -/
def fld (own : String) (index ci k : Nat) (ty : FieldType) (fin : Bool) : Prop := ∃ (Cn : String) (T : u_T) (N : Nat) (ty0 : Nat → FieldType), vwCl[ci]? = some (Cn, T, N) ∧ k < N ∧ (∀ w ∈ u_ws Cn T N, w ∈ TBL) ∧ (∀ k, k < N → parseFieldDescriptor (T k).2.2.1 = some (ty0 k)) ∧ (∀ a, a < N → ∀ b, b < N → a ≠ b → (T a).2.1 ≠ (T b).2.1) ∧ Cond.fieldLink own index (T k).1 (T k).2.1 (T k).2.2.1 ∈ TBL ∧ (T k).2.2.2 = fin ∧ ty0 k = ty
section ZZ
variable {p : Program} {l : Launch} {e : Env} {R : Room} {s : State} {m : MethodId} {args : Array Value} {below : List Frame} {meth : Method} {c : Code} {H : Heap} {locs : List Loc} {cells slots : Nat} {Q : State → Prop}
variable {cc : ByteArray} {pc nL : Nat} {ls : Array Slot} {rest : List Value} {A : Nat → Prop} {a : Nat} {ws wc wr : va_W} {own : String} {ret : Option FieldType} {E : zG}
theorem zz_get (C : cx p s m args meth c cc nL own ret) (hK : kt E s) (hP : va_P E.1 vwCl ws H) {index ci k : Nat} {ty : FieldType} {fin : Bool} (hF : fld own index ci k ty fin) (q0 : Nat) {fs : List Value} {v : Value} (he : ws[q0]? = some (a, .inr (ci, fs))) (hv : fs[k]? = some v) (hdg : decode cc pc = .ok (.getfield index, 3))
    (kk : W p l e R s m args below meth c H locs cells slots Q (F0 m (pc + 3) ls (v :: rest))) : W p l e R s m args below meth c H locs cells slots Q (F0 m pc ls (.ref a :: rest)) := by
  obtain ⟨hx, hb, hr, hml, hown, hts, hlk⟩ := C
  obtain ⟨Cn, T, N, ty0, h1, h2, h3, h4, h5, h6, h7, h8⟩ := hF
  exact va_get hx hb hts h3 hown hK.1 hP q0 he h1 k h2 (hts _ h6) (fun _ h9 => h9) hv hdg kk
theorem zz_put (C : cx p s m args meth c cc nL own ret) (hK : kt E s) (hP : va_P E.1 vwCl ws H) (hD : va_D A ws) (hS : va_S A s.heap H locs) {index ci k : Nat} {ty : FieldType} (hF : fld own index ci k ty false) (q0 : Nat) {fs : List Value} {v : Value} (he : ws[q0]? = some (a, .inr (ci, fs))) (hn : narrow ty v = v) (hfit : fits ty v = true) (hl : k < fs.length) (hdg : decode cc pc = .ok (.putfield index, 3))
    (kk : ∀ (H1 : Heap) (locs1 : List Loc), va_P E.1 vwCl (ws.set q0 (a, .inr (ci, fs.set k v))) H1 → va_D A (ws.set q0 (a, .inr (ci, fs.set k v))) → va_S A s.heap H1 locs1 → W p l e R s m args below meth c H1 locs1 cells slots Q (F0 m (pc + 3) ls rest)) : W p l e R s m args below meth c H locs cells slots Q (F0 m pc ls (v :: .ref a :: rest)) := by
  obtain ⟨hx, hb, hr, hml, hown, hts, hlk⟩ := C
  obtain ⟨Cn, T, N, ty0, h1, h2, h3, h4, h5, h6, h7, h8⟩ := hF
  exact va_put hx hb hts h3 ty0 h4 h5 hown hK.1 hP hD hS q0 he h1 k h2 (hts _ h6) (fun _ h9 => h9) h7 ((h4 k h2).trans (congrArg some h8)) hn hfit hl hdg kk
theorem zz_putF (C : cx p s m args meth c cc nL own ret) (hin : meth.name = "<init>") (hK : kt E s) (hP : va_P E.1 vwCl ws H) (hD : va_D A ws) (hS : va_S A s.heap H locs) {index ci k : Nat} {ty : FieldType} (hF : fld own index ci k ty true) (hdecl : ∀ (q : vw_C), vwCl[ci]? = some q → (q.2.1 k).1 = own) (q0 : Nat) {fs : List Value} {v : Value} (he : ws[q0]? = some (a, .inr (ci, fs))) (hn : narrow ty v = v) (hfit : fits ty v = true) (hl : k < fs.length) (hdg : decode cc pc = .ok (.putfield index, 3))
    (kk : ∀ (H1 : Heap) (locs1 : List Loc), va_P E.1 vwCl (ws.set q0 (a, .inr (ci, fs.set k v))) H1 → va_D A (ws.set q0 (a, .inr (ci, fs.set k v))) → va_S A s.heap H1 locs1 → W p l e R s m args below meth c H1 locs1 cells slots Q (F0 m (pc + 3) ls rest)) : W p l e R s m args below meth c H locs cells slots Q (F0 m pc ls (v :: .ref a :: rest)) := by
  obtain ⟨hx, hb, hr, hml, hown, hts, hlk⟩ := C
  obtain ⟨Cn, T, N, ty0, h1, h2, h3, h4, h5, h6, h7, h8⟩ := hF
  exact va_putF hx hb hts h3 ty0 h4 h5 hown hK.1 hP hD hS q0 he h1 k h2 (hts _ h6) (fun _ h9 => h9) h7 hin (hdecl _ h1) ((h4 k h2).trans (congrArg some h8)) hn hfit hl hdg kk
theorem zz_iald (C : cx p s m args meth c cc nL own ret) (hK : kt E s) (hP : va_P E.1 vwCl ws H) (q0 : Nat) {n : Nat} {f : Nat → Int32} (ha : ws[q0]? = some (a, zI E n f)) {i : Int32} (hin : vp_in i n) (hdg : decode cc pc = .ok (.iaload, 1))
    (kk : W p l e R s m args below meth c H locs cells slots Q (F0 m (pc + 1) ls (.int (f i.toNatClampNeg) :: rest))) : W p l e R s m args below meth c H locs cells slots Q (F0 m pc ls (.int i :: .ref a :: rest)) :=
  va_iald C.1 C.2.1 hK.1 hP q0 0 ha rfl hin hdg kk
theorem zz_lald (C : cx p s m args meth c cc nL own ret) (hK : kt E s) (hP : va_P E.1 vwCl ws H) (q0 : Nat) {n : Nat} {f : Nat → Int64} (ha : ws[q0]? = some (a, zL E n f)) {i : Int32} (hin : vp_in i n) (hdg : decode cc pc = .ok (.laload, 1))
    (kk : W p l e R s m args below meth c H locs cells slots Q (F0 m (pc + 1) ls (.long (f i.toNatClampNeg) :: rest))) : W p l e R s m args below meth c H locs cells slots Q (F0 m pc ls (.int i :: .ref a :: rest)) :=
  va_lald C.1 C.2.1 hK.1 hP q0 1 ha rfl hin hdg kk
theorem zz_iast (C : cx p s m args meth c cc nL own ret) (hK : kt E s) (hP : va_P E.1 vwCl ws H) (hD : va_D A ws) (hS : va_S A s.heap H locs) (q0 : Nat) {n : Nat} {f : Nat → Int32} (ha : ws[q0]? = some (a, zI E n f)) {i x : Int32} (hin : vp_in i n) (hdg : decode cc pc = .ok (.iastore, 1))
    (kk : ∀ (H1 : Heap) (locs1 : List Loc), va_P E.1 vwCl (ws.set q0 (a, zI E n (upd f i.toNatClampNeg x))) H1 → va_D A (ws.set q0 (a, zI E n (upd f i.toNatClampNeg x))) → va_S A s.heap H1 locs1 → W p l e R s m args below meth c H1 locs1 cells slots Q (F0 m (pc + 1) ls rest)) : W p l e R s m args below meth c H locs cells slots Q (F0 m pc ls (.int x :: .int i :: .ref a :: rest)) :=
  va_iast C.1 C.2.1 hK.1 hP hD hS q0 0 ha rfl hin hdg kk
theorem zz_last (C : cx p s m args meth c cc nL own ret) (hK : kt E s) (hP : va_P E.1 vwCl ws H) (hD : va_D A ws) (hS : va_S A s.heap H locs) (q0 : Nat) {n : Nat} {f : Nat → Int64} (ha : ws[q0]? = some (a, zL E n f)) {i : Int32} {x : Int64} (hin : vp_in i n) (hdg : decode cc pc = .ok (.lastore, 1))
    (kk : ∀ (H1 : Heap) (locs1 : List Loc), va_P E.1 vwCl (ws.set q0 (a, zL E n (vp_updL f i.toNatClampNeg x))) H1 → va_D A (ws.set q0 (a, zL E n (vp_updL f i.toNatClampNeg x))) → va_S A s.heap H1 locs1 → W p l e R s m args below meth c H1 locs1 cells slots Q (F0 m (pc + 1) ls rest)) : W p l e R s m args below meth c H locs cells slots Q (F0 m pc ls (.long x :: .int i :: .ref a :: rest)) :=
  va_last C.1 C.2.1 hK.1 hP hD hS q0 1 ha rfl hin hdg kk
theorem zz_alenI (C : cx p s m args meth c cc nL own ret) (hK : kt E s) (hP : va_P E.1 vwCl ws H) (q0 : Nat) {n : Nat} {f : Nat → Int32} (ha : ws[q0]? = some (a, zI E n f)) (hdg : decode cc pc = .ok (.arraylength, 1))
    (kk : W p l e R s m args below meth c H locs cells slots Q (F0 m (pc + 1) ls (.int (nI n) :: rest))) : W p l e R s m args below meth c H locs cells slots Q (F0 m pc ls (.ref a :: rest)) :=
  va_alen C.1 C.2.1 hK.1 hP q0 0 ha rfl rfl hdg kk
theorem zz_ialdN (C : cx p s m args meth c cc nL own ret) (hK : kt E s) (hP : va_P E.1 vwCl ws H) (q0 : Nat) {n : Nat} {f : Nat → Int32} (ha : ws[q0]? = some (a, zI E n f)) {j : Nat} (hj : j < n) (hn : n < 2 ^ 31) (hdg : decode cc pc = .ok (.iaload, 1))
    (kk : W p l e R s m args below meth c H locs cells slots Q (F0 m (pc + 1) ls (.int (f j) :: rest))) : W p l e R s m args below meth c H locs cells slots Q (F0 m pc ls (.int (nI j) :: .ref a :: rest)) := by
  refine zz_iald C hK hP q0 ha (vp_in_nI hj hn) hdg ?_
  rw [nI_clamp (Nat.lt_trans hj hn)]
  exact kk
theorem zz_laldN (C : cx p s m args meth c cc nL own ret) (hK : kt E s) (hP : va_P E.1 vwCl ws H) (q0 : Nat) {n : Nat} {f : Nat → Int64} (ha : ws[q0]? = some (a, zL E n f)) {j : Nat} (hj : j < n) (hn : n < 2 ^ 31) (hdg : decode cc pc = .ok (.laload, 1))
    (kk : W p l e R s m args below meth c H locs cells slots Q (F0 m (pc + 1) ls (.long (f j) :: rest))) : W p l e R s m args below meth c H locs cells slots Q (F0 m pc ls (.int (nI j) :: .ref a :: rest)) := by
  refine zz_lald C hK hP q0 ha (vp_in_nI hj hn) hdg ?_
  rw [nI_clamp (Nat.lt_trans hj hn)]
  exact kk
theorem zz_iastN (C : cx p s m args meth c cc nL own ret) (hK : kt E s) (hP : va_P E.1 vwCl ws H) (hD : va_D A ws) (hS : va_S A s.heap H locs) (q0 : Nat) {n : Nat} {f : Nat → Int32} (ha : ws[q0]? = some (a, zI E n f)) {j : Nat} {x : Int32} (hj : j < n) (hn : n < 2 ^ 31) (hdg : decode cc pc = .ok (.iastore, 1))
    (kk : ∀ (H1 : Heap) (locs1 : List Loc), va_P E.1 vwCl (ws.set q0 (a, zI E n (upd f j x))) H1 → va_D A (ws.set q0 (a, zI E n (upd f j x))) → va_S A s.heap H1 locs1 → W p l e R s m args below meth c H1 locs1 cells slots Q (F0 m (pc + 1) ls rest)) : W p l e R s m args below meth c H locs cells slots Q (F0 m pc ls (.int x :: .int (nI j) :: .ref a :: rest)) := by
  refine zz_iast C hK hP hD hS q0 ha (vp_in_nI hj hn) hdg ?_
  rw [nI_clamp (Nat.lt_trans hj hn)]
  exact kk
theorem zz_lastN (C : cx p s m args meth c cc nL own ret) (hK : kt E s) (hP : va_P E.1 vwCl ws H) (hD : va_D A ws) (hS : va_S A s.heap H locs) (q0 : Nat) {n : Nat} {f : Nat → Int64} (ha : ws[q0]? = some (a, zL E n f)) {j : Nat} {x : Int64} (hj : j < n) (hn : n < 2 ^ 31) (hdg : decode cc pc = .ok (.lastore, 1))
    (kk : ∀ (H1 : Heap) (locs1 : List Loc), va_P E.1 vwCl (ws.set q0 (a, zL E n (vp_updL f j x))) H1 → va_D A (ws.set q0 (a, zL E n (vp_updL f j x))) → va_S A s.heap H1 locs1 → W p l e R s m args below meth c H1 locs1 cells slots Q (F0 m (pc + 1) ls rest)) : W p l e R s m args below meth c H locs cells slots Q (F0 m pc ls (.long x :: .int (nI j) :: .ref a :: rest)) := by
  refine zz_last C hK hP hD hS q0 ha (vp_in_nI hj hn) hdg ?_
  rw [nI_clamp (Nat.lt_trans hj hn)]
  exact kk
theorem zz_tabN (C : cx p s m args meth c cc nL own ret) {t N : Nat} {g : Nat → Value} (hT : va_T .int t N g A s s.heap) (hS : va_S A s.heap H locs) {j : Nat} (hj : j < N) (hn : N < 2 ^ 31) (hdg : decode cc pc = .ok (.iaload, 1))
    (kk : W p l e R s m args below meth c H locs cells slots Q (F0 m (pc + 1) ls (g j :: rest))) : W p l e R s m args below meth c H locs cells slots Q (F0 m pc ls (.int (nI j) :: .ref t :: rest)) := by
  refine va_ti C.1 C.2.1 hT hS (vp_in_nI hj hn) (v := g j) ?_ hdg kk
  rw [nI_clamp (Nat.lt_trans hj hn)]
/-- the number on top is another name of the same -/
theorem zz_eqi {x y : Int32} (h : x = y) (k : W p l e R s m args below meth c H locs cells slots Q (F0 m pc ls (.int y :: rest))) : W p l e R s m args below meth c H locs cells slots Q (F0 m pc ls (.int x :: rest)) := by rw [h]; exact k
theorem zz_eql {x y : Int64} (h : x = y) (k : W p l e R s m args below meth c H locs cells slots Q (F0 m pc ls (.long y :: rest))) : W p l e R s m args below meth c H locs cells slots Q (F0 m pc ls (.long x :: rest)) := by rw [h]; exact k
theorem zz_reti {S : Type} {post : Int32 → S → Prop} {wf : S → va_W} {ty : FieldType} {v : Int32} (C : cx p s m args meth c cc nL own (some ty)) (hn : narrow ty (.int v) = .int v) (hS : va_S A s.heap H locs) (u : S) (hp : post v u) (hP : va_P E.1 vwCl (wf u) H) (hD : va_D A (wf u)) (hdg : decode cc pc = .ok (.ireturn, 1)) : W p l e R s m args below meth c H locs cells slots (MQ below (zQi E post wf A) args s cells slots A) (F0 m pc ls [.int v]) := by
  obtain ⟨hx, hb, hr, hml, hown, hts, hlk⟩ := C
  exact W.zret hx hb hr hn (fun t ht hW => ⟨⟨v, u, rfl, hp, by rw [ht]; exact hP, hD⟩, hS.F ht⟩) hS.2.2 hdg hlk
theorem zz_retl {S : Type} {post : Int64 → S → Prop} {wf : S → va_W} {v : Int64} (C : cx p s m args meth c cc nL own (some .long)) (hS : va_S A s.heap H locs) (u : S) (hp : post v u) (hP : va_P E.1 vwCl (wf u) H) (hD : va_D A (wf u)) (hdg : decode cc pc = .ok (.lreturn, 1)) : W p l e R s m args below meth c H locs cells slots (MQ below (zQl E post wf A) args s cells slots A) (F0 m pc ls [.long v]) := by
  obtain ⟨hx, hb, hr, hml, hown, hts, hlk⟩ := C
  exact W.lret hx hb hr (fun t ht hW => ⟨⟨v, u, rfl, hp, by rw [ht]; exact hP, hD⟩, hS.F ht⟩) hS.2.2 hdg hlk
theorem zz_retv {S : Type} {post : S → Prop} {wf : S → va_W} (C : cx p s m args meth c cc nL own none) (hS : va_S A s.heap H locs) (u : S) (hp : post u) (hP : va_P E.1 vwCl (wf u) H) (hD : va_D A (wf u)) (hdg : decode cc pc = .ok (.return_, 1)) : W p l e R s m args below meth c H locs cells slots (MQ below (zQv E post wf A) args s cells slots A) (F0 m pc ls []) := by
  obtain ⟨hx, hb, hr, hml, hown, hts, hlk⟩ := C
  exact W.vret hx hb hr (fun t ht hW => ⟨⟨u, rfl, hp, by rw [ht]; exact hP, hD⟩, hS.F ht⟩) hS.2.2 hdg hlk
/-- a call's start, out of the caller's world -/
theorem zz_pre {av : List Value} (isC : List Nat) (hnd : va_nd isC = true) (hC : isC.map (fun i => ws[i]?) = wc.map some) (hA : ∀ q, s.heap.size ≤ q → A q) (hK : kt E s) (hst : stt A s s.heap) (hP : va_P E.1 vwCl ws H) (hD : va_D A ws) (hS : va_S A s.heap H locs) :
    ∀ U : State, U.heap = H → s.WarmedH U.vm → zP E av wc H.size av.toArray U := by
  intro U hU hW
  have hF := va_free (wc := wc) hD hS hA isC hC
  refine ⟨rfl, by rw [hU], ?_, kt.moved hW hK, (hD.sub isC hnd hC).weaken (fun _ _ _ _ => trivial), ?_⟩
  · rw [hU]
    intro k q hk
    have h1 : (isC.map (fun i => ws[i]?))[k]? = some (some q) := by rw [hC, List.getElem?_map, hk]; rfl
    rw [List.getElem?_map] at h1
    cases hi : isC[k]? with
    | none => rw [hi] at h1; cases h1
    | some i => rw [hi] at h1; exact hP i q (Option.some.inj h1)
  · rw [hU]
    exact stt.call hW hst hS hF
/-- behind a call: the rest of the caller's world, and the callee's -/
theorem zz_goi {S : Type} {post : Int32 → S → Prop} {wf : S → va_W} {av : Array Value} {mc ms : Nat} {st0 : List Value} (isC isR : List Nat) (hC : isC.map (fun i => ws[i]?) = wc.map some) (hR : isR.map (fun i => ws[i]?) = wr.map some) (hn : va_nd isR = true) (hdis : ∀ i ∈ isR, i ∉ isC) (hA : ∀ q, s.heap.size ≤ q → A q) (hP : va_P E.1 vwCl ws H) (hD : va_D A ws) (hS : va_S A s.heap H locs)
    (hr : va_Run p l e R s m args below meth c H locs cells slots mc ms (F0 m pc ls st0) rest (zQi E post wf (va_A wc H.size) av) (va_A wc H.size))
    (kk : ∀ (r : Int32) (u : S) (H1 : Heap) (locs1 : List Loc), post r u → va_P E.1 vwCl (wr ++ wf u) H1 → va_D A (wr ++ wf u) → va_S A s.heap H1 locs1 → W p l e R s m args below meth c H1 locs1 (cells + mc) (slots + ms) Q (F0 m (pc + 3) ls (.int r :: rest))) : W p l e R s m args below meth c H locs cells slots Q (F0 m pc ls st0) := by
  have hF := va_free (wc := wc) hD hS hA isC hC
  refine va_calli hr hS (fun q _ h => hF q h) hF (fun r u t H1 locs1 ht hvm hw hB hz1 hk1 hS1 => ?_)
  obtain ⟨hP1, hD1⟩ := hB
  rw [ht] at hP1
  obtain ⟨hP2, hD2⟩ := va_join hP hD isC isR hC hR hn hdis hk1 hF hP1 hD1
  exact kk r u H1 locs1 hw hP2 hD2 hS1
theorem zz_gol {S : Type} {post : Int64 → S → Prop} {wf : S → va_W} {av : Array Value} {mc ms : Nat} {st0 : List Value} (isC isR : List Nat) (hC : isC.map (fun i => ws[i]?) = wc.map some) (hR : isR.map (fun i => ws[i]?) = wr.map some) (hn : va_nd isR = true) (hdis : ∀ i ∈ isR, i ∉ isC) (hA : ∀ q, s.heap.size ≤ q → A q) (hP : va_P E.1 vwCl ws H) (hD : va_D A ws) (hS : va_S A s.heap H locs)
    (hr : va_Run p l e R s m args below meth c H locs cells slots mc ms (F0 m pc ls st0) rest (zQl E post wf (va_A wc H.size) av) (va_A wc H.size))
    (kk : ∀ (r : Int64) (u : S) (H1 : Heap) (locs1 : List Loc), post r u → va_P E.1 vwCl (wr ++ wf u) H1 → va_D A (wr ++ wf u) → va_S A s.heap H1 locs1 → W p l e R s m args below meth c H1 locs1 (cells + mc) (slots + ms) Q (F0 m (pc + 3) ls (.long r :: rest))) : W p l e R s m args below meth c H locs cells slots Q (F0 m pc ls st0) := by
  have hF := va_free (wc := wc) hD hS hA isC hC
  refine va_calll hr hS (fun q _ h => hF q h) hF (fun r u t H1 locs1 ht hvm hw hB hz1 hk1 hS1 => ?_)
  obtain ⟨hP1, hD1⟩ := hB
  rw [ht] at hP1
  obtain ⟨hP2, hD2⟩ := va_join hP hD isC isR hC hR hn hdis hk1 hF hP1 hD1
  exact kk r u H1 locs1 hw hP2 hD2 hS1
theorem zz_gov {S : Type} {post : S → Prop} {wf : S → va_W} {av : Array Value} {mc ms : Nat} {st0 : List Value} (isC isR : List Nat) (hC : isC.map (fun i => ws[i]?) = wc.map some) (hR : isR.map (fun i => ws[i]?) = wr.map some) (hn : va_nd isR = true) (hdis : ∀ i ∈ isR, i ∉ isC) (hA : ∀ q, s.heap.size ≤ q → A q) (hP : va_P E.1 vwCl ws H) (hD : va_D A ws) (hS : va_S A s.heap H locs)
    (hr : va_Run p l e R s m args below meth c H locs cells slots mc ms (F0 m pc ls st0) rest (zQv E post wf (va_A wc H.size) av) (va_A wc H.size))
    (kk : ∀ (u : S) (H1 : Heap) (locs1 : List Loc), post u → va_P E.1 vwCl (wr ++ wf u) H1 → va_D A (wr ++ wf u) → va_S A s.heap H1 locs1 → W p l e R s m args below meth c H1 locs1 (cells + mc) (slots + ms) Q (F0 m (pc + 3) ls rest)) : W p l e R s m args below meth c H locs cells slots Q (F0 m pc ls st0) := by
  have hF := va_free (wc := wc) hD hS hA isC hC
  refine va_callv hr hS (fun q _ h => hF q h) hF (fun u t H1 locs1 ht hvm hw hB hz1 hk1 hS1 => ?_)
  obtain ⟨hP1, hD1⟩ := hB
  rw [ht] at hP1
  obtain ⟨hP2, hD2⟩ := va_join hP hD isC isR hC hR hn hdis hk1 hF hP1 hD1
  exact kk u H1 locs1 hw hP2 hD2 hS1
variable {y : MethodName} {cy : ByteArray} {nl d lo mc ms n index : Nat} {r2 : Option FieldType} {Qc : (Nat → Prop) → Array Value → State → Outcome → State → Prop} {b : Nat} {As st0 : List Value}
theorem zz_recv {ci q0 : Nat} {fs : List Value} {q : vw_C} (hK : kt E s) (hc : vwCl[ci]? = some q) (isC : List Nat) (hC : isC.map (fun i => ws[i]?) = wc.map some) (hP : va_P E.1 vwCl ws H) (he : wc[q0]? = some (b, .inr (ci, fs))) : ∃ cell : Cell, H[b]? = some cell ∧ cell.vm.isStatics = false ∧ s.vm.findClass q.1 = some cell.cls := by
  have h1 : (isC.map (fun i => ws[i]?))[q0]? = some (some (b, .inr (ci, fs))) := by rw [hC, List.getElem?_map, he]; rfl
  rw [List.getElem?_map] at h1
  cases hi : isC[q0]? with
  | none => rw [hi] at h1; cases h1
  | some i => rw [hi] at h1; exact va_recv hK.1 hP hc (Option.some.inj h1)
theorem zz_runV (C : cx p s m args meth c cc nL own ret) (hM : zMet l y cy nl r2 d lo mc ms E (.ref b :: As) wc Qc) (hy : ym y cy nl r2 n) (hlink : Cond.methodLink own index y ∈ TBL) (hinst : Cond.instanceMethod y ∈ TBL) (hsel : Cond.selects y.cls y y ∈ TBL) (isC : List Nat) (hnd : va_nd isC = true) (hC : isC.map (fun i => ws[i]?) = wc.map some) (hA : ∀ q, s.heap.size ≤ q → A q) (hK : kt E s) (hst : stt A s s.heap) (hP : va_P E.1 vwCl ws H) (hD : va_D A ws) (hS : va_S A s.heap H locs)
    {ci q0 : Nat} {fs : List Value} {q : vw_C} (hc : vwCl[ci]? = some q) (hq : q.1 = y.cls) (he : wc[q0]? = some (b, .inr (ci, fs))) (hn : As.length = n) (hls : ls.size = nL) (hst0 : st0 = As.reverse ++ .ref b :: rest) (hW : (rest.map fun v => v.category).sum ≤ 8) (hR : d + 1 ≤ R.frames ∧ 8 + (nl + 11) + lo ≤ R.locals) (hf : cells + mc ≤ R.cells ∧ slots + ms ≤ R.slots) (hdg : decode cc pc = .ok (.invokevirtual index, 3)) :
    va_Run p l e R s m args below meth c H locs cells slots mc ms (F0 m pc ls st0) rest (Qc (va_A wc H.size) (Value.ref b :: As).toArray) (va_A wc H.size) := by
  obtain ⟨hx, hb, hr, hml, hown, hts, hlk⟩ := C
  obtain ⟨y1, y2, y3, y4, y5⟩ := hy
  refine va_runV (C := y.cls) (Ts := TBL) (As := As) ⟨hx, hb, hml, hown, hts⟩ (hM H.size) (cwV n hts ?_ rfl rfl rfl ⟨rfl, y3, y4, y5⟩ hR) ⟨zP_blind, ?_, zz_pre isC hnd hC hA hK hst hP hD hS⟩ rfl hn hls hst0 (lv_room hW) hdg hf
  · intro w hw
    rcases List.mem_append.mp hw with h | h
    · simp only [List.mem_cons, List.not_mem_nil, or_false] at h
      rcases h with rfl | rfl | rfl | rfl
      · exact zz_goodW hlink
      · exact zz_goodW hinst
      · exact zz_goodW hsel
      · exact zz_goodW y2
    · exact zz_good y1 w h
  · rw [← hq]
    exact zz_recv hK hc isC hC hP he
theorem zz_runS (C : cx p s m args meth c cc nL own ret) (hM : zMet l y cy nl r2 d lo mc ms E As wc Qc) (hy : ym y cy nl r2 n) (hlink : Cond.methodLink own index y ∈ TBL) (hstc : Cond.static y ∈ TBL) (isC : List Nat) (hnd : va_nd isC = true) (hC : isC.map (fun i => ws[i]?) = wc.map some) (hA : ∀ q, s.heap.size ≤ q → A q) (hK : kt E s) (hst : stt A s s.heap) (hP : va_P E.1 vwCl ws H) (hD : va_D A ws) (hS : va_S A s.heap H locs)
    (hn : As.length = n) (hls : ls.size = nL) (hst0 : st0 = As.reverse ++ rest) (hW : (rest.map fun v => v.category).sum ≤ 8) (hR : d + 1 ≤ R.frames ∧ 8 + (nl + 11) + lo ≤ R.locals) (hf : cells + mc ≤ R.cells ∧ slots + ms ≤ R.slots) (hdg : decode cc pc = .ok (.invokestatic index, 3)) :
    va_Run p l e R s m args below meth c H locs cells slots mc ms (F0 m pc ls st0) rest (Qc (va_A wc H.size) As.toArray) (va_A wc H.size) := by
  obtain ⟨hx, hb, hr, hml, hown, hts, hlk⟩ := C
  obtain ⟨y1, y2, y3, y4, y5⟩ := hy
  refine va_runS (Ts := TBL) (As := As) ⟨hx, hb, hml, hown, hts⟩ (hM H.size) (va_cwS n hts ?_ rfl rfl rfl ⟨y3, y4, y5⟩ hR) ⟨zP_blind, zz_pre isC hnd hC hA hK hst hP hD hS⟩ rfl hn hls hst0 (lv_room hW) hdg hf
  intro w hw
  rcases List.mem_append.mp hw with h | h
  · simp only [List.mem_cons, List.not_mem_nil, or_false] at h
    rcases h with rfl | rfl | rfl
    · exact zz_goodW hlink
    · exact zz_goodW hstc
    · exact zz_goodW y2
  · exact zz_good y1 w h
theorem zz_runI (C : cx p s m args meth c cc nL own ret) (hM : zMet l y cy nl none d lo mc ms E (.ref b :: As) wc Qc) (hy : ym y cy nl none n) (hlink : Cond.methodLink own index y ∈ TBL) (hinst : Cond.instanceMethod y ∈ TBL) (hnm : y.name = "<init>") (isC : List Nat) (hnd : va_nd isC = true) (hC : isC.map (fun i => ws[i]?) = wc.map some) (hA : ∀ q, s.heap.size ≤ q → A q) (hK : kt E s) (hst : stt A s s.heap) (hP : va_P E.1 vwCl ws H) (hD : va_D A ws) (hS : va_S A s.heap H locs)
    (hn : As.length = n) (hls : ls.size = nL) (hst0 : st0 = As.reverse ++ .ref b :: rest) (hW : (rest.map fun v => v.category).sum ≤ 8) (hR : d + 1 ≤ R.frames ∧ 8 + (nl + 11) + lo ≤ R.locals) (hf : cells + mc ≤ R.cells ∧ slots + ms ≤ R.slots) (hdg : decode cc pc = .ok (.invokespecial index, 3)) :
    va_Run p l e R s m args below meth c H locs cells slots mc ms (F0 m pc ls st0) rest (Qc (va_A wc H.size) (Value.ref b :: As).toArray) (va_A wc H.size) := by
  obtain ⟨hx, hb, hr, hml, hown, hts, hlk⟩ := C
  obtain ⟨y1, y2, y3, y4, y5⟩ := hy
  exact va_runI (Ts := TBL) (As := As) ⟨hx, hb, hml, hown, hts⟩ (hM H.size) (cwI n hts (zz_good y1) rfl rfl rfl (hts _ y2) (hts _ hlink) (hts _ hinst) hnm ⟨y3, y4, y5⟩ hR) ⟨zP_blind, zz_pre isC hnd hC hA hK hst hP hD hS⟩ rfl hn hls hst0 (lv_room hW) hdg hf
theorem zz_runIN {host : String} (C : cx p s m args meth c cc nL own ret) (hM : zMet l y cy nl none d lo mc ms E (.ref b :: As) wc Qc) (hy : ym y cy nl none n) (hlink : Cond.methodLinkNest own index y host ∈ NWS) (hinst : Cond.instanceMethod y ∈ TBL) (hnm : y.name = "<init>") (isC : List Nat) (hnd : va_nd isC = true) (hC : isC.map (fun i => ws[i]?) = wc.map some) (hA : ∀ q, s.heap.size ≤ q → A q) (hK : kt E s) (hst : stt A s s.heap) (hP : va_P E.1 vwCl ws H) (hD : va_D A ws) (hS : va_S A s.heap H locs)
    (hn : As.length = n) (hls : ls.size = nL) (hst0 : st0 = As.reverse ++ .ref b :: rest) (hW : (rest.map fun v => v.category).sum ≤ 8) (hR : d + 1 ≤ R.frames ∧ 8 + (nl + 11) + lo ≤ R.locals) (hf : cells + mc ≤ R.cells ∧ slots + ms ≤ R.slots) (hdg : decode cc pc = .ok (.invokespecial index, 3)) :
    va_Run p l e R s m args below meth c H locs cells slots mc ms (F0 m pc ls st0) rest (Qc (va_A wc H.size) (Value.ref b :: As).toArray) (va_A wc H.size) := by
  obtain ⟨hx, hb, hr, hml, hown, hts, hlk⟩ := C
  obtain ⟨y1, y2, y3, y4, y5⟩ := hy
  exact va_runIN (Ts := TBL) (As := As) ⟨hx, hb, hml, hown, hts⟩ (hM H.size) ⟨va_cnB n hts (zz_good y1) rfl rfl rfl (hK.2 _ hlink) (hts _ y2) ⟨y3, y4, y5⟩ hR, hnm, hts _ hinst⟩ ⟨zP_blind, zz_pre isC hnd hC hA hK hst hP hD hS⟩ rfl hn hls hst0 (lv_room hW) hdg hf
/-- a method that overrides an abstract one: x is what the call names, y what it selects -/
theorem zz_runA {x : MethodName} (C : cx p s m args meth c cc nL own ret) (hM : zMet l y cy nl r2 d lo mc ms E (.ref b :: As) wc Qc) (hy : ym y cy nl r2 n) (hlink : Cond.methodLink own index x ∈ TBL) (hsame : Cond.sameMethod x.cls x.cls x.name x.desc ∈ TBL) (hsel : Cond.selects y.cls x y ∈ TBL) (hinst : Cond.instanceMethod y ∈ TBL) (hdec : Cond.declares x ∈ NWS) (hxd : x.cls ≠ "java/lang/invoke/MethodHandle" ∧ x.cls ≠ "java/lang/invoke/VarHandle" ∧ (parseMethodDescriptor x.desc).map (fun d => d.parameters.length) = some n) (isC : List Nat) (hnd : va_nd isC = true) (hC : isC.map (fun i => ws[i]?) = wc.map some) (hA : ∀ q, s.heap.size ≤ q → A q) (hK : kt E s) (hst : stt A s s.heap) (hP : va_P E.1 vwCl ws H) (hD : va_D A ws) (hS : va_S A s.heap H locs)
    {ci q0 : Nat} {fs : List Value} {q : vw_C} (hc : vwCl[ci]? = some q) (hq : q.1 = y.cls) (he : wc[q0]? = some (b, .inr (ci, fs))) (hn : As.length = n) (hls : ls.size = nL) (hst0 : st0 = As.reverse ++ .ref b :: rest) (hW : (rest.map fun v => v.category).sum ≤ 8) (hR : d + 1 ≤ R.frames ∧ 8 + (nl + 11) + lo ≤ R.locals) (hf : cells + mc ≤ R.cells ∧ slots + ms ≤ R.slots) (hdg : decode cc pc = .ok (.invokevirtual index, 3)) :
    va_Run p l e R s m args below meth c H locs cells slots mc ms (F0 m pc ls st0) rest (Qc (va_A wc H.size) (Value.ref b :: As).toArray) (va_A wc H.size) := by
  obtain ⟨hx, hb, hr, hml, hown, hts, hlk⟩ := C
  obtain ⟨y1, y2, y3, y4, y5⟩ := hy
  refine va_runU (C := y.cls) (owner := x.cls) (x := x) (Ts := TBL) (As := As) ⟨hx, hb, hml, hown, hts⟩ (hM H.size) (va_cwA n hts ?_ rfl rfl rfl (hK.2 _ hdec) hxd hR) ⟨zP_blind, ?_, zz_pre isC hnd hC hA hK hst hP hD hS⟩ rfl hn hls hst0 (lv_room hW) hdg hf
  · intro w hw
    rcases List.mem_append.mp hw with h | h
    · simp only [List.mem_cons, List.not_mem_nil, or_false] at h
      rcases h with rfl | rfl | rfl | rfl | rfl
      · exact zz_goodW hlink
      · exact zz_goodW hsame
      · exact zz_goodW hsel
      · exact zz_goodW hinst
      · exact zz_goodW y2
    · exact zz_good y1 w h
  · rw [← hq]
    exact zz_recv hK hc isC hC hP he
end ZZ
end
