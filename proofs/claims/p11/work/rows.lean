section
-- ===== PART A: goes FIRST, ahead of the names: the tables' words, and 'selects' of the private methods out of them =====
/-- a private method of a class that the tables say can be made, by its rows of tables_1 -/
def lw_okq (q : MethodName × Nat) : Prop := (q.1.cls ≠ "java/lang/invoke/MethodHandle" ∧ q.1.cls ≠ "java/lang/invoke/VarHandle") ∧ Cond.instantiable q.1.cls q.2 ∈ tables_1 ∧ Cond.privateMethod q.1 ∈ tables_1 ∧ Cond.instanceMethod q.1 ∈ tables_1
theorem lw_p0 : lw_okq (⟨"StatePuzzles", "find", "(LStatePuzzles$Puzzle;)I"⟩, 6) := ⟨⟨by decide +kernel, by decide +kernel⟩, List.mem_of_getElem? (i := 14) (by decide +kernel), List.mem_of_getElem? (i := 180) (by decide +kernel), List.mem_of_getElem? (i := 181) (by decide +kernel)⟩
theorem lw_p1 : lw_okq (⟨"StatePuzzles$Search", "makeRoom", "(I)V"⟩, 3) := ⟨⟨by decide +kernel, by decide +kernel⟩, List.mem_of_getElem? (i := 80) (by decide +kernel), List.mem_of_getElem? (i := 199) (by decide +kernel), List.mem_of_getElem? (i := 200) (by decide +kernel)⟩
theorem lw_p2 : lw_okq (⟨"StatePuzzles$JugSet", "readLevels", "(I)V"⟩, 5) := ⟨⟨by decide +kernel, by decide +kernel⟩, List.mem_of_getElem? (i := 22) (by decide +kernel), List.mem_of_getElem? (i := 227) (by decide +kernel), List.mem_of_getElem? (i := 228) (by decide +kernel)⟩
theorem lw_p3 : lw_okq (⟨"StatePuzzles$River", "allThings", "()I"⟩, 4) := ⟨⟨by decide +kernel, by decide +kernel⟩, List.mem_of_getElem? (i := 48) (by decide +kernel), List.mem_of_getElem? (i := 234) (by decide +kernel), List.mem_of_getElem? (i := 235) (by decide +kernel)⟩
theorem lw_p4 : lw_okq (⟨"StatePuzzles$JugSet", "roomIn", "(I)I"⟩, 5) := ⟨⟨by decide +kernel, by decide +kernel⟩, List.mem_of_getElem? (i := 22) (by decide +kernel), List.mem_of_getElem? (i := 244) (by decide +kernel), List.mem_of_getElem? (i := 245) (by decide +kernel)⟩
theorem lw_p5 : lw_okq (⟨"StatePuzzles$River", "mayBeLeft", "(I)Z"⟩, 4) := ⟨⟨by decide +kernel, by decide +kernel⟩, List.mem_of_getElem? (i := 48) (by decide +kernel), List.mem_of_getElem? (i := 264) (by decide +kernel), List.mem_of_getElem? (i := 265) (by decide +kernel)⟩
theorem lw_p6 : lw_okq (⟨"StatePuzzles$FoundSteps", "isFound", "(I)Z"⟩, 3) := ⟨⟨by decide +kernel, by decide +kernel⟩, List.mem_of_getElem? (i := 96) (by decide +kernel), List.mem_of_getElem? (i := 308) (by decide +kernel), List.mem_of_getElem? (i := 309) (by decide +kernel)⟩
theorem lw_p7 : lw_okq (⟨"StatePuzzles$RiverText", "readThings", "(LStatePuzzles$River;)I"⟩, 2) := ⟨⟨by decide +kernel, by decide +kernel⟩, List.mem_of_getElem? (i := 67) (by decide +kernel), List.mem_of_getElem? (i := 334) (by decide +kernel), List.mem_of_getElem? (i := 335) (by decide +kernel)⟩
theorem lw_p8 : lw_okq (⟨"StatePuzzles$RiverText", "unitAt", "(I)I"⟩, 2) := ⟨⟨by decide +kernel, by decide +kernel⟩, List.mem_of_getElem? (i := 67) (by decide +kernel), List.mem_of_getElem? (i := 338) (by decide +kernel), List.mem_of_getElem? (i := 339) (by decide +kernel)⟩
theorem lw_p9 : lw_okq (⟨"StatePuzzles$Tower", "tellOfFour", "(JI)I"⟩, 4) := ⟨⟨by decide +kernel, by decide +kernel⟩, List.mem_of_getElem? (i := 112) (by decide +kernel), List.mem_of_getElem? (i := 409) (by decide +kernel), List.mem_of_getElem? (i := 410) (by decide +kernel)⟩
theorem lw_p10 : lw_okq (⟨"StatePuzzlesModel", "code", "()I"⟩, 28) := ⟨⟨by decide +kernel, by decide +kernel⟩, List.mem_of_getElem? (i := 429) (by decide +kernel), List.mem_of_getElem? (i := 538) (by decide +kernel), List.mem_of_getElem? (i := 539) (by decide +kernel)⟩
theorem lw_p11 : lw_okq (⟨"StatePuzzlesModel", "begin", "(I)V"⟩, 28) := ⟨⟨by decide +kernel, by decide +kernel⟩, List.mem_of_getElem? (i := 429) (by decide +kernel), List.mem_of_getElem? (i := 542) (by decide +kernel), List.mem_of_getElem? (i := 543) (by decide +kernel)⟩
theorem lw_p12 : lw_okq (⟨"StatePuzzlesModel", "come", "(IIII)V"⟩, 28) := ⟨⟨by decide +kernel, by decide +kernel⟩, List.mem_of_getElem? (i := 429) (by decide +kernel), List.mem_of_getElem? (i := 546) (by decide +kernel), List.mem_of_getElem? (i := 547) (by decide +kernel)⟩
theorem lw_p13 : lw_okq (⟨"StatePuzzlesModel", "isGoal", "(I)Z"⟩, 28) := ⟨⟨by decide +kernel, by decide +kernel⟩, List.mem_of_getElem? (i := 429) (by decide +kernel), List.mem_of_getElem? (i := 550) (by decide +kernel), List.mem_of_getElem? (i := 551) (by decide +kernel)⟩
theorem lw_p14 : lw_okq (⟨"StatePuzzlesModel", "take", "(I)V"⟩, 28) := ⟨⟨by decide +kernel, by decide +kernel⟩, List.mem_of_getElem? (i := 429) (by decide +kernel), List.mem_of_getElem? (i := 554) (by decide +kernel), List.mem_of_getElem? (i := 555) (by decide +kernel)⟩
theorem lw_p15 : lw_okq (⟨"StatePuzzlesModel", "found", "(I)I"⟩, 28) := ⟨⟨by decide +kernel, by decide +kernel⟩, List.mem_of_getElem? (i := 429) (by decide +kernel), List.mem_of_getElem? (i := 558) (by decide +kernel), List.mem_of_getElem? (i := 559) (by decide +kernel)⟩
def lw_privs_1 : List (MethodName × Nat) := [(⟨"StatePuzzles", "find", "(LStatePuzzles$Puzzle;)I"⟩, 6), (⟨"StatePuzzles$Search", "makeRoom", "(I)V"⟩, 3), (⟨"StatePuzzles$JugSet", "readLevels", "(I)V"⟩, 5), (⟨"StatePuzzles$River", "allThings", "()I"⟩, 4), (⟨"StatePuzzles$JugSet", "roomIn", "(I)I"⟩, 5), (⟨"StatePuzzles$River", "mayBeLeft", "(I)Z"⟩, 4), (⟨"StatePuzzles$FoundSteps", "isFound", "(I)Z"⟩, 3), (⟨"StatePuzzles$RiverText", "readThings", "(LStatePuzzles$River;)I"⟩, 2), (⟨"StatePuzzles$RiverText", "unitAt", "(I)I"⟩, 2), (⟨"StatePuzzles$Tower", "tellOfFour", "(JI)I"⟩, 4), (⟨"StatePuzzlesModel", "code", "()I"⟩, 28), (⟨"StatePuzzlesModel", "begin", "(I)V"⟩, 28), (⟨"StatePuzzlesModel", "come", "(IIII)V"⟩, 28), (⟨"StatePuzzlesModel", "isGoal", "(I)Z"⟩, 28), (⟨"StatePuzzlesModel", "take", "(I)V"⟩, 28), (⟨"StatePuzzlesModel", "found", "(I)I"⟩, 28)]
theorem lw_r1 : ∀ q ∈ lw_privs_1, lw_okq q := List.forall_mem_cons.mpr ⟨lw_p0, List.forall_mem_cons.mpr ⟨lw_p1, List.forall_mem_cons.mpr ⟨lw_p2, List.forall_mem_cons.mpr ⟨lw_p3, List.forall_mem_cons.mpr ⟨lw_p4, List.forall_mem_cons.mpr ⟨lw_p5, List.forall_mem_cons.mpr ⟨lw_p6, List.forall_mem_cons.mpr ⟨lw_p7, List.forall_mem_cons.mpr ⟨lw_p8, List.forall_mem_cons.mpr ⟨lw_p9, List.forall_mem_cons.mpr ⟨lw_p10, List.forall_mem_cons.mpr ⟨lw_p11, List.forall_mem_cons.mpr ⟨lw_p12, List.forall_mem_cons.mpr ⟨lw_p13, List.forall_mem_cons.mpr ⟨lw_p14, List.forall_mem_cons.mpr ⟨lw_p15, fun _ h => absurd h List.not_mem_nil⟩⟩⟩⟩⟩⟩⟩⟩⟩⟩⟩⟩⟩⟩⟩⟩
theorem lw_p16 : lw_okq (⟨"StatePuzzlesModel", "pour", "(II)V"⟩, 28) := ⟨⟨by decide +kernel, by decide +kernel⟩, List.mem_of_getElem? (i := 429) (by decide +kernel), List.mem_of_getElem? (i := 562) (by decide +kernel), List.mem_of_getElem? (i := 563) (by decide +kernel)⟩
theorem lw_p17 : lw_okq (⟨"StatePuzzlesModel", "parse", "()I"⟩, 28) := ⟨⟨by decide +kernel, by decide +kernel⟩, List.mem_of_getElem? (i := 429) (by decide +kernel), List.mem_of_getElem? (i := 574) (by decide +kernel), List.mem_of_getElem? (i := 575) (by decide +kernel)⟩
theorem lw_p18 : lw_okq (⟨"StatePuzzlesModel", "byteAt", "(I)I"⟩, 28) := ⟨⟨by decide +kernel, by decide +kernel⟩, List.mem_of_getElem? (i := 429) (by decide +kernel), List.mem_of_getElem? (i := 578) (by decide +kernel), List.mem_of_getElem? (i := 579) (by decide +kernel)⟩
theorem lw_p19 : lw_okq (⟨"StatePuzzlesModel", "thingOf", "(I)I"⟩, 28) := ⟨⟨by decide +kernel, by decide +kernel⟩, List.mem_of_getElem? (i := 429) (by decide +kernel), List.mem_of_getElem? (i := 582) (by decide +kernel), List.mem_of_getElem? (i := 583) (by decide +kernel)⟩
theorem lw_p20 : lw_okq (⟨"StatePuzzlesModel", "countOf", "(I)I"⟩, 28) := ⟨⟨by decide +kernel, by decide +kernel⟩, List.mem_of_getElem? (i := 429) (by decide +kernel), List.mem_of_getElem? (i := 586) (by decide +kernel), List.mem_of_getElem? (i := 587) (by decide +kernel)⟩
theorem lw_p21 : lw_okq (⟨"StatePuzzlesModel", "mayStay", "(I)Z"⟩, 28) := ⟨⟨by decide +kernel, by decide +kernel⟩, List.mem_of_getElem? (i := 429) (by decide +kernel), List.mem_of_getElem? (i := 590) (by decide +kernel), List.mem_of_getElem? (i := 591) (by decide +kernel)⟩
theorem lw_p22 : lw_okq (⟨"StatePuzzlesModel", "all", "()J"⟩, 28) := ⟨⟨by decide +kernel, by decide +kernel⟩, List.mem_of_getElem? (i := 429) (by decide +kernel), List.mem_of_getElem? (i := 607) (by decide +kernel), List.mem_of_getElem? (i := 608) (by decide +kernel)⟩
theorem lw_p23 : lw_okq (⟨"StatePuzzlesModel", "findThree", "(JIIIII)V"⟩, 28) := ⟨⟨by decide +kernel, by decide +kernel⟩, List.mem_of_getElem? (i := 429) (by decide +kernel), List.mem_of_getElem? (i := 615) (by decide +kernel), List.mem_of_getElem? (i := 616) (by decide +kernel)⟩
theorem lw_p24 : lw_okq (⟨"StatePuzzlesModel", "findFour", "(JI)V"⟩, 28) := ⟨⟨by decide +kernel, by decide +kernel⟩, List.mem_of_getElem? (i := 429) (by decide +kernel), List.mem_of_getElem? (i := 619) (by decide +kernel), List.mem_of_getElem? (i := 620) (by decide +kernel)⟩
def lw_privs_2 : List (MethodName × Nat) := [(⟨"StatePuzzlesModel", "pour", "(II)V"⟩, 28), (⟨"StatePuzzlesModel", "parse", "()I"⟩, 28), (⟨"StatePuzzlesModel", "byteAt", "(I)I"⟩, 28), (⟨"StatePuzzlesModel", "thingOf", "(I)I"⟩, 28), (⟨"StatePuzzlesModel", "countOf", "(I)I"⟩, 28), (⟨"StatePuzzlesModel", "mayStay", "(I)Z"⟩, 28), (⟨"StatePuzzlesModel", "all", "()J"⟩, 28), (⟨"StatePuzzlesModel", "findThree", "(JIIIII)V"⟩, 28), (⟨"StatePuzzlesModel", "findFour", "(JI)V"⟩, 28)]
theorem lw_r2 : ∀ q ∈ lw_privs_2, lw_okq q := List.forall_mem_cons.mpr ⟨lw_p16, List.forall_mem_cons.mpr ⟨lw_p17, List.forall_mem_cons.mpr ⟨lw_p18, List.forall_mem_cons.mpr ⟨lw_p19, List.forall_mem_cons.mpr ⟨lw_p20, List.forall_mem_cons.mpr ⟨lw_p21, List.forall_mem_cons.mpr ⟨lw_p22, List.forall_mem_cons.mpr ⟨lw_p23, List.forall_mem_cons.mpr ⟨lw_p24, fun _ h => absurd h List.not_mem_nil⟩⟩⟩⟩⟩⟩⟩⟩⟩
def lw_privs : List (MethodName × Nat) := lw_privs_1 ++ (lw_privs_2)
def lw_tbl : List Cond := k2_sels lw_privs ++ tables_1
theorem lw_privs_ok : ∀ q ∈ lw_privs, lw_okq q := by
  show ∀ q ∈ lw_privs_1 ++ (lw_privs_2), lw_okq q
  exact List.forall_mem_append.mpr ⟨lw_r1, lw_r2⟩
def R_Fs : String := "StatePuzzles$FoundSteps"
def F_Fs : u_T := fun k => match k with
  | 0 => ("StatePuzzles$FoundSteps", "firsts", "[I", false)
  | 1 => ("StatePuzzles$FoundSteps", "seconds", "[I", false)
  | _ => ("StatePuzzles$FoundSteps", "count", "I", false)
def t_Fs : Nat → FieldType := fun k => match k with
  | 0 => .array .int
  | 1 => .array .int
  | _ => .int
def R_Js : String := "StatePuzzles$JugSet"
def F_Js : u_T := fun k => match k with
  | 0 => ("StatePuzzles$JugSet", "sizes", "[I", true)
  | 1 => ("StatePuzzles$JugSet", "firstLevels", "[I", true)
  | 2 => ("StatePuzzles$JugSet", "wanted", "[I", true)
  | 3 => ("StatePuzzles$JugSet", "levels", "[I", true)
  | _ => ("StatePuzzles$JugSet", "count", "I", false)
def t_Js : Nat → FieldType := fun k => match k with
  | 0 => .array .int
  | 1 => .array .int
  | 2 => .array .int
  | 3 => .array .int
  | _ => .int
def R_Rv : String := "StatePuzzles$River"
def F_Rv : u_T := fun k => match k with
  | 0 => ("StatePuzzles$River", "thingOfLetter", "[I", true)
  | 1 => ("StatePuzzles$River", "notWith", "[I", true)
  | 2 => ("StatePuzzles$River", "things", "I", false)
  | _ => ("StatePuzzles$River", "boat", "I", false)
def t_Rv : Nat → FieldType := fun k => match k with
  | 0 => .array .int
  | 1 => .array .int
  | 2 => .int
  | _ => .int
def R_Rt : String := "StatePuzzles$RiverText"
def F_Rt : u_T := fun k => match k with
  | 0 => ("StatePuzzles$RiverText", "units", "[I", true)
  | _ => ("StatePuzzles$RiverText", "count", "I", false)
def t_Rt : Nat → FieldType := fun k => match k with
  | 0 => .array .int
  | _ => .int
def R_Se : String := "StatePuzzles$Search"
def F_Se : u_T := fun k => match k with
  | 0 => ("StatePuzzles$Search", "trace", "[I", false)
  | 1 => ("StatePuzzles$Search", "queue", "[I", false)
  | _ => ("StatePuzzles$Search", "met", "I", false)
def t_Se : Nat → FieldType := fun k => match k with
  | 0 => .array .int
  | 1 => .array .int
  | _ => .int
def R_Tw : String := "StatePuzzles$Tower"
def F_Tw : u_T := fun k => match k with
  | 0 => ("StatePuzzles$Tower", "fourPegMoves", "[J", true)
  | 1 => ("StatePuzzles$Tower", "leastOnes", "[I", true)
  | 2 => ("StatePuzzles$Tower", "pegs", "I", false)
  | _ => ("StatePuzzles$Tower", "discs", "I", false)
def t_Tw : Nat → FieldType := fun k => match k with
  | 0 => .array .long
  | 1 => .array .int
  | 2 => .int
  | _ => .int
def R_Sp : String := "StatePuzzles"
def F_Sp : u_T := fun k => match k with
  | 0 => ("StatePuzzles", "jugSet", "LStatePuzzles$JugSet;", true)
  | 1 => ("StatePuzzles", "river", "LStatePuzzles$River;", true)
  | 2 => ("StatePuzzles", "riverText", "LStatePuzzles$RiverText;", true)
  | 3 => ("StatePuzzles", "search", "LStatePuzzles$Search;", true)
  | 4 => ("StatePuzzles", "found", "LStatePuzzles$FoundSteps;", true)
  | _ => ("StatePuzzles", "discTower", "LStatePuzzles$Tower;", true)
def t_Sp : Nat → FieldType := fun k => match k with
  | 0 => .object "StatePuzzles$JugSet"
  | 1 => .object "StatePuzzles$River"
  | 2 => .object "StatePuzzles$RiverText"
  | 3 => .object "StatePuzzles$Search"
  | 4 => .object "StatePuzzles$FoundSteps"
  | _ => .object "StatePuzzles$Tower"
def R_Mo : String := "StatePuzzlesModel"
def F_Mo : u_T := fun k => match k with
  | 0 => ("StatePuzzlesModel", "thrown", "I", false)
  | 1 => ("StatePuzzlesModel", "jugs", "I", false)
  | 2 => ("StatePuzzlesModel", "sizes", "[I", true)
  | 3 => ("StatePuzzlesModel", "now", "[I", true)
  | 4 => ("StatePuzzlesModel", "goals", "[I", true)
  | 5 => ("StatePuzzlesModel", "size", "I", false)
  | 6 => ("StatePuzzlesModel", "text", "[I", true)
  | 7 => ("StatePuzzlesModel", "steps", "I", false)
  | 8 => ("StatePuzzlesModel", "first", "[I", true)
  | 9 => ("StatePuzzlesModel", "second", "[I", true)
  | 10 => ("StatePuzzlesModel", "queue", "[I", true)
  | 11 => ("StatePuzzlesModel", "parent", "[I", true)
  | 12 => ("StatePuzzlesModel", "stepFrom", "[I", true)
  | 13 => ("StatePuzzlesModel", "stepTo", "[I", true)
  | 14 => ("StatePuzzlesModel", "seen", "[Z", true)
  | 15 => ("StatePuzzlesModel", "many", "I", false)
  | 16 => ("StatePuzzlesModel", "held", "[I", true)
  | 17 => ("StatePuzzlesModel", "things", "I", false)
  | 18 => ("StatePuzzlesModel", "boat", "I", false)
  | 19 => ("StatePuzzlesModel", "place", "[I", true)
  | 20 => ("StatePuzzlesModel", "apart", "[I", true)
  | 21 => ("StatePuzzlesModel", "pegs", "I", false)
  | 22 => ("StatePuzzlesModel", "discs", "I", false)
  | 23 => ("StatePuzzlesModel", "four", "[J", true)
  | 24 => ("StatePuzzlesModel", "parted", "[I", true)
  | 25 => ("StatePuzzlesModel", "moveDisc", "I", false)
  | 26 => ("StatePuzzlesModel", "moveFrom", "I", false)
  | _ => ("StatePuzzlesModel", "moveTo", "I", false)
def t_Mo : Nat → FieldType := fun k => match k with
  | 0 => .int
  | 1 => .int
  | 2 => .array .int
  | 3 => .array .int
  | 4 => .array .int
  | 5 => .int
  | 6 => .array .int
  | 7 => .int
  | 8 => .array .int
  | 9 => .array .int
  | 10 => .array .int
  | 11 => .array .int
  | 12 => .array .int
  | 13 => .array .int
  | 14 => .array .boolean
  | 15 => .int
  | 16 => .array .int
  | 17 => .int
  | 18 => .int
  | 19 => .array .int
  | 20 => .array .int
  | 21 => .int
  | 22 => .int
  | 23 => .array .long
  | 24 => .array .int
  | 25 => .int
  | 26 => .int
  | _ => .int
def R_Pz : String := "StatePuzzles$Puzzle"
abbrev vwCl : List vw_C := [(R_Fs, F_Fs, 3), (R_Js, F_Js, 5), (R_Rv, F_Rv, 4), (R_Rt, F_Rt, 2), (R_Se, F_Se, 3), (R_Tw, F_Tw, 4), (R_Sp, F_Sp, 6), (R_Mo, F_Mo, 28)]
abbrev b_Sp_init : ByteArray := prog_1_method_1_code
def y_Sp_init : MethodName := ⟨"StatePuzzles", "<init>", "()V"⟩
abbrev b_Sp_crossing : ByteArray := prog_1_method_6_code
def y_Sp_crossing : MethodName := ⟨"StatePuzzles", "crossing", "()I"⟩
abbrev b_Sp_find : ByteArray := prog_1_method_13_code
def y_Sp_find : MethodName := ⟨"StatePuzzles", "find", "(LStatePuzzles$Puzzle;)I"⟩
abbrev b_Sp_goal : ByteArray := prog_1_method_3_code
def y_Sp_goal : MethodName := ⟨"StatePuzzles", "goal", "(II)Z"⟩
abbrev b_Sp_jug : ByteArray := prog_1_method_2_code
def y_Sp_jug : MethodName := ⟨"StatePuzzles", "jug", "(II)I"⟩
abbrev b_Sp_jugs : ByteArray := prog_1_method_4_code
def y_Sp_jugs : MethodName := ⟨"StatePuzzles", "jugs", "()I"⟩
abbrev b_Sp_ring : ByteArray := prog_1_method_12_code
def y_Sp_ring : MethodName := ⟨"StatePuzzles", "ring", "(IJ)J"⟩
abbrev b_Sp_ringSteps : ByteArray := prog_1_method_16_code
def y_Sp_ringSteps : MethodName := ⟨"StatePuzzles", "ringSteps", "(I)J"⟩
abbrev b_Sp_rings : ByteArray := prog_1_method_11_code
def y_Sp_rings : MethodName := ⟨"StatePuzzles", "rings", "(I)J"⟩
abbrev b_Sp_step : ByteArray := prog_1_method_7_code
def y_Sp_step : MethodName := ⟨"StatePuzzles", "step", "(IZ)I"⟩
abbrev b_Sp_tower : ByteArray := prog_1_method_9_code
def y_Sp_tower : MethodName := ⟨"StatePuzzles", "tower", "(II)J"⟩
abbrev b_Sp_towerMove : ByteArray := prog_1_method_10_code
def y_Sp_towerMove : MethodName := ⟨"StatePuzzles", "towerMove", "(JI)I"⟩
abbrev b_Sp_triesForHeavier : ByteArray := prog_1_method_14_code
def y_Sp_triesForHeavier : MethodName := ⟨"StatePuzzles", "triesForHeavier", "(I)I"⟩
abbrev b_Sp_triesForOdd : ByteArray := prog_1_method_15_code
def y_Sp_triesForOdd : MethodName := ⟨"StatePuzzles", "triesForOdd", "(I)I"⟩
abbrev b_Sp_unit : ByteArray := prog_1_method_5_code
def y_Sp_unit : MethodName := ⟨"StatePuzzles", "unit", "(I)Z"⟩
abbrev b_Sp_weigh : ByteArray := prog_1_method_8_code
def y_Sp_weigh : MethodName := ⟨"StatePuzzles", "weigh", "(II)I"⟩
abbrev b_Fs_init : ByteArray := prog_2_method_1_code
def y_Fs_init : MethodName := ⟨"StatePuzzles$FoundSteps", "<init>", "()V"⟩
abbrev b_Fs_first : ByteArray := prog_2_method_5_code
def y_Fs_first : MethodName := ⟨"StatePuzzles$FoundSteps", "first", "(I)I"⟩
abbrev b_Fs_forget : ByteArray := prog_2_method_2_code
def y_Fs_forget : MethodName := ⟨"StatePuzzles$FoundSteps", "forget", "()V"⟩
abbrev b_Fs_isFound : ByteArray := prog_2_method_7_code
def y_Fs_isFound : MethodName := ⟨"StatePuzzles$FoundSteps", "isFound", "(I)Z"⟩
abbrev b_Fs_makeRoom : ByteArray := prog_2_method_3_code
def y_Fs_makeRoom : MethodName := ⟨"StatePuzzles$FoundSteps", "makeRoom", "(I)V"⟩
abbrev b_Fs_put : ByteArray := prog_2_method_4_code
def y_Fs_put : MethodName := ⟨"StatePuzzles$FoundSteps", "put", "(III)V"⟩
abbrev b_Fs_second : ByteArray := prog_2_method_6_code
def y_Fs_second : MethodName := ⟨"StatePuzzles$FoundSteps", "second", "(I)I"⟩
abbrev b_Js_init : ByteArray := prog_3_method_1_code
def y_Js_init : MethodName := ⟨"StatePuzzles$JugSet", "<init>", "()V"⟩
abbrev b_Js_add : ByteArray := prog_3_method_2_code
def y_Js_add : MethodName := ⟨"StatePuzzles$JugSet", "add", "(II)I"⟩
abbrev b_Js_codeOf : ByteArray := prog_3_method_10_code
def y_Js_codeOf : MethodName := ⟨"StatePuzzles$JugSet", "codeOf", "(II)I"⟩
abbrev b_Js_firstTold : ByteArray := prog_3_method_8_code
def y_Js_firstTold : MethodName := ⟨"StatePuzzles$JugSet", "firstTold", "(I)I"⟩
abbrev b_Js_isDone : ByteArray := prog_3_method_6_code
def y_Js_isDone : MethodName := ⟨"StatePuzzles$JugSet", "isDone", "(I)Z"⟩
abbrev b_Js_meetNext : ByteArray := prog_3_method_7_code
def y_Js_meetNext : MethodName := ⟨"StatePuzzles$JugSet", "meetNext", "(ILStatePuzzles$Search;)V"⟩
abbrev b_Js_readLevels : ByteArray := prog_3_method_12_code
def y_Js_readLevels : MethodName := ⟨"StatePuzzles$JugSet", "readLevels", "(I)V"⟩
abbrev b_Js_roomIn : ByteArray := prog_3_method_11_code
def y_Js_roomIn : MethodName := ⟨"StatePuzzles$JugSet", "roomIn", "(I)I"⟩
abbrev b_Js_secondTold : ByteArray := prog_3_method_9_code
def y_Js_secondTold : MethodName := ⟨"StatePuzzles$JugSet", "secondTold", "(II)I"⟩
abbrev b_Js_startState : ByteArray := prog_3_method_5_code
def y_Js_startState : MethodName := ⟨"StatePuzzles$JugSet", "startState", "()I"⟩
abbrev b_Js_stateCount : ByteArray := prog_3_method_4_code
def y_Js_stateCount : MethodName := ⟨"StatePuzzles$JugSet", "stateCount", "()I"⟩
abbrev b_Js_want : ByteArray := prog_3_method_3_code
def y_Js_want : MethodName := ⟨"StatePuzzles$JugSet", "want", "(II)Z"⟩
abbrev b_Pz_init : ByteArray := prog_4_method_1_code
def y_Pz_init : MethodName := ⟨"StatePuzzles$Puzzle", "<init>", "()V"⟩
abbrev b_Rv_init : ByteArray := prog_5_method_1_code
def y_Rv_init : MethodName := ⟨"StatePuzzles$River", "<init>", "()V"⟩
abbrev b_Rv_addThing : ByteArray := prog_5_method_3_code
def y_Rv_addThing : MethodName := ⟨"StatePuzzles$River", "addThing", "(I)Z"⟩
abbrev b_Rv_allThings : ByteArray := prog_5_method_13_code
def y_Rv_allThings : MethodName := ⟨"StatePuzzles$River", "allThings", "()I"⟩
abbrev b_Rv_clear : ByteArray := prog_5_method_2_code
def y_Rv_clear : MethodName := ⟨"StatePuzzles$River", "clear", "()V"⟩
abbrev b_Rv_firstTold : ByteArray := prog_5_method_11_code
def y_Rv_firstTold : MethodName := ⟨"StatePuzzles$River", "firstTold", "(I)I"⟩
abbrev b_Rv_isDone : ByteArray := prog_5_method_9_code
def y_Rv_isDone : MethodName := ⟨"StatePuzzles$River", "isDone", "(I)Z"⟩
abbrev b_Rv_keepApart : ByteArray := prog_5_method_5_code
def y_Rv_keepApart : MethodName := ⟨"StatePuzzles$River", "keepApart", "(II)Z"⟩
abbrev b_Rv_mayBeLeft : ByteArray := prog_5_method_14_code
def y_Rv_mayBeLeft : MethodName := ⟨"StatePuzzles$River", "mayBeLeft", "(I)Z"⟩
abbrev b_Rv_meetNext : ByteArray := prog_5_method_10_code
def y_Rv_meetNext : MethodName := ⟨"StatePuzzles$River", "meetNext", "(ILStatePuzzles$Search;)V"⟩
abbrev b_Rv_secondTold : ByteArray := prog_5_method_12_code
def y_Rv_secondTold : MethodName := ⟨"StatePuzzles$River", "secondTold", "(II)I"⟩
abbrev b_Rv_setBoat : ByteArray := prog_5_method_6_code
def y_Rv_setBoat : MethodName := ⟨"StatePuzzles$River", "setBoat", "(I)Z"⟩
abbrev b_Rv_startState : ByteArray := prog_5_method_8_code
def y_Rv_startState : MethodName := ⟨"StatePuzzles$River", "startState", "()I"⟩
abbrev b_Rv_stateCount : ByteArray := prog_5_method_7_code
def y_Rv_stateCount : MethodName := ⟨"StatePuzzles$River", "stateCount", "()I"⟩
abbrev b_Rv_thingOf : ByteArray := prog_5_method_4_code
def y_Rv_thingOf : MethodName := ⟨"StatePuzzles$River", "thingOf", "(I)I"⟩
abbrev b_Rt_init : ByteArray := prog_6_method_1_code
def y_Rt_init : MethodName := ⟨"StatePuzzles$RiverText", "<init>", "()V"⟩
abbrev b_Rt_add : ByteArray := prog_6_method_2_code
def y_Rt_add : MethodName := ⟨"StatePuzzles$RiverText", "add", "(I)Z"⟩
abbrev b_Rt_forget : ByteArray := prog_6_method_3_code
def y_Rt_forget : MethodName := ⟨"StatePuzzles$RiverText", "forget", "()V"⟩
abbrev b_Rt_readInto : ByteArray := prog_6_method_4_code
def y_Rt_readInto : MethodName := ⟨"StatePuzzles$RiverText", "readInto", "(LStatePuzzles$River;)I"⟩
abbrev b_Rt_readThings : ByteArray := prog_6_method_5_code
def y_Rt_readThings : MethodName := ⟨"StatePuzzles$RiverText", "readThings", "(LStatePuzzles$River;)I"⟩
abbrev b_Rt_unitAt : ByteArray := prog_6_method_6_code
def y_Rt_unitAt : MethodName := ⟨"StatePuzzles$RiverText", "unitAt", "(I)I"⟩
abbrev b_Se_init : ByteArray := prog_7_method_1_code
def y_Se_init : MethodName := ⟨"StatePuzzles$Search", "<init>", "()V"⟩
abbrev b_Se_before : ByteArray := prog_7_method_5_code
def y_Se_before : MethodName := ⟨"StatePuzzles$Search", "before", "(I)I"⟩
abbrev b_Se_endOf : ByteArray := prog_7_method_2_code
def y_Se_endOf : MethodName := ⟨"StatePuzzles$Search", "endOf", "(LStatePuzzles$Puzzle;)I"⟩
abbrev b_Se_makeRoom : ByteArray := prog_7_method_7_code
def y_Se_makeRoom : MethodName := ⟨"StatePuzzles$Search", "makeRoom", "(I)V"⟩
abbrev b_Se_meet : ByteArray := prog_7_method_3_code
def y_Se_meet : MethodName := ⟨"StatePuzzles$Search", "meet", "(III)V"⟩
abbrev b_Se_stepInto : ByteArray := prog_7_method_6_code
def y_Se_stepInto : MethodName := ⟨"StatePuzzles$Search", "stepInto", "(I)I"⟩
abbrev b_Se_stepsTo : ByteArray := prog_7_method_4_code
def y_Se_stepsTo : MethodName := ⟨"StatePuzzles$Search", "stepsTo", "(I)I"⟩
abbrev b_Tw_init : ByteArray := prog_8_method_1_code
def y_Tw_init : MethodName := ⟨"StatePuzzles$Tower", "<init>", "()V"⟩
abbrev b_Tw_lesserFreePeg : ByteArray := prog_8_method_8_code
def y_Tw_lesserFreePeg : MethodName := ⟨"StatePuzzles$Tower", "lesserFreePeg", "(II)I"⟩
abbrev b_Tw_moves : ByteArray := prog_8_method_3_code
def y_Tw_moves : MethodName := ⟨"StatePuzzles$Tower", "moves", "()J"⟩
abbrev b_Tw_set : ByteArray := prog_8_method_2_code
def y_Tw_set : MethodName := ⟨"StatePuzzles$Tower", "set", "(II)Z"⟩
abbrev b_Tw_tellMove : ByteArray := prog_8_method_4_code
def y_Tw_tellMove : MethodName := ⟨"StatePuzzles$Tower", "tellMove", "(JI)I"⟩
abbrev b_Tw_tellOfFour : ByteArray := prog_8_method_5_code
def y_Tw_tellOfFour : MethodName := ⟨"StatePuzzles$Tower", "tellOfFour", "(JI)I"⟩
abbrev b_Tw_tellOfThree : ByteArray := prog_8_method_6_code
def y_Tw_tellOfThree : MethodName := ⟨"StatePuzzles$Tower", "tellOfThree", "(JIIIIII)I"⟩
abbrev b_Tw_threePegMoves : ByteArray := prog_8_method_7_code
def y_Tw_threePegMoves : MethodName := ⟨"StatePuzzles$Tower", "threePegMoves", "(I)J"⟩
abbrev b_Mo_init : ByteArray := prog_10_method_1_code
def y_Mo_init : MethodName := ⟨"StatePuzzlesModel", "<init>", "()V"⟩
abbrev b_Mo_all : ByteArray := prog_10_method_24_code
def y_Mo_all : MethodName := ⟨"StatePuzzlesModel", "all", "()J"⟩
abbrev b_Mo_begin : ByteArray := prog_10_method_10_code
def y_Mo_begin : MethodName := ⟨"StatePuzzlesModel", "begin", "(I)V"⟩
abbrev b_Mo_byteAt : ByteArray := prog_10_method_15_code
def y_Mo_byteAt : MethodName := ⟨"StatePuzzlesModel", "byteAt", "(I)I"⟩
abbrev b_Mo_code : ByteArray := prog_10_method_7_code
def y_Mo_code : MethodName := ⟨"StatePuzzlesModel", "code", "()I"⟩
abbrev b_Mo_come : ByteArray := prog_10_method_11_code
def y_Mo_come : MethodName := ⟨"StatePuzzlesModel", "come", "(IIII)V"⟩
abbrev b_Mo_countOf : ByteArray := prog_10_method_19_code
def y_Mo_countOf : MethodName := ⟨"StatePuzzlesModel", "countOf", "(I)I"⟩
abbrev b_Mo_crossing : ByteArray := prog_10_method_20_code
def y_Mo_crossing : MethodName := ⟨"StatePuzzlesModel", "crossing", "()I"⟩
abbrev b_Mo_findFour : ByteArray := prog_10_method_27_code
def y_Mo_findFour : MethodName := ⟨"StatePuzzlesModel", "findFour", "(JI)V"⟩
abbrev b_Mo_findThree : ByteArray := prog_10_method_25_code
def y_Mo_findThree : MethodName := ⟨"StatePuzzlesModel", "findThree", "(JIIIII)V"⟩
abbrev b_Mo_found : ByteArray := prog_10_method_12_code
def y_Mo_found : MethodName := ⟨"StatePuzzlesModel", "found", "(I)I"⟩
abbrev b_Mo_full : ByteArray := prog_10_method_29_code
def y_Mo_full : MethodName := ⟨"StatePuzzlesModel", "full", "(I)J"⟩
abbrev b_Mo_goal : ByteArray := prog_10_method_5_code
def y_Mo_goal : MethodName := ⟨"StatePuzzlesModel", "goal", "(II)Z"⟩
abbrev b_Mo_isGoal : ByteArray := prog_10_method_9_code
def y_Mo_isGoal : MethodName := ⟨"StatePuzzlesModel", "isGoal", "(I)Z"⟩
abbrev b_Mo_jug : ByteArray := prog_10_method_4_code
def y_Mo_jug : MethodName := ⟨"StatePuzzlesModel", "jug", "(II)I"⟩
abbrev b_Mo_jugs : ByteArray := prog_10_method_13_code
def y_Mo_jugs : MethodName := ⟨"StatePuzzlesModel", "jugs", "()I"⟩
abbrev b_Mo_mayStay : ByteArray := prog_10_method_18_code
def y_Mo_mayStay : MethodName := ⟨"StatePuzzlesModel", "mayStay", "(I)Z"⟩
abbrev b_Mo_parse : ByteArray := prog_10_method_17_code
def y_Mo_parse : MethodName := ⟨"StatePuzzlesModel", "parse", "()I"⟩
abbrev b_Mo_pour : ByteArray := prog_10_method_8_code
def y_Mo_pour : MethodName := ⟨"StatePuzzlesModel", "pour", "(II)V"⟩
abbrev b_Mo_ring : ByteArray := prog_10_method_31_code
def y_Mo_ring : MethodName := ⟨"StatePuzzlesModel", "ring", "(IJ)J"⟩
abbrev b_Mo_rings : ByteArray := prog_10_method_30_code
def y_Mo_rings : MethodName := ⟨"StatePuzzlesModel", "rings", "(I)J"⟩
abbrev b_Mo_spare : ByteArray := prog_10_method_26_code
def y_Mo_spare : MethodName := ⟨"StatePuzzlesModel", "spare", "(IIZ)I"⟩
abbrev b_Mo_step : ByteArray := prog_10_method_21_code
def y_Mo_step : MethodName := ⟨"StatePuzzlesModel", "step", "(IZ)I"⟩
abbrev b_Mo_take : ByteArray := prog_10_method_6_code
def y_Mo_take : MethodName := ⟨"StatePuzzlesModel", "take", "(I)V"⟩
abbrev b_Mo_thingOf : ByteArray := prog_10_method_16_code
def y_Mo_thingOf : MethodName := ⟨"StatePuzzlesModel", "thingOf", "(I)I"⟩
abbrev b_Mo_three : ByteArray := prog_10_method_3_code
def y_Mo_three : MethodName := ⟨"StatePuzzlesModel", "three", "(I)J"⟩
abbrev b_Mo_tower : ByteArray := prog_10_method_23_code
def y_Mo_tower : MethodName := ⟨"StatePuzzlesModel", "tower", "(II)J"⟩
abbrev b_Mo_towerMove : ByteArray := prog_10_method_28_code
def y_Mo_towerMove : MethodName := ⟨"StatePuzzlesModel", "towerMove", "(JI)I"⟩
abbrev b_Mo_unit : ByteArray := prog_10_method_14_code
def y_Mo_unit : MethodName := ⟨"StatePuzzlesModel", "unit", "(I)Z"⟩
abbrev b_Mo_weigh : ByteArray := prog_10_method_22_code
def y_Mo_weigh : MethodName := ⟨"StatePuzzlesModel", "weigh", "(II)I"⟩
abbrev b_Ig_bitCount : ByteArray := prog_11_method_49_code
def y_Ig_bitCount : MethodName := ⟨"java/lang/Integer", "bitCount", "(I)I"⟩
abbrev b_Ma_min : ByteArray := prog_12_method_69_code
def y_Ma_min : MethodName := ⟨"java/lang/Math", "min", "(II)I"⟩
abbrev b_Ar_fill : ByteArray := prog_13_method_103_code
def y_Ar_fill : MethodName := ⟨"java/util/Arrays", "fill", "([II)V"⟩
end
section
/-! WORDS, WORLDS, CALLS: the same for all methods. TBL: the good words of the tables; cx: what holds at every place of a method; kt: classes, array classes, nest links; zP, zQi ..: a contract's start and end; zMet: a contract. -/
def zz_arr (w : Cond) : Bool := match w with
  | .arrayClass _ => true
  | _ => false
def zz_ok (w : Cond) : Bool := (w.onTables && w.keeps) || zz_arr w
def TBL : List Cond := lw_tbl.filter zz_ok
theorem zz_in {w : Cond} (h : w ∈ lw_tbl) (g : zz_ok w = true) : w ∈ TBL := List.mem_filter.mpr ⟨h, g⟩
theorem zz_goodW {w : Cond} (h : w ∈ TBL) : w ∈ TBL ∧ ((w.onTables && w.keeps) = true ∨ ∃ ty, w = .arrayClass ty) := by
  refine ⟨h, ?_⟩
  have h2 : zz_ok w = true := (List.mem_filter.mp h).2
  unfold zz_ok at h2
  rcases (Bool.or_eq_true _ _).mp h2 with h3 | h3
  · exact Or.inl h3
  · refine Or.inr ?_
    unfold zz_arr at h3
    split at h3
    · exact ⟨_, rfl⟩
    · cases h3
theorem zz_good {w : Cond} (h : w ∈ TBL) : GoodIn TBL (w :: TBL) := by
  intro x hx
  rcases List.mem_cons.mp hx with rfl | hx
  · exact zz_goodW h
  · exact zz_goodW hx
/-- words of nest mates and of abstract methods: they move with the machine, one by one -/
def zz_nk (w : Cond) : Bool := match w with
  | .fieldLinkNest _ _ _ _ _ _ => true
  | .methodLinkNest _ _ _ _ => true
  | .declares _ => true
  | _ => false
def NWS : List Cond := lw_tbl.filter zz_nk
theorem zz_nin {w : Cond} (h : w ∈ lw_tbl) (g : zz_nk w = true) : w ∈ NWS := List.mem_filter.mpr ⟨h, g⟩
theorem zz_nk_tab {w : Cond} (h : zz_nk w = true) : w.onTables = true := by
  unfold zz_nk at h
  split at h
  · rfl
  · rfl
  · rfl
  · cases h
theorem zz_nk_warm {w : Cond} (h : zz_nk w = true) {s U : State} (hW : s.WarmedH U.vm) (hZ : va_Nw w s) : va_Nw w U := by
  unfold zz_nk at h
  split at h
  · exact va_Nw.warmF hW hZ
  · exact va_Nw.warmM hW hZ
  · exact va_Nw.warmD hW hZ
  · cases h
abbrev zG : Type := va_G × ClassId × ClassId × ClassId
def kt (E : zG) (U : State) : Prop := va_K E.1 vwCl [(E.2.1, .int), (E.2.2.1, .long), (E.2.2.2, .boolean)] U ∧ ∀ w ∈ NWS, va_Nw w U
theorem kt.moved {E : zG} {s U : State} (hW : s.WarmedH U.vm) (h : kt E s) : kt E U := ⟨va_K.moved hW.alike h.1, fun w hw => zz_nk_warm (List.mem_filter.mp hw).2 hW (h.2 w hw)⟩
theorem kt.same {E : zG} {s U : State} (hv : s.vm = U.vm) (h : kt E s) : kt E U := ⟨va_K.moved (by rw [hv]; exact Vm.Alike.refl U.vm) h.1, fun w hw => va_Nw.same (zz_nk_tab (List.mem_filter.mp hw).2) hv (h.2 w hw)⟩
abbrev zI (E : zG) (n : Nat) (f : Nat → Int32) : va_E := .inl (E.2.1, n, .inl f)
abbrev zL (E : zG) (n : Nat) (f : Nat → Int64) : va_E := .inl (E.2.2.1, n, .inr (.inl f))
abbrev zZ (E : zG) (n : Nat) (f : Nat → Int32) : va_E := .inl (E.2.2.2, n, .inl f)
/-- room: d frames below, lo words of locals, mc cells, ms slots -/
abbrev zR (d lo mc ms : Nat) : Room := { frames := d, cells := mc, slots := ms, locals := lo }
/-- the two static tables that nobody writes: 1, 10, 100 .. -/
def stt (A : Nat → Prop) (U : State) (H : Heap) : Prop := ∃ tD tS : Nat, va_Z "StatePuzzles$JugSet" "DIGIT" "[I" (.ref tD) A U H ∧ va_T .int tD 4 (fun j => .int (nI (10 ^ j))) A U H ∧ va_Z "StatePuzzles$JugSet" "STATES" "[I" (.ref tS) A U H ∧ va_T .int tS 5 (fun j => .int (nI (10 ^ j))) A U H
theorem stt.same {A : Nat → Prop} {s U : State} {H : Heap} (hv : s.vm = U.vm) (h : stt A s H) : stt A U H := by
  obtain ⟨tD, tS, h1, h2, h3, h4⟩ := h
  have hv : s.vm.Alike U.vm := by rw [hv]; exact Vm.Alike.refl U.vm
  exact ⟨tD, tS, h1.moved hv, h2.moved hv, h3.moved hv, h4.moved hv⟩
theorem stt.call {A B : Nat → Prop} {s U : State} {H : Heap} {locs : List Loc} (hW : s.WarmedH U.vm) (h : stt A s s.heap) (hS : va_S A s.heap H locs) (hF : ∀ q, B q → A q) : stt B U H := by
  obtain ⟨tD, tS, h1, h2, h3, h4⟩ := h
  exact ⟨tD, tS, ((h1.kept hS.2.1).narrow hF).moved hW.alike, ((h2.kept hS.2.1).narrow hF).moved hW.alike, ((h3.kept hS.2.1).narrow hF).moved hW.alike, ((h4.kept hS.2.1).narrow hF).moved hW.alike⟩
def cx (p : Program) (s : State) (m : MethodId) (args : Array Value) (meth : Method) (c : Code) (cc : ByteArray) (nL : Nat) (own : String) (ret : Option FieldType) : Prop :=
  p.tables.exec = Jvm.exec ∧ c.code = cc ∧ meth.sig.returnType = ret ∧ c.maxLocals = nL ∧ s.vm.findClass own = some m.cls ∧ (∀ w ∈ TBL, w.before args s = true) ∧ meth.locks = false
def zP (E : zG) (av : List Value) (ws : va_W) (sz : Nat) : Array Value → State → Prop := va_Pc av (fun U => U.heap.size = sz ∧ va_P E.1 vwCl ws U.heap ∧ kt E U ∧ va_D (fun _ => True) ws ∧ stt (va_A ws sz) U U.heap)
theorem zP_blind {E : zG} {av : List Value} {ws : va_W} {sz : Nat} : FrameBlind (zP E av ws sz) := by
  intro a U g mk q
  obtain ⟨q0, q1, qP, qK, qD, qS⟩ := q
  exact ⟨q0, q1, qP, kt.same (s := U) (U := U.calling g mk a) rfl qK, qD, stt.same (s := U) (U := U.calling g mk a) rfl qS⟩
def zB (E : zG) (A : Nat → Prop) {S : Type} (wf : S → va_W) : S → State → Prop := fun u t => va_P E.1 vwCl (wf u) t.heap ∧ va_D A (wf u)
def zQi (E : zG) {S : Type} (post : Int32 → S → Prop) (wf : S → va_W) (A : Nat → Prop) : Array Value → State → Outcome → State → Prop := va_Qi post (zB E A wf) A
def zQl (E : zG) {S : Type} (post : Int64 → S → Prop) (wf : S → va_W) (A : Nat → Prop) : Array Value → State → Outcome → State → Prop := va_Ql post (zB E A wf) A
def zQv (E : zG) {S : Type} (post : S → Prop) (wf : S → va_W) (A : Nat → Prop) : Array Value → State → Outcome → State → Prop := va_Qv post (zB E A wf) A
def zMet (l : Launch) (y : MethodName) (cy : ByteArray) (nl : Nat) (ret : Option FieldType) (d lo mc ms : Nat) (E : zG) (av : List Value) (ws : va_W) (Qc : (Nat → Prop) → Array Value → State → Outcome → State → Prop) : Prop :=
  ∀ sz : Nat, Met l y (Cond.code y cy nl ret :: TBL) (zR d lo mc ms) (zP E av ws sz) (Qc (va_A ws sz)) mc ms (va_A ws sz)
theorem zz_met {l : Launch} {y : MethodName} {cc : ByteArray} {maxL : Nat} {ret : Option FieldType} {E : zG} {av : List Value} {ws : va_W} {d lo mc ms : Nat} {Qc : (Nat → Prop) → Array Value → State → Outcome → State → Prop}
    (hy : plainName y.cls = true) (hlen : (lg_sl av).length ≤ maxL)
    (body : ∀ (p : Program) (e : Env) (s : State) (m : MethodId) (below : List Frame) (meth : Method) (c : Code) (A : Nat → Prop) (ls : Array Slot), cx p s m av.toArray meth c cc maxL y.cls ret → meth.name = y.name → (∀ q, s.heap.size ≤ q → A q) → kt E s → stt A s s.heap → va_P E.1 vwCl ws s.heap → va_D A ws → lv_has ls maxL (lv_args 0 av) → W p l e (zR d lo mc ms) s m av.toArray below meth c s.heap [] 0 0 (MQ below (Qc A) av.toArray s mc ms A) (F0 m 0 ls [])) :
    zMet l y cc maxL ret d lo mc ms E av ws Qc := by
  intro sz
  refine Met.ofW (cc := cc) (maxL := maxL) (ret := ret) hy rfl ?_
  intro p e s m args below meth c s₁ B hml hv
  obtain ⟨rfl, hsz, hP, hK, hD0, hst⟩ := hv
  subst hsz
  have hts := atoms_spec (ws := Cond.code y cc maxL ret :: TBL) B.pre
  have hl := lv_entry av (n := maxL) hlen
  rw [lg_entry_eq]
  exact body p e s m below meth c (va_A ws s.heap.size) _ ⟨B.exec, B.bytes, B.returns, hml, findClass_of_methodNamed B.named, fun w h => hts w (List.mem_cons_of_mem _ h), B.notSynchronized⟩ (name_of_methodNamed B.named B.method).1 (fun q h => Or.inr h) hK hst hP hD0.self hl
/-- what the tables say of a method -/
def ym (y : MethodName) (cy : ByteArray) (nl : Nat) (ret : Option FieldType) (n : Nat) : Prop := Cond.code y cy nl ret ∈ TBL ∧ Cond.initialized y.cls ∈ TBL ∧ (y.cls ≠ "java/lang/invoke/MethodHandle" ∧ y.cls ≠ "java/lang/invoke/VarHandle" ∧ (parseMethodDescriptor y.desc).map (fun d => d.parameters.length) = some n)
/-- .. and of a field: place k of class ci in vwCl, as 'own' links it at 'index' -/
def fld (own : String) (index ci k : Nat) (ty : FieldType) (fin : Bool) : Prop := ∃ (Cn : String) (T : u_T) (N : Nat) (ty0 : Nat → FieldType), vwCl[ci]? = some (Cn, T, N) ∧ k < N ∧ (∀ w ∈ u_ws Cn T N, w ∈ TBL) ∧ (∀ k, k < N → parseFieldDescriptor (T k).2.2.1 = some (ty0 k)) ∧ (∀ a, a < N → ∀ b, b < N → a ≠ b → (T a).2.1 ≠ (T b).2.1) ∧ Cond.fieldLink own index (T k).1 (T k).2.1 (T k).2.2.1 ∈ TBL ∧ (T k).2.2.2 = fin ∧ ty0 k = ty
section ZZ
variable {p : Program} {l : Launch} {e : Env} {R : Room} {s : State} {m : MethodId} {args : Array Value} {below : List Frame} {meth : Method} {c : Code} {H : Heap} {locs : List Loc} {cells slots : Nat} {Q : State → Prop}
variable {cc : ByteArray} {pc nL : Nat} {ls : Array Slot} {rest : List Value} {A : Nat → Prop} {a : Nat} {ws wc wr : va_W} {own : String} {ret : Option FieldType} {E : zG}
theorem zz_get (C : cx p s m args meth c cc nL own ret) (hK : kt E s) (hP : va_P E.1 vwCl ws H) {index ci k : Nat} {ty : FieldType} {fin : Bool} (hF : fld own index ci k ty fin) (q0 : Nat) {fs : List Value} {v : Value} (he : ws[q0]? = some (a, .inr (ci, fs))) (hv : fs[k]? = some v) (hdg : decode cc pc = .ok (.getfield index, 3))
    (kk : W p l e R s m args below meth c H locs cells slots Q (F0 m (pc + 3) ls (v :: rest))) : W p l e R s m args below meth c H locs cells slots Q (F0 m pc ls (.ref a :: rest)) := by
  obtain ⟨hx, hb, hr, hml, hown, hts, hlk⟩ := C
  obtain ⟨Cn, T, N, ty0, h1, h2, h3, h4, h5, h6, h7, h8⟩ := hF
  exact va_get hx hb hts h3 hown hK.1 hP q0 he h1 k h2 (hts _ h6) (fun _ h9 => h9) hv hdg kk
theorem zz_put (C : cx p s m args meth c cc nL own ret) (hK : kt E s) (hP : va_P E.1 vwCl ws H) (hD : va_D A ws) (hS : va_S A s.heap H locs) {index ci k : Nat} {ty : FieldType} (hF : fld own index ci k ty false) (q0 : Nat) {fs : List Value} {v : Value} (he : ws[q0]? = some (a, .inr (ci, fs))) (hn : narrow ty v = v) (hfit : fits ty v = true) (hl : k < fs.length) (hdg : decode cc pc = .ok (.putfield index, 3))
    (kk : ∀ (H1 : Heap) (locs1 : List Loc), va_P E.1 vwCl (ws.set q0 (a, .inr (ci, fs.set k v))) H1 → va_D A (ws.set q0 (a, .inr (ci, fs.set k v))) → va_S A s.heap H1 locs1 → W p l e R s m args below meth c H1 locs1 cells slots Q (F0 m (pc + 3) ls rest)) : W p l e R s m args below meth c H locs cells slots Q (F0 m pc ls (v :: .ref a :: rest)) := by
  obtain ⟨hx, hb, hr, hml, hown, hts, hlk⟩ := C
  obtain ⟨Cn, T, N, ty0, h1, h2, h3, h4, h5, h6, h7, h8⟩ := hF
  exact va_put hx hb hts h3 ty0 h4 h5 hown hK.1 hP hD hS q0 he h1 k h2 (hts _ h6) (fun _ h9 => h9) h7 ((h4 k h2).trans (congrArg some h8)) hn hfit hl hdg kk
theorem zz_putF (C : cx p s m args meth c cc nL own ret) (hin : meth.name = "<init>") (hK : kt E s) (hP : va_P E.1 vwCl ws H) (hD : va_D A ws) (hS : va_S A s.heap H locs) {index ci k : Nat} {ty : FieldType} (hF : fld own index ci k ty true) (hdecl : ∀ (q : vw_C), vwCl[ci]? = some q → (q.2.1 k).1 = own) (q0 : Nat) {fs : List Value} {v : Value} (he : ws[q0]? = some (a, .inr (ci, fs))) (hn : narrow ty v = v) (hfit : fits ty v = true) (hl : k < fs.length) (hdg : decode cc pc = .ok (.putfield index, 3))
    (kk : ∀ (H1 : Heap) (locs1 : List Loc), va_P E.1 vwCl (ws.set q0 (a, .inr (ci, fs.set k v))) H1 → va_D A (ws.set q0 (a, .inr (ci, fs.set k v))) → va_S A s.heap H1 locs1 → W p l e R s m args below meth c H1 locs1 cells slots Q (F0 m (pc + 3) ls rest)) : W p l e R s m args below meth c H locs cells slots Q (F0 m pc ls (v :: .ref a :: rest)) := by
  obtain ⟨hx, hb, hr, hml, hown, hts, hlk⟩ := C
  obtain ⟨Cn, T, N, ty0, h1, h2, h3, h4, h5, h6, h7, h8⟩ := hF
  exact va_putF hx hb hts h3 ty0 h4 h5 hown hK.1 hP hD hS q0 he h1 k h2 (hts _ h6) (fun _ h9 => h9) h7 hin (hdecl _ h1) ((h4 k h2).trans (congrArg some h8)) hn hfit hl hdg kk
theorem zz_iald (C : cx p s m args meth c cc nL own ret) (hK : kt E s) (hP : va_P E.1 vwCl ws H) (q0 : Nat) {n : Nat} {f : Nat → Int32} (ha : ws[q0]? = some (a, zI E n f)) {i : Int32} (hin : vp_in i n) (hdg : decode cc pc = .ok (.iaload, 1))
    (kk : W p l e R s m args below meth c H locs cells slots Q (F0 m (pc + 1) ls (.int (f i.toNatClampNeg) :: rest))) : W p l e R s m args below meth c H locs cells slots Q (F0 m pc ls (.int i :: .ref a :: rest)) :=
  va_iald C.1 C.2.1 hK.1 hP q0 0 ha rfl hin hdg kk
theorem zz_lald (C : cx p s m args meth c cc nL own ret) (hK : kt E s) (hP : va_P E.1 vwCl ws H) (q0 : Nat) {n : Nat} {f : Nat → Int64} (ha : ws[q0]? = some (a, zL E n f)) {i : Int32} (hin : vp_in i n) (hdg : decode cc pc = .ok (.laload, 1))
    (kk : W p l e R s m args below meth c H locs cells slots Q (F0 m (pc + 1) ls (.long (f i.toNatClampNeg) :: rest))) : W p l e R s m args below meth c H locs cells slots Q (F0 m pc ls (.int i :: .ref a :: rest)) :=
  va_lald C.1 C.2.1 hK.1 hP q0 1 ha rfl hin hdg kk
theorem zz_iast (C : cx p s m args meth c cc nL own ret) (hK : kt E s) (hP : va_P E.1 vwCl ws H) (hD : va_D A ws) (hS : va_S A s.heap H locs) (q0 : Nat) {n : Nat} {f : Nat → Int32} (ha : ws[q0]? = some (a, zI E n f)) {i x : Int32} (hin : vp_in i n) (hdg : decode cc pc = .ok (.iastore, 1))
    (kk : ∀ (H1 : Heap) (locs1 : List Loc), va_P E.1 vwCl (ws.set q0 (a, zI E n (upd f i.toNatClampNeg x))) H1 → va_D A (ws.set q0 (a, zI E n (upd f i.toNatClampNeg x))) → va_S A s.heap H1 locs1 → W p l e R s m args below meth c H1 locs1 cells slots Q (F0 m (pc + 1) ls rest)) : W p l e R s m args below meth c H locs cells slots Q (F0 m pc ls (.int x :: .int i :: .ref a :: rest)) :=
  va_iast C.1 C.2.1 hK.1 hP hD hS q0 0 ha rfl hin hdg kk
theorem zz_last (C : cx p s m args meth c cc nL own ret) (hK : kt E s) (hP : va_P E.1 vwCl ws H) (hD : va_D A ws) (hS : va_S A s.heap H locs) (q0 : Nat) {n : Nat} {f : Nat → Int64} (ha : ws[q0]? = some (a, zL E n f)) {i : Int32} {x : Int64} (hin : vp_in i n) (hdg : decode cc pc = .ok (.lastore, 1))
    (kk : ∀ (H1 : Heap) (locs1 : List Loc), va_P E.1 vwCl (ws.set q0 (a, zL E n (vp_updL f i.toNatClampNeg x))) H1 → va_D A (ws.set q0 (a, zL E n (vp_updL f i.toNatClampNeg x))) → va_S A s.heap H1 locs1 → W p l e R s m args below meth c H1 locs1 cells slots Q (F0 m (pc + 1) ls rest)) : W p l e R s m args below meth c H locs cells slots Q (F0 m pc ls (.long x :: .int i :: .ref a :: rest)) :=
  va_last C.1 C.2.1 hK.1 hP hD hS q0 1 ha rfl hin hdg kk
theorem zz_alenI (C : cx p s m args meth c cc nL own ret) (hK : kt E s) (hP : va_P E.1 vwCl ws H) (q0 : Nat) {n : Nat} {f : Nat → Int32} (ha : ws[q0]? = some (a, zI E n f)) (hdg : decode cc pc = .ok (.arraylength, 1))
    (kk : W p l e R s m args below meth c H locs cells slots Q (F0 m (pc + 1) ls (.int (nI n) :: rest))) : W p l e R s m args below meth c H locs cells slots Q (F0 m pc ls (.ref a :: rest)) :=
  va_alen C.1 C.2.1 hK.1 hP q0 0 ha rfl rfl hdg kk
theorem zz_ialdN (C : cx p s m args meth c cc nL own ret) (hK : kt E s) (hP : va_P E.1 vwCl ws H) (q0 : Nat) {n : Nat} {f : Nat → Int32} (ha : ws[q0]? = some (a, zI E n f)) {j : Nat} (hj : j < n) (hn : n < 2 ^ 31) (hdg : decode cc pc = .ok (.iaload, 1))
    (kk : W p l e R s m args below meth c H locs cells slots Q (F0 m (pc + 1) ls (.int (f j) :: rest))) : W p l e R s m args below meth c H locs cells slots Q (F0 m pc ls (.int (nI j) :: .ref a :: rest)) := by
  refine zz_iald C hK hP q0 ha (vp_in_nI hj hn) hdg ?_
  rw [nI_clamp (Nat.lt_trans hj hn)]
  exact kk
theorem zz_laldN (C : cx p s m args meth c cc nL own ret) (hK : kt E s) (hP : va_P E.1 vwCl ws H) (q0 : Nat) {n : Nat} {f : Nat → Int64} (ha : ws[q0]? = some (a, zL E n f)) {j : Nat} (hj : j < n) (hn : n < 2 ^ 31) (hdg : decode cc pc = .ok (.laload, 1))
    (kk : W p l e R s m args below meth c H locs cells slots Q (F0 m (pc + 1) ls (.long (f j) :: rest))) : W p l e R s m args below meth c H locs cells slots Q (F0 m pc ls (.int (nI j) :: .ref a :: rest)) := by
  refine zz_lald C hK hP q0 ha (vp_in_nI hj hn) hdg ?_
  rw [nI_clamp (Nat.lt_trans hj hn)]
  exact kk
theorem zz_iastN (C : cx p s m args meth c cc nL own ret) (hK : kt E s) (hP : va_P E.1 vwCl ws H) (hD : va_D A ws) (hS : va_S A s.heap H locs) (q0 : Nat) {n : Nat} {f : Nat → Int32} (ha : ws[q0]? = some (a, zI E n f)) {j : Nat} {x : Int32} (hj : j < n) (hn : n < 2 ^ 31) (hdg : decode cc pc = .ok (.iastore, 1))
    (kk : ∀ (H1 : Heap) (locs1 : List Loc), va_P E.1 vwCl (ws.set q0 (a, zI E n (upd f j x))) H1 → va_D A (ws.set q0 (a, zI E n (upd f j x))) → va_S A s.heap H1 locs1 → W p l e R s m args below meth c H1 locs1 cells slots Q (F0 m (pc + 1) ls rest)) : W p l e R s m args below meth c H locs cells slots Q (F0 m pc ls (.int x :: .int (nI j) :: .ref a :: rest)) := by
  refine zz_iast C hK hP hD hS q0 ha (vp_in_nI hj hn) hdg ?_
  rw [nI_clamp (Nat.lt_trans hj hn)]
  exact kk
theorem zz_lastN (C : cx p s m args meth c cc nL own ret) (hK : kt E s) (hP : va_P E.1 vwCl ws H) (hD : va_D A ws) (hS : va_S A s.heap H locs) (q0 : Nat) {n : Nat} {f : Nat → Int64} (ha : ws[q0]? = some (a, zL E n f)) {j : Nat} {x : Int64} (hj : j < n) (hn : n < 2 ^ 31) (hdg : decode cc pc = .ok (.lastore, 1))
    (kk : ∀ (H1 : Heap) (locs1 : List Loc), va_P E.1 vwCl (ws.set q0 (a, zL E n (vp_updL f j x))) H1 → va_D A (ws.set q0 (a, zL E n (vp_updL f j x))) → va_S A s.heap H1 locs1 → W p l e R s m args below meth c H1 locs1 cells slots Q (F0 m (pc + 1) ls rest)) : W p l e R s m args below meth c H locs cells slots Q (F0 m pc ls (.long x :: .int (nI j) :: .ref a :: rest)) := by
  refine zz_last C hK hP hD hS q0 ha (vp_in_nI hj hn) hdg ?_
  rw [nI_clamp (Nat.lt_trans hj hn)]
  exact kk
theorem zz_tabN (C : cx p s m args meth c cc nL own ret) {t N : Nat} {g : Nat → Value} (hT : va_T .int t N g A s s.heap) (hS : va_S A s.heap H locs) {j : Nat} (hj : j < N) (hn : N < 2 ^ 31) (hdg : decode cc pc = .ok (.iaload, 1))
    (kk : W p l e R s m args below meth c H locs cells slots Q (F0 m (pc + 1) ls (g j :: rest))) : W p l e R s m args below meth c H locs cells slots Q (F0 m pc ls (.int (nI j) :: .ref t :: rest)) := by
  refine va_ti C.1 C.2.1 hT hS (vp_in_nI hj hn) (v := g j) ?_ hdg kk
  rw [nI_clamp (Nat.lt_trans hj hn)]
/-- the number on top is another name of the same -/
theorem zz_eqi {x y : Int32} (h : x = y) (k : W p l e R s m args below meth c H locs cells slots Q (F0 m pc ls (.int y :: rest))) : W p l e R s m args below meth c H locs cells slots Q (F0 m pc ls (.int x :: rest)) := by rw [h]; exact k
theorem zz_eql {x y : Int64} (h : x = y) (k : W p l e R s m args below meth c H locs cells slots Q (F0 m pc ls (.long y :: rest))) : W p l e R s m args below meth c H locs cells slots Q (F0 m pc ls (.long x :: rest)) := by rw [h]; exact k
theorem zz_reti {S : Type} {post : Int32 → S → Prop} {wf : S → va_W} {ty : FieldType} {v : Int32} (C : cx p s m args meth c cc nL own (some ty)) (hn : narrow ty (.int v) = .int v) (hS : va_S A s.heap H locs) (u : S) (hp : post v u) (hP : va_P E.1 vwCl (wf u) H) (hD : va_D A (wf u)) (hdg : decode cc pc = .ok (.ireturn, 1)) : W p l e R s m args below meth c H locs cells slots (MQ below (zQi E post wf A) args s cells slots A) (F0 m pc ls [.int v]) := by
  obtain ⟨hx, hb, hr, hml, hown, hts, hlk⟩ := C
  exact W.zret hx hb hr hn (fun t ht hW => ⟨⟨v, u, rfl, hp, by rw [ht]; exact hP, hD⟩, hS.F ht⟩) hS.2.2 hdg hlk
theorem zz_retl {S : Type} {post : Int64 → S → Prop} {wf : S → va_W} {v : Int64} (C : cx p s m args meth c cc nL own (some .long)) (hS : va_S A s.heap H locs) (u : S) (hp : post v u) (hP : va_P E.1 vwCl (wf u) H) (hD : va_D A (wf u)) (hdg : decode cc pc = .ok (.lreturn, 1)) : W p l e R s m args below meth c H locs cells slots (MQ below (zQl E post wf A) args s cells slots A) (F0 m pc ls [.long v]) := by
  obtain ⟨hx, hb, hr, hml, hown, hts, hlk⟩ := C
  exact W.lret hx hb hr (fun t ht hW => ⟨⟨v, u, rfl, hp, by rw [ht]; exact hP, hD⟩, hS.F ht⟩) hS.2.2 hdg hlk
theorem zz_retv {S : Type} {post : S → Prop} {wf : S → va_W} (C : cx p s m args meth c cc nL own none) (hS : va_S A s.heap H locs) (u : S) (hp : post u) (hP : va_P E.1 vwCl (wf u) H) (hD : va_D A (wf u)) (hdg : decode cc pc = .ok (.return_, 1)) : W p l e R s m args below meth c H locs cells slots (MQ below (zQv E post wf A) args s cells slots A) (F0 m pc ls []) := by
  obtain ⟨hx, hb, hr, hml, hown, hts, hlk⟩ := C
  exact W.vret hx hb hr (fun t ht hW => ⟨⟨u, rfl, hp, by rw [ht]; exact hP, hD⟩, hS.F ht⟩) hS.2.2 hdg hlk
/-- a call's start, out of the caller's world -/
theorem zz_pre {av : List Value} (isC : List Nat) (hnd : va_nd isC = true) (hC : isC.map (fun i => ws[i]?) = wc.map some) (hA : ∀ q, s.heap.size ≤ q → A q) (hK : kt E s) (hst : stt A s s.heap) (hP : va_P E.1 vwCl ws H) (hD : va_D A ws) (hS : va_S A s.heap H locs) :
    ∀ U : State, U.heap = H → s.WarmedH U.vm → zP E av wc H.size av.toArray U := by
  intro U hU hW
  have hF := va_free (wc := wc) hD hS hA isC hC
  refine ⟨rfl, by rw [hU], ?_, kt.moved hW hK, (hD.sub isC hnd hC).weaken (fun _ _ _ _ => trivial), ?_⟩
  · rw [hU]
    intro k q hk
    have h1 : (isC.map (fun i => ws[i]?))[k]? = some (some q) := by rw [hC, List.getElem?_map, hk]; rfl
    rw [List.getElem?_map] at h1
    cases hi : isC[k]? with
    | none => rw [hi] at h1; cases h1
    | some i => rw [hi] at h1; exact hP i q (Option.some.inj h1)
  · rw [hU]
    exact stt.call hW hst hS hF
/-- behind a call: the rest of the caller's world, and the callee's -/
theorem zz_goi {S : Type} {post : Int32 → S → Prop} {wf : S → va_W} {av : Array Value} {mc ms : Nat} {st0 : List Value} (isC isR : List Nat) (hC : isC.map (fun i => ws[i]?) = wc.map some) (hR : isR.map (fun i => ws[i]?) = wr.map some) (hn : va_nd isR = true) (hdis : ∀ i ∈ isR, i ∉ isC) (hA : ∀ q, s.heap.size ≤ q → A q) (hP : va_P E.1 vwCl ws H) (hD : va_D A ws) (hS : va_S A s.heap H locs)
    (hr : va_Run p l e R s m args below meth c H locs cells slots mc ms (F0 m pc ls st0) rest (zQi E post wf (va_A wc H.size) av) (va_A wc H.size))
    (kk : ∀ (r : Int32) (u : S) (H1 : Heap) (locs1 : List Loc), post r u → va_P E.1 vwCl (wr ++ wf u) H1 → va_D A (wr ++ wf u) → va_S A s.heap H1 locs1 → W p l e R s m args below meth c H1 locs1 (cells + mc) (slots + ms) Q (F0 m (pc + 3) ls (.int r :: rest))) : W p l e R s m args below meth c H locs cells slots Q (F0 m pc ls st0) := by
  have hF := va_free (wc := wc) hD hS hA isC hC
  refine va_calli hr hS (fun q _ h => hF q h) hF (fun r u t H1 locs1 ht hvm hw hB hz1 hk1 hS1 => ?_)
  obtain ⟨hP1, hD1⟩ := hB
  rw [ht] at hP1
  obtain ⟨hP2, hD2⟩ := va_join hP hD isC isR hC hR hn hdis hk1 hF hP1 hD1
  exact kk r u H1 locs1 hw hP2 hD2 hS1
theorem zz_gol {S : Type} {post : Int64 → S → Prop} {wf : S → va_W} {av : Array Value} {mc ms : Nat} {st0 : List Value} (isC isR : List Nat) (hC : isC.map (fun i => ws[i]?) = wc.map some) (hR : isR.map (fun i => ws[i]?) = wr.map some) (hn : va_nd isR = true) (hdis : ∀ i ∈ isR, i ∉ isC) (hA : ∀ q, s.heap.size ≤ q → A q) (hP : va_P E.1 vwCl ws H) (hD : va_D A ws) (hS : va_S A s.heap H locs)
    (hr : va_Run p l e R s m args below meth c H locs cells slots mc ms (F0 m pc ls st0) rest (zQl E post wf (va_A wc H.size) av) (va_A wc H.size))
    (kk : ∀ (r : Int64) (u : S) (H1 : Heap) (locs1 : List Loc), post r u → va_P E.1 vwCl (wr ++ wf u) H1 → va_D A (wr ++ wf u) → va_S A s.heap H1 locs1 → W p l e R s m args below meth c H1 locs1 (cells + mc) (slots + ms) Q (F0 m (pc + 3) ls (.long r :: rest))) : W p l e R s m args below meth c H locs cells slots Q (F0 m pc ls st0) := by
  have hF := va_free (wc := wc) hD hS hA isC hC
  refine va_calll hr hS (fun q _ h => hF q h) hF (fun r u t H1 locs1 ht hvm hw hB hz1 hk1 hS1 => ?_)
  obtain ⟨hP1, hD1⟩ := hB
  rw [ht] at hP1
  obtain ⟨hP2, hD2⟩ := va_join hP hD isC isR hC hR hn hdis hk1 hF hP1 hD1
  exact kk r u H1 locs1 hw hP2 hD2 hS1
theorem zz_gov {S : Type} {post : S → Prop} {wf : S → va_W} {av : Array Value} {mc ms : Nat} {st0 : List Value} (isC isR : List Nat) (hC : isC.map (fun i => ws[i]?) = wc.map some) (hR : isR.map (fun i => ws[i]?) = wr.map some) (hn : va_nd isR = true) (hdis : ∀ i ∈ isR, i ∉ isC) (hA : ∀ q, s.heap.size ≤ q → A q) (hP : va_P E.1 vwCl ws H) (hD : va_D A ws) (hS : va_S A s.heap H locs)
    (hr : va_Run p l e R s m args below meth c H locs cells slots mc ms (F0 m pc ls st0) rest (zQv E post wf (va_A wc H.size) av) (va_A wc H.size))
    (kk : ∀ (u : S) (H1 : Heap) (locs1 : List Loc), post u → va_P E.1 vwCl (wr ++ wf u) H1 → va_D A (wr ++ wf u) → va_S A s.heap H1 locs1 → W p l e R s m args below meth c H1 locs1 (cells + mc) (slots + ms) Q (F0 m (pc + 3) ls rest)) : W p l e R s m args below meth c H locs cells slots Q (F0 m pc ls st0) := by
  have hF := va_free (wc := wc) hD hS hA isC hC
  refine va_callv hr hS (fun q _ h => hF q h) hF (fun u t H1 locs1 ht hvm hw hB hz1 hk1 hS1 => ?_)
  obtain ⟨hP1, hD1⟩ := hB
  rw [ht] at hP1
  obtain ⟨hP2, hD2⟩ := va_join hP hD isC isR hC hR hn hdis hk1 hF hP1 hD1
  exact kk u H1 locs1 hw hP2 hD2 hS1
variable {y : MethodName} {cy : ByteArray} {nl d lo mc ms n index : Nat} {r2 : Option FieldType} {Qc : (Nat → Prop) → Array Value → State → Outcome → State → Prop} {b : Nat} {As st0 : List Value}
theorem zz_recv {ci q0 : Nat} {fs : List Value} {q : vw_C} (hK : kt E s) (hc : vwCl[ci]? = some q) (isC : List Nat) (hC : isC.map (fun i => ws[i]?) = wc.map some) (hP : va_P E.1 vwCl ws H) (he : wc[q0]? = some (b, .inr (ci, fs))) : ∃ cell : Cell, H[b]? = some cell ∧ cell.vm.isStatics = false ∧ s.vm.findClass q.1 = some cell.cls := by
  have h1 : (isC.map (fun i => ws[i]?))[q0]? = some (some (b, .inr (ci, fs))) := by rw [hC, List.getElem?_map, he]; rfl
  rw [List.getElem?_map] at h1
  cases hi : isC[q0]? with
  | none => rw [hi] at h1; cases h1
  | some i => rw [hi] at h1; exact va_recv hK.1 hP hc (Option.some.inj h1)
theorem zz_runV (C : cx p s m args meth c cc nL own ret) (hM : zMet l y cy nl r2 d lo mc ms E (.ref b :: As) wc Qc) (hy : ym y cy nl r2 n) (hlink : Cond.methodLink own index y ∈ TBL) (hinst : Cond.instanceMethod y ∈ TBL) (hsel : Cond.selects y.cls y y ∈ TBL) (isC : List Nat) (hnd : va_nd isC = true) (hC : isC.map (fun i => ws[i]?) = wc.map some) (hA : ∀ q, s.heap.size ≤ q → A q) (hK : kt E s) (hst : stt A s s.heap) (hP : va_P E.1 vwCl ws H) (hD : va_D A ws) (hS : va_S A s.heap H locs)
    {ci q0 : Nat} {fs : List Value} {q : vw_C} (hc : vwCl[ci]? = some q) (hq : q.1 = y.cls) (he : wc[q0]? = some (b, .inr (ci, fs))) (hn : As.length = n) (hls : ls.size = nL) (hst0 : st0 = As.reverse ++ .ref b :: rest) (hW : (rest.map fun v => v.category).sum ≤ 8) (hR : d + 1 ≤ R.frames ∧ 8 + (nl + 11) + lo ≤ R.locals) (hf : cells + mc ≤ R.cells ∧ slots + ms ≤ R.slots) (hdg : decode cc pc = .ok (.invokevirtual index, 3)) :
    va_Run p l e R s m args below meth c H locs cells slots mc ms (F0 m pc ls st0) rest (Qc (va_A wc H.size) (Value.ref b :: As).toArray) (va_A wc H.size) := by
  obtain ⟨hx, hb, hr, hml, hown, hts, hlk⟩ := C
  obtain ⟨y1, y2, y3, y4, y5⟩ := hy
  refine va_runV (C := y.cls) (Ts := TBL) (As := As) ⟨hx, hb, hml, hown, hts⟩ (hM H.size) (cwV n hts ?_ rfl rfl rfl ⟨rfl, y3, y4, y5⟩ hR) ⟨zP_blind, ?_, zz_pre isC hnd hC hA hK hst hP hD hS⟩ rfl hn hls hst0 (lv_room hW) hdg hf
  · intro w hw
    rcases List.mem_append.mp hw with h | h
    · simp only [List.mem_cons, List.not_mem_nil, or_false] at h
      rcases h with rfl | rfl | rfl | rfl
      · exact zz_goodW hlink
      · exact zz_goodW hinst
      · exact zz_goodW hsel
      · exact zz_goodW y2
    · exact zz_good y1 w h
  · rw [← hq]
    exact zz_recv hK hc isC hC hP he
theorem zz_runS (C : cx p s m args meth c cc nL own ret) (hM : zMet l y cy nl r2 d lo mc ms E As wc Qc) (hy : ym y cy nl r2 n) (hlink : Cond.methodLink own index y ∈ TBL) (hstc : Cond.static y ∈ TBL) (isC : List Nat) (hnd : va_nd isC = true) (hC : isC.map (fun i => ws[i]?) = wc.map some) (hA : ∀ q, s.heap.size ≤ q → A q) (hK : kt E s) (hst : stt A s s.heap) (hP : va_P E.1 vwCl ws H) (hD : va_D A ws) (hS : va_S A s.heap H locs)
    (hn : As.length = n) (hls : ls.size = nL) (hst0 : st0 = As.reverse ++ rest) (hW : (rest.map fun v => v.category).sum ≤ 8) (hR : d + 1 ≤ R.frames ∧ 8 + (nl + 11) + lo ≤ R.locals) (hf : cells + mc ≤ R.cells ∧ slots + ms ≤ R.slots) (hdg : decode cc pc = .ok (.invokestatic index, 3)) :
    va_Run p l e R s m args below meth c H locs cells slots mc ms (F0 m pc ls st0) rest (Qc (va_A wc H.size) As.toArray) (va_A wc H.size) := by
  obtain ⟨hx, hb, hr, hml, hown, hts, hlk⟩ := C
  obtain ⟨y1, y2, y3, y4, y5⟩ := hy
  refine va_runS (Ts := TBL) (As := As) ⟨hx, hb, hml, hown, hts⟩ (hM H.size) (va_cwS n hts ?_ rfl rfl rfl ⟨y3, y4, y5⟩ hR) ⟨zP_blind, zz_pre isC hnd hC hA hK hst hP hD hS⟩ rfl hn hls hst0 (lv_room hW) hdg hf
  intro w hw
  rcases List.mem_append.mp hw with h | h
  · simp only [List.mem_cons, List.not_mem_nil, or_false] at h
    rcases h with rfl | rfl | rfl
    · exact zz_goodW hlink
    · exact zz_goodW hstc
    · exact zz_goodW y2
  · exact zz_good y1 w h
theorem zz_runI (C : cx p s m args meth c cc nL own ret) (hM : zMet l y cy nl none d lo mc ms E (.ref b :: As) wc Qc) (hy : ym y cy nl none n) (hlink : Cond.methodLink own index y ∈ TBL) (hinst : Cond.instanceMethod y ∈ TBL) (hnm : y.name = "<init>") (isC : List Nat) (hnd : va_nd isC = true) (hC : isC.map (fun i => ws[i]?) = wc.map some) (hA : ∀ q, s.heap.size ≤ q → A q) (hK : kt E s) (hst : stt A s s.heap) (hP : va_P E.1 vwCl ws H) (hD : va_D A ws) (hS : va_S A s.heap H locs)
    (hn : As.length = n) (hls : ls.size = nL) (hst0 : st0 = As.reverse ++ .ref b :: rest) (hW : (rest.map fun v => v.category).sum ≤ 8) (hR : d + 1 ≤ R.frames ∧ 8 + (nl + 11) + lo ≤ R.locals) (hf : cells + mc ≤ R.cells ∧ slots + ms ≤ R.slots) (hdg : decode cc pc = .ok (.invokespecial index, 3)) :
    va_Run p l e R s m args below meth c H locs cells slots mc ms (F0 m pc ls st0) rest (Qc (va_A wc H.size) (Value.ref b :: As).toArray) (va_A wc H.size) := by
  obtain ⟨hx, hb, hr, hml, hown, hts, hlk⟩ := C
  obtain ⟨y1, y2, y3, y4, y5⟩ := hy
  exact va_runI (Ts := TBL) (As := As) ⟨hx, hb, hml, hown, hts⟩ (hM H.size) (cwI n hts (zz_good y1) rfl rfl rfl (hts _ y2) (hts _ hlink) (hts _ hinst) hnm ⟨y3, y4, y5⟩ hR) ⟨zP_blind, zz_pre isC hnd hC hA hK hst hP hD hS⟩ rfl hn hls hst0 (lv_room hW) hdg hf
theorem zz_runIN {host : String} (C : cx p s m args meth c cc nL own ret) (hM : zMet l y cy nl none d lo mc ms E (.ref b :: As) wc Qc) (hy : ym y cy nl none n) (hlink : Cond.methodLinkNest own index y host ∈ NWS) (hinst : Cond.instanceMethod y ∈ TBL) (hnm : y.name = "<init>") (isC : List Nat) (hnd : va_nd isC = true) (hC : isC.map (fun i => ws[i]?) = wc.map some) (hA : ∀ q, s.heap.size ≤ q → A q) (hK : kt E s) (hst : stt A s s.heap) (hP : va_P E.1 vwCl ws H) (hD : va_D A ws) (hS : va_S A s.heap H locs)
    (hn : As.length = n) (hls : ls.size = nL) (hst0 : st0 = As.reverse ++ .ref b :: rest) (hW : (rest.map fun v => v.category).sum ≤ 8) (hR : d + 1 ≤ R.frames ∧ 8 + (nl + 11) + lo ≤ R.locals) (hf : cells + mc ≤ R.cells ∧ slots + ms ≤ R.slots) (hdg : decode cc pc = .ok (.invokespecial index, 3)) :
    va_Run p l e R s m args below meth c H locs cells slots mc ms (F0 m pc ls st0) rest (Qc (va_A wc H.size) (Value.ref b :: As).toArray) (va_A wc H.size) := by
  obtain ⟨hx, hb, hr, hml, hown, hts, hlk⟩ := C
  obtain ⟨y1, y2, y3, y4, y5⟩ := hy
  exact va_runIN (Ts := TBL) (As := As) ⟨hx, hb, hml, hown, hts⟩ (hM H.size) ⟨va_cnB n hts (zz_good y1) rfl rfl rfl (hK.2 _ hlink) (hts _ y2) ⟨y3, y4, y5⟩ hR, hnm, hts _ hinst⟩ ⟨zP_blind, zz_pre isC hnd hC hA hK hst hP hD hS⟩ rfl hn hls hst0 (lv_room hW) hdg hf
/-- a method that overrides an abstract one: x is what the call names, y what it selects -/
theorem zz_runA {x : MethodName} (C : cx p s m args meth c cc nL own ret) (hM : zMet l y cy nl r2 d lo mc ms E (.ref b :: As) wc Qc) (hy : ym y cy nl r2 n) (hlink : Cond.methodLink own index x ∈ TBL) (hsame : Cond.sameMethod x.cls x.cls x.name x.desc ∈ TBL) (hsel : Cond.selects y.cls x y ∈ TBL) (hinst : Cond.instanceMethod y ∈ TBL) (hdec : Cond.declares x ∈ NWS) (hxd : x.cls ≠ "java/lang/invoke/MethodHandle" ∧ x.cls ≠ "java/lang/invoke/VarHandle" ∧ (parseMethodDescriptor x.desc).map (fun d => d.parameters.length) = some n) (isC : List Nat) (hnd : va_nd isC = true) (hC : isC.map (fun i => ws[i]?) = wc.map some) (hA : ∀ q, s.heap.size ≤ q → A q) (hK : kt E s) (hst : stt A s s.heap) (hP : va_P E.1 vwCl ws H) (hD : va_D A ws) (hS : va_S A s.heap H locs)
    {ci q0 : Nat} {fs : List Value} {q : vw_C} (hc : vwCl[ci]? = some q) (hq : q.1 = y.cls) (he : wc[q0]? = some (b, .inr (ci, fs))) (hn : As.length = n) (hls : ls.size = nL) (hst0 : st0 = As.reverse ++ .ref b :: rest) (hW : (rest.map fun v => v.category).sum ≤ 8) (hR : d + 1 ≤ R.frames ∧ 8 + (nl + 11) + lo ≤ R.locals) (hf : cells + mc ≤ R.cells ∧ slots + ms ≤ R.slots) (hdg : decode cc pc = .ok (.invokevirtual index, 3)) :
    va_Run p l e R s m args below meth c H locs cells slots mc ms (F0 m pc ls st0) rest (Qc (va_A wc H.size) (Value.ref b :: As).toArray) (va_A wc H.size) := by
  obtain ⟨hx, hb, hr, hml, hown, hts, hlk⟩ := C
  obtain ⟨y1, y2, y3, y4, y5⟩ := hy
  refine va_runU (C := y.cls) (owner := x.cls) (x := x) (Ts := TBL) (As := As) ⟨hx, hb, hml, hown, hts⟩ (hM H.size) (va_cwA n hts ?_ rfl rfl rfl (hK.2 _ hdec) hxd hR) ⟨zP_blind, ?_, zz_pre isC hnd hC hA hK hst hP hD hS⟩ rfl hn hls hst0 (lv_room hW) hdg hf
  · intro w hw
    rcases List.mem_append.mp hw with h | h
    · simp only [List.mem_cons, List.not_mem_nil, or_false] at h
      rcases h with rfl | rfl | rfl | rfl | rfl
      · exact zz_goodW hlink
      · exact zz_goodW hsame
      · exact zz_goodW hsel
      · exact zz_goodW hinst
      · exact zz_goodW y2
    · exact zz_good y1 w h
  · rw [← hq]
    exact zz_recv hK hc isC hC hP he
end ZZ
end
section
theorem cw_Fs : ∀ w ∈ u_ws R_Fs F_Fs 3, w ∈ TBL := fun w h => zz_in ((by decide +kernel : ∀ w ∈ u_ws R_Fs F_Fs 3, w ∈ lw_tbl) w h) ((by decide +kernel : ∀ w ∈ u_ws R_Fs F_Fs 3, zz_ok w = true) w h)
theorem ct_Fs : ∀ k, k < 3 → parseFieldDescriptor (F_Fs k).2.2.1 = some (t_Fs k) := by decide +kernel
theorem cn_Fs : ∀ a, a < 3 → ∀ b, b < 3 → a ≠ b → (F_Fs a).2.1 ≠ (F_Fs b).2.1 := by decide +kernel
theorem cw_Js : ∀ w ∈ u_ws R_Js F_Js 5, w ∈ TBL := fun w h => zz_in ((by decide +kernel : ∀ w ∈ u_ws R_Js F_Js 5, w ∈ lw_tbl) w h) ((by decide +kernel : ∀ w ∈ u_ws R_Js F_Js 5, zz_ok w = true) w h)
theorem ct_Js : ∀ k, k < 5 → parseFieldDescriptor (F_Js k).2.2.1 = some (t_Js k) := by decide +kernel
theorem cn_Js : ∀ a, a < 5 → ∀ b, b < 5 → a ≠ b → (F_Js a).2.1 ≠ (F_Js b).2.1 := by decide +kernel
theorem cw_Rv : ∀ w ∈ u_ws R_Rv F_Rv 4, w ∈ TBL := fun w h => zz_in ((by decide +kernel : ∀ w ∈ u_ws R_Rv F_Rv 4, w ∈ lw_tbl) w h) ((by decide +kernel : ∀ w ∈ u_ws R_Rv F_Rv 4, zz_ok w = true) w h)
theorem ct_Rv : ∀ k, k < 4 → parseFieldDescriptor (F_Rv k).2.2.1 = some (t_Rv k) := by decide +kernel
theorem cn_Rv : ∀ a, a < 4 → ∀ b, b < 4 → a ≠ b → (F_Rv a).2.1 ≠ (F_Rv b).2.1 := by decide +kernel
theorem cw_Rt : ∀ w ∈ u_ws R_Rt F_Rt 2, w ∈ TBL := fun w h => zz_in ((by decide +kernel : ∀ w ∈ u_ws R_Rt F_Rt 2, w ∈ lw_tbl) w h) ((by decide +kernel : ∀ w ∈ u_ws R_Rt F_Rt 2, zz_ok w = true) w h)
theorem ct_Rt : ∀ k, k < 2 → parseFieldDescriptor (F_Rt k).2.2.1 = some (t_Rt k) := by decide +kernel
theorem cn_Rt : ∀ a, a < 2 → ∀ b, b < 2 → a ≠ b → (F_Rt a).2.1 ≠ (F_Rt b).2.1 := by decide +kernel
theorem cw_Se : ∀ w ∈ u_ws R_Se F_Se 3, w ∈ TBL := fun w h => zz_in ((by decide +kernel : ∀ w ∈ u_ws R_Se F_Se 3, w ∈ lw_tbl) w h) ((by decide +kernel : ∀ w ∈ u_ws R_Se F_Se 3, zz_ok w = true) w h)
theorem ct_Se : ∀ k, k < 3 → parseFieldDescriptor (F_Se k).2.2.1 = some (t_Se k) := by decide +kernel
theorem cn_Se : ∀ a, a < 3 → ∀ b, b < 3 → a ≠ b → (F_Se a).2.1 ≠ (F_Se b).2.1 := by decide +kernel
theorem cw_Tw : ∀ w ∈ u_ws R_Tw F_Tw 4, w ∈ TBL := fun w h => zz_in ((by decide +kernel : ∀ w ∈ u_ws R_Tw F_Tw 4, w ∈ lw_tbl) w h) ((by decide +kernel : ∀ w ∈ u_ws R_Tw F_Tw 4, zz_ok w = true) w h)
theorem ct_Tw : ∀ k, k < 4 → parseFieldDescriptor (F_Tw k).2.2.1 = some (t_Tw k) := by decide +kernel
theorem cn_Tw : ∀ a, a < 4 → ∀ b, b < 4 → a ≠ b → (F_Tw a).2.1 ≠ (F_Tw b).2.1 := by decide +kernel
theorem cw_Sp : ∀ w ∈ u_ws R_Sp F_Sp 6, w ∈ TBL := fun w h => zz_in ((by decide +kernel : ∀ w ∈ u_ws R_Sp F_Sp 6, w ∈ lw_tbl) w h) ((by decide +kernel : ∀ w ∈ u_ws R_Sp F_Sp 6, zz_ok w = true) w h)
theorem ct_Sp : ∀ k, k < 6 → parseFieldDescriptor (F_Sp k).2.2.1 = some (t_Sp k) := by decide +kernel
theorem cn_Sp : ∀ a, a < 6 → ∀ b, b < 6 → a ≠ b → (F_Sp a).2.1 ≠ (F_Sp b).2.1 := by decide +kernel
theorem cw_Mo : ∀ w ∈ u_ws R_Mo F_Mo 28, w ∈ TBL := fun w h => zz_in ((by decide +kernel : ∀ w ∈ u_ws R_Mo F_Mo 28, w ∈ lw_tbl) w h) ((by decide +kernel : ∀ w ∈ u_ws R_Mo F_Mo 28, zz_ok w = true) w h)
theorem ct_Mo : ∀ k, k < 28 → parseFieldDescriptor (F_Mo k).2.2.1 = some (t_Mo k) := by decide +kernel
theorem cn_Mo : ∀ a, a < 28 → ∀ b, b < 28 → a ≠ b → (F_Mo a).2.1 ≠ (F_Mo b).2.1 := by decide +kernel
theorem fl_Sp_10 : fld "StatePuzzles" 10 6 0 (.object "StatePuzzles$JugSet") true := ⟨R_Sp, F_Sp, 6, t_Sp, rfl, by decide, cw_Sp, ct_Sp, cn_Sp, zz_in (by decide +kernel) rfl, rfl, rfl⟩
theorem fl_Sp_19 : fld "StatePuzzles" 19 6 1 (.object "StatePuzzles$River") true := ⟨R_Sp, F_Sp, 6, t_Sp, rfl, by decide, cw_Sp, ct_Sp, cn_Sp, zz_in (by decide +kernel) rfl, rfl, rfl⟩
theorem fl_Sp_26 : fld "StatePuzzles" 26 6 2 (.object "StatePuzzles$RiverText") true := ⟨R_Sp, F_Sp, 6, t_Sp, rfl, by decide, cw_Sp, ct_Sp, cn_Sp, zz_in (by decide +kernel) rfl, rfl, rfl⟩
theorem fl_Sp_33 : fld "StatePuzzles" 33 6 3 (.object "StatePuzzles$Search") true := ⟨R_Sp, F_Sp, 6, t_Sp, rfl, by decide, cw_Sp, ct_Sp, cn_Sp, zz_in (by decide +kernel) rfl, rfl, rfl⟩
theorem fl_Sp_40 : fld "StatePuzzles" 40 6 4 (.object "StatePuzzles$FoundSteps") true := ⟨R_Sp, F_Sp, 6, t_Sp, rfl, by decide, cw_Sp, ct_Sp, cn_Sp, zz_in (by decide +kernel) rfl, rfl, rfl⟩
theorem fl_Sp_47 : fld "StatePuzzles" 47 6 5 (.object "StatePuzzles$Tower") true := ⟨R_Sp, F_Sp, 6, t_Sp, rfl, by decide, cw_Sp, ct_Sp, cn_Sp, zz_in (by decide +kernel) rfl, rfl, rfl⟩
theorem fl_Fs_11 : fld "StatePuzzles$FoundSteps" 11 0 0 (.array .int) false := ⟨R_Fs, F_Fs, 3, t_Fs, rfl, by decide, cw_Fs, ct_Fs, cn_Fs, zz_in (by decide +kernel) rfl, rfl, rfl⟩
theorem fl_Fs_15 : fld "StatePuzzles$FoundSteps" 15 0 1 (.array .int) false := ⟨R_Fs, F_Fs, 3, t_Fs, rfl, by decide, cw_Fs, ct_Fs, cn_Fs, zz_in (by decide +kernel) rfl, rfl, rfl⟩
theorem fl_Fs_18 : fld "StatePuzzles$FoundSteps" 18 0 2 .int false := ⟨R_Fs, F_Fs, 3, t_Fs, rfl, by decide, cw_Fs, ct_Fs, cn_Fs, zz_in (by decide +kernel) rfl, rfl, rfl⟩
theorem fl_Js_11 : fld "StatePuzzles$JugSet" 11 1 0 (.array .int) true := ⟨R_Js, F_Js, 5, t_Js, rfl, by decide, cw_Js, ct_Js, cn_Js, zz_in (by decide +kernel) rfl, rfl, rfl⟩
theorem fl_Js_15 : fld "StatePuzzles$JugSet" 15 1 1 (.array .int) true := ⟨R_Js, F_Js, 5, t_Js, rfl, by decide, cw_Js, ct_Js, cn_Js, zz_in (by decide +kernel) rfl, rfl, rfl⟩
theorem fl_Js_18 : fld "StatePuzzles$JugSet" 18 1 2 (.array .int) true := ⟨R_Js, F_Js, 5, t_Js, rfl, by decide, cw_Js, ct_Js, cn_Js, zz_in (by decide +kernel) rfl, rfl, rfl⟩
theorem fl_Js_21 : fld "StatePuzzles$JugSet" 21 1 3 (.array .int) true := ⟨R_Js, F_Js, 5, t_Js, rfl, by decide, cw_Js, ct_Js, cn_Js, zz_in (by decide +kernel) rfl, rfl, rfl⟩
theorem fl_Js_24 : fld "StatePuzzles$JugSet" 24 1 4 .int false := ⟨R_Js, F_Js, 5, t_Js, rfl, by decide, cw_Js, ct_Js, cn_Js, zz_in (by decide +kernel) rfl, rfl, rfl⟩
theorem fl_Rv_11 : fld "StatePuzzles$River" 11 2 0 (.array .int) true := ⟨R_Rv, F_Rv, 4, t_Rv, rfl, by decide, cw_Rv, ct_Rv, cn_Rv, zz_in (by decide +kernel) rfl, rfl, rfl⟩
theorem fl_Rv_15 : fld "StatePuzzles$River" 15 2 1 (.array .int) true := ⟨R_Rv, F_Rv, 4, t_Rv, rfl, by decide, cw_Rv, ct_Rv, cn_Rv, zz_in (by decide +kernel) rfl, rfl, rfl⟩
theorem fl_Rv_24 : fld "StatePuzzles$River" 24 2 2 .int false := ⟨R_Rv, F_Rv, 4, t_Rv, rfl, by decide, cw_Rv, ct_Rv, cn_Rv, zz_in (by decide +kernel) rfl, rfl, rfl⟩
theorem fl_Rv_28 : fld "StatePuzzles$River" 28 2 3 .int false := ⟨R_Rv, F_Rv, 4, t_Rv, rfl, by decide, cw_Rv, ct_Rv, cn_Rv, zz_in (by decide +kernel) rfl, rfl, rfl⟩
theorem fl_Rt_11 : fld "StatePuzzles$RiverText" 11 3 0 (.array .int) true := ⟨R_Rt, F_Rt, 2, t_Rt, rfl, by decide, cw_Rt, ct_Rt, cn_Rt, zz_in (by decide +kernel) rfl, rfl, rfl⟩
theorem fl_Rt_15 : fld "StatePuzzles$RiverText" 15 3 1 .int false := ⟨R_Rt, F_Rt, 2, t_Rt, rfl, by decide, cw_Rt, ct_Rt, cn_Rt, zz_in (by decide +kernel) rfl, rfl, rfl⟩
theorem fl_Se_11 : fld "StatePuzzles$Search" 11 4 0 (.array .int) false := ⟨R_Se, F_Se, 3, t_Se, rfl, by decide, cw_Se, ct_Se, cn_Se, zz_in (by decide +kernel) rfl, rfl, rfl⟩
theorem fl_Se_15 : fld "StatePuzzles$Search" 15 4 1 (.array .int) false := ⟨R_Se, F_Se, 3, t_Se, rfl, by decide, cw_Se, ct_Se, cn_Se, zz_in (by decide +kernel) rfl, rfl, rfl⟩
theorem fl_Se_34 : fld "StatePuzzles$Search" 34 4 2 .int false := ⟨R_Se, F_Se, 3, t_Se, rfl, by decide, cw_Se, ct_Se, cn_Se, zz_in (by decide +kernel) rfl, rfl, rfl⟩
theorem fl_Tw_11 : fld "StatePuzzles$Tower" 11 5 0 (.array .long) true := ⟨R_Tw, F_Tw, 4, t_Tw, rfl, by decide, cw_Tw, ct_Tw, cn_Tw, zz_in (by decide +kernel) rfl, rfl, rfl⟩
theorem fl_Tw_15 : fld "StatePuzzles$Tower" 15 5 1 (.array .int) true := ⟨R_Tw, F_Tw, 4, t_Tw, rfl, by decide, cw_Tw, ct_Tw, cn_Tw, zz_in (by decide +kernel) rfl, rfl, rfl⟩
theorem fl_Tw_19 : fld "StatePuzzles$Tower" 19 5 2 .int false := ⟨R_Tw, F_Tw, 4, t_Tw, rfl, by decide, cw_Tw, ct_Tw, cn_Tw, zz_in (by decide +kernel) rfl, rfl, rfl⟩
theorem fl_Tw_33 : fld "StatePuzzles$Tower" 33 5 3 .int false := ⟨R_Tw, F_Tw, 4, t_Tw, rfl, by decide, cw_Tw, ct_Tw, cn_Tw, zz_in (by decide +kernel) rfl, rfl, rfl⟩
theorem fl_Mo_7 : fld "StatePuzzlesModel" 7 7 2 (.array .int) true := ⟨R_Mo, F_Mo, 28, t_Mo, rfl, by decide, cw_Mo, ct_Mo, cn_Mo, zz_in (by decide +kernel) rfl, rfl, rfl⟩
theorem fl_Mo_13 : fld "StatePuzzlesModel" 13 7 3 (.array .int) true := ⟨R_Mo, F_Mo, 28, t_Mo, rfl, by decide, cw_Mo, ct_Mo, cn_Mo, zz_in (by decide +kernel) rfl, rfl, rfl⟩
theorem fl_Mo_16 : fld "StatePuzzlesModel" 16 7 4 (.array .int) true := ⟨R_Mo, F_Mo, 28, t_Mo, rfl, by decide, cw_Mo, ct_Mo, cn_Mo, zz_in (by decide +kernel) rfl, rfl, rfl⟩
theorem fl_Mo_19 : fld "StatePuzzlesModel" 19 7 6 (.array .int) true := ⟨R_Mo, F_Mo, 28, t_Mo, rfl, by decide, cw_Mo, ct_Mo, cn_Mo, zz_in (by decide +kernel) rfl, rfl, rfl⟩
theorem fl_Mo_22 : fld "StatePuzzlesModel" 22 7 8 (.array .int) true := ⟨R_Mo, F_Mo, 28, t_Mo, rfl, by decide, cw_Mo, ct_Mo, cn_Mo, zz_in (by decide +kernel) rfl, rfl, rfl⟩
theorem fl_Mo_25 : fld "StatePuzzlesModel" 25 7 9 (.array .int) true := ⟨R_Mo, F_Mo, 28, t_Mo, rfl, by decide, cw_Mo, ct_Mo, cn_Mo, zz_in (by decide +kernel) rfl, rfl, rfl⟩
theorem fl_Mo_28 : fld "StatePuzzlesModel" 28 7 10 (.array .int) true := ⟨R_Mo, F_Mo, 28, t_Mo, rfl, by decide, cw_Mo, ct_Mo, cn_Mo, zz_in (by decide +kernel) rfl, rfl, rfl⟩
theorem fl_Mo_31 : fld "StatePuzzlesModel" 31 7 11 (.array .int) true := ⟨R_Mo, F_Mo, 28, t_Mo, rfl, by decide, cw_Mo, ct_Mo, cn_Mo, zz_in (by decide +kernel) rfl, rfl, rfl⟩
theorem fl_Mo_34 : fld "StatePuzzlesModel" 34 7 12 (.array .int) true := ⟨R_Mo, F_Mo, 28, t_Mo, rfl, by decide, cw_Mo, ct_Mo, cn_Mo, zz_in (by decide +kernel) rfl, rfl, rfl⟩
theorem fl_Mo_37 : fld "StatePuzzlesModel" 37 7 13 (.array .int) true := ⟨R_Mo, F_Mo, 28, t_Mo, rfl, by decide, cw_Mo, ct_Mo, cn_Mo, zz_in (by decide +kernel) rfl, rfl, rfl⟩
theorem fl_Mo_40 : fld "StatePuzzlesModel" 40 7 14 (.array .boolean) true := ⟨R_Mo, F_Mo, 28, t_Mo, rfl, by decide, cw_Mo, ct_Mo, cn_Mo, zz_in (by decide +kernel) rfl, rfl, rfl⟩
theorem fl_Mo_44 : fld "StatePuzzlesModel" 44 7 16 (.array .int) true := ⟨R_Mo, F_Mo, 28, t_Mo, rfl, by decide, cw_Mo, ct_Mo, cn_Mo, zz_in (by decide +kernel) rfl, rfl, rfl⟩
theorem fl_Mo_47 : fld "StatePuzzlesModel" 47 7 19 (.array .int) true := ⟨R_Mo, F_Mo, 28, t_Mo, rfl, by decide, cw_Mo, ct_Mo, cn_Mo, zz_in (by decide +kernel) rfl, rfl, rfl⟩
theorem fl_Mo_50 : fld "StatePuzzlesModel" 50 7 20 (.array .int) true := ⟨R_Mo, F_Mo, 28, t_Mo, rfl, by decide, cw_Mo, ct_Mo, cn_Mo, zz_in (by decide +kernel) rfl, rfl, rfl⟩
theorem fl_Mo_53 : fld "StatePuzzlesModel" 53 7 21 .int false := ⟨R_Mo, F_Mo, 28, t_Mo, rfl, by decide, cw_Mo, ct_Mo, cn_Mo, zz_in (by decide +kernel) rfl, rfl, rfl⟩
theorem fl_Mo_57 : fld "StatePuzzlesModel" 57 7 23 (.array .long) true := ⟨R_Mo, F_Mo, 28, t_Mo, rfl, by decide, cw_Mo, ct_Mo, cn_Mo, zz_in (by decide +kernel) rfl, rfl, rfl⟩
theorem fl_Mo_61 : fld "StatePuzzlesModel" 61 7 24 (.array .int) true := ⟨R_Mo, F_Mo, 28, t_Mo, rfl, by decide, cw_Mo, ct_Mo, cn_Mo, zz_in (by decide +kernel) rfl, rfl, rfl⟩
theorem fl_Mo_72 : fld "StatePuzzlesModel" 72 7 0 .int false := ⟨R_Mo, F_Mo, 28, t_Mo, rfl, by decide, cw_Mo, ct_Mo, cn_Mo, zz_in (by decide +kernel) rfl, rfl, rfl⟩
theorem fl_Mo_75 : fld "StatePuzzlesModel" 75 7 1 .int false := ⟨R_Mo, F_Mo, 28, t_Mo, rfl, by decide, cw_Mo, ct_Mo, cn_Mo, zz_in (by decide +kernel) rfl, rfl, rfl⟩
theorem fl_Mo_78 : fld "StatePuzzlesModel" 78 7 7 .int false := ⟨R_Mo, F_Mo, 28, t_Mo, rfl, by decide, cw_Mo, ct_Mo, cn_Mo, zz_in (by decide +kernel) rfl, rfl, rfl⟩
theorem fl_Mo_85 : fld "StatePuzzlesModel" 85 7 15 .int false := ⟨R_Mo, F_Mo, 28, t_Mo, rfl, by decide, cw_Mo, ct_Mo, cn_Mo, zz_in (by decide +kernel) rfl, rfl, rfl⟩
theorem fl_Mo_111 : fld "StatePuzzlesModel" 111 7 5 .int false := ⟨R_Mo, F_Mo, 28, t_Mo, rfl, by decide, cw_Mo, ct_Mo, cn_Mo, zz_in (by decide +kernel) rfl, rfl, rfl⟩
theorem fl_Mo_114 : fld "StatePuzzlesModel" 114 7 17 .int false := ⟨R_Mo, F_Mo, 28, t_Mo, rfl, by decide, cw_Mo, ct_Mo, cn_Mo, zz_in (by decide +kernel) rfl, rfl, rfl⟩
theorem fl_Mo_123 : fld "StatePuzzlesModel" 123 7 18 .int false := ⟨R_Mo, F_Mo, 28, t_Mo, rfl, by decide, cw_Mo, ct_Mo, cn_Mo, zz_in (by decide +kernel) rfl, rfl, rfl⟩
theorem fl_Mo_137 : fld "StatePuzzlesModel" 137 7 22 .int false := ⟨R_Mo, F_Mo, 28, t_Mo, rfl, by decide, cw_Mo, ct_Mo, cn_Mo, zz_in (by decide +kernel) rfl, rfl, rfl⟩
theorem fl_Mo_144 : fld "StatePuzzlesModel" 144 7 25 .int false := ⟨R_Mo, F_Mo, 28, t_Mo, rfl, by decide, cw_Mo, ct_Mo, cn_Mo, zz_in (by decide +kernel) rfl, rfl, rfl⟩
theorem fl_Mo_147 : fld "StatePuzzlesModel" 147 7 26 .int false := ⟨R_Mo, F_Mo, 28, t_Mo, rfl, by decide, cw_Mo, ct_Mo, cn_Mo, zz_in (by decide +kernel) rfl, rfl, rfl⟩
theorem fl_Mo_150 : fld "StatePuzzlesModel" 150 7 27 .int false := ⟨R_Mo, F_Mo, 28, t_Mo, rfl, by decide, cw_Mo, ct_Mo, cn_Mo, zz_in (by decide +kernel) rfl, rfl, rfl⟩
theorem ym_Sp_init : ym y_Sp_init b_Sp_init 1 none 0 := ⟨zz_in (by decide +kernel) rfl, zz_in (by decide +kernel) rfl, by decide +kernel⟩
theorem ym_Sp_crossing : ym y_Sp_crossing b_Sp_crossing 2 (some .int) 0 := ⟨zz_in (by decide +kernel) rfl, zz_in (by decide +kernel) rfl, by decide +kernel⟩
theorem ym_Sp_find : ym y_Sp_find b_Sp_find 7 (some .int) 1 := ⟨zz_in (by decide +kernel) rfl, zz_in (by decide +kernel) rfl, by decide +kernel⟩
theorem ym_Sp_goal : ym y_Sp_goal b_Sp_goal 3 (some .boolean) 2 := ⟨zz_in (by decide +kernel) rfl, zz_in (by decide +kernel) rfl, by decide +kernel⟩
theorem ym_Sp_jug : ym y_Sp_jug b_Sp_jug 3 (some .int) 2 := ⟨zz_in (by decide +kernel) rfl, zz_in (by decide +kernel) rfl, by decide +kernel⟩
theorem ym_Sp_jugs : ym y_Sp_jugs b_Sp_jugs 1 (some .int) 0 := ⟨zz_in (by decide +kernel) rfl, zz_in (by decide +kernel) rfl, by decide +kernel⟩
theorem ym_Sp_ring : ym y_Sp_ring b_Sp_ring 6 (some .long) 2 := ⟨zz_in (by decide +kernel) rfl, zz_in (by decide +kernel) rfl, by decide +kernel⟩
theorem ym_Sp_ringSteps : ym y_Sp_ringSteps b_Sp_ringSteps 1 (some .long) 1 := ⟨zz_in (by decide +kernel) rfl, zz_in (by decide +kernel) rfl, by decide +kernel⟩
theorem ym_Sp_rings : ym y_Sp_rings b_Sp_rings 2 (some .long) 1 := ⟨zz_in (by decide +kernel) rfl, zz_in (by decide +kernel) rfl, by decide +kernel⟩
theorem ym_Sp_step : ym y_Sp_step b_Sp_step 3 (some .int) 2 := ⟨zz_in (by decide +kernel) rfl, zz_in (by decide +kernel) rfl, by decide +kernel⟩
theorem ym_Sp_tower : ym y_Sp_tower b_Sp_tower 3 (some .long) 2 := ⟨zz_in (by decide +kernel) rfl, zz_in (by decide +kernel) rfl, by decide +kernel⟩
theorem ym_Sp_towerMove : ym y_Sp_towerMove b_Sp_towerMove 4 (some .int) 2 := ⟨zz_in (by decide +kernel) rfl, zz_in (by decide +kernel) rfl, by decide +kernel⟩
theorem ym_Sp_triesForHeavier : ym y_Sp_triesForHeavier b_Sp_triesForHeavier 3 (some .int) 1 := ⟨zz_in (by decide +kernel) rfl, zz_in (by decide +kernel) rfl, by decide +kernel⟩
theorem ym_Sp_triesForOdd : ym y_Sp_triesForOdd b_Sp_triesForOdd 3 (some .int) 1 := ⟨zz_in (by decide +kernel) rfl, zz_in (by decide +kernel) rfl, by decide +kernel⟩
theorem ym_Sp_unit : ym y_Sp_unit b_Sp_unit 2 (some .boolean) 1 := ⟨zz_in (by decide +kernel) rfl, zz_in (by decide +kernel) rfl, by decide +kernel⟩
theorem ym_Sp_weigh : ym y_Sp_weigh b_Sp_weigh 3 (some .int) 2 := ⟨zz_in (by decide +kernel) rfl, zz_in (by decide +kernel) rfl, by decide +kernel⟩
theorem ym_Fs_init : ym y_Fs_init b_Fs_init 1 none 0 := ⟨zz_in (by decide +kernel) rfl, zz_in (by decide +kernel) rfl, by decide +kernel⟩
theorem ym_Fs_first : ym y_Fs_first b_Fs_first 2 (some .int) 1 := ⟨zz_in (by decide +kernel) rfl, zz_in (by decide +kernel) rfl, by decide +kernel⟩
theorem ym_Fs_forget : ym y_Fs_forget b_Fs_forget 1 none 0 := ⟨zz_in (by decide +kernel) rfl, zz_in (by decide +kernel) rfl, by decide +kernel⟩
theorem ym_Fs_isFound : ym y_Fs_isFound b_Fs_isFound 2 (some .boolean) 1 := ⟨zz_in (by decide +kernel) rfl, zz_in (by decide +kernel) rfl, by decide +kernel⟩
theorem ym_Fs_makeRoom : ym y_Fs_makeRoom b_Fs_makeRoom 2 none 1 := ⟨zz_in (by decide +kernel) rfl, zz_in (by decide +kernel) rfl, by decide +kernel⟩
theorem ym_Fs_put : ym y_Fs_put b_Fs_put 4 none 3 := ⟨zz_in (by decide +kernel) rfl, zz_in (by decide +kernel) rfl, by decide +kernel⟩
theorem ym_Fs_second : ym y_Fs_second b_Fs_second 2 (some .int) 1 := ⟨zz_in (by decide +kernel) rfl, zz_in (by decide +kernel) rfl, by decide +kernel⟩
theorem ym_Js_init : ym y_Js_init b_Js_init 1 none 0 := ⟨zz_in (by decide +kernel) rfl, zz_in (by decide +kernel) rfl, by decide +kernel⟩
theorem ym_Js_add : ym y_Js_add b_Js_add 3 (some .int) 2 := ⟨zz_in (by decide +kernel) rfl, zz_in (by decide +kernel) rfl, by decide +kernel⟩
theorem ym_Js_codeOf : ym y_Js_codeOf b_Js_codeOf 2 (some .int) 2 := ⟨zz_in (by decide +kernel) rfl, zz_in (by decide +kernel) rfl, by decide +kernel⟩
theorem ym_Js_firstTold : ym y_Js_firstTold b_Js_firstTold 2 (some .int) 1 := ⟨zz_in (by decide +kernel) rfl, zz_in (by decide +kernel) rfl, by decide +kernel⟩
theorem ym_Js_isDone : ym y_Js_isDone b_Js_isDone 3 (some .boolean) 1 := ⟨zz_in (by decide +kernel) rfl, zz_in (by decide +kernel) rfl, by decide +kernel⟩
theorem ym_Js_meetNext : ym y_Js_meetNext b_Js_meetNext 6 none 2 := ⟨zz_in (by decide +kernel) rfl, zz_in (by decide +kernel) rfl, by decide +kernel⟩
theorem ym_Js_readLevels : ym y_Js_readLevels b_Js_readLevels 4 none 1 := ⟨zz_in (by decide +kernel) rfl, zz_in (by decide +kernel) rfl, by decide +kernel⟩
theorem ym_Js_roomIn : ym y_Js_roomIn b_Js_roomIn 2 (some .int) 1 := ⟨zz_in (by decide +kernel) rfl, zz_in (by decide +kernel) rfl, by decide +kernel⟩
theorem ym_Js_secondTold : ym y_Js_secondTold b_Js_secondTold 3 (some .int) 2 := ⟨zz_in (by decide +kernel) rfl, zz_in (by decide +kernel) rfl, by decide +kernel⟩
theorem ym_Js_startState : ym y_Js_startState b_Js_startState 3 (some .int) 0 := ⟨zz_in (by decide +kernel) rfl, zz_in (by decide +kernel) rfl, by decide +kernel⟩
theorem ym_Js_stateCount : ym y_Js_stateCount b_Js_stateCount 1 (some .int) 0 := ⟨zz_in (by decide +kernel) rfl, zz_in (by decide +kernel) rfl, by decide +kernel⟩
theorem ym_Js_want : ym y_Js_want b_Js_want 3 (some .boolean) 2 := ⟨zz_in (by decide +kernel) rfl, zz_in (by decide +kernel) rfl, by decide +kernel⟩
theorem ym_Pz_init : ym y_Pz_init b_Pz_init 1 none 0 := ⟨zz_in (by decide +kernel) rfl, zz_in (by decide +kernel) rfl, by decide +kernel⟩
theorem ym_Rv_init : ym y_Rv_init b_Rv_init 1 none 0 := ⟨zz_in (by decide +kernel) rfl, zz_in (by decide +kernel) rfl, by decide +kernel⟩
theorem ym_Rv_addThing : ym y_Rv_addThing b_Rv_addThing 3 (some .boolean) 1 := ⟨zz_in (by decide +kernel) rfl, zz_in (by decide +kernel) rfl, by decide +kernel⟩
theorem ym_Rv_allThings : ym y_Rv_allThings b_Rv_allThings 1 (some .int) 0 := ⟨zz_in (by decide +kernel) rfl, zz_in (by decide +kernel) rfl, by decide +kernel⟩
theorem ym_Rv_clear : ym y_Rv_clear b_Rv_clear 1 none 0 := ⟨zz_in (by decide +kernel) rfl, zz_in (by decide +kernel) rfl, by decide +kernel⟩
theorem ym_Rv_firstTold : ym y_Rv_firstTold b_Rv_firstTold 2 (some .int) 1 := ⟨zz_in (by decide +kernel) rfl, zz_in (by decide +kernel) rfl, by decide +kernel⟩
theorem ym_Rv_isDone : ym y_Rv_isDone b_Rv_isDone 2 (some .boolean) 1 := ⟨zz_in (by decide +kernel) rfl, zz_in (by decide +kernel) rfl, by decide +kernel⟩
theorem ym_Rv_keepApart : ym y_Rv_keepApart b_Rv_keepApart 3 (some .boolean) 2 := ⟨zz_in (by decide +kernel) rfl, zz_in (by decide +kernel) rfl, by decide +kernel⟩
theorem ym_Rv_mayBeLeft : ym y_Rv_mayBeLeft b_Rv_mayBeLeft 3 (some .boolean) 1 := ⟨zz_in (by decide +kernel) rfl, zz_in (by decide +kernel) rfl, by decide +kernel⟩
theorem ym_Rv_meetNext : ym y_Rv_meetNext b_Rv_meetNext 9 none 2 := ⟨zz_in (by decide +kernel) rfl, zz_in (by decide +kernel) rfl, by decide +kernel⟩
theorem ym_Rv_secondTold : ym y_Rv_secondTold b_Rv_secondTold 3 (some .int) 2 := ⟨zz_in (by decide +kernel) rfl, zz_in (by decide +kernel) rfl, by decide +kernel⟩
theorem ym_Rv_setBoat : ym y_Rv_setBoat b_Rv_setBoat 2 (some .boolean) 1 := ⟨zz_in (by decide +kernel) rfl, zz_in (by decide +kernel) rfl, by decide +kernel⟩
theorem ym_Rv_startState : ym y_Rv_startState b_Rv_startState 1 (some .int) 0 := ⟨zz_in (by decide +kernel) rfl, zz_in (by decide +kernel) rfl, by decide +kernel⟩
theorem ym_Rv_stateCount : ym y_Rv_stateCount b_Rv_stateCount 1 (some .int) 0 := ⟨zz_in (by decide +kernel) rfl, zz_in (by decide +kernel) rfl, by decide +kernel⟩
theorem ym_Rv_thingOf : ym y_Rv_thingOf b_Rv_thingOf 3 (some .int) 1 := ⟨zz_in (by decide +kernel) rfl, zz_in (by decide +kernel) rfl, by decide +kernel⟩
theorem ym_Rt_init : ym y_Rt_init b_Rt_init 1 none 0 := ⟨zz_in (by decide +kernel) rfl, zz_in (by decide +kernel) rfl, by decide +kernel⟩
theorem ym_Rt_add : ym y_Rt_add b_Rt_add 2 (some .boolean) 1 := ⟨zz_in (by decide +kernel) rfl, zz_in (by decide +kernel) rfl, by decide +kernel⟩
theorem ym_Rt_forget : ym y_Rt_forget b_Rt_forget 1 none 0 := ⟨zz_in (by decide +kernel) rfl, zz_in (by decide +kernel) rfl, by decide +kernel⟩
theorem ym_Rt_readInto : ym y_Rt_readInto b_Rt_readInto 5 (some .int) 1 := ⟨zz_in (by decide +kernel) rfl, zz_in (by decide +kernel) rfl, by decide +kernel⟩
theorem ym_Rt_readThings : ym y_Rt_readThings b_Rt_readThings 3 (some .int) 1 := ⟨zz_in (by decide +kernel) rfl, zz_in (by decide +kernel) rfl, by decide +kernel⟩
theorem ym_Rt_unitAt : ym y_Rt_unitAt b_Rt_unitAt 2 (some .int) 1 := ⟨zz_in (by decide +kernel) rfl, zz_in (by decide +kernel) rfl, by decide +kernel⟩
theorem ym_Se_init : ym y_Se_init b_Se_init 1 none 0 := ⟨zz_in (by decide +kernel) rfl, zz_in (by decide +kernel) rfl, by decide +kernel⟩
theorem ym_Se_before : ym y_Se_before b_Se_before 2 (some .int) 1 := ⟨zz_in (by decide +kernel) rfl, zz_in (by decide +kernel) rfl, by decide +kernel⟩
theorem ym_Se_endOf : ym y_Se_endOf b_Se_endOf 5 (some .int) 1 := ⟨zz_in (by decide +kernel) rfl, zz_in (by decide +kernel) rfl, by decide +kernel⟩
theorem ym_Se_makeRoom : ym y_Se_makeRoom b_Se_makeRoom 2 none 1 := ⟨zz_in (by decide +kernel) rfl, zz_in (by decide +kernel) rfl, by decide +kernel⟩
theorem ym_Se_meet : ym y_Se_meet b_Se_meet 4 none 3 := ⟨zz_in (by decide +kernel) rfl, zz_in (by decide +kernel) rfl, by decide +kernel⟩
theorem ym_Se_stepInto : ym y_Se_stepInto b_Se_stepInto 2 (some .int) 1 := ⟨zz_in (by decide +kernel) rfl, zz_in (by decide +kernel) rfl, by decide +kernel⟩
theorem ym_Se_stepsTo : ym y_Se_stepsTo b_Se_stepsTo 5 (some .int) 1 := ⟨zz_in (by decide +kernel) rfl, zz_in (by decide +kernel) rfl, by decide +kernel⟩
theorem ym_Tw_init : ym y_Tw_init b_Tw_init 5 none 0 := ⟨zz_in (by decide +kernel) rfl, zz_in (by decide +kernel) rfl, by decide +kernel⟩
theorem ym_Tw_lesserFreePeg : ym y_Tw_lesserFreePeg b_Tw_lesserFreePeg 4 (some .int) 2 := ⟨zz_in (by decide +kernel) rfl, zz_in (by decide +kernel) rfl, by decide +kernel⟩
theorem ym_Tw_moves : ym y_Tw_moves b_Tw_moves 1 (some .long) 0 := ⟨zz_in (by decide +kernel) rfl, zz_in (by decide +kernel) rfl, by decide +kernel⟩
theorem ym_Tw_set : ym y_Tw_set b_Tw_set 3 (some .boolean) 2 := ⟨zz_in (by decide +kernel) rfl, zz_in (by decide +kernel) rfl, by decide +kernel⟩
theorem ym_Tw_tellMove : ym y_Tw_tellMove b_Tw_tellMove 4 (some .int) 2 := ⟨zz_in (by decide +kernel) rfl, zz_in (by decide +kernel) rfl, by decide +kernel⟩
theorem ym_Tw_tellOfFour : ym y_Tw_tellOfFour b_Tw_tellOfFour 17 (some .int) 2 := ⟨zz_in (by decide +kernel) rfl, zz_in (by decide +kernel) rfl, by decide +kernel⟩
theorem ym_Tw_tellOfThree : ym y_Tw_tellOfThree b_Tw_tellOfThree 17 (some .int) 7 := ⟨zz_in (by decide +kernel) rfl, zz_in (by decide +kernel) rfl, by decide +kernel⟩
theorem ym_Tw_threePegMoves : ym y_Tw_threePegMoves b_Tw_threePegMoves 1 (some .long) 1 := ⟨zz_in (by decide +kernel) rfl, zz_in (by decide +kernel) rfl, by decide +kernel⟩
theorem ym_Mo_init : ym y_Mo_init b_Mo_init 5 none 0 := ⟨zz_in (by decide +kernel) rfl, zz_in (by decide +kernel) rfl, by decide +kernel⟩
theorem ym_Mo_all : ym y_Mo_all b_Mo_all 1 (some .long) 0 := ⟨zz_in (by decide +kernel) rfl, zz_in (by decide +kernel) rfl, by decide +kernel⟩
theorem ym_Mo_begin : ym y_Mo_begin b_Mo_begin 3 none 1 := ⟨zz_in (by decide +kernel) rfl, zz_in (by decide +kernel) rfl, by decide +kernel⟩
theorem ym_Mo_byteAt : ym y_Mo_byteAt b_Mo_byteAt 2 (some .int) 1 := ⟨zz_in (by decide +kernel) rfl, zz_in (by decide +kernel) rfl, by decide +kernel⟩
theorem ym_Mo_code : ym y_Mo_code b_Mo_code 1 (some .int) 0 := ⟨zz_in (by decide +kernel) rfl, zz_in (by decide +kernel) rfl, by decide +kernel⟩
theorem ym_Mo_come : ym y_Mo_come b_Mo_come 5 none 4 := ⟨zz_in (by decide +kernel) rfl, zz_in (by decide +kernel) rfl, by decide +kernel⟩
theorem ym_Mo_countOf : ym y_Mo_countOf b_Mo_countOf 4 (some .int) 1 := ⟨zz_in (by decide +kernel) rfl, zz_in (by decide +kernel) rfl, by decide +kernel⟩
theorem ym_Mo_crossing : ym y_Mo_crossing b_Mo_crossing 9 (some .int) 0 := ⟨zz_in (by decide +kernel) rfl, zz_in (by decide +kernel) rfl, by decide +kernel⟩
theorem ym_Mo_findFour : ym y_Mo_findFour b_Mo_findFour 12 none 2 := ⟨zz_in (by decide +kernel) rfl, zz_in (by decide +kernel) rfl, by decide +kernel⟩
theorem ym_Mo_findThree : ym y_Mo_findThree b_Mo_findThree 15 none 6 := ⟨zz_in (by decide +kernel) rfl, zz_in (by decide +kernel) rfl, by decide +kernel⟩
theorem ym_Mo_found : ym y_Mo_found b_Mo_found 4 (some .int) 1 := ⟨zz_in (by decide +kernel) rfl, zz_in (by decide +kernel) rfl, by decide +kernel⟩
theorem ym_Mo_full : ym y_Mo_full b_Mo_full 4 (some .long) 1 := ⟨zz_in (by decide +kernel) rfl, zz_in (by decide +kernel) rfl, by decide +kernel⟩
theorem ym_Mo_goal : ym y_Mo_goal b_Mo_goal 3 (some .boolean) 2 := ⟨zz_in (by decide +kernel) rfl, zz_in (by decide +kernel) rfl, by decide +kernel⟩
theorem ym_Mo_isGoal : ym y_Mo_isGoal b_Mo_isGoal 3 (some .boolean) 1 := ⟨zz_in (by decide +kernel) rfl, zz_in (by decide +kernel) rfl, by decide +kernel⟩
theorem ym_Mo_jug : ym y_Mo_jug b_Mo_jug 3 (some .int) 2 := ⟨zz_in (by decide +kernel) rfl, zz_in (by decide +kernel) rfl, by decide +kernel⟩
theorem ym_Mo_jugs : ym y_Mo_jugs b_Mo_jugs 4 (some .int) 0 := ⟨zz_in (by decide +kernel) rfl, zz_in (by decide +kernel) rfl, by decide +kernel⟩
theorem ym_Mo_mayStay : ym y_Mo_mayStay b_Mo_mayStay 3 (some .boolean) 1 := ⟨zz_in (by decide +kernel) rfl, zz_in (by decide +kernel) rfl, by decide +kernel⟩
theorem ym_Mo_parse : ym y_Mo_parse b_Mo_parse 4 (some .int) 0 := ⟨zz_in (by decide +kernel) rfl, zz_in (by decide +kernel) rfl, by decide +kernel⟩
theorem ym_Mo_pour : ym y_Mo_pour b_Mo_pour 5 none 2 := ⟨zz_in (by decide +kernel) rfl, zz_in (by decide +kernel) rfl, by decide +kernel⟩
theorem ym_Mo_ring : ym y_Mo_ring b_Mo_ring 6 (some .long) 2 := ⟨zz_in (by decide +kernel) rfl, zz_in (by decide +kernel) rfl, by decide +kernel⟩
theorem ym_Mo_rings : ym y_Mo_rings b_Mo_rings 2 (some .long) 1 := ⟨zz_in (by decide +kernel) rfl, zz_in (by decide +kernel) rfl, by decide +kernel⟩
theorem ym_Mo_spare : ym y_Mo_spare b_Mo_spare 5 (some .int) 3 := ⟨zz_in (by decide +kernel) rfl, zz_in (by decide +kernel) rfl, by decide +kernel⟩
theorem ym_Mo_step : ym y_Mo_step b_Mo_step 3 (some .int) 2 := ⟨zz_in (by decide +kernel) rfl, zz_in (by decide +kernel) rfl, by decide +kernel⟩
theorem ym_Mo_take : ym y_Mo_take b_Mo_take 4 none 1 := ⟨zz_in (by decide +kernel) rfl, zz_in (by decide +kernel) rfl, by decide +kernel⟩
theorem ym_Mo_thingOf : ym y_Mo_thingOf b_Mo_thingOf 2 (some .int) 1 := ⟨zz_in (by decide +kernel) rfl, zz_in (by decide +kernel) rfl, by decide +kernel⟩
theorem ym_Mo_three : ym y_Mo_three b_Mo_three 1 (some .long) 1 := ⟨zz_in (by decide +kernel) rfl, zz_in (by decide +kernel) rfl, by decide +kernel⟩
theorem ym_Mo_tower : ym y_Mo_tower b_Mo_tower 3 (some .long) 2 := ⟨zz_in (by decide +kernel) rfl, zz_in (by decide +kernel) rfl, by decide +kernel⟩
theorem ym_Mo_towerMove : ym y_Mo_towerMove b_Mo_towerMove 4 (some .int) 2 := ⟨zz_in (by decide +kernel) rfl, zz_in (by decide +kernel) rfl, by decide +kernel⟩
theorem ym_Mo_unit : ym y_Mo_unit b_Mo_unit 2 (some .boolean) 1 := ⟨zz_in (by decide +kernel) rfl, zz_in (by decide +kernel) rfl, by decide +kernel⟩
theorem ym_Mo_weigh : ym y_Mo_weigh b_Mo_weigh 5 (some .int) 2 := ⟨zz_in (by decide +kernel) rfl, zz_in (by decide +kernel) rfl, by decide +kernel⟩
theorem ym_Ig_bitCount : ym y_Ig_bitCount b_Ig_bitCount 1 (some .int) 1 := ⟨zz_in (by decide +kernel) rfl, zz_in (by decide +kernel) rfl, by decide +kernel⟩
theorem ym_Ma_min : ym y_Ma_min b_Ma_min 2 (some .int) 2 := ⟨zz_in (by decide +kernel) rfl, zz_in (by decide +kernel) rfl, by decide +kernel⟩
theorem ym_Ar_fill : ym y_Ar_fill b_Ar_fill 4 none 2 := ⟨zz_in (by decide +kernel) rfl, zz_in (by decide +kernel) rfl, by decide +kernel⟩
end
section
theorem d_Sp_init_0 : decode b_Sp_init 0 = .ok (.aload_n 0, 1) := by decide +kernel
theorem d_Sp_init_1 : decode b_Sp_init 1 = .ok (.invokespecial 1, 3) := by decide +kernel
theorem d_Sp_init_4 : decode b_Sp_init 4 = .ok (.aload_n 0, 1) := by decide +kernel
theorem d_Sp_init_5 : decode b_Sp_init 5 = .ok (.new 7, 3) := by decide +kernel
theorem d_Sp_init_8 : decode b_Sp_init 8 = .ok (.dup, 1) := by decide +kernel
theorem d_Sp_init_9 : decode b_Sp_init 9 = .ok (.invokespecial 9, 3) := by decide +kernel
theorem d_Sp_init_12 : decode b_Sp_init 12 = .ok (.putfield 10, 3) := by decide +kernel
theorem d_Sp_init_15 : decode b_Sp_init 15 = .ok (.aload_n 0, 1) := by decide +kernel
theorem d_Sp_init_16 : decode b_Sp_init 16 = .ok (.new 16, 3) := by decide +kernel
theorem d_Sp_init_19 : decode b_Sp_init 19 = .ok (.dup, 1) := by decide +kernel
theorem d_Sp_init_20 : decode b_Sp_init 20 = .ok (.invokespecial 18, 3) := by decide +kernel
theorem d_Sp_init_23 : decode b_Sp_init 23 = .ok (.putfield 19, 3) := by decide +kernel
theorem d_Sp_init_26 : decode b_Sp_init 26 = .ok (.aload_n 0, 1) := by decide +kernel
theorem d_Sp_init_27 : decode b_Sp_init 27 = .ok (.new 23, 3) := by decide +kernel
theorem d_Sp_init_30 : decode b_Sp_init 30 = .ok (.dup, 1) := by decide +kernel
theorem d_Sp_init_31 : decode b_Sp_init 31 = .ok (.invokespecial 25, 3) := by decide +kernel
theorem d_Sp_init_34 : decode b_Sp_init 34 = .ok (.putfield 26, 3) := by decide +kernel
theorem d_Sp_init_37 : decode b_Sp_init 37 = .ok (.aload_n 0, 1) := by decide +kernel
theorem d_Sp_init_38 : decode b_Sp_init 38 = .ok (.new 30, 3) := by decide +kernel
theorem d_Sp_init_41 : decode b_Sp_init 41 = .ok (.dup, 1) := by decide +kernel
theorem d_Sp_init_42 : decode b_Sp_init 42 = .ok (.invokespecial 32, 3) := by decide +kernel
theorem d_Sp_init_45 : decode b_Sp_init 45 = .ok (.putfield 33, 3) := by decide +kernel
theorem d_Sp_init_48 : decode b_Sp_init 48 = .ok (.aload_n 0, 1) := by decide +kernel
theorem d_Sp_init_49 : decode b_Sp_init 49 = .ok (.new 37, 3) := by decide +kernel
theorem d_Sp_init_52 : decode b_Sp_init 52 = .ok (.dup, 1) := by decide +kernel
theorem d_Sp_init_53 : decode b_Sp_init 53 = .ok (.invokespecial 39, 3) := by decide +kernel
theorem d_Sp_init_56 : decode b_Sp_init 56 = .ok (.putfield 40, 3) := by decide +kernel
theorem d_Sp_init_59 : decode b_Sp_init 59 = .ok (.aload_n 0, 1) := by decide +kernel
theorem d_Sp_init_60 : decode b_Sp_init 60 = .ok (.new 44, 3) := by decide +kernel
theorem d_Sp_init_63 : decode b_Sp_init 63 = .ok (.dup, 1) := by decide +kernel
theorem d_Sp_init_64 : decode b_Sp_init 64 = .ok (.invokespecial 46, 3) := by decide +kernel
theorem d_Sp_init_67 : decode b_Sp_init 67 = .ok (.putfield 47, 3) := by decide +kernel
theorem d_Sp_init_70 : decode b_Sp_init 70 = .ok (.return_, 1) := by decide +kernel
theorem d_Sp_crossing_0 : decode b_Sp_crossing 0 = .ok (.aload_n 0, 1) := by decide +kernel
theorem d_Sp_crossing_1 : decode b_Sp_crossing 1 = .ok (.getfield 26, 3) := by decide +kernel
theorem d_Sp_crossing_4 : decode b_Sp_crossing 4 = .ok (.aload_n 0, 1) := by decide +kernel
theorem d_Sp_crossing_5 : decode b_Sp_crossing 5 = .ok (.getfield 19, 3) := by decide +kernel
theorem d_Sp_crossing_8 : decode b_Sp_crossing 8 = .ok (.invokevirtual 69, 3) := by decide +kernel
theorem d_Sp_crossing_11 : decode b_Sp_crossing 11 = .ok (.istore_n 1, 1) := by decide +kernel
theorem d_Sp_crossing_12 : decode b_Sp_crossing 12 = .ok (.aload_n 0, 1) := by decide +kernel
theorem d_Sp_crossing_13 : decode b_Sp_crossing 13 = .ok (.getfield 26, 3) := by decide +kernel
theorem d_Sp_crossing_16 : decode b_Sp_crossing 16 = .ok (.invokevirtual 73, 3) := by decide +kernel
theorem d_Sp_crossing_19 : decode b_Sp_crossing 19 = .ok (.iload_n 1, 1) := by decide +kernel
theorem d_Sp_crossing_20 : decode b_Sp_crossing 20 = .ok (.iconst (-1), 1) := by decide +kernel
theorem d_Sp_crossing_21 : decode b_Sp_crossing 21 = .ok (.if_icmp .eq 15, 3) := by decide +kernel
theorem d_Sp_crossing_24 : decode b_Sp_crossing 24 = .ok (.aload_n 0, 1) := by decide +kernel
theorem d_Sp_crossing_25 : decode b_Sp_crossing 25 = .ok (.getfield 40, 3) := by decide +kernel
theorem d_Sp_crossing_28 : decode b_Sp_crossing 28 = .ok (.invokevirtual 51, 3) := by decide +kernel
theorem d_Sp_crossing_31 : decode b_Sp_crossing 31 = .ok (.bipush (-2), 2) := by decide +kernel
theorem d_Sp_crossing_33 : decode b_Sp_crossing 33 = .ok (.iload_n 1, 1) := by decide +kernel
theorem d_Sp_crossing_34 : decode b_Sp_crossing 34 = .ok (.isub, 1) := by decide +kernel
theorem d_Sp_crossing_35 : decode b_Sp_crossing 35 = .ok (.ireturn, 1) := by decide +kernel
theorem d_Sp_crossing_36 : decode b_Sp_crossing 36 = .ok (.aload_n 0, 1) := by decide +kernel
theorem d_Sp_crossing_37 : decode b_Sp_crossing 37 = .ok (.aload_n 0, 1) := by decide +kernel
theorem d_Sp_crossing_38 : decode b_Sp_crossing 38 = .ok (.getfield 19, 3) := by decide +kernel
theorem d_Sp_crossing_41 : decode b_Sp_crossing 41 = .ok (.invokevirtual 62, 3) := by decide +kernel
theorem d_Sp_crossing_44 : decode b_Sp_crossing 44 = .ok (.ireturn, 1) := by decide +kernel
theorem d_Sp_find_0 : decode b_Sp_find 0 = .ok (.aload_n 0, 1) := by decide +kernel
theorem d_Sp_find_1 : decode b_Sp_find 1 = .ok (.getfield 40, 3) := by decide +kernel
theorem d_Sp_find_4 : decode b_Sp_find 4 = .ok (.invokevirtual 51, 3) := by decide +kernel
theorem d_Sp_find_7 : decode b_Sp_find 7 = .ok (.aload_n 0, 1) := by decide +kernel
theorem d_Sp_find_8 : decode b_Sp_find 8 = .ok (.getfield 33, 3) := by decide +kernel
theorem d_Sp_find_11 : decode b_Sp_find 11 = .ok (.aload_n 1, 1) := by decide +kernel
theorem d_Sp_find_12 : decode b_Sp_find 12 = .ok (.invokevirtual 104, 3) := by decide +kernel
theorem d_Sp_find_15 : decode b_Sp_find 15 = .ok (.istore_n 2, 1) := by decide +kernel
theorem d_Sp_find_16 : decode b_Sp_find 16 = .ok (.iload_n 2, 1) := by decide +kernel
theorem d_Sp_find_17 : decode b_Sp_find 17 = .ok (.iconst (-1), 1) := by decide +kernel
theorem d_Sp_find_18 : decode b_Sp_find 18 = .ok (.if_icmp .ne 5, 3) := by decide +kernel
theorem d_Sp_find_21 : decode b_Sp_find 21 = .ok (.iconst (-1), 1) := by decide +kernel
theorem d_Sp_find_22 : decode b_Sp_find 22 = .ok (.ireturn, 1) := by decide +kernel
theorem d_Sp_find_23 : decode b_Sp_find 23 = .ok (.aload_n 0, 1) := by decide +kernel
theorem d_Sp_find_24 : decode b_Sp_find 24 = .ok (.getfield 33, 3) := by decide +kernel
theorem d_Sp_find_27 : decode b_Sp_find 27 = .ok (.iload_n 2, 1) := by decide +kernel
theorem d_Sp_find_28 : decode b_Sp_find 28 = .ok (.invokevirtual 107, 3) := by decide +kernel
theorem d_Sp_find_31 : decode b_Sp_find 31 = .ok (.istore_n 3, 1) := by decide +kernel
theorem d_Sp_find_32 : decode b_Sp_find 32 = .ok (.aload_n 0, 1) := by decide +kernel
theorem d_Sp_find_33 : decode b_Sp_find 33 = .ok (.getfield 40, 3) := by decide +kernel
theorem d_Sp_find_36 : decode b_Sp_find 36 = .ok (.iload_n 3, 1) := by decide +kernel
theorem d_Sp_find_37 : decode b_Sp_find 37 = .ok (.invokevirtual 110, 3) := by decide +kernel
theorem d_Sp_find_40 : decode b_Sp_find 40 = .ok (.iload_n 2, 1) := by decide +kernel
theorem d_Sp_find_41 : decode b_Sp_find 41 = .ok (.istore 4, 2) := by decide +kernel
theorem d_Sp_find_43 : decode b_Sp_find 43 = .ok (.iload_n 3, 1) := by decide +kernel
theorem d_Sp_find_44 : decode b_Sp_find 44 = .ok (.iconst 1, 1) := by decide +kernel
theorem d_Sp_find_45 : decode b_Sp_find 45 = .ok (.isub, 1) := by decide +kernel
theorem d_Sp_find_46 : decode b_Sp_find 46 = .ok (.istore 5, 2) := by decide +kernel
theorem d_Sp_find_48 : decode b_Sp_find 48 = .ok (.iload 5, 2) := by decide +kernel
theorem d_Sp_find_50 : decode b_Sp_find 50 = .ok (.ifCond .lt 54, 3) := by decide +kernel
theorem d_Sp_find_53 : decode b_Sp_find 53 = .ok (.aload_n 0, 1) := by decide +kernel
theorem d_Sp_find_54 : decode b_Sp_find 54 = .ok (.getfield 33, 3) := by decide +kernel
theorem d_Sp_find_57 : decode b_Sp_find 57 = .ok (.iload 4, 2) := by decide +kernel
theorem d_Sp_find_59 : decode b_Sp_find 59 = .ok (.invokevirtual 114, 3) := by decide +kernel
theorem d_Sp_find_62 : decode b_Sp_find 62 = .ok (.istore 6, 2) := by decide +kernel
theorem d_Sp_find_64 : decode b_Sp_find 64 = .ok (.aload_n 0, 1) := by decide +kernel
theorem d_Sp_find_65 : decode b_Sp_find 65 = .ok (.getfield 40, 3) := by decide +kernel
theorem d_Sp_find_68 : decode b_Sp_find 68 = .ok (.iload 5, 2) := by decide +kernel
theorem d_Sp_find_70 : decode b_Sp_find 70 = .ok (.aload_n 1, 1) := by decide +kernel
theorem d_Sp_find_71 : decode b_Sp_find 71 = .ok (.iload 6, 2) := by decide +kernel
theorem d_Sp_find_73 : decode b_Sp_find 73 = .ok (.invokevirtual 117, 3) := by decide +kernel
theorem d_Sp_find_76 : decode b_Sp_find 76 = .ok (.aload_n 1, 1) := by decide +kernel
theorem d_Sp_find_77 : decode b_Sp_find 77 = .ok (.iload 6, 2) := by decide +kernel
theorem d_Sp_find_79 : decode b_Sp_find 79 = .ok (.iload 4, 2) := by decide +kernel
theorem d_Sp_find_81 : decode b_Sp_find 81 = .ok (.invokevirtual 122, 3) := by decide +kernel
theorem d_Sp_find_84 : decode b_Sp_find 84 = .ok (.invokevirtual 125, 3) := by decide +kernel
theorem d_Sp_find_87 : decode b_Sp_find 87 = .ok (.aload_n 0, 1) := by decide +kernel
theorem d_Sp_find_88 : decode b_Sp_find 88 = .ok (.getfield 33, 3) := by decide +kernel
theorem d_Sp_find_91 : decode b_Sp_find 91 = .ok (.iload 4, 2) := by decide +kernel
theorem d_Sp_find_93 : decode b_Sp_find 93 = .ok (.invokevirtual 129, 3) := by decide +kernel
theorem d_Sp_find_96 : decode b_Sp_find 96 = .ok (.istore 4, 2) := by decide +kernel
theorem d_Sp_find_98 : decode b_Sp_find 98 = .ok (.iinc 5 (-1), 3) := by decide +kernel
theorem d_Sp_find_101 : decode b_Sp_find 101 = .ok (.goto (-53), 3) := by decide +kernel
theorem d_Sp_find_104 : decode b_Sp_find 104 = .ok (.iload_n 3, 1) := by decide +kernel
theorem d_Sp_find_105 : decode b_Sp_find 105 = .ok (.ireturn, 1) := by decide +kernel
theorem d_Sp_goal_0 : decode b_Sp_goal 0 = .ok (.aload_n 0, 1) := by decide +kernel
theorem d_Sp_goal_1 : decode b_Sp_goal 1 = .ok (.getfield 40, 3) := by decide +kernel
theorem d_Sp_goal_4 : decode b_Sp_goal 4 = .ok (.invokevirtual 51, 3) := by decide +kernel
theorem d_Sp_goal_7 : decode b_Sp_goal 7 = .ok (.aload_n 0, 1) := by decide +kernel
theorem d_Sp_goal_8 : decode b_Sp_goal 8 = .ok (.getfield 10, 3) := by decide +kernel
theorem d_Sp_goal_11 : decode b_Sp_goal 11 = .ok (.iload_n 1, 1) := by decide +kernel
theorem d_Sp_goal_12 : decode b_Sp_goal 12 = .ok (.iload_n 2, 1) := by decide +kernel
theorem d_Sp_goal_13 : decode b_Sp_goal 13 = .ok (.invokevirtual 58, 3) := by decide +kernel
theorem d_Sp_goal_16 : decode b_Sp_goal 16 = .ok (.ireturn, 1) := by decide +kernel
theorem d_Sp_jug_0 : decode b_Sp_jug 0 = .ok (.aload_n 0, 1) := by decide +kernel
theorem d_Sp_jug_1 : decode b_Sp_jug 1 = .ok (.getfield 40, 3) := by decide +kernel
theorem d_Sp_jug_4 : decode b_Sp_jug 4 = .ok (.invokevirtual 51, 3) := by decide +kernel
theorem d_Sp_jug_7 : decode b_Sp_jug 7 = .ok (.aload_n 0, 1) := by decide +kernel
theorem d_Sp_jug_8 : decode b_Sp_jug 8 = .ok (.getfield 10, 3) := by decide +kernel
theorem d_Sp_jug_11 : decode b_Sp_jug 11 = .ok (.iload_n 1, 1) := by decide +kernel
theorem d_Sp_jug_12 : decode b_Sp_jug 12 = .ok (.iload_n 2, 1) := by decide +kernel
theorem d_Sp_jug_13 : decode b_Sp_jug 13 = .ok (.invokevirtual 54, 3) := by decide +kernel
theorem d_Sp_jug_16 : decode b_Sp_jug 16 = .ok (.ireturn, 1) := by decide +kernel
theorem d_Sp_jugs_0 : decode b_Sp_jugs 0 = .ok (.aload_n 0, 1) := by decide +kernel
theorem d_Sp_jugs_1 : decode b_Sp_jugs 1 = .ok (.aload_n 0, 1) := by decide +kernel
theorem d_Sp_jugs_2 : decode b_Sp_jugs 2 = .ok (.getfield 10, 3) := by decide +kernel
theorem d_Sp_jugs_5 : decode b_Sp_jugs 5 = .ok (.invokevirtual 62, 3) := by decide +kernel
theorem d_Sp_jugs_8 : decode b_Sp_jugs 8 = .ok (.ireturn, 1) := by decide +kernel
theorem d_Sp_ring_0 : decode b_Sp_ring 0 = .ok (.iload_n 1, 1) := by decide +kernel
theorem d_Sp_ring_1 : decode b_Sp_ring 1 = .ok (.ifCond .lt 24, 3) := by decide +kernel
theorem d_Sp_ring_4 : decode b_Sp_ring 4 = .ok (.iload_n 1, 1) := by decide +kernel
theorem d_Sp_ring_5 : decode b_Sp_ring 5 = .ok (.bipush 60, 2) := by decide +kernel
theorem d_Sp_ring_7 : decode b_Sp_ring 7 = .ok (.if_icmp .gt 18, 3) := by decide +kernel
theorem d_Sp_ring_10 : decode b_Sp_ring 10 = .ok (.lload_n 2, 1) := by decide +kernel
theorem d_Sp_ring_11 : decode b_Sp_ring 11 = .ok (.lconst 0, 1) := by decide +kernel
theorem d_Sp_ring_12 : decode b_Sp_ring 12 = .ok (.lcmp, 1) := by decide +kernel
theorem d_Sp_ring_13 : decode b_Sp_ring 13 = .ok (.ifCond .lt 12, 3) := by decide +kernel
theorem d_Sp_ring_16 : decode b_Sp_ring 16 = .ok (.lload_n 2, 1) := by decide +kernel
theorem d_Sp_ring_17 : decode b_Sp_ring 17 = .ok (.iload_n 1, 1) := by decide +kernel
theorem d_Sp_ring_18 : decode b_Sp_ring 18 = .ok (.invokestatic 100, 3) := by decide +kernel
theorem d_Sp_ring_21 : decode b_Sp_ring 21 = .ok (.lcmp, 1) := by decide +kernel
theorem d_Sp_ring_22 : decode b_Sp_ring 22 = .ok (.ifCond .le 7, 3) := by decide +kernel
theorem d_Sp_ring_25 : decode b_Sp_ring 25 = .ok (.ldc2_w 94, 3) := by decide +kernel
theorem d_Sp_ring_28 : decode b_Sp_ring 28 = .ok (.lreturn, 1) := by decide +kernel
theorem d_Sp_ring_29 : decode b_Sp_ring 29 = .ok (.iload_n 1, 1) := by decide +kernel
theorem d_Sp_ring_30 : decode b_Sp_ring 30 = .ok (.invokestatic 100, 3) := by decide +kernel
theorem d_Sp_ring_33 : decode b_Sp_ring 33 = .ok (.lload_n 2, 1) := by decide +kernel
theorem d_Sp_ring_34 : decode b_Sp_ring 34 = .ok (.lsub, 1) := by decide +kernel
theorem d_Sp_ring_35 : decode b_Sp_ring 35 = .ok (.lstore 4, 2) := by decide +kernel
theorem d_Sp_ring_37 : decode b_Sp_ring 37 = .ok (.lload 4, 2) := by decide +kernel
theorem d_Sp_ring_39 : decode b_Sp_ring 39 = .ok (.lload 4, 2) := by decide +kernel
theorem d_Sp_ring_41 : decode b_Sp_ring 41 = .ok (.iconst 1, 1) := by decide +kernel
theorem d_Sp_ring_42 : decode b_Sp_ring 42 = .ok (.lshr, 1) := by decide +kernel
theorem d_Sp_ring_43 : decode b_Sp_ring 43 = .ok (.lxor, 1) := by decide +kernel
theorem d_Sp_ring_44 : decode b_Sp_ring 44 = .ok (.lreturn, 1) := by decide +kernel
theorem d_Sp_ringSteps_0 : decode b_Sp_ringSteps 0 = .ok (.ldc2_w 132, 3) := by decide +kernel
theorem d_Sp_ringSteps_3 : decode b_Sp_ringSteps 3 = .ok (.iload_n 0, 1) := by decide +kernel
theorem d_Sp_ringSteps_4 : decode b_Sp_ringSteps 4 = .ok (.lshl, 1) := by decide +kernel
theorem d_Sp_ringSteps_5 : decode b_Sp_ringSteps 5 = .ok (.ldc2_w 134, 3) := by decide +kernel
theorem d_Sp_ringSteps_8 : decode b_Sp_ringSteps 8 = .ok (.ldiv, 1) := by decide +kernel
theorem d_Sp_ringSteps_9 : decode b_Sp_ringSteps 9 = .ok (.lreturn, 1) := by decide +kernel
theorem d_Sp_rings_0 : decode b_Sp_rings 0 = .ok (.iload_n 1, 1) := by decide +kernel
theorem d_Sp_rings_1 : decode b_Sp_rings 1 = .ok (.ifCond .lt 9, 3) := by decide +kernel
theorem d_Sp_rings_4 : decode b_Sp_rings 4 = .ok (.iload_n 1, 1) := by decide +kernel
theorem d_Sp_rings_5 : decode b_Sp_rings 5 = .ok (.bipush 60, 2) := by decide +kernel
theorem d_Sp_rings_7 : decode b_Sp_rings 7 = .ok (.if_icmp .le 9, 3) := by decide +kernel
theorem d_Sp_rings_10 : decode b_Sp_rings 10 = .ok (.ldc2_w 94, 3) := by decide +kernel
theorem d_Sp_rings_13 : decode b_Sp_rings 13 = .ok (.goto 7, 3) := by decide +kernel
theorem d_Sp_rings_16 : decode b_Sp_rings 16 = .ok (.iload_n 1, 1) := by decide +kernel
theorem d_Sp_rings_17 : decode b_Sp_rings 17 = .ok (.invokestatic 100, 3) := by decide +kernel
theorem d_Sp_rings_20 : decode b_Sp_rings 20 = .ok (.lreturn, 1) := by decide +kernel
theorem d_Sp_step_0 : decode b_Sp_step 0 = .ok (.iload_n 2, 1) := by decide +kernel
theorem d_Sp_step_1 : decode b_Sp_step 1 = .ok (.ifCond .eq 14, 3) := by decide +kernel
theorem d_Sp_step_4 : decode b_Sp_step 4 = .ok (.aload_n 0, 1) := by decide +kernel
theorem d_Sp_step_5 : decode b_Sp_step 5 = .ok (.getfield 40, 3) := by decide +kernel
theorem d_Sp_step_8 : decode b_Sp_step 8 = .ok (.iload_n 1, 1) := by decide +kernel
theorem d_Sp_step_9 : decode b_Sp_step 9 = .ok (.invokevirtual 74, 3) := by decide +kernel
theorem d_Sp_step_12 : decode b_Sp_step 12 = .ok (.goto 11, 3) := by decide +kernel
theorem d_Sp_step_15 : decode b_Sp_step 15 = .ok (.aload_n 0, 1) := by decide +kernel
theorem d_Sp_step_16 : decode b_Sp_step 16 = .ok (.getfield 40, 3) := by decide +kernel
theorem d_Sp_step_19 : decode b_Sp_step 19 = .ok (.iload_n 1, 1) := by decide +kernel
theorem d_Sp_step_20 : decode b_Sp_step 20 = .ok (.invokevirtual 78, 3) := by decide +kernel
theorem d_Sp_step_23 : decode b_Sp_step 23 = .ok (.ireturn, 1) := by decide +kernel
theorem d_Sp_tower_0 : decode b_Sp_tower 0 = .ok (.aload_n 0, 1) := by decide +kernel
theorem d_Sp_tower_1 : decode b_Sp_tower 1 = .ok (.getfield 47, 3) := by decide +kernel
theorem d_Sp_tower_4 : decode b_Sp_tower 4 = .ok (.iload_n 1, 1) := by decide +kernel
theorem d_Sp_tower_5 : decode b_Sp_tower 5 = .ok (.iload_n 2, 1) := by decide +kernel
theorem d_Sp_tower_6 : decode b_Sp_tower 6 = .ok (.invokevirtual 87, 3) := by decide +kernel
theorem d_Sp_tower_9 : decode b_Sp_tower 9 = .ok (.ifCond .eq 13, 3) := by decide +kernel
theorem d_Sp_tower_12 : decode b_Sp_tower 12 = .ok (.aload_n 0, 1) := by decide +kernel
theorem d_Sp_tower_13 : decode b_Sp_tower 13 = .ok (.getfield 47, 3) := by decide +kernel
theorem d_Sp_tower_16 : decode b_Sp_tower 16 = .ok (.invokevirtual 90, 3) := by decide +kernel
theorem d_Sp_tower_19 : decode b_Sp_tower 19 = .ok (.goto 6, 3) := by decide +kernel
theorem d_Sp_tower_22 : decode b_Sp_tower 22 = .ok (.ldc2_w 94, 3) := by decide +kernel
theorem d_Sp_tower_25 : decode b_Sp_tower 25 = .ok (.lreturn, 1) := by decide +kernel
theorem d_Sp_towerMove_0 : decode b_Sp_towerMove 0 = .ok (.aload_n 0, 1) := by decide +kernel
theorem d_Sp_towerMove_1 : decode b_Sp_towerMove 1 = .ok (.getfield 47, 3) := by decide +kernel
theorem d_Sp_towerMove_4 : decode b_Sp_towerMove 4 = .ok (.lload_n 1, 1) := by decide +kernel
theorem d_Sp_towerMove_5 : decode b_Sp_towerMove 5 = .ok (.iload_n 3, 1) := by decide +kernel
theorem d_Sp_towerMove_6 : decode b_Sp_towerMove 6 = .ok (.invokevirtual 96, 3) := by decide +kernel
theorem d_Sp_towerMove_9 : decode b_Sp_towerMove 9 = .ok (.ireturn, 1) := by decide +kernel
theorem d_Sp_triesForHeavier_0 : decode b_Sp_triesForHeavier 0 = .ok (.iconst 0, 1) := by decide +kernel
theorem d_Sp_triesForHeavier_1 : decode b_Sp_triesForHeavier 1 = .ok (.istore_n 1, 1) := by decide +kernel
theorem d_Sp_triesForHeavier_2 : decode b_Sp_triesForHeavier 2 = .ok (.iconst 1, 1) := by decide +kernel
theorem d_Sp_triesForHeavier_3 : decode b_Sp_triesForHeavier 3 = .ok (.istore_n 2, 1) := by decide +kernel
theorem d_Sp_triesForHeavier_4 : decode b_Sp_triesForHeavier 4 = .ok (.iload_n 2, 1) := by decide +kernel
theorem d_Sp_triesForHeavier_5 : decode b_Sp_triesForHeavier 5 = .ok (.iload_n 0, 1) := by decide +kernel
theorem d_Sp_triesForHeavier_6 : decode b_Sp_triesForHeavier 6 = .ok (.if_icmp .ge 13, 3) := by decide +kernel
theorem d_Sp_triesForHeavier_9 : decode b_Sp_triesForHeavier 9 = .ok (.iinc 1 1, 3) := by decide +kernel
theorem d_Sp_triesForHeavier_12 : decode b_Sp_triesForHeavier 12 = .ok (.iload_n 2, 1) := by decide +kernel
theorem d_Sp_triesForHeavier_13 : decode b_Sp_triesForHeavier 13 = .ok (.iconst 3, 1) := by decide +kernel
theorem d_Sp_triesForHeavier_14 : decode b_Sp_triesForHeavier 14 = .ok (.imul, 1) := by decide +kernel
theorem d_Sp_triesForHeavier_15 : decode b_Sp_triesForHeavier 15 = .ok (.istore_n 2, 1) := by decide +kernel
theorem d_Sp_triesForHeavier_16 : decode b_Sp_triesForHeavier 16 = .ok (.goto (-12), 3) := by decide +kernel
theorem d_Sp_triesForHeavier_19 : decode b_Sp_triesForHeavier 19 = .ok (.iload_n 1, 1) := by decide +kernel
theorem d_Sp_triesForHeavier_20 : decode b_Sp_triesForHeavier 20 = .ok (.ireturn, 1) := by decide +kernel
theorem d_Sp_triesForOdd_0 : decode b_Sp_triesForOdd 0 = .ok (.iload_n 0, 1) := by decide +kernel
theorem d_Sp_triesForOdd_1 : decode b_Sp_triesForOdd 1 = .ok (.iconst 3, 1) := by decide +kernel
theorem d_Sp_triesForOdd_2 : decode b_Sp_triesForOdd 2 = .ok (.if_icmp .ge 5, 3) := by decide +kernel
theorem d_Sp_triesForOdd_5 : decode b_Sp_triesForOdd 5 = .ok (.iconst (-1), 1) := by decide +kernel
theorem d_Sp_triesForOdd_6 : decode b_Sp_triesForOdd 6 = .ok (.ireturn, 1) := by decide +kernel
theorem d_Sp_triesForOdd_7 : decode b_Sp_triesForOdd 7 = .ok (.iconst 2, 1) := by decide +kernel
theorem d_Sp_triesForOdd_8 : decode b_Sp_triesForOdd 8 = .ok (.istore_n 1, 1) := by decide +kernel
theorem d_Sp_triesForOdd_9 : decode b_Sp_triesForOdd 9 = .ok (.iconst 3, 1) := by decide +kernel
theorem d_Sp_triesForOdd_10 : decode b_Sp_triesForOdd 10 = .ok (.istore_n 2, 1) := by decide +kernel
theorem d_Sp_triesForOdd_11 : decode b_Sp_triesForOdd 11 = .ok (.iload_n 2, 1) := by decide +kernel
theorem d_Sp_triesForOdd_12 : decode b_Sp_triesForOdd 12 = .ok (.iload_n 0, 1) := by decide +kernel
theorem d_Sp_triesForOdd_13 : decode b_Sp_triesForOdd 13 = .ok (.if_icmp .ge 15, 3) := by decide +kernel
theorem d_Sp_triesForOdd_16 : decode b_Sp_triesForOdd 16 = .ok (.iinc 1 1, 3) := by decide +kernel
theorem d_Sp_triesForOdd_19 : decode b_Sp_triesForOdd 19 = .ok (.iload_n 2, 1) := by decide +kernel
theorem d_Sp_triesForOdd_20 : decode b_Sp_triesForOdd 20 = .ok (.iconst 3, 1) := by decide +kernel
theorem d_Sp_triesForOdd_21 : decode b_Sp_triesForOdd 21 = .ok (.imul, 1) := by decide +kernel
theorem d_Sp_triesForOdd_22 : decode b_Sp_triesForOdd 22 = .ok (.iconst 3, 1) := by decide +kernel
theorem d_Sp_triesForOdd_23 : decode b_Sp_triesForOdd 23 = .ok (.iadd, 1) := by decide +kernel
theorem d_Sp_triesForOdd_24 : decode b_Sp_triesForOdd 24 = .ok (.istore_n 2, 1) := by decide +kernel
theorem d_Sp_triesForOdd_25 : decode b_Sp_triesForOdd 25 = .ok (.goto (-14), 3) := by decide +kernel
theorem d_Sp_triesForOdd_28 : decode b_Sp_triesForOdd 28 = .ok (.iload_n 1, 1) := by decide +kernel
theorem d_Sp_triesForOdd_29 : decode b_Sp_triesForOdd 29 = .ok (.ireturn, 1) := by decide +kernel
theorem d_Sp_unit_0 : decode b_Sp_unit 0 = .ok (.aload_n 0, 1) := by decide +kernel
theorem d_Sp_unit_1 : decode b_Sp_unit 1 = .ok (.getfield 26, 3) := by decide +kernel
theorem d_Sp_unit_4 : decode b_Sp_unit 4 = .ok (.iload_n 1, 1) := by decide +kernel
theorem d_Sp_unit_5 : decode b_Sp_unit 5 = .ok (.invokevirtual 66, 3) := by decide +kernel
theorem d_Sp_unit_8 : decode b_Sp_unit 8 = .ok (.ireturn, 1) := by decide +kernel
theorem d_Sp_weigh_0 : decode b_Sp_weigh 0 = .ok (.iload_n 1, 1) := by decide +kernel
theorem d_Sp_weigh_1 : decode b_Sp_weigh 1 = .ok (.iconst 1, 1) := by decide +kernel
theorem d_Sp_weigh_2 : decode b_Sp_weigh 2 = .ok (.if_icmp .lt 9, 3) := by decide +kernel
theorem d_Sp_weigh_5 : decode b_Sp_weigh 5 = .ok (.iload_n 1, 1) := by decide +kernel
theorem d_Sp_weigh_6 : decode b_Sp_weigh 6 = .ok (.bipush 13, 2) := by decide +kernel
theorem d_Sp_weigh_8 : decode b_Sp_weigh 8 = .ok (.if_icmp .le 6, 3) := by decide +kernel
theorem d_Sp_weigh_11 : decode b_Sp_weigh 11 = .ok (.bipush (-2), 2) := by decide +kernel
theorem d_Sp_weigh_13 : decode b_Sp_weigh 13 = .ok (.ireturn, 1) := by decide +kernel
theorem d_Sp_weigh_14 : decode b_Sp_weigh 14 = .ok (.iload_n 2, 1) := by decide +kernel
theorem d_Sp_weigh_15 : decode b_Sp_weigh 15 = .ok (.ifCond .ne 8, 3) := by decide +kernel
theorem d_Sp_weigh_18 : decode b_Sp_weigh 18 = .ok (.iload_n 1, 1) := by decide +kernel
theorem d_Sp_weigh_19 : decode b_Sp_weigh 19 = .ok (.invokestatic 81, 3) := by decide +kernel
theorem d_Sp_weigh_22 : decode b_Sp_weigh 22 = .ok (.ireturn, 1) := by decide +kernel
theorem d_Sp_weigh_23 : decode b_Sp_weigh 23 = .ok (.iload_n 2, 1) := by decide +kernel
theorem d_Sp_weigh_24 : decode b_Sp_weigh 24 = .ok (.iconst 1, 1) := by decide +kernel
theorem d_Sp_weigh_25 : decode b_Sp_weigh 25 = .ok (.if_icmp .ne 10, 3) := by decide +kernel
theorem d_Sp_weigh_28 : decode b_Sp_weigh 28 = .ok (.iload_n 1, 1) := by decide +kernel
theorem d_Sp_weigh_29 : decode b_Sp_weigh 29 = .ok (.invokestatic 84, 3) := by decide +kernel
theorem d_Sp_weigh_32 : decode b_Sp_weigh 32 = .ok (.goto 5, 3) := by decide +kernel
theorem d_Sp_weigh_35 : decode b_Sp_weigh 35 = .ok (.bipush (-2), 2) := by decide +kernel
theorem d_Sp_weigh_37 : decode b_Sp_weigh 37 = .ok (.ireturn, 1) := by decide +kernel
theorem d_Fs_init_0 : decode b_Fs_init 0 = .ok (.aload_n 0, 1) := by decide +kernel
theorem d_Fs_init_1 : decode b_Fs_init 1 = .ok (.invokespecial 3, 3) := by decide +kernel
theorem d_Fs_init_4 : decode b_Fs_init 4 = .ok (.aload_n 0, 1) := by decide +kernel
theorem d_Fs_init_5 : decode b_Fs_init 5 = .ok (.bipush 8, 2) := by decide +kernel
theorem d_Fs_init_7 : decode b_Fs_init 7 = .ok (.newarray .int, 2) := by decide +kernel
theorem d_Fs_init_9 : decode b_Fs_init 9 = .ok (.putfield 11, 3) := by decide +kernel
theorem d_Fs_init_12 : decode b_Fs_init 12 = .ok (.aload_n 0, 1) := by decide +kernel
theorem d_Fs_init_13 : decode b_Fs_init 13 = .ok (.bipush 8, 2) := by decide +kernel
theorem d_Fs_init_15 : decode b_Fs_init 15 = .ok (.newarray .int, 2) := by decide +kernel
theorem d_Fs_init_17 : decode b_Fs_init 17 = .ok (.putfield 15, 3) := by decide +kernel
theorem d_Fs_init_20 : decode b_Fs_init 20 = .ok (.return_, 1) := by decide +kernel
theorem d_Fs_first_0 : decode b_Fs_first 0 = .ok (.aload_n 0, 1) := by decide +kernel
theorem d_Fs_first_1 : decode b_Fs_first 1 = .ok (.iload_n 1, 1) := by decide +kernel
theorem d_Fs_first_2 : decode b_Fs_first 2 = .ok (.invokevirtual 28, 3) := by decide +kernel
theorem d_Fs_first_5 : decode b_Fs_first 5 = .ok (.ifCond .eq 12, 3) := by decide +kernel
theorem d_Fs_first_8 : decode b_Fs_first 8 = .ok (.aload_n 0, 1) := by decide +kernel
theorem d_Fs_first_9 : decode b_Fs_first 9 = .ok (.getfield 11, 3) := by decide +kernel
theorem d_Fs_first_12 : decode b_Fs_first 12 = .ok (.iload_n 1, 1) := by decide +kernel
theorem d_Fs_first_13 : decode b_Fs_first 13 = .ok (.iaload, 1) := by decide +kernel
theorem d_Fs_first_14 : decode b_Fs_first 14 = .ok (.goto 5, 3) := by decide +kernel
theorem d_Fs_first_17 : decode b_Fs_first 17 = .ok (.bipush (-2), 2) := by decide +kernel
theorem d_Fs_first_19 : decode b_Fs_first 19 = .ok (.ireturn, 1) := by decide +kernel
theorem d_Fs_forget_0 : decode b_Fs_forget 0 = .ok (.aload_n 0, 1) := by decide +kernel
theorem d_Fs_forget_1 : decode b_Fs_forget 1 = .ok (.iconst 0, 1) := by decide +kernel
theorem d_Fs_forget_2 : decode b_Fs_forget 2 = .ok (.putfield 18, 3) := by decide +kernel
theorem d_Fs_forget_5 : decode b_Fs_forget 5 = .ok (.return_, 1) := by decide +kernel
theorem d_Fs_isFound_0 : decode b_Fs_isFound 0 = .ok (.iload_n 1, 1) := by decide +kernel
theorem d_Fs_isFound_1 : decode b_Fs_isFound 1 = .ok (.ifCond .lt 33, 3) := by decide +kernel
theorem d_Fs_isFound_4 : decode b_Fs_isFound 4 = .ok (.iload_n 1, 1) := by decide +kernel
theorem d_Fs_isFound_5 : decode b_Fs_isFound 5 = .ok (.aload_n 0, 1) := by decide +kernel
theorem d_Fs_isFound_6 : decode b_Fs_isFound 6 = .ok (.getfield 18, 3) := by decide +kernel
theorem d_Fs_isFound_9 : decode b_Fs_isFound 9 = .ok (.if_icmp .ge 25, 3) := by decide +kernel
theorem d_Fs_isFound_12 : decode b_Fs_isFound 12 = .ok (.iload_n 1, 1) := by decide +kernel
theorem d_Fs_isFound_13 : decode b_Fs_isFound 13 = .ok (.aload_n 0, 1) := by decide +kernel
theorem d_Fs_isFound_14 : decode b_Fs_isFound 14 = .ok (.getfield 11, 3) := by decide +kernel
theorem d_Fs_isFound_17 : decode b_Fs_isFound 17 = .ok (.arraylength, 1) := by decide +kernel
theorem d_Fs_isFound_18 : decode b_Fs_isFound 18 = .ok (.if_icmp .ge 16, 3) := by decide +kernel
theorem d_Fs_isFound_21 : decode b_Fs_isFound 21 = .ok (.iload_n 1, 1) := by decide +kernel
theorem d_Fs_isFound_22 : decode b_Fs_isFound 22 = .ok (.aload_n 0, 1) := by decide +kernel
theorem d_Fs_isFound_23 : decode b_Fs_isFound 23 = .ok (.getfield 15, 3) := by decide +kernel
theorem d_Fs_isFound_26 : decode b_Fs_isFound 26 = .ok (.arraylength, 1) := by decide +kernel
theorem d_Fs_isFound_27 : decode b_Fs_isFound 27 = .ok (.if_icmp .ge 7, 3) := by decide +kernel
theorem d_Fs_isFound_30 : decode b_Fs_isFound 30 = .ok (.iconst 1, 1) := by decide +kernel
theorem d_Fs_isFound_31 : decode b_Fs_isFound 31 = .ok (.goto 4, 3) := by decide +kernel
theorem d_Fs_isFound_34 : decode b_Fs_isFound 34 = .ok (.iconst 0, 1) := by decide +kernel
theorem d_Fs_isFound_35 : decode b_Fs_isFound 35 = .ok (.ireturn, 1) := by decide +kernel
theorem d_Fs_makeRoom_0 : decode b_Fs_makeRoom 0 = .ok (.iload_n 1, 1) := by decide +kernel
theorem d_Fs_makeRoom_1 : decode b_Fs_makeRoom 1 = .ok (.aload_n 0, 1) := by decide +kernel
theorem d_Fs_makeRoom_2 : decode b_Fs_makeRoom 2 = .ok (.getfield 11, 3) := by decide +kernel
theorem d_Fs_makeRoom_5 : decode b_Fs_makeRoom 5 = .ok (.arraylength, 1) := by decide +kernel
theorem d_Fs_makeRoom_6 : decode b_Fs_makeRoom 6 = .ok (.if_icmp .le 24, 3) := by decide +kernel
theorem d_Fs_makeRoom_9 : decode b_Fs_makeRoom 9 = .ok (.iload_n 1, 1) := by decide +kernel
theorem d_Fs_makeRoom_10 : decode b_Fs_makeRoom 10 = .ok (.sipush 10000, 3) := by decide +kernel
theorem d_Fs_makeRoom_13 : decode b_Fs_makeRoom 13 = .ok (.if_icmp .gt 17, 3) := by decide +kernel
theorem d_Fs_makeRoom_16 : decode b_Fs_makeRoom 16 = .ok (.aload_n 0, 1) := by decide +kernel
theorem d_Fs_makeRoom_17 : decode b_Fs_makeRoom 17 = .ok (.iload_n 1, 1) := by decide +kernel
theorem d_Fs_makeRoom_18 : decode b_Fs_makeRoom 18 = .ok (.newarray .int, 2) := by decide +kernel
theorem d_Fs_makeRoom_20 : decode b_Fs_makeRoom 20 = .ok (.putfield 11, 3) := by decide +kernel
theorem d_Fs_makeRoom_23 : decode b_Fs_makeRoom 23 = .ok (.aload_n 0, 1) := by decide +kernel
theorem d_Fs_makeRoom_24 : decode b_Fs_makeRoom 24 = .ok (.iload_n 1, 1) := by decide +kernel
theorem d_Fs_makeRoom_25 : decode b_Fs_makeRoom 25 = .ok (.newarray .int, 2) := by decide +kernel
theorem d_Fs_makeRoom_27 : decode b_Fs_makeRoom 27 = .ok (.putfield 15, 3) := by decide +kernel
theorem d_Fs_makeRoom_30 : decode b_Fs_makeRoom 30 = .ok (.aload_n 0, 1) := by decide +kernel
theorem d_Fs_makeRoom_31 : decode b_Fs_makeRoom 31 = .ok (.iload_n 1, 1) := by decide +kernel
theorem d_Fs_makeRoom_32 : decode b_Fs_makeRoom 32 = .ok (.aload_n 0, 1) := by decide +kernel
theorem d_Fs_makeRoom_33 : decode b_Fs_makeRoom 33 = .ok (.getfield 11, 3) := by decide +kernel
theorem d_Fs_makeRoom_36 : decode b_Fs_makeRoom 36 = .ok (.arraylength, 1) := by decide +kernel
theorem d_Fs_makeRoom_37 : decode b_Fs_makeRoom 37 = .ok (.invokestatic 22, 3) := by decide +kernel
theorem d_Fs_makeRoom_40 : decode b_Fs_makeRoom 40 = .ok (.putfield 18, 3) := by decide +kernel
theorem d_Fs_makeRoom_43 : decode b_Fs_makeRoom 43 = .ok (.return_, 1) := by decide +kernel
theorem d_Fs_put_0 : decode b_Fs_put 0 = .ok (.aload_n 0, 1) := by decide +kernel
theorem d_Fs_put_1 : decode b_Fs_put 1 = .ok (.iload_n 1, 1) := by decide +kernel
theorem d_Fs_put_2 : decode b_Fs_put 2 = .ok (.invokevirtual 28, 3) := by decide +kernel
theorem d_Fs_put_5 : decode b_Fs_put 5 = .ok (.ifCond .eq 17, 3) := by decide +kernel
theorem d_Fs_put_8 : decode b_Fs_put 8 = .ok (.aload_n 0, 1) := by decide +kernel
theorem d_Fs_put_9 : decode b_Fs_put 9 = .ok (.getfield 11, 3) := by decide +kernel
theorem d_Fs_put_12 : decode b_Fs_put 12 = .ok (.iload_n 1, 1) := by decide +kernel
theorem d_Fs_put_13 : decode b_Fs_put 13 = .ok (.iload_n 2, 1) := by decide +kernel
theorem d_Fs_put_14 : decode b_Fs_put 14 = .ok (.iastore, 1) := by decide +kernel
theorem d_Fs_put_15 : decode b_Fs_put 15 = .ok (.aload_n 0, 1) := by decide +kernel
theorem d_Fs_put_16 : decode b_Fs_put 16 = .ok (.getfield 15, 3) := by decide +kernel
theorem d_Fs_put_19 : decode b_Fs_put 19 = .ok (.iload_n 1, 1) := by decide +kernel
theorem d_Fs_put_20 : decode b_Fs_put 20 = .ok (.iload_n 3, 1) := by decide +kernel
theorem d_Fs_put_21 : decode b_Fs_put 21 = .ok (.iastore, 1) := by decide +kernel
theorem d_Fs_put_22 : decode b_Fs_put 22 = .ok (.return_, 1) := by decide +kernel
theorem d_Fs_second_0 : decode b_Fs_second 0 = .ok (.aload_n 0, 1) := by decide +kernel
theorem d_Fs_second_1 : decode b_Fs_second 1 = .ok (.iload_n 1, 1) := by decide +kernel
theorem d_Fs_second_2 : decode b_Fs_second 2 = .ok (.invokevirtual 28, 3) := by decide +kernel
theorem d_Fs_second_5 : decode b_Fs_second 5 = .ok (.ifCond .eq 12, 3) := by decide +kernel
theorem d_Fs_second_8 : decode b_Fs_second 8 = .ok (.aload_n 0, 1) := by decide +kernel
theorem d_Fs_second_9 : decode b_Fs_second 9 = .ok (.getfield 15, 3) := by decide +kernel
theorem d_Fs_second_12 : decode b_Fs_second 12 = .ok (.iload_n 1, 1) := by decide +kernel
theorem d_Fs_second_13 : decode b_Fs_second 13 = .ok (.iaload, 1) := by decide +kernel
theorem d_Fs_second_14 : decode b_Fs_second 14 = .ok (.goto 5, 3) := by decide +kernel
theorem d_Fs_second_17 : decode b_Fs_second 17 = .ok (.bipush (-2), 2) := by decide +kernel
theorem d_Fs_second_19 : decode b_Fs_second 19 = .ok (.ireturn, 1) := by decide +kernel
theorem d_Js_init_0 : decode b_Js_init 0 = .ok (.aload_n 0, 1) := by decide +kernel
theorem d_Js_init_1 : decode b_Js_init 1 = .ok (.invokespecial 3, 3) := by decide +kernel
theorem d_Js_init_4 : decode b_Js_init 4 = .ok (.aload_n 0, 1) := by decide +kernel
theorem d_Js_init_5 : decode b_Js_init 5 = .ok (.iconst 4, 1) := by decide +kernel
theorem d_Js_init_6 : decode b_Js_init 6 = .ok (.newarray .int, 2) := by decide +kernel
theorem d_Js_init_8 : decode b_Js_init 8 = .ok (.putfield 11, 3) := by decide +kernel
theorem d_Js_init_11 : decode b_Js_init 11 = .ok (.aload_n 0, 1) := by decide +kernel
theorem d_Js_init_12 : decode b_Js_init 12 = .ok (.iconst 4, 1) := by decide +kernel
theorem d_Js_init_13 : decode b_Js_init 13 = .ok (.newarray .int, 2) := by decide +kernel
theorem d_Js_init_15 : decode b_Js_init 15 = .ok (.putfield 15, 3) := by decide +kernel
theorem d_Js_init_18 : decode b_Js_init 18 = .ok (.aload_n 0, 1) := by decide +kernel
theorem d_Js_init_19 : decode b_Js_init 19 = .ok (.iconst 4, 1) := by decide +kernel
theorem d_Js_init_20 : decode b_Js_init 20 = .ok (.newarray .int, 2) := by decide +kernel
theorem d_Js_init_22 : decode b_Js_init 22 = .ok (.putfield 18, 3) := by decide +kernel
theorem d_Js_init_25 : decode b_Js_init 25 = .ok (.aload_n 0, 1) := by decide +kernel
theorem d_Js_init_26 : decode b_Js_init 26 = .ok (.iconst 4, 1) := by decide +kernel
theorem d_Js_init_27 : decode b_Js_init 27 = .ok (.newarray .int, 2) := by decide +kernel
theorem d_Js_init_29 : decode b_Js_init 29 = .ok (.putfield 21, 3) := by decide +kernel
theorem d_Js_init_32 : decode b_Js_init 32 = .ok (.return_, 1) := by decide +kernel
theorem d_Js_add_0 : decode b_Js_add 0 = .ok (.aload_n 0, 1) := by decide +kernel
theorem d_Js_add_1 : decode b_Js_add 1 = .ok (.getfield 24, 3) := by decide +kernel
theorem d_Js_add_4 : decode b_Js_add 4 = .ok (.iconst 4, 1) := by decide +kernel
theorem d_Js_add_5 : decode b_Js_add 5 = .ok (.if_icmp .ge 23, 3) := by decide +kernel
theorem d_Js_add_8 : decode b_Js_add 8 = .ok (.iload_n 1, 1) := by decide +kernel
theorem d_Js_add_9 : decode b_Js_add 9 = .ok (.iconst 1, 1) := by decide +kernel
theorem d_Js_add_10 : decode b_Js_add 10 = .ok (.if_icmp .lt 18, 3) := by decide +kernel
theorem d_Js_add_13 : decode b_Js_add 13 = .ok (.iload_n 1, 1) := by decide +kernel
theorem d_Js_add_14 : decode b_Js_add 14 = .ok (.bipush 9, 2) := by decide +kernel
theorem d_Js_add_16 : decode b_Js_add 16 = .ok (.if_icmp .gt 12, 3) := by decide +kernel
theorem d_Js_add_19 : decode b_Js_add 19 = .ok (.iload_n 2, 1) := by decide +kernel
theorem d_Js_add_20 : decode b_Js_add 20 = .ok (.ifCond .lt 8, 3) := by decide +kernel
theorem d_Js_add_23 : decode b_Js_add 23 = .ok (.iload_n 2, 1) := by decide +kernel
theorem d_Js_add_24 : decode b_Js_add 24 = .ok (.iload_n 1, 1) := by decide +kernel
theorem d_Js_add_25 : decode b_Js_add 25 = .ok (.if_icmp .le 5, 3) := by decide +kernel
theorem d_Js_add_28 : decode b_Js_add 28 = .ok (.iconst (-1), 1) := by decide +kernel
theorem d_Js_add_29 : decode b_Js_add 29 = .ok (.ireturn, 1) := by decide +kernel
theorem d_Js_add_30 : decode b_Js_add 30 = .ok (.aload_n 0, 1) := by decide +kernel
theorem d_Js_add_31 : decode b_Js_add 31 = .ok (.getfield 11, 3) := by decide +kernel
theorem d_Js_add_34 : decode b_Js_add 34 = .ok (.aload_n 0, 1) := by decide +kernel
theorem d_Js_add_35 : decode b_Js_add 35 = .ok (.getfield 24, 3) := by decide +kernel
theorem d_Js_add_38 : decode b_Js_add 38 = .ok (.iload_n 1, 1) := by decide +kernel
theorem d_Js_add_39 : decode b_Js_add 39 = .ok (.iastore, 1) := by decide +kernel
theorem d_Js_add_40 : decode b_Js_add 40 = .ok (.aload_n 0, 1) := by decide +kernel
theorem d_Js_add_41 : decode b_Js_add 41 = .ok (.getfield 15, 3) := by decide +kernel
theorem d_Js_add_44 : decode b_Js_add 44 = .ok (.aload_n 0, 1) := by decide +kernel
theorem d_Js_add_45 : decode b_Js_add 45 = .ok (.getfield 24, 3) := by decide +kernel
theorem d_Js_add_48 : decode b_Js_add 48 = .ok (.iload_n 2, 1) := by decide +kernel
theorem d_Js_add_49 : decode b_Js_add 49 = .ok (.iastore, 1) := by decide +kernel
theorem d_Js_add_50 : decode b_Js_add 50 = .ok (.aload_n 0, 1) := by decide +kernel
theorem d_Js_add_51 : decode b_Js_add 51 = .ok (.getfield 18, 3) := by decide +kernel
theorem d_Js_add_54 : decode b_Js_add 54 = .ok (.aload_n 0, 1) := by decide +kernel
theorem d_Js_add_55 : decode b_Js_add 55 = .ok (.getfield 24, 3) := by decide +kernel
theorem d_Js_add_58 : decode b_Js_add 58 = .ok (.iconst (-1), 1) := by decide +kernel
theorem d_Js_add_59 : decode b_Js_add 59 = .ok (.iastore, 1) := by decide +kernel
theorem d_Js_add_60 : decode b_Js_add 60 = .ok (.aload_n 0, 1) := by decide +kernel
theorem d_Js_add_61 : decode b_Js_add 61 = .ok (.dup, 1) := by decide +kernel
theorem d_Js_add_62 : decode b_Js_add 62 = .ok (.getfield 24, 3) := by decide +kernel
theorem d_Js_add_65 : decode b_Js_add 65 = .ok (.iconst 1, 1) := by decide +kernel
theorem d_Js_add_66 : decode b_Js_add 66 = .ok (.iadd, 1) := by decide +kernel
theorem d_Js_add_67 : decode b_Js_add 67 = .ok (.putfield 24, 3) := by decide +kernel
theorem d_Js_add_70 : decode b_Js_add 70 = .ok (.aload_n 0, 1) := by decide +kernel
theorem d_Js_add_71 : decode b_Js_add 71 = .ok (.getfield 24, 3) := by decide +kernel
theorem d_Js_add_74 : decode b_Js_add 74 = .ok (.iconst 1, 1) := by decide +kernel
theorem d_Js_add_75 : decode b_Js_add 75 = .ok (.isub, 1) := by decide +kernel
theorem d_Js_add_76 : decode b_Js_add 76 = .ok (.ireturn, 1) := by decide +kernel
theorem d_Js_codeOf_0 : decode b_Js_codeOf 0 = .ok (.iload_n 0, 1) := by decide +kernel
theorem d_Js_codeOf_1 : decode b_Js_codeOf 1 = .ok (.iconst 1, 1) := by decide +kernel
theorem d_Js_codeOf_2 : decode b_Js_codeOf 2 = .ok (.iadd, 1) := by decide +kernel
theorem d_Js_codeOf_3 : decode b_Js_codeOf 3 = .ok (.iconst 3, 1) := by decide +kernel
theorem d_Js_codeOf_4 : decode b_Js_codeOf 4 = .ok (.ishl, 1) := by decide +kernel
theorem d_Js_codeOf_5 : decode b_Js_codeOf 5 = .ok (.iload_n 1, 1) := by decide +kernel
theorem d_Js_codeOf_6 : decode b_Js_codeOf 6 = .ok (.iconst 1, 1) := by decide +kernel
theorem d_Js_codeOf_7 : decode b_Js_codeOf 7 = .ok (.iadd, 1) := by decide +kernel
theorem d_Js_codeOf_8 : decode b_Js_codeOf 8 = .ok (.ior, 1) := by decide +kernel
theorem d_Js_codeOf_9 : decode b_Js_codeOf 9 = .ok (.ireturn, 1) := by decide +kernel
theorem d_Js_firstTold_0 : decode b_Js_firstTold 0 = .ok (.iload_n 1, 1) := by decide +kernel
theorem d_Js_firstTold_1 : decode b_Js_firstTold 1 = .ok (.iconst 3, 1) := by decide +kernel
theorem d_Js_firstTold_2 : decode b_Js_firstTold 2 = .ok (.ishr, 1) := by decide +kernel
theorem d_Js_firstTold_3 : decode b_Js_firstTold 3 = .ok (.iconst 1, 1) := by decide +kernel
theorem d_Js_firstTold_4 : decode b_Js_firstTold 4 = .ok (.isub, 1) := by decide +kernel
theorem d_Js_firstTold_5 : decode b_Js_firstTold 5 = .ok (.ireturn, 1) := by decide +kernel
theorem d_Js_isDone_0 : decode b_Js_isDone 0 = .ok (.aload_n 0, 1) := by decide +kernel
theorem d_Js_isDone_1 : decode b_Js_isDone 1 = .ok (.iload_n 1, 1) := by decide +kernel
theorem d_Js_isDone_2 : decode b_Js_isDone 2 = .ok (.invokevirtual 34, 3) := by decide +kernel
theorem d_Js_isDone_5 : decode b_Js_isDone 5 = .ok (.iconst 0, 1) := by decide +kernel
theorem d_Js_isDone_6 : decode b_Js_isDone 6 = .ok (.istore_n 2, 1) := by decide +kernel
theorem d_Js_isDone_7 : decode b_Js_isDone 7 = .ok (.iload_n 2, 1) := by decide +kernel
theorem d_Js_isDone_8 : decode b_Js_isDone 8 = .ok (.aload_n 0, 1) := by decide +kernel
theorem d_Js_isDone_9 : decode b_Js_isDone 9 = .ok (.getfield 24, 3) := by decide +kernel
theorem d_Js_isDone_12 : decode b_Js_isDone 12 = .ok (.if_icmp .ge 36, 3) := by decide +kernel
theorem d_Js_isDone_15 : decode b_Js_isDone 15 = .ok (.aload_n 0, 1) := by decide +kernel
theorem d_Js_isDone_16 : decode b_Js_isDone 16 = .ok (.getfield 18, 3) := by decide +kernel
theorem d_Js_isDone_19 : decode b_Js_isDone 19 = .ok (.iload_n 2, 1) := by decide +kernel
theorem d_Js_isDone_20 : decode b_Js_isDone 20 = .ok (.iaload, 1) := by decide +kernel
theorem d_Js_isDone_21 : decode b_Js_isDone 21 = .ok (.iconst (-1), 1) := by decide +kernel
theorem d_Js_isDone_22 : decode b_Js_isDone 22 = .ok (.if_icmp .eq 20, 3) := by decide +kernel
theorem d_Js_isDone_25 : decode b_Js_isDone 25 = .ok (.aload_n 0, 1) := by decide +kernel
theorem d_Js_isDone_26 : decode b_Js_isDone 26 = .ok (.getfield 18, 3) := by decide +kernel
theorem d_Js_isDone_29 : decode b_Js_isDone 29 = .ok (.iload_n 2, 1) := by decide +kernel
theorem d_Js_isDone_30 : decode b_Js_isDone 30 = .ok (.iaload, 1) := by decide +kernel
theorem d_Js_isDone_31 : decode b_Js_isDone 31 = .ok (.aload_n 0, 1) := by decide +kernel
theorem d_Js_isDone_32 : decode b_Js_isDone 32 = .ok (.getfield 21, 3) := by decide +kernel
theorem d_Js_isDone_35 : decode b_Js_isDone 35 = .ok (.iload_n 2, 1) := by decide +kernel
theorem d_Js_isDone_36 : decode b_Js_isDone 36 = .ok (.iaload, 1) := by decide +kernel
theorem d_Js_isDone_37 : decode b_Js_isDone 37 = .ok (.if_icmp .eq 5, 3) := by decide +kernel
theorem d_Js_isDone_40 : decode b_Js_isDone 40 = .ok (.iconst 0, 1) := by decide +kernel
theorem d_Js_isDone_41 : decode b_Js_isDone 41 = .ok (.ireturn, 1) := by decide +kernel
theorem d_Js_isDone_42 : decode b_Js_isDone 42 = .ok (.iinc 2 1, 3) := by decide +kernel
theorem d_Js_isDone_45 : decode b_Js_isDone 45 = .ok (.goto (-38), 3) := by decide +kernel
theorem d_Js_isDone_48 : decode b_Js_isDone 48 = .ok (.iconst 1, 1) := by decide +kernel
theorem d_Js_isDone_49 : decode b_Js_isDone 49 = .ok (.ireturn, 1) := by decide +kernel
theorem d_Js_meetNext_0 : decode b_Js_meetNext 0 = .ok (.aload_n 0, 1) := by decide +kernel
theorem d_Js_meetNext_1 : decode b_Js_meetNext 1 = .ok (.iload_n 1, 1) := by decide +kernel
theorem d_Js_meetNext_2 : decode b_Js_meetNext 2 = .ok (.invokevirtual 34, 3) := by decide +kernel
theorem d_Js_meetNext_5 : decode b_Js_meetNext 5 = .ok (.iconst 0, 1) := by decide +kernel
theorem d_Js_meetNext_6 : decode b_Js_meetNext 6 = .ok (.istore_n 3, 1) := by decide +kernel
theorem d_Js_meetNext_7 : decode b_Js_meetNext 7 = .ok (.iload_n 3, 1) := by decide +kernel
theorem d_Js_meetNext_8 : decode b_Js_meetNext 8 = .ok (.aload_n 0, 1) := by decide +kernel
theorem d_Js_meetNext_9 : decode b_Js_meetNext 9 = .ok (.getfield 24, 3) := by decide +kernel
theorem d_Js_meetNext_12 : decode b_Js_meetNext 12 = .ok (.if_icmp .ge 32, 3) := by decide +kernel
theorem d_Js_meetNext_15 : decode b_Js_meetNext 15 = .ok (.aload_n 2, 1) := by decide +kernel
theorem d_Js_meetNext_16 : decode b_Js_meetNext 16 = .ok (.iload_n 1, 1) := by decide +kernel
theorem d_Js_meetNext_17 : decode b_Js_meetNext 17 = .ok (.aload_n 0, 1) := by decide +kernel
theorem d_Js_meetNext_18 : decode b_Js_meetNext 18 = .ok (.iload_n 3, 1) := by decide +kernel
theorem d_Js_meetNext_19 : decode b_Js_meetNext 19 = .ok (.invokevirtual 38, 3) := by decide +kernel
theorem d_Js_meetNext_22 : decode b_Js_meetNext 22 = .ok (.getstatic 31, 3) := by decide +kernel
theorem d_Js_meetNext_25 : decode b_Js_meetNext 25 = .ok (.iload_n 3, 1) := by decide +kernel
theorem d_Js_meetNext_26 : decode b_Js_meetNext 26 = .ok (.iaload, 1) := by decide +kernel
theorem d_Js_meetNext_27 : decode b_Js_meetNext 27 = .ok (.imul, 1) := by decide +kernel
theorem d_Js_meetNext_28 : decode b_Js_meetNext 28 = .ok (.iadd, 1) := by decide +kernel
theorem d_Js_meetNext_29 : decode b_Js_meetNext 29 = .ok (.iload_n 1, 1) := by decide +kernel
theorem d_Js_meetNext_30 : decode b_Js_meetNext 30 = .ok (.iconst (-1), 1) := by decide +kernel
theorem d_Js_meetNext_31 : decode b_Js_meetNext 31 = .ok (.iload_n 3, 1) := by decide +kernel
end
section
theorem d_Js_meetNext_32 : decode b_Js_meetNext 32 = .ok (.invokestatic 42, 3) := by decide +kernel
theorem d_Js_meetNext_35 : decode b_Js_meetNext 35 = .ok (.invokevirtual 46, 3) := by decide +kernel
theorem d_Js_meetNext_38 : decode b_Js_meetNext 38 = .ok (.iinc 3 1, 3) := by decide +kernel
theorem d_Js_meetNext_41 : decode b_Js_meetNext 41 = .ok (.goto (-34), 3) := by decide +kernel
theorem d_Js_meetNext_44 : decode b_Js_meetNext 44 = .ok (.iconst 0, 1) := by decide +kernel
theorem d_Js_meetNext_45 : decode b_Js_meetNext 45 = .ok (.istore_n 3, 1) := by decide +kernel
theorem d_Js_meetNext_46 : decode b_Js_meetNext 46 = .ok (.iload_n 3, 1) := by decide +kernel
theorem d_Js_meetNext_47 : decode b_Js_meetNext 47 = .ok (.aload_n 0, 1) := by decide +kernel
theorem d_Js_meetNext_48 : decode b_Js_meetNext 48 = .ok (.getfield 24, 3) := by decide +kernel
theorem d_Js_meetNext_51 : decode b_Js_meetNext 51 = .ok (.if_icmp .ge 96, 3) := by decide +kernel
theorem d_Js_meetNext_54 : decode b_Js_meetNext 54 = .ok (.aload_n 2, 1) := by decide +kernel
theorem d_Js_meetNext_55 : decode b_Js_meetNext 55 = .ok (.iload_n 1, 1) := by decide +kernel
theorem d_Js_meetNext_56 : decode b_Js_meetNext 56 = .ok (.aload_n 0, 1) := by decide +kernel
theorem d_Js_meetNext_57 : decode b_Js_meetNext 57 = .ok (.getfield 21, 3) := by decide +kernel
theorem d_Js_meetNext_60 : decode b_Js_meetNext 60 = .ok (.iload_n 3, 1) := by decide +kernel
theorem d_Js_meetNext_61 : decode b_Js_meetNext 61 = .ok (.iaload, 1) := by decide +kernel
theorem d_Js_meetNext_62 : decode b_Js_meetNext 62 = .ok (.getstatic 31, 3) := by decide +kernel
theorem d_Js_meetNext_65 : decode b_Js_meetNext 65 = .ok (.iload_n 3, 1) := by decide +kernel
theorem d_Js_meetNext_66 : decode b_Js_meetNext 66 = .ok (.iaload, 1) := by decide +kernel
theorem d_Js_meetNext_67 : decode b_Js_meetNext 67 = .ok (.imul, 1) := by decide +kernel
theorem d_Js_meetNext_68 : decode b_Js_meetNext 68 = .ok (.isub, 1) := by decide +kernel
theorem d_Js_meetNext_69 : decode b_Js_meetNext 69 = .ok (.iload_n 1, 1) := by decide +kernel
theorem d_Js_meetNext_70 : decode b_Js_meetNext 70 = .ok (.iload_n 3, 1) := by decide +kernel
theorem d_Js_meetNext_71 : decode b_Js_meetNext 71 = .ok (.iconst (-1), 1) := by decide +kernel
theorem d_Js_meetNext_72 : decode b_Js_meetNext 72 = .ok (.invokestatic 42, 3) := by decide +kernel
theorem d_Js_meetNext_75 : decode b_Js_meetNext 75 = .ok (.invokevirtual 46, 3) := by decide +kernel
theorem d_Js_meetNext_78 : decode b_Js_meetNext 78 = .ok (.iconst 0, 1) := by decide +kernel
theorem d_Js_meetNext_79 : decode b_Js_meetNext 79 = .ok (.istore 4, 2) := by decide +kernel
theorem d_Js_meetNext_81 : decode b_Js_meetNext 81 = .ok (.iload 4, 2) := by decide +kernel
theorem d_Js_meetNext_83 : decode b_Js_meetNext 83 = .ok (.aload_n 0, 1) := by decide +kernel
theorem d_Js_meetNext_84 : decode b_Js_meetNext 84 = .ok (.getfield 24, 3) := by decide +kernel
theorem d_Js_meetNext_87 : decode b_Js_meetNext 87 = .ok (.if_icmp .ge 54, 3) := by decide +kernel
theorem d_Js_meetNext_90 : decode b_Js_meetNext 90 = .ok (.aload_n 0, 1) := by decide +kernel
theorem d_Js_meetNext_91 : decode b_Js_meetNext 91 = .ok (.getfield 21, 3) := by decide +kernel
theorem d_Js_meetNext_94 : decode b_Js_meetNext 94 = .ok (.iload_n 3, 1) := by decide +kernel
theorem d_Js_meetNext_95 : decode b_Js_meetNext 95 = .ok (.iaload, 1) := by decide +kernel
theorem d_Js_meetNext_96 : decode b_Js_meetNext 96 = .ok (.aload_n 0, 1) := by decide +kernel
theorem d_Js_meetNext_97 : decode b_Js_meetNext 97 = .ok (.iload 4, 2) := by decide +kernel
theorem d_Js_meetNext_99 : decode b_Js_meetNext 99 = .ok (.invokevirtual 38, 3) := by decide +kernel
theorem d_Js_meetNext_102 : decode b_Js_meetNext 102 = .ok (.invokestatic 52, 3) := by decide +kernel
theorem d_Js_meetNext_105 : decode b_Js_meetNext 105 = .ok (.istore 5, 2) := by decide +kernel
theorem d_Js_meetNext_107 : decode b_Js_meetNext 107 = .ok (.aload_n 2, 1) := by decide +kernel
theorem d_Js_meetNext_108 : decode b_Js_meetNext 108 = .ok (.iload_n 1, 1) := by decide +kernel
theorem d_Js_meetNext_109 : decode b_Js_meetNext 109 = .ok (.iload 5, 2) := by decide +kernel
theorem d_Js_meetNext_111 : decode b_Js_meetNext 111 = .ok (.getstatic 31, 3) := by decide +kernel
theorem d_Js_meetNext_114 : decode b_Js_meetNext 114 = .ok (.iload 4, 2) := by decide +kernel
theorem d_Js_meetNext_116 : decode b_Js_meetNext 116 = .ok (.iaload, 1) := by decide +kernel
theorem d_Js_meetNext_117 : decode b_Js_meetNext 117 = .ok (.getstatic 31, 3) := by decide +kernel
theorem d_Js_meetNext_120 : decode b_Js_meetNext 120 = .ok (.iload_n 3, 1) := by decide +kernel
theorem d_Js_meetNext_121 : decode b_Js_meetNext 121 = .ok (.iaload, 1) := by decide +kernel
theorem d_Js_meetNext_122 : decode b_Js_meetNext 122 = .ok (.isub, 1) := by decide +kernel
theorem d_Js_meetNext_123 : decode b_Js_meetNext 123 = .ok (.imul, 1) := by decide +kernel
theorem d_Js_meetNext_124 : decode b_Js_meetNext 124 = .ok (.iadd, 1) := by decide +kernel
theorem d_Js_meetNext_125 : decode b_Js_meetNext 125 = .ok (.iload_n 1, 1) := by decide +kernel
theorem d_Js_meetNext_126 : decode b_Js_meetNext 126 = .ok (.iload_n 3, 1) := by decide +kernel
theorem d_Js_meetNext_127 : decode b_Js_meetNext 127 = .ok (.iload 4, 2) := by decide +kernel
theorem d_Js_meetNext_129 : decode b_Js_meetNext 129 = .ok (.invokestatic 42, 3) := by decide +kernel
theorem d_Js_meetNext_132 : decode b_Js_meetNext 132 = .ok (.invokevirtual 46, 3) := by decide +kernel
theorem d_Js_meetNext_135 : decode b_Js_meetNext 135 = .ok (.iinc 4 1, 3) := by decide +kernel
theorem d_Js_meetNext_138 : decode b_Js_meetNext 138 = .ok (.goto (-57), 3) := by decide +kernel
theorem d_Js_meetNext_141 : decode b_Js_meetNext 141 = .ok (.iinc 3 1, 3) := by decide +kernel
theorem d_Js_meetNext_144 : decode b_Js_meetNext 144 = .ok (.goto (-98), 3) := by decide +kernel
theorem d_Js_meetNext_147 : decode b_Js_meetNext 147 = .ok (.return_, 1) := by decide +kernel
theorem d_Js_readLevels_0 : decode b_Js_readLevels 0 = .ok (.iload_n 1, 1) := by decide +kernel
theorem d_Js_readLevels_1 : decode b_Js_readLevels 1 = .ok (.istore_n 2, 1) := by decide +kernel
theorem d_Js_readLevels_2 : decode b_Js_readLevels 2 = .ok (.iconst 0, 1) := by decide +kernel
theorem d_Js_readLevels_3 : decode b_Js_readLevels 3 = .ok (.istore_n 3, 1) := by decide +kernel
theorem d_Js_readLevels_4 : decode b_Js_readLevels 4 = .ok (.iload_n 3, 1) := by decide +kernel
theorem d_Js_readLevels_5 : decode b_Js_readLevels 5 = .ok (.aload_n 0, 1) := by decide +kernel
theorem d_Js_readLevels_6 : decode b_Js_readLevels 6 = .ok (.getfield 24, 3) := by decide +kernel
theorem d_Js_readLevels_9 : decode b_Js_readLevels 9 = .ok (.if_icmp .ge 24, 3) := by decide +kernel
theorem d_Js_readLevels_12 : decode b_Js_readLevels 12 = .ok (.aload_n 0, 1) := by decide +kernel
theorem d_Js_readLevels_13 : decode b_Js_readLevels 13 = .ok (.getfield 21, 3) := by decide +kernel
theorem d_Js_readLevels_16 : decode b_Js_readLevels 16 = .ok (.iload_n 3, 1) := by decide +kernel
theorem d_Js_readLevels_17 : decode b_Js_readLevels 17 = .ok (.iload_n 2, 1) := by decide +kernel
theorem d_Js_readLevels_18 : decode b_Js_readLevels 18 = .ok (.bipush 10, 2) := by decide +kernel
theorem d_Js_readLevels_20 : decode b_Js_readLevels 20 = .ok (.irem, 1) := by decide +kernel
theorem d_Js_readLevels_21 : decode b_Js_readLevels 21 = .ok (.iastore, 1) := by decide +kernel
theorem d_Js_readLevels_22 : decode b_Js_readLevels 22 = .ok (.iload_n 2, 1) := by decide +kernel
theorem d_Js_readLevels_23 : decode b_Js_readLevels 23 = .ok (.bipush 10, 2) := by decide +kernel
theorem d_Js_readLevels_25 : decode b_Js_readLevels 25 = .ok (.idiv, 1) := by decide +kernel
theorem d_Js_readLevels_26 : decode b_Js_readLevels 26 = .ok (.istore_n 2, 1) := by decide +kernel
theorem d_Js_readLevels_27 : decode b_Js_readLevels 27 = .ok (.iinc 3 1, 3) := by decide +kernel
theorem d_Js_readLevels_30 : decode b_Js_readLevels 30 = .ok (.goto (-26), 3) := by decide +kernel
theorem d_Js_readLevels_33 : decode b_Js_readLevels 33 = .ok (.return_, 1) := by decide +kernel
theorem d_Js_roomIn_0 : decode b_Js_roomIn 0 = .ok (.aload_n 0, 1) := by decide +kernel
theorem d_Js_roomIn_1 : decode b_Js_roomIn 1 = .ok (.getfield 11, 3) := by decide +kernel
theorem d_Js_roomIn_4 : decode b_Js_roomIn 4 = .ok (.iload_n 1, 1) := by decide +kernel
theorem d_Js_roomIn_5 : decode b_Js_roomIn 5 = .ok (.iaload, 1) := by decide +kernel
theorem d_Js_roomIn_6 : decode b_Js_roomIn 6 = .ok (.aload_n 0, 1) := by decide +kernel
theorem d_Js_roomIn_7 : decode b_Js_roomIn 7 = .ok (.getfield 21, 3) := by decide +kernel
theorem d_Js_roomIn_10 : decode b_Js_roomIn 10 = .ok (.iload_n 1, 1) := by decide +kernel
theorem d_Js_roomIn_11 : decode b_Js_roomIn 11 = .ok (.iaload, 1) := by decide +kernel
theorem d_Js_roomIn_12 : decode b_Js_roomIn 12 = .ok (.isub, 1) := by decide +kernel
theorem d_Js_roomIn_13 : decode b_Js_roomIn 13 = .ok (.ireturn, 1) := by decide +kernel
theorem d_Js_secondTold_0 : decode b_Js_secondTold 0 = .ok (.iload_n 1, 1) := by decide +kernel
theorem d_Js_secondTold_1 : decode b_Js_secondTold 1 = .ok (.bipush 7, 2) := by decide +kernel
theorem d_Js_secondTold_3 : decode b_Js_secondTold 3 = .ok (.iand, 1) := by decide +kernel
theorem d_Js_secondTold_4 : decode b_Js_secondTold 4 = .ok (.iconst 1, 1) := by decide +kernel
theorem d_Js_secondTold_5 : decode b_Js_secondTold 5 = .ok (.isub, 1) := by decide +kernel
theorem d_Js_secondTold_6 : decode b_Js_secondTold 6 = .ok (.ireturn, 1) := by decide +kernel
theorem d_Js_startState_0 : decode b_Js_startState 0 = .ok (.iconst 0, 1) := by decide +kernel
theorem d_Js_startState_1 : decode b_Js_startState 1 = .ok (.istore_n 1, 1) := by decide +kernel
theorem d_Js_startState_2 : decode b_Js_startState 2 = .ok (.iconst 0, 1) := by decide +kernel
theorem d_Js_startState_3 : decode b_Js_startState 3 = .ok (.istore_n 2, 1) := by decide +kernel
theorem d_Js_startState_4 : decode b_Js_startState 4 = .ok (.iload_n 2, 1) := by decide +kernel
theorem d_Js_startState_5 : decode b_Js_startState 5 = .ok (.aload_n 0, 1) := by decide +kernel
theorem d_Js_startState_6 : decode b_Js_startState 6 = .ok (.getfield 24, 3) := by decide +kernel
theorem d_Js_startState_9 : decode b_Js_startState 9 = .ok (.if_icmp .ge 24, 3) := by decide +kernel
theorem d_Js_startState_12 : decode b_Js_startState 12 = .ok (.iload_n 1, 1) := by decide +kernel
theorem d_Js_startState_13 : decode b_Js_startState 13 = .ok (.aload_n 0, 1) := by decide +kernel
theorem d_Js_startState_14 : decode b_Js_startState 14 = .ok (.getfield 15, 3) := by decide +kernel
theorem d_Js_startState_17 : decode b_Js_startState 17 = .ok (.iload_n 2, 1) := by decide +kernel
theorem d_Js_startState_18 : decode b_Js_startState 18 = .ok (.iaload, 1) := by decide +kernel
theorem d_Js_startState_19 : decode b_Js_startState 19 = .ok (.getstatic 31, 3) := by decide +kernel
theorem d_Js_startState_22 : decode b_Js_startState 22 = .ok (.iload_n 2, 1) := by decide +kernel
theorem d_Js_startState_23 : decode b_Js_startState 23 = .ok (.iaload, 1) := by decide +kernel
theorem d_Js_startState_24 : decode b_Js_startState 24 = .ok (.imul, 1) := by decide +kernel
theorem d_Js_startState_25 : decode b_Js_startState 25 = .ok (.iadd, 1) := by decide +kernel
theorem d_Js_startState_26 : decode b_Js_startState 26 = .ok (.istore_n 1, 1) := by decide +kernel
theorem d_Js_startState_27 : decode b_Js_startState 27 = .ok (.iinc 2 1, 3) := by decide +kernel
theorem d_Js_startState_30 : decode b_Js_startState 30 = .ok (.goto (-26), 3) := by decide +kernel
theorem d_Js_startState_33 : decode b_Js_startState 33 = .ok (.iload_n 1, 1) := by decide +kernel
theorem d_Js_startState_34 : decode b_Js_startState 34 = .ok (.ireturn, 1) := by decide +kernel
theorem d_Js_stateCount_0 : decode b_Js_stateCount 0 = .ok (.getstatic 28, 3) := by decide +kernel
theorem d_Js_stateCount_3 : decode b_Js_stateCount 3 = .ok (.aload_n 0, 1) := by decide +kernel
theorem d_Js_stateCount_4 : decode b_Js_stateCount 4 = .ok (.getfield 24, 3) := by decide +kernel
theorem d_Js_stateCount_7 : decode b_Js_stateCount 7 = .ok (.iaload, 1) := by decide +kernel
theorem d_Js_stateCount_8 : decode b_Js_stateCount 8 = .ok (.ireturn, 1) := by decide +kernel
theorem d_Js_want_0 : decode b_Js_want 0 = .ok (.iload_n 1, 1) := by decide +kernel
theorem d_Js_want_1 : decode b_Js_want 1 = .ok (.ifCond .lt 26, 3) := by decide +kernel
theorem d_Js_want_4 : decode b_Js_want 4 = .ok (.iload_n 1, 1) := by decide +kernel
theorem d_Js_want_5 : decode b_Js_want 5 = .ok (.aload_n 0, 1) := by decide +kernel
theorem d_Js_want_6 : decode b_Js_want 6 = .ok (.getfield 24, 3) := by decide +kernel
theorem d_Js_want_9 : decode b_Js_want 9 = .ok (.if_icmp .ge 18, 3) := by decide +kernel
theorem d_Js_want_12 : decode b_Js_want 12 = .ok (.iload_n 2, 1) := by decide +kernel
theorem d_Js_want_13 : decode b_Js_want 13 = .ok (.iconst (-1), 1) := by decide +kernel
theorem d_Js_want_14 : decode b_Js_want 14 = .ok (.if_icmp .lt 13, 3) := by decide +kernel
theorem d_Js_want_17 : decode b_Js_want 17 = .ok (.iload_n 2, 1) := by decide +kernel
theorem d_Js_want_18 : decode b_Js_want 18 = .ok (.aload_n 0, 1) := by decide +kernel
theorem d_Js_want_19 : decode b_Js_want 19 = .ok (.getfield 11, 3) := by decide +kernel
theorem d_Js_want_22 : decode b_Js_want 22 = .ok (.iload_n 1, 1) := by decide +kernel
theorem d_Js_want_23 : decode b_Js_want 23 = .ok (.iaload, 1) := by decide +kernel
theorem d_Js_want_24 : decode b_Js_want 24 = .ok (.if_icmp .le 5, 3) := by decide +kernel
theorem d_Js_want_27 : decode b_Js_want 27 = .ok (.iconst 0, 1) := by decide +kernel
theorem d_Js_want_28 : decode b_Js_want 28 = .ok (.ireturn, 1) := by decide +kernel
theorem d_Js_want_29 : decode b_Js_want 29 = .ok (.aload_n 0, 1) := by decide +kernel
theorem d_Js_want_30 : decode b_Js_want 30 = .ok (.getfield 18, 3) := by decide +kernel
theorem d_Js_want_33 : decode b_Js_want 33 = .ok (.iload_n 1, 1) := by decide +kernel
theorem d_Js_want_34 : decode b_Js_want 34 = .ok (.iload_n 2, 1) := by decide +kernel
theorem d_Js_want_35 : decode b_Js_want 35 = .ok (.iastore, 1) := by decide +kernel
theorem d_Js_want_36 : decode b_Js_want 36 = .ok (.iconst 1, 1) := by decide +kernel
theorem d_Js_want_37 : decode b_Js_want 37 = .ok (.ireturn, 1) := by decide +kernel
theorem d_Pz_init_0 : decode b_Pz_init 0 = .ok (.aload_n 0, 1) := by decide +kernel
theorem d_Pz_init_1 : decode b_Pz_init 1 = .ok (.invokespecial 1, 3) := by decide +kernel
theorem d_Pz_init_4 : decode b_Pz_init 4 = .ok (.return_, 1) := by decide +kernel
theorem d_Rv_init_0 : decode b_Rv_init 0 = .ok (.aload_n 0, 1) := by decide +kernel
theorem d_Rv_init_1 : decode b_Rv_init 1 = .ok (.invokespecial 3, 3) := by decide +kernel
theorem d_Rv_init_4 : decode b_Rv_init 4 = .ok (.aload_n 0, 1) := by decide +kernel
theorem d_Rv_init_5 : decode b_Rv_init 5 = .ok (.bipush 8, 2) := by decide +kernel
theorem d_Rv_init_7 : decode b_Rv_init 7 = .ok (.newarray .int, 2) := by decide +kernel
theorem d_Rv_init_9 : decode b_Rv_init 9 = .ok (.putfield 11, 3) := by decide +kernel
theorem d_Rv_init_12 : decode b_Rv_init 12 = .ok (.aload_n 0, 1) := by decide +kernel
theorem d_Rv_init_13 : decode b_Rv_init 13 = .ok (.bipush 8, 2) := by decide +kernel
theorem d_Rv_init_15 : decode b_Rv_init 15 = .ok (.newarray .int, 2) := by decide +kernel
theorem d_Rv_init_17 : decode b_Rv_init 17 = .ok (.putfield 15, 3) := by decide +kernel
theorem d_Rv_init_20 : decode b_Rv_init 20 = .ok (.return_, 1) := by decide +kernel
theorem d_Rv_addThing_0 : decode b_Rv_addThing 0 = .ok (.iload_n 1, 1) := by decide +kernel
theorem d_Rv_addThing_1 : decode b_Rv_addThing 1 = .ok (.bipush 97, 2) := by decide +kernel
theorem d_Rv_addThing_3 : decode b_Rv_addThing 3 = .ok (.isub, 1) := by decide +kernel
theorem d_Rv_addThing_4 : decode b_Rv_addThing 4 = .ok (.istore_n 2, 1) := by decide +kernel
theorem d_Rv_addThing_5 : decode b_Rv_addThing 5 = .ok (.iload_n 2, 1) := by decide +kernel
theorem d_Rv_addThing_6 : decode b_Rv_addThing 6 = .ok (.ifCond .lt 19, 3) := by decide +kernel
theorem d_Rv_addThing_9 : decode b_Rv_addThing 9 = .ok (.iload_n 2, 1) := by decide +kernel
theorem d_Rv_addThing_10 : decode b_Rv_addThing 10 = .ok (.bipush 8, 2) := by decide +kernel
theorem d_Rv_addThing_12 : decode b_Rv_addThing 12 = .ok (.if_icmp .ge 13, 3) := by decide +kernel
theorem d_Rv_addThing_15 : decode b_Rv_addThing 15 = .ok (.aload_n 0, 1) := by decide +kernel
theorem d_Rv_addThing_16 : decode b_Rv_addThing 16 = .ok (.getfield 11, 3) := by decide +kernel
theorem d_Rv_addThing_19 : decode b_Rv_addThing 19 = .ok (.iload_n 2, 1) := by decide +kernel
theorem d_Rv_addThing_20 : decode b_Rv_addThing 20 = .ok (.iaload, 1) := by decide +kernel
theorem d_Rv_addThing_21 : decode b_Rv_addThing 21 = .ok (.iconst (-1), 1) := by decide +kernel
theorem d_Rv_addThing_22 : decode b_Rv_addThing 22 = .ok (.if_icmp .eq 5, 3) := by decide +kernel
theorem d_Rv_addThing_25 : decode b_Rv_addThing 25 = .ok (.iconst 0, 1) := by decide +kernel
theorem d_Rv_addThing_26 : decode b_Rv_addThing 26 = .ok (.ireturn, 1) := by decide +kernel
theorem d_Rv_addThing_27 : decode b_Rv_addThing 27 = .ok (.aload_n 0, 1) := by decide +kernel
theorem d_Rv_addThing_28 : decode b_Rv_addThing 28 = .ok (.getfield 11, 3) := by decide +kernel
theorem d_Rv_addThing_31 : decode b_Rv_addThing 31 = .ok (.iload_n 2, 1) := by decide +kernel
theorem d_Rv_addThing_32 : decode b_Rv_addThing 32 = .ok (.aload_n 0, 1) := by decide +kernel
theorem d_Rv_addThing_33 : decode b_Rv_addThing 33 = .ok (.getfield 24, 3) := by decide +kernel
theorem d_Rv_addThing_36 : decode b_Rv_addThing 36 = .ok (.iastore, 1) := by decide +kernel
theorem d_Rv_addThing_37 : decode b_Rv_addThing 37 = .ok (.aload_n 0, 1) := by decide +kernel
theorem d_Rv_addThing_38 : decode b_Rv_addThing 38 = .ok (.dup, 1) := by decide +kernel
theorem d_Rv_addThing_39 : decode b_Rv_addThing 39 = .ok (.getfield 24, 3) := by decide +kernel
theorem d_Rv_addThing_42 : decode b_Rv_addThing 42 = .ok (.iconst 1, 1) := by decide +kernel
theorem d_Rv_addThing_43 : decode b_Rv_addThing 43 = .ok (.iadd, 1) := by decide +kernel
theorem d_Rv_addThing_44 : decode b_Rv_addThing 44 = .ok (.putfield 24, 3) := by decide +kernel
theorem d_Rv_addThing_47 : decode b_Rv_addThing 47 = .ok (.iconst 1, 1) := by decide +kernel
theorem d_Rv_addThing_48 : decode b_Rv_addThing 48 = .ok (.ireturn, 1) := by decide +kernel
theorem d_Rv_allThings_0 : decode b_Rv_allThings 0 = .ok (.iconst 1, 1) := by decide +kernel
theorem d_Rv_allThings_1 : decode b_Rv_allThings 1 = .ok (.aload_n 0, 1) := by decide +kernel
theorem d_Rv_allThings_2 : decode b_Rv_allThings 2 = .ok (.getfield 24, 3) := by decide +kernel
theorem d_Rv_allThings_5 : decode b_Rv_allThings 5 = .ok (.ishl, 1) := by decide +kernel
theorem d_Rv_allThings_6 : decode b_Rv_allThings 6 = .ok (.iconst 1, 1) := by decide +kernel
theorem d_Rv_allThings_7 : decode b_Rv_allThings 7 = .ok (.isub, 1) := by decide +kernel
theorem d_Rv_allThings_8 : decode b_Rv_allThings 8 = .ok (.ireturn, 1) := by decide +kernel
theorem d_Rv_clear_0 : decode b_Rv_clear 0 = .ok (.aload_n 0, 1) := by decide +kernel
theorem d_Rv_clear_1 : decode b_Rv_clear 1 = .ok (.getfield 11, 3) := by decide +kernel
theorem d_Rv_clear_4 : decode b_Rv_clear 4 = .ok (.iconst (-1), 1) := by decide +kernel
theorem d_Rv_clear_5 : decode b_Rv_clear 5 = .ok (.invokestatic 18, 3) := by decide +kernel
theorem d_Rv_clear_8 : decode b_Rv_clear 8 = .ok (.aload_n 0, 1) := by decide +kernel
theorem d_Rv_clear_9 : decode b_Rv_clear 9 = .ok (.getfield 15, 3) := by decide +kernel
theorem d_Rv_clear_12 : decode b_Rv_clear 12 = .ok (.iconst 0, 1) := by decide +kernel
theorem d_Rv_clear_13 : decode b_Rv_clear 13 = .ok (.invokestatic 18, 3) := by decide +kernel
theorem d_Rv_clear_16 : decode b_Rv_clear 16 = .ok (.aload_n 0, 1) := by decide +kernel
theorem d_Rv_clear_17 : decode b_Rv_clear 17 = .ok (.iconst 0, 1) := by decide +kernel
theorem d_Rv_clear_18 : decode b_Rv_clear 18 = .ok (.putfield 24, 3) := by decide +kernel
theorem d_Rv_clear_21 : decode b_Rv_clear 21 = .ok (.aload_n 0, 1) := by decide +kernel
theorem d_Rv_clear_22 : decode b_Rv_clear 22 = .ok (.iconst 0, 1) := by decide +kernel
theorem d_Rv_clear_23 : decode b_Rv_clear 23 = .ok (.putfield 28, 3) := by decide +kernel
theorem d_Rv_clear_26 : decode b_Rv_clear 26 = .ok (.return_, 1) := by decide +kernel
theorem d_Rv_firstTold_0 : decode b_Rv_firstTold 0 = .ok (.iload_n 1, 1) := by decide +kernel
theorem d_Rv_firstTold_1 : decode b_Rv_firstTold 1 = .ok (.ireturn, 1) := by decide +kernel
theorem d_Rv_isDone_0 : decode b_Rv_isDone 0 = .ok (.iload_n 1, 1) := by decide +kernel
theorem d_Rv_isDone_1 : decode b_Rv_isDone 1 = .ok (.sipush 255, 3) := by decide +kernel
theorem d_Rv_isDone_4 : decode b_Rv_isDone 4 = .ok (.iand, 1) := by decide +kernel
theorem d_Rv_isDone_5 : decode b_Rv_isDone 5 = .ok (.aload_n 0, 1) := by decide +kernel
theorem d_Rv_isDone_6 : decode b_Rv_isDone 6 = .ok (.invokevirtual 31, 3) := by decide +kernel
theorem d_Rv_isDone_9 : decode b_Rv_isDone 9 = .ok (.if_icmp .ne 7, 3) := by decide +kernel
theorem d_Rv_isDone_12 : decode b_Rv_isDone 12 = .ok (.iconst 1, 1) := by decide +kernel
theorem d_Rv_isDone_13 : decode b_Rv_isDone 13 = .ok (.goto 4, 3) := by decide +kernel
theorem d_Rv_isDone_16 : decode b_Rv_isDone 16 = .ok (.iconst 0, 1) := by decide +kernel
theorem d_Rv_isDone_17 : decode b_Rv_isDone 17 = .ok (.ireturn, 1) := by decide +kernel
theorem d_Rv_keepApart_0 : decode b_Rv_keepApart 0 = .ok (.iload_n 1, 1) := by decide +kernel
theorem d_Rv_keepApart_1 : decode b_Rv_keepApart 1 = .ok (.ifCond .lt 28, 3) := by decide +kernel
theorem d_Rv_keepApart_4 : decode b_Rv_keepApart 4 = .ok (.iload_n 1, 1) := by decide +kernel
theorem d_Rv_keepApart_5 : decode b_Rv_keepApart 5 = .ok (.aload_n 0, 1) := by decide +kernel
theorem d_Rv_keepApart_6 : decode b_Rv_keepApart 6 = .ok (.getfield 24, 3) := by decide +kernel
theorem d_Rv_keepApart_9 : decode b_Rv_keepApart 9 = .ok (.if_icmp .ge 20, 3) := by decide +kernel
theorem d_Rv_keepApart_12 : decode b_Rv_keepApart 12 = .ok (.iload_n 2, 1) := by decide +kernel
theorem d_Rv_keepApart_13 : decode b_Rv_keepApart 13 = .ok (.ifCond .lt 16, 3) := by decide +kernel
theorem d_Rv_keepApart_16 : decode b_Rv_keepApart 16 = .ok (.iload_n 2, 1) := by decide +kernel
theorem d_Rv_keepApart_17 : decode b_Rv_keepApart 17 = .ok (.aload_n 0, 1) := by decide +kernel
theorem d_Rv_keepApart_18 : decode b_Rv_keepApart 18 = .ok (.getfield 24, 3) := by decide +kernel
theorem d_Rv_keepApart_21 : decode b_Rv_keepApart 21 = .ok (.if_icmp .ge 8, 3) := by decide +kernel
theorem d_Rv_keepApart_24 : decode b_Rv_keepApart 24 = .ok (.iload_n 1, 1) := by decide +kernel
theorem d_Rv_keepApart_25 : decode b_Rv_keepApart 25 = .ok (.iload_n 2, 1) := by decide +kernel
theorem d_Rv_keepApart_26 : decode b_Rv_keepApart 26 = .ok (.if_icmp .ne 5, 3) := by decide +kernel
theorem d_Rv_keepApart_29 : decode b_Rv_keepApart 29 = .ok (.iconst 0, 1) := by decide +kernel
theorem d_Rv_keepApart_30 : decode b_Rv_keepApart 30 = .ok (.ireturn, 1) := by decide +kernel
theorem d_Rv_keepApart_31 : decode b_Rv_keepApart 31 = .ok (.aload_n 0, 1) := by decide +kernel
theorem d_Rv_keepApart_32 : decode b_Rv_keepApart 32 = .ok (.getfield 15, 3) := by decide +kernel
theorem d_Rv_keepApart_35 : decode b_Rv_keepApart 35 = .ok (.iload_n 1, 1) := by decide +kernel
theorem d_Rv_keepApart_36 : decode b_Rv_keepApart 36 = .ok (.dup2, 1) := by decide +kernel
theorem d_Rv_keepApart_37 : decode b_Rv_keepApart 37 = .ok (.iaload, 1) := by decide +kernel
theorem d_Rv_keepApart_38 : decode b_Rv_keepApart 38 = .ok (.iconst 1, 1) := by decide +kernel
theorem d_Rv_keepApart_39 : decode b_Rv_keepApart 39 = .ok (.iload_n 2, 1) := by decide +kernel
theorem d_Rv_keepApart_40 : decode b_Rv_keepApart 40 = .ok (.ishl, 1) := by decide +kernel
theorem d_Rv_keepApart_41 : decode b_Rv_keepApart 41 = .ok (.ior, 1) := by decide +kernel
theorem d_Rv_keepApart_42 : decode b_Rv_keepApart 42 = .ok (.iastore, 1) := by decide +kernel
theorem d_Rv_keepApart_43 : decode b_Rv_keepApart 43 = .ok (.aload_n 0, 1) := by decide +kernel
theorem d_Rv_keepApart_44 : decode b_Rv_keepApart 44 = .ok (.getfield 15, 3) := by decide +kernel
theorem d_Rv_keepApart_47 : decode b_Rv_keepApart 47 = .ok (.iload_n 2, 1) := by decide +kernel
theorem d_Rv_keepApart_48 : decode b_Rv_keepApart 48 = .ok (.dup2, 1) := by decide +kernel
theorem d_Rv_keepApart_49 : decode b_Rv_keepApart 49 = .ok (.iaload, 1) := by decide +kernel
theorem d_Rv_keepApart_50 : decode b_Rv_keepApart 50 = .ok (.iconst 1, 1) := by decide +kernel
theorem d_Rv_keepApart_51 : decode b_Rv_keepApart 51 = .ok (.iload_n 1, 1) := by decide +kernel
theorem d_Rv_keepApart_52 : decode b_Rv_keepApart 52 = .ok (.ishl, 1) := by decide +kernel
theorem d_Rv_keepApart_53 : decode b_Rv_keepApart 53 = .ok (.ior, 1) := by decide +kernel
theorem d_Rv_keepApart_54 : decode b_Rv_keepApart 54 = .ok (.iastore, 1) := by decide +kernel
theorem d_Rv_keepApart_55 : decode b_Rv_keepApart 55 = .ok (.iconst 1, 1) := by decide +kernel
theorem d_Rv_keepApart_56 : decode b_Rv_keepApart 56 = .ok (.ireturn, 1) := by decide +kernel
theorem d_Rv_mayBeLeft_0 : decode b_Rv_mayBeLeft 0 = .ok (.iconst 0, 1) := by decide +kernel
theorem d_Rv_mayBeLeft_1 : decode b_Rv_mayBeLeft 1 = .ok (.istore_n 2, 1) := by decide +kernel
theorem d_Rv_mayBeLeft_2 : decode b_Rv_mayBeLeft 2 = .ok (.iload_n 2, 1) := by decide +kernel
theorem d_Rv_mayBeLeft_3 : decode b_Rv_mayBeLeft 3 = .ok (.bipush 8, 2) := by decide +kernel
theorem d_Rv_mayBeLeft_5 : decode b_Rv_mayBeLeft 5 = .ok (.if_icmp .ge 30, 3) := by decide +kernel
theorem d_Rv_mayBeLeft_8 : decode b_Rv_mayBeLeft 8 = .ok (.iload_n 1, 1) := by decide +kernel
theorem d_Rv_mayBeLeft_9 : decode b_Rv_mayBeLeft 9 = .ok (.iload_n 2, 1) := by decide +kernel
theorem d_Rv_mayBeLeft_10 : decode b_Rv_mayBeLeft 10 = .ok (.ishr, 1) := by decide +kernel
theorem d_Rv_mayBeLeft_11 : decode b_Rv_mayBeLeft 11 = .ok (.iconst 1, 1) := by decide +kernel
theorem d_Rv_mayBeLeft_12 : decode b_Rv_mayBeLeft 12 = .ok (.iand, 1) := by decide +kernel
theorem d_Rv_mayBeLeft_13 : decode b_Rv_mayBeLeft 13 = .ok (.ifCond .eq 16, 3) := by decide +kernel
theorem d_Rv_mayBeLeft_16 : decode b_Rv_mayBeLeft 16 = .ok (.aload_n 0, 1) := by decide +kernel
theorem d_Rv_mayBeLeft_17 : decode b_Rv_mayBeLeft 17 = .ok (.getfield 15, 3) := by decide +kernel
theorem d_Rv_mayBeLeft_20 : decode b_Rv_mayBeLeft 20 = .ok (.iload_n 2, 1) := by decide +kernel
theorem d_Rv_mayBeLeft_21 : decode b_Rv_mayBeLeft 21 = .ok (.iaload, 1) := by decide +kernel
theorem d_Rv_mayBeLeft_22 : decode b_Rv_mayBeLeft 22 = .ok (.iload_n 1, 1) := by decide +kernel
theorem d_Rv_mayBeLeft_23 : decode b_Rv_mayBeLeft 23 = .ok (.iand, 1) := by decide +kernel
theorem d_Rv_mayBeLeft_24 : decode b_Rv_mayBeLeft 24 = .ok (.ifCond .eq 5, 3) := by decide +kernel
theorem d_Rv_mayBeLeft_27 : decode b_Rv_mayBeLeft 27 = .ok (.iconst 0, 1) := by decide +kernel
theorem d_Rv_mayBeLeft_28 : decode b_Rv_mayBeLeft 28 = .ok (.ireturn, 1) := by decide +kernel
theorem d_Rv_mayBeLeft_29 : decode b_Rv_mayBeLeft 29 = .ok (.iinc 2 1, 3) := by decide +kernel
theorem d_Rv_mayBeLeft_32 : decode b_Rv_mayBeLeft 32 = .ok (.goto (-30), 3) := by decide +kernel
theorem d_Rv_mayBeLeft_35 : decode b_Rv_mayBeLeft 35 = .ok (.iconst 1, 1) := by decide +kernel
theorem d_Rv_mayBeLeft_36 : decode b_Rv_mayBeLeft 36 = .ok (.ireturn, 1) := by decide +kernel
theorem d_Rv_meetNext_0 : decode b_Rv_meetNext 0 = .ok (.iload_n 1, 1) := by decide +kernel
theorem d_Rv_meetNext_1 : decode b_Rv_meetNext 1 = .ok (.sipush 255, 3) := by decide +kernel
theorem d_Rv_meetNext_4 : decode b_Rv_meetNext 4 = .ok (.iand, 1) := by decide +kernel
theorem d_Rv_meetNext_5 : decode b_Rv_meetNext 5 = .ok (.istore_n 3, 1) := by decide +kernel
theorem d_Rv_meetNext_6 : decode b_Rv_meetNext 6 = .ok (.iload_n 1, 1) := by decide +kernel
theorem d_Rv_meetNext_7 : decode b_Rv_meetNext 7 = .ok (.sipush 256, 3) := by decide +kernel
theorem d_Rv_meetNext_10 : decode b_Rv_meetNext 10 = .ok (.iand, 1) := by decide +kernel
theorem d_Rv_meetNext_11 : decode b_Rv_meetNext 11 = .ok (.ifCond .eq 7, 3) := by decide +kernel
theorem d_Rv_meetNext_14 : decode b_Rv_meetNext 14 = .ok (.iconst 1, 1) := by decide +kernel
theorem d_Rv_meetNext_15 : decode b_Rv_meetNext 15 = .ok (.goto 4, 3) := by decide +kernel
theorem d_Rv_meetNext_18 : decode b_Rv_meetNext 18 = .ok (.iconst 0, 1) := by decide +kernel
theorem d_Rv_meetNext_19 : decode b_Rv_meetNext 19 = .ok (.istore 4, 2) := by decide +kernel
theorem d_Rv_meetNext_21 : decode b_Rv_meetNext 21 = .ok (.iload 4, 2) := by decide +kernel
theorem d_Rv_meetNext_23 : decode b_Rv_meetNext 23 = .ok (.ifCond .eq 7, 3) := by decide +kernel
theorem d_Rv_meetNext_26 : decode b_Rv_meetNext 26 = .ok (.iload_n 3, 1) := by decide +kernel
theorem d_Rv_meetNext_27 : decode b_Rv_meetNext 27 = .ok (.goto 11, 3) := by decide +kernel
theorem d_Rv_meetNext_30 : decode b_Rv_meetNext 30 = .ok (.aload_n 0, 1) := by decide +kernel
theorem d_Rv_meetNext_31 : decode b_Rv_meetNext 31 = .ok (.invokevirtual 31, 3) := by decide +kernel
theorem d_Rv_meetNext_34 : decode b_Rv_meetNext 34 = .ok (.iload_n 3, 1) := by decide +kernel
theorem d_Rv_meetNext_35 : decode b_Rv_meetNext 35 = .ok (.iconst (-1), 1) := by decide +kernel
theorem d_Rv_meetNext_36 : decode b_Rv_meetNext 36 = .ok (.ixor, 1) := by decide +kernel
theorem d_Rv_meetNext_37 : decode b_Rv_meetNext 37 = .ok (.iand, 1) := by decide +kernel
theorem d_Rv_meetNext_38 : decode b_Rv_meetNext 38 = .ok (.istore 5, 2) := by decide +kernel
theorem d_Rv_meetNext_40 : decode b_Rv_meetNext 40 = .ok (.iload 4, 2) := by decide +kernel
theorem d_Rv_meetNext_42 : decode b_Rv_meetNext 42 = .ok (.ifCond .eq 7, 3) := by decide +kernel
theorem d_Rv_meetNext_45 : decode b_Rv_meetNext 45 = .ok (.iconst 0, 1) := by decide +kernel
theorem d_Rv_meetNext_46 : decode b_Rv_meetNext 46 = .ok (.goto 6, 3) := by decide +kernel
theorem d_Rv_meetNext_49 : decode b_Rv_meetNext 49 = .ok (.sipush 256, 3) := by decide +kernel
theorem d_Rv_meetNext_52 : decode b_Rv_meetNext 52 = .ok (.istore 6, 2) := by decide +kernel
theorem d_Rv_meetNext_54 : decode b_Rv_meetNext 54 = .ok (.iconst 0, 1) := by decide +kernel
theorem d_Rv_meetNext_55 : decode b_Rv_meetNext 55 = .ok (.istore 7, 2) := by decide +kernel
theorem d_Rv_meetNext_57 : decode b_Rv_meetNext 57 = .ok (.iconst 0, 1) := by decide +kernel
theorem d_Rv_meetNext_58 : decode b_Rv_meetNext 58 = .ok (.istore 8, 2) := by decide +kernel
theorem d_Rv_meetNext_60 : decode b_Rv_meetNext 60 = .ok (.iload 8, 2) := by decide +kernel
theorem d_Rv_meetNext_62 : decode b_Rv_meetNext 62 = .ok (.sipush 256, 3) := by decide +kernel
theorem d_Rv_meetNext_65 : decode b_Rv_meetNext 65 = .ok (.if_icmp .ge 67, 3) := by decide +kernel
theorem d_Rv_meetNext_68 : decode b_Rv_meetNext 68 = .ok (.iload 7, 2) := by decide +kernel
theorem d_Rv_meetNext_70 : decode b_Rv_meetNext 70 = .ok (.invokestatic 35, 3) := by decide +kernel
theorem d_Rv_meetNext_73 : decode b_Rv_meetNext 73 = .ok (.aload_n 0, 1) := by decide +kernel
theorem d_Rv_meetNext_74 : decode b_Rv_meetNext 74 = .ok (.getfield 28, 3) := by decide +kernel
theorem d_Rv_meetNext_77 : decode b_Rv_meetNext 77 = .ok (.if_icmp .gt 31, 3) := by decide +kernel
theorem d_Rv_meetNext_80 : decode b_Rv_meetNext 80 = .ok (.aload_n 0, 1) := by decide +kernel
theorem d_Rv_meetNext_81 : decode b_Rv_meetNext 81 = .ok (.iload 5, 2) := by decide +kernel
theorem d_Rv_meetNext_83 : decode b_Rv_meetNext 83 = .ok (.iload 7, 2) := by decide +kernel
theorem d_Rv_meetNext_85 : decode b_Rv_meetNext 85 = .ok (.iconst (-1), 1) := by decide +kernel
theorem d_Rv_meetNext_86 : decode b_Rv_meetNext 86 = .ok (.ixor, 1) := by decide +kernel
theorem d_Rv_meetNext_87 : decode b_Rv_meetNext 87 = .ok (.iand, 1) := by decide +kernel
theorem d_Rv_meetNext_88 : decode b_Rv_meetNext 88 = .ok (.invokevirtual 41, 3) := by decide +kernel
theorem d_Rv_meetNext_91 : decode b_Rv_meetNext 91 = .ok (.ifCond .eq 17, 3) := by decide +kernel
theorem d_Rv_meetNext_94 : decode b_Rv_meetNext 94 = .ok (.aload_n 2, 1) := by decide +kernel
theorem d_Rv_meetNext_95 : decode b_Rv_meetNext 95 = .ok (.iload 6, 2) := by decide +kernel
theorem d_Rv_meetNext_97 : decode b_Rv_meetNext 97 = .ok (.iload_n 3, 1) := by decide +kernel
theorem d_Rv_meetNext_98 : decode b_Rv_meetNext 98 = .ok (.iload 7, 2) := by decide +kernel
theorem d_Rv_meetNext_100 : decode b_Rv_meetNext 100 = .ok (.ixor, 1) := by decide +kernel
theorem d_Rv_meetNext_101 : decode b_Rv_meetNext 101 = .ok (.ior, 1) := by decide +kernel
theorem d_Rv_meetNext_102 : decode b_Rv_meetNext 102 = .ok (.iload_n 1, 1) := by decide +kernel
theorem d_Rv_meetNext_103 : decode b_Rv_meetNext 103 = .ok (.iload 7, 2) := by decide +kernel
theorem d_Rv_meetNext_105 : decode b_Rv_meetNext 105 = .ok (.invokevirtual 45, 3) := by decide +kernel
theorem d_Rv_meetNext_108 : decode b_Rv_meetNext 108 = .ok (.iload 7, 2) := by decide +kernel
theorem d_Rv_meetNext_110 : decode b_Rv_meetNext 110 = .ok (.iload 5, 2) := by decide +kernel
theorem d_Rv_meetNext_112 : decode b_Rv_meetNext 112 = .ok (.if_icmp .ne 4, 3) := by decide +kernel
theorem d_Rv_meetNext_115 : decode b_Rv_meetNext 115 = .ok (.return_, 1) := by decide +kernel
theorem d_Rv_meetNext_116 : decode b_Rv_meetNext 116 = .ok (.iload 7, 2) := by decide +kernel
theorem d_Rv_meetNext_118 : decode b_Rv_meetNext 118 = .ok (.iload 5, 2) := by decide +kernel
theorem d_Rv_meetNext_120 : decode b_Rv_meetNext 120 = .ok (.isub, 1) := by decide +kernel
theorem d_Rv_meetNext_121 : decode b_Rv_meetNext 121 = .ok (.iload 5, 2) := by decide +kernel
theorem d_Rv_meetNext_123 : decode b_Rv_meetNext 123 = .ok (.iand, 1) := by decide +kernel
theorem d_Rv_meetNext_124 : decode b_Rv_meetNext 124 = .ok (.istore 7, 2) := by decide +kernel
theorem d_Rv_meetNext_126 : decode b_Rv_meetNext 126 = .ok (.iinc 8 1, 3) := by decide +kernel
theorem d_Rv_meetNext_129 : decode b_Rv_meetNext 129 = .ok (.goto (-69), 3) := by decide +kernel
theorem d_Rv_meetNext_132 : decode b_Rv_meetNext 132 = .ok (.return_, 1) := by decide +kernel
theorem d_Rv_secondTold_0 : decode b_Rv_secondTold 0 = .ok (.iload_n 2, 1) := by decide +kernel
theorem d_Rv_secondTold_1 : decode b_Rv_secondTold 1 = .ok (.sipush 255, 3) := by decide +kernel
theorem d_Rv_secondTold_4 : decode b_Rv_secondTold 4 = .ok (.iand, 1) := by decide +kernel
theorem d_Rv_secondTold_5 : decode b_Rv_secondTold 5 = .ok (.ireturn, 1) := by decide +kernel
theorem d_Rv_setBoat_0 : decode b_Rv_setBoat 0 = .ok (.iload_n 1, 1) := by decide +kernel
theorem d_Rv_setBoat_1 : decode b_Rv_setBoat 1 = .ok (.bipush 49, 2) := by decide +kernel
theorem d_Rv_setBoat_3 : decode b_Rv_setBoat 3 = .ok (.if_icmp .lt 9, 3) := by decide +kernel
theorem d_Rv_setBoat_6 : decode b_Rv_setBoat 6 = .ok (.iload_n 1, 1) := by decide +kernel
theorem d_Rv_setBoat_7 : decode b_Rv_setBoat 7 = .ok (.bipush 51, 2) := by decide +kernel
theorem d_Rv_setBoat_9 : decode b_Rv_setBoat 9 = .ok (.if_icmp .le 5, 3) := by decide +kernel
theorem d_Rv_setBoat_12 : decode b_Rv_setBoat 12 = .ok (.iconst 0, 1) := by decide +kernel
theorem d_Rv_setBoat_13 : decode b_Rv_setBoat 13 = .ok (.ireturn, 1) := by decide +kernel
theorem d_Rv_setBoat_14 : decode b_Rv_setBoat 14 = .ok (.aload_n 0, 1) := by decide +kernel
theorem d_Rv_setBoat_15 : decode b_Rv_setBoat 15 = .ok (.iload_n 1, 1) := by decide +kernel
theorem d_Rv_setBoat_16 : decode b_Rv_setBoat 16 = .ok (.bipush 48, 2) := by decide +kernel
theorem d_Rv_setBoat_18 : decode b_Rv_setBoat 18 = .ok (.isub, 1) := by decide +kernel
theorem d_Rv_setBoat_19 : decode b_Rv_setBoat 19 = .ok (.putfield 28, 3) := by decide +kernel
theorem d_Rv_setBoat_22 : decode b_Rv_setBoat 22 = .ok (.iconst 1, 1) := by decide +kernel
theorem d_Rv_setBoat_23 : decode b_Rv_setBoat 23 = .ok (.ireturn, 1) := by decide +kernel
theorem d_Rv_startState_0 : decode b_Rv_startState 0 = .ok (.iconst 0, 1) := by decide +kernel
theorem d_Rv_startState_1 : decode b_Rv_startState 1 = .ok (.ireturn, 1) := by decide +kernel
theorem d_Rv_stateCount_0 : decode b_Rv_stateCount 0 = .ok (.sipush 512, 3) := by decide +kernel
theorem d_Rv_stateCount_3 : decode b_Rv_stateCount 3 = .ok (.ireturn, 1) := by decide +kernel
theorem d_Rv_thingOf_0 : decode b_Rv_thingOf 0 = .ok (.iload_n 1, 1) := by decide +kernel
theorem d_Rv_thingOf_1 : decode b_Rv_thingOf 1 = .ok (.bipush 97, 2) := by decide +kernel
theorem d_Rv_thingOf_3 : decode b_Rv_thingOf 3 = .ok (.isub, 1) := by decide +kernel
theorem d_Rv_thingOf_4 : decode b_Rv_thingOf 4 = .ok (.istore_n 2, 1) := by decide +kernel
theorem d_Rv_thingOf_5 : decode b_Rv_thingOf 5 = .ok (.iload_n 2, 1) := by decide +kernel
theorem d_Rv_thingOf_6 : decode b_Rv_thingOf 6 = .ok (.ifCond .lt 9, 3) := by decide +kernel
theorem d_Rv_thingOf_9 : decode b_Rv_thingOf 9 = .ok (.iload_n 2, 1) := by decide +kernel
theorem d_Rv_thingOf_10 : decode b_Rv_thingOf 10 = .ok (.bipush 8, 2) := by decide +kernel
theorem d_Rv_thingOf_12 : decode b_Rv_thingOf 12 = .ok (.if_icmp .lt 7, 3) := by decide +kernel
theorem d_Rv_thingOf_15 : decode b_Rv_thingOf 15 = .ok (.iconst (-1), 1) := by decide +kernel
theorem d_Rv_thingOf_16 : decode b_Rv_thingOf 16 = .ok (.goto 9, 3) := by decide +kernel
theorem d_Rv_thingOf_19 : decode b_Rv_thingOf 19 = .ok (.aload_n 0, 1) := by decide +kernel
theorem d_Rv_thingOf_20 : decode b_Rv_thingOf 20 = .ok (.getfield 11, 3) := by decide +kernel
theorem d_Rv_thingOf_23 : decode b_Rv_thingOf 23 = .ok (.iload_n 2, 1) := by decide +kernel
theorem d_Rv_thingOf_24 : decode b_Rv_thingOf 24 = .ok (.iaload, 1) := by decide +kernel
theorem d_Rv_thingOf_25 : decode b_Rv_thingOf 25 = .ok (.ireturn, 1) := by decide +kernel
theorem d_Rt_init_0 : decode b_Rt_init 0 = .ok (.aload_n 0, 1) := by decide +kernel
theorem d_Rt_init_1 : decode b_Rt_init 1 = .ok (.invokespecial 3, 3) := by decide +kernel
theorem d_Rt_init_4 : decode b_Rt_init 4 = .ok (.aload_n 0, 1) := by decide +kernel
theorem d_Rt_init_5 : decode b_Rt_init 5 = .ok (.bipush 100, 2) := by decide +kernel
theorem d_Rt_init_7 : decode b_Rt_init 7 = .ok (.newarray .int, 2) := by decide +kernel
theorem d_Rt_init_9 : decode b_Rt_init 9 = .ok (.putfield 11, 3) := by decide +kernel
theorem d_Rt_init_12 : decode b_Rt_init 12 = .ok (.return_, 1) := by decide +kernel
theorem d_Rt_add_0 : decode b_Rt_add 0 = .ok (.iload_n 1, 1) := by decide +kernel
theorem d_Rt_add_1 : decode b_Rt_add 1 = .ok (.ifCond .lt 19, 3) := by decide +kernel
theorem d_Rt_add_4 : decode b_Rt_add 4 = .ok (.iload_n 1, 1) := by decide +kernel
theorem d_Rt_add_5 : decode b_Rt_add 5 = .ok (.sipush 255, 3) := by decide +kernel
theorem d_Rt_add_8 : decode b_Rt_add 8 = .ok (.if_icmp .gt 12, 3) := by decide +kernel
theorem d_Rt_add_11 : decode b_Rt_add 11 = .ok (.aload_n 0, 1) := by decide +kernel
theorem d_Rt_add_12 : decode b_Rt_add 12 = .ok (.getfield 15, 3) := by decide +kernel
theorem d_Rt_add_15 : decode b_Rt_add 15 = .ok (.bipush 100, 2) := by decide +kernel
theorem d_Rt_add_17 : decode b_Rt_add 17 = .ok (.if_icmp .lt 5, 3) := by decide +kernel
theorem d_Rt_add_20 : decode b_Rt_add 20 = .ok (.iconst 0, 1) := by decide +kernel
theorem d_Rt_add_21 : decode b_Rt_add 21 = .ok (.ireturn, 1) := by decide +kernel
theorem d_Rt_add_22 : decode b_Rt_add 22 = .ok (.aload_n 0, 1) := by decide +kernel
theorem d_Rt_add_23 : decode b_Rt_add 23 = .ok (.getfield 11, 3) := by decide +kernel
theorem d_Rt_add_26 : decode b_Rt_add 26 = .ok (.aload_n 0, 1) := by decide +kernel
theorem d_Rt_add_27 : decode b_Rt_add 27 = .ok (.getfield 15, 3) := by decide +kernel
theorem d_Rt_add_30 : decode b_Rt_add 30 = .ok (.iload_n 1, 1) := by decide +kernel
theorem d_Rt_add_31 : decode b_Rt_add 31 = .ok (.iastore, 1) := by decide +kernel
theorem d_Rt_add_32 : decode b_Rt_add 32 = .ok (.aload_n 0, 1) := by decide +kernel
theorem d_Rt_add_33 : decode b_Rt_add 33 = .ok (.dup, 1) := by decide +kernel
theorem d_Rt_add_34 : decode b_Rt_add 34 = .ok (.getfield 15, 3) := by decide +kernel
theorem d_Rt_add_37 : decode b_Rt_add 37 = .ok (.iconst 1, 1) := by decide +kernel
theorem d_Rt_add_38 : decode b_Rt_add 38 = .ok (.iadd, 1) := by decide +kernel
theorem d_Rt_add_39 : decode b_Rt_add 39 = .ok (.putfield 15, 3) := by decide +kernel
theorem d_Rt_add_42 : decode b_Rt_add 42 = .ok (.iconst 1, 1) := by decide +kernel
theorem d_Rt_add_43 : decode b_Rt_add 43 = .ok (.ireturn, 1) := by decide +kernel
theorem d_Rt_forget_0 : decode b_Rt_forget 0 = .ok (.aload_n 0, 1) := by decide +kernel
theorem d_Rt_forget_1 : decode b_Rt_forget 1 = .ok (.iconst 0, 1) := by decide +kernel
theorem d_Rt_forget_2 : decode b_Rt_forget 2 = .ok (.putfield 15, 3) := by decide +kernel
theorem d_Rt_forget_5 : decode b_Rt_forget 5 = .ok (.return_, 1) := by decide +kernel
theorem d_Rt_readInto_0 : decode b_Rt_readInto 0 = .ok (.aload_n 1, 1) := by decide +kernel
theorem d_Rt_readInto_1 : decode b_Rt_readInto 1 = .ok (.invokevirtual 19, 3) := by decide +kernel
theorem d_Rt_readInto_4 : decode b_Rt_readInto 4 = .ok (.aload_n 0, 1) := by decide +kernel
theorem d_Rt_readInto_5 : decode b_Rt_readInto 5 = .ok (.aload_n 1, 1) := by decide +kernel
theorem d_Rt_readInto_6 : decode b_Rt_readInto 6 = .ok (.invokevirtual 24, 3) := by decide +kernel
theorem d_Rt_readInto_9 : decode b_Rt_readInto 9 = .ok (.istore_n 2, 1) := by decide +kernel
theorem d_Rt_readInto_10 : decode b_Rt_readInto 10 = .ok (.iload_n 2, 1) := by decide +kernel
theorem d_Rt_readInto_11 : decode b_Rt_readInto 11 = .ok (.ifCond .ne 5, 3) := by decide +kernel
theorem d_Rt_readInto_14 : decode b_Rt_readInto 14 = .ok (.iload_n 2, 1) := by decide +kernel
theorem d_Rt_readInto_15 : decode b_Rt_readInto 15 = .ok (.ireturn, 1) := by decide +kernel
theorem d_Rt_readInto_16 : decode b_Rt_readInto 16 = .ok (.iconst 0, 1) := by decide +kernel
theorem d_Rt_readInto_17 : decode b_Rt_readInto 17 = .ok (.istore_n 3, 1) := by decide +kernel
theorem d_Rt_readInto_18 : decode b_Rt_readInto 18 = .ok (.iload_n 3, 1) := by decide +kernel
theorem d_Rt_readInto_19 : decode b_Rt_readInto 19 = .ok (.bipush 100, 2) := by decide +kernel
theorem d_Rt_readInto_21 : decode b_Rt_readInto 21 = .ok (.if_icmp .ge 103, 3) := by decide +kernel
theorem d_Rt_readInto_24 : decode b_Rt_readInto 24 = .ok (.aload_n 0, 1) := by decide +kernel
theorem d_Rt_readInto_25 : decode b_Rt_readInto 25 = .ok (.iload_n 2, 1) := by decide +kernel
theorem d_Rt_readInto_26 : decode b_Rt_readInto 26 = .ok (.invokevirtual 28, 3) := by decide +kernel
theorem d_Rt_readInto_29 : decode b_Rt_readInto 29 = .ok (.bipush 32, 2) := by decide +kernel
theorem d_Rt_readInto_31 : decode b_Rt_readInto 31 = .ok (.if_icmp .eq 5, 3) := by decide +kernel
theorem d_Rt_readInto_34 : decode b_Rt_readInto 34 = .ok (.iload_n 2, 1) := by decide +kernel
theorem d_Rt_readInto_35 : decode b_Rt_readInto 35 = .ok (.ireturn, 1) := by decide +kernel
theorem d_Rt_readInto_36 : decode b_Rt_readInto 36 = .ok (.aload_n 1, 1) := by decide +kernel
theorem d_Rt_readInto_37 : decode b_Rt_readInto 37 = .ok (.aload_n 0, 1) := by decide +kernel
theorem d_Rt_readInto_38 : decode b_Rt_readInto 38 = .ok (.iload_n 2, 1) := by decide +kernel
theorem d_Rt_readInto_39 : decode b_Rt_readInto 39 = .ok (.iconst 1, 1) := by decide +kernel
theorem d_Rt_readInto_40 : decode b_Rt_readInto 40 = .ok (.iadd, 1) := by decide +kernel
theorem d_Rt_readInto_41 : decode b_Rt_readInto 41 = .ok (.invokevirtual 28, 3) := by decide +kernel
theorem d_Rt_readInto_44 : decode b_Rt_readInto 44 = .ok (.invokevirtual 32, 3) := by decide +kernel
theorem d_Rt_readInto_47 : decode b_Rt_readInto 47 = .ok (.ifCond .eq 21, 3) := by decide +kernel
theorem d_Rt_readInto_50 : decode b_Rt_readInto 50 = .ok (.iload_n 2, 1) := by decide +kernel
theorem d_Rt_readInto_51 : decode b_Rt_readInto 51 = .ok (.iconst 2, 1) := by decide +kernel
theorem d_Rt_readInto_52 : decode b_Rt_readInto 52 = .ok (.iadd, 1) := by decide +kernel
theorem d_Rt_readInto_53 : decode b_Rt_readInto 53 = .ok (.aload_n 0, 1) := by decide +kernel
theorem d_Rt_readInto_54 : decode b_Rt_readInto 54 = .ok (.getfield 15, 3) := by decide +kernel
theorem d_Rt_readInto_57 : decode b_Rt_readInto 57 = .ok (.if_icmp .ne 7, 3) := by decide +kernel
theorem d_Rt_readInto_60 : decode b_Rt_readInto 60 = .ok (.iconst (-1), 1) := by decide +kernel
theorem d_Rt_readInto_61 : decode b_Rt_readInto 61 = .ok (.goto 6, 3) := by decide +kernel
theorem d_Rt_readInto_64 : decode b_Rt_readInto 64 = .ok (.iload_n 2, 1) := by decide +kernel
theorem d_Rt_readInto_65 : decode b_Rt_readInto 65 = .ok (.iconst 2, 1) := by decide +kernel
theorem d_Rt_readInto_66 : decode b_Rt_readInto 66 = .ok (.iadd, 1) := by decide +kernel
theorem d_Rt_readInto_67 : decode b_Rt_readInto 67 = .ok (.ireturn, 1) := by decide +kernel
theorem d_Rt_readInto_68 : decode b_Rt_readInto 68 = .ok (.aload_n 1, 1) := by decide +kernel
theorem d_Rt_readInto_69 : decode b_Rt_readInto 69 = .ok (.aload_n 0, 1) := by decide +kernel
theorem d_Rt_readInto_70 : decode b_Rt_readInto 70 = .ok (.iload_n 2, 1) := by decide +kernel
theorem d_Rt_readInto_71 : decode b_Rt_readInto 71 = .ok (.iconst 1, 1) := by decide +kernel
theorem d_Rt_readInto_72 : decode b_Rt_readInto 72 = .ok (.iadd, 1) := by decide +kernel
theorem d_Rt_readInto_73 : decode b_Rt_readInto 73 = .ok (.invokevirtual 28, 3) := by decide +kernel
theorem d_Rt_readInto_76 : decode b_Rt_readInto 76 = .ok (.invokevirtual 36, 3) := by decide +kernel
theorem d_Rt_readInto_79 : decode b_Rt_readInto 79 = .ok (.istore 4, 2) := by decide +kernel
theorem d_Rt_readInto_81 : decode b_Rt_readInto 81 = .ok (.iload 4, 2) := by decide +kernel
theorem d_Rt_readInto_83 : decode b_Rt_readInto 83 = .ok (.iconst (-1), 1) := by decide +kernel
theorem d_Rt_readInto_84 : decode b_Rt_readInto 84 = .ok (.if_icmp .ne 7, 3) := by decide +kernel
theorem d_Rt_readInto_87 : decode b_Rt_readInto 87 = .ok (.iload_n 2, 1) := by decide +kernel
theorem d_Rt_readInto_88 : decode b_Rt_readInto 88 = .ok (.iconst 1, 1) := by decide +kernel
theorem d_Rt_readInto_89 : decode b_Rt_readInto 89 = .ok (.iadd, 1) := by decide +kernel
theorem d_Rt_readInto_90 : decode b_Rt_readInto 90 = .ok (.ireturn, 1) := by decide +kernel
theorem d_Rt_readInto_91 : decode b_Rt_readInto 91 = .ok (.aload_n 1, 1) := by decide +kernel
theorem d_Rt_readInto_92 : decode b_Rt_readInto 92 = .ok (.iload 4, 2) := by decide +kernel
end
section
theorem d_Rt_readInto_94 : decode b_Rt_readInto 94 = .ok (.aload_n 1, 1) := by decide +kernel
theorem d_Rt_readInto_95 : decode b_Rt_readInto 95 = .ok (.aload_n 0, 1) := by decide +kernel
theorem d_Rt_readInto_96 : decode b_Rt_readInto 96 = .ok (.iload_n 2, 1) := by decide +kernel
theorem d_Rt_readInto_97 : decode b_Rt_readInto 97 = .ok (.iconst 2, 1) := by decide +kernel
theorem d_Rt_readInto_98 : decode b_Rt_readInto 98 = .ok (.iadd, 1) := by decide +kernel
theorem d_Rt_readInto_99 : decode b_Rt_readInto 99 = .ok (.invokevirtual 28, 3) := by decide +kernel
theorem d_Rt_readInto_102 : decode b_Rt_readInto 102 = .ok (.invokevirtual 36, 3) := by decide +kernel
theorem d_Rt_readInto_105 : decode b_Rt_readInto 105 = .ok (.invokevirtual 39, 3) := by decide +kernel
theorem d_Rt_readInto_108 : decode b_Rt_readInto 108 = .ok (.ifCond .ne 7, 3) := by decide +kernel
theorem d_Rt_readInto_111 : decode b_Rt_readInto 111 = .ok (.iload_n 2, 1) := by decide +kernel
theorem d_Rt_readInto_112 : decode b_Rt_readInto 112 = .ok (.iconst 2, 1) := by decide +kernel
theorem d_Rt_readInto_113 : decode b_Rt_readInto 113 = .ok (.iadd, 1) := by decide +kernel
theorem d_Rt_readInto_114 : decode b_Rt_readInto 114 = .ok (.ireturn, 1) := by decide +kernel
theorem d_Rt_readInto_115 : decode b_Rt_readInto 115 = .ok (.iinc 2 3, 3) := by decide +kernel
theorem d_Rt_readInto_118 : decode b_Rt_readInto 118 = .ok (.iinc 3 1, 3) := by decide +kernel
theorem d_Rt_readInto_121 : decode b_Rt_readInto 121 = .ok (.goto (-103), 3) := by decide +kernel
theorem d_Rt_readInto_124 : decode b_Rt_readInto 124 = .ok (.iload_n 2, 1) := by decide +kernel
theorem d_Rt_readInto_125 : decode b_Rt_readInto 125 = .ok (.ireturn, 1) := by decide +kernel
theorem d_Rt_readThings_0 : decode b_Rt_readThings 0 = .ok (.iconst 0, 1) := by decide +kernel
theorem d_Rt_readThings_1 : decode b_Rt_readThings 1 = .ok (.istore_n 2, 1) := by decide +kernel
theorem d_Rt_readThings_2 : decode b_Rt_readThings 2 = .ok (.iload_n 2, 1) := by decide +kernel
theorem d_Rt_readThings_3 : decode b_Rt_readThings 3 = .ok (.bipush 100, 2) := by decide +kernel
theorem d_Rt_readThings_5 : decode b_Rt_readThings 5 = .ok (.if_icmp .ge 23, 3) := by decide +kernel
theorem d_Rt_readThings_8 : decode b_Rt_readThings 8 = .ok (.aload_n 1, 1) := by decide +kernel
theorem d_Rt_readThings_9 : decode b_Rt_readThings 9 = .ok (.aload_n 0, 1) := by decide +kernel
theorem d_Rt_readThings_10 : decode b_Rt_readThings 10 = .ok (.iload_n 2, 1) := by decide +kernel
theorem d_Rt_readThings_11 : decode b_Rt_readThings 11 = .ok (.invokevirtual 28, 3) := by decide +kernel
theorem d_Rt_readThings_14 : decode b_Rt_readThings 14 = .ok (.invokevirtual 43, 3) := by decide +kernel
theorem d_Rt_readThings_17 : decode b_Rt_readThings 17 = .ok (.ifCond .ne 5, 3) := by decide +kernel
theorem d_Rt_readThings_20 : decode b_Rt_readThings 20 = .ok (.iload_n 2, 1) := by decide +kernel
theorem d_Rt_readThings_21 : decode b_Rt_readThings 21 = .ok (.ireturn, 1) := by decide +kernel
theorem d_Rt_readThings_22 : decode b_Rt_readThings 22 = .ok (.iinc 2 1, 3) := by decide +kernel
theorem d_Rt_readThings_25 : decode b_Rt_readThings 25 = .ok (.goto (-23), 3) := by decide +kernel
theorem d_Rt_readThings_28 : decode b_Rt_readThings 28 = .ok (.bipush 100, 2) := by decide +kernel
theorem d_Rt_readThings_30 : decode b_Rt_readThings 30 = .ok (.ireturn, 1) := by decide +kernel
theorem d_Rt_unitAt_0 : decode b_Rt_unitAt 0 = .ok (.iload_n 1, 1) := by decide +kernel
theorem d_Rt_unitAt_1 : decode b_Rt_unitAt 1 = .ok (.ifCond .lt 20, 3) := by decide +kernel
theorem d_Rt_unitAt_4 : decode b_Rt_unitAt 4 = .ok (.iload_n 1, 1) := by decide +kernel
theorem d_Rt_unitAt_5 : decode b_Rt_unitAt 5 = .ok (.aload_n 0, 1) := by decide +kernel
theorem d_Rt_unitAt_6 : decode b_Rt_unitAt 6 = .ok (.getfield 15, 3) := by decide +kernel
theorem d_Rt_unitAt_9 : decode b_Rt_unitAt 9 = .ok (.if_icmp .ge 12, 3) := by decide +kernel
theorem d_Rt_unitAt_12 : decode b_Rt_unitAt 12 = .ok (.aload_n 0, 1) := by decide +kernel
theorem d_Rt_unitAt_13 : decode b_Rt_unitAt 13 = .ok (.getfield 11, 3) := by decide +kernel
theorem d_Rt_unitAt_16 : decode b_Rt_unitAt 16 = .ok (.iload_n 1, 1) := by decide +kernel
theorem d_Rt_unitAt_17 : decode b_Rt_unitAt 17 = .ok (.iaload, 1) := by decide +kernel
theorem d_Rt_unitAt_18 : decode b_Rt_unitAt 18 = .ok (.goto 4, 3) := by decide +kernel
theorem d_Rt_unitAt_21 : decode b_Rt_unitAt 21 = .ok (.iconst (-1), 1) := by decide +kernel
theorem d_Rt_unitAt_22 : decode b_Rt_unitAt 22 = .ok (.ireturn, 1) := by decide +kernel
theorem d_Se_init_0 : decode b_Se_init 0 = .ok (.aload_n 0, 1) := by decide +kernel
theorem d_Se_init_1 : decode b_Se_init 1 = .ok (.invokespecial 3, 3) := by decide +kernel
theorem d_Se_init_4 : decode b_Se_init 4 = .ok (.aload_n 0, 1) := by decide +kernel
theorem d_Se_init_5 : decode b_Se_init 5 = .ok (.sipush 512, 3) := by decide +kernel
theorem d_Se_init_8 : decode b_Se_init 8 = .ok (.newarray .int, 2) := by decide +kernel
theorem d_Se_init_10 : decode b_Se_init 10 = .ok (.putfield 11, 3) := by decide +kernel
theorem d_Se_init_13 : decode b_Se_init 13 = .ok (.aload_n 0, 1) := by decide +kernel
theorem d_Se_init_14 : decode b_Se_init 14 = .ok (.sipush 512, 3) := by decide +kernel
theorem d_Se_init_17 : decode b_Se_init 17 = .ok (.newarray .int, 2) := by decide +kernel
theorem d_Se_init_19 : decode b_Se_init 19 = .ok (.putfield 15, 3) := by decide +kernel
theorem d_Se_init_22 : decode b_Se_init 22 = .ok (.return_, 1) := by decide +kernel
theorem d_Se_before_0 : decode b_Se_before 0 = .ok (.iload_n 1, 1) := by decide +kernel
theorem d_Se_before_1 : decode b_Se_before 1 = .ok (.ifCond .lt 12, 3) := by decide +kernel
theorem d_Se_before_4 : decode b_Se_before 4 = .ok (.iload_n 1, 1) := by decide +kernel
theorem d_Se_before_5 : decode b_Se_before 5 = .ok (.aload_n 0, 1) := by decide +kernel
theorem d_Se_before_6 : decode b_Se_before 6 = .ok (.getfield 11, 3) := by decide +kernel
theorem d_Se_before_9 : decode b_Se_before 9 = .ok (.arraylength, 1) := by decide +kernel
theorem d_Se_before_10 : decode b_Se_before 10 = .ok (.if_icmp .lt 7, 3) := by decide +kernel
theorem d_Se_before_13 : decode b_Se_before 13 = .ok (.iload_n 1, 1) := by decide +kernel
theorem d_Se_before_14 : decode b_Se_before 14 = .ok (.goto 14, 3) := by decide +kernel
theorem d_Se_before_17 : decode b_Se_before 17 = .ok (.aload_n 0, 1) := by decide +kernel
theorem d_Se_before_18 : decode b_Se_before 18 = .ok (.getfield 11, 3) := by decide +kernel
theorem d_Se_before_21 : decode b_Se_before 21 = .ok (.iload_n 1, 1) := by decide +kernel
theorem d_Se_before_22 : decode b_Se_before 22 = .ok (.iaload, 1) := by decide +kernel
theorem d_Se_before_23 : decode b_Se_before 23 = .ok (.iconst 1, 1) := by decide +kernel
theorem d_Se_before_24 : decode b_Se_before 24 = .ok (.isub, 1) := by decide +kernel
theorem d_Se_before_25 : decode b_Se_before 25 = .ok (.bipush 8, 2) := by decide +kernel
theorem d_Se_before_27 : decode b_Se_before 27 = .ok (.ishr, 1) := by decide +kernel
theorem d_Se_before_28 : decode b_Se_before 28 = .ok (.ireturn, 1) := by decide +kernel
theorem d_Se_endOf_0 : decode b_Se_endOf 0 = .ok (.aload_n 0, 1) := by decide +kernel
theorem d_Se_endOf_1 : decode b_Se_endOf 1 = .ok (.aload_n 1, 1) := by decide +kernel
theorem d_Se_endOf_2 : decode b_Se_endOf 2 = .ok (.invokevirtual 18, 3) := by decide +kernel
theorem d_Se_endOf_5 : decode b_Se_endOf 5 = .ok (.invokevirtual 24, 3) := by decide +kernel
theorem d_Se_endOf_8 : decode b_Se_endOf 8 = .ok (.aload_n 0, 1) := by decide +kernel
theorem d_Se_endOf_9 : decode b_Se_endOf 9 = .ok (.getfield 11, 3) := by decide +kernel
theorem d_Se_endOf_12 : decode b_Se_endOf 12 = .ok (.iconst 0, 1) := by decide +kernel
theorem d_Se_endOf_13 : decode b_Se_endOf 13 = .ok (.invokestatic 28, 3) := by decide +kernel
theorem d_Se_endOf_16 : decode b_Se_endOf 16 = .ok (.aload_n 0, 1) := by decide +kernel
theorem d_Se_endOf_17 : decode b_Se_endOf 17 = .ok (.iconst 0, 1) := by decide +kernel
theorem d_Se_endOf_18 : decode b_Se_endOf 18 = .ok (.putfield 34, 3) := by decide +kernel
theorem d_Se_endOf_21 : decode b_Se_endOf 21 = .ok (.aload_n 1, 1) := by decide +kernel
theorem d_Se_endOf_22 : decode b_Se_endOf 22 = .ok (.invokevirtual 38, 3) := by decide +kernel
theorem d_Se_endOf_25 : decode b_Se_endOf 25 = .ok (.istore_n 2, 1) := by decide +kernel
theorem d_Se_endOf_26 : decode b_Se_endOf 26 = .ok (.aload_n 0, 1) := by decide +kernel
theorem d_Se_endOf_27 : decode b_Se_endOf 27 = .ok (.iload_n 2, 1) := by decide +kernel
theorem d_Se_endOf_28 : decode b_Se_endOf 28 = .ok (.iload_n 2, 1) := by decide +kernel
theorem d_Se_endOf_29 : decode b_Se_endOf 29 = .ok (.iconst 0, 1) := by decide +kernel
theorem d_Se_endOf_30 : decode b_Se_endOf 30 = .ok (.invokevirtual 41, 3) := by decide +kernel
theorem d_Se_endOf_33 : decode b_Se_endOf 33 = .ok (.iconst 0, 1) := by decide +kernel
theorem d_Se_endOf_34 : decode b_Se_endOf 34 = .ok (.istore_n 3, 1) := by decide +kernel
theorem d_Se_endOf_35 : decode b_Se_endOf 35 = .ok (.iload_n 3, 1) := by decide +kernel
theorem d_Se_endOf_36 : decode b_Se_endOf 36 = .ok (.sipush 10000, 3) := by decide +kernel
theorem d_Se_endOf_39 : decode b_Se_endOf 39 = .ok (.if_icmp .ge 55, 3) := by decide +kernel
theorem d_Se_endOf_42 : decode b_Se_endOf 42 = .ok (.iload_n 3, 1) := by decide +kernel
theorem d_Se_endOf_43 : decode b_Se_endOf 43 = .ok (.aload_n 0, 1) := by decide +kernel
theorem d_Se_endOf_44 : decode b_Se_endOf 44 = .ok (.getfield 34, 3) := by decide +kernel
theorem d_Se_endOf_47 : decode b_Se_endOf 47 = .ok (.if_icmp .ge 12, 3) := by decide +kernel
theorem d_Se_endOf_50 : decode b_Se_endOf 50 = .ok (.iload_n 3, 1) := by decide +kernel
theorem d_Se_endOf_51 : decode b_Se_endOf 51 = .ok (.aload_n 0, 1) := by decide +kernel
theorem d_Se_endOf_52 : decode b_Se_endOf 52 = .ok (.getfield 15, 3) := by decide +kernel
theorem d_Se_endOf_55 : decode b_Se_endOf 55 = .ok (.arraylength, 1) := by decide +kernel
theorem d_Se_endOf_56 : decode b_Se_endOf 56 = .ok (.if_icmp .lt 5, 3) := by decide +kernel
theorem d_Se_endOf_59 : decode b_Se_endOf 59 = .ok (.iconst (-1), 1) := by decide +kernel
theorem d_Se_endOf_60 : decode b_Se_endOf 60 = .ok (.ireturn, 1) := by decide +kernel
theorem d_Se_endOf_61 : decode b_Se_endOf 61 = .ok (.aload_n 0, 1) := by decide +kernel
theorem d_Se_endOf_62 : decode b_Se_endOf 62 = .ok (.getfield 15, 3) := by decide +kernel
theorem d_Se_endOf_65 : decode b_Se_endOf 65 = .ok (.iload_n 3, 1) := by decide +kernel
theorem d_Se_endOf_66 : decode b_Se_endOf 66 = .ok (.iaload, 1) := by decide +kernel
theorem d_Se_endOf_67 : decode b_Se_endOf 67 = .ok (.istore 4, 2) := by decide +kernel
theorem d_Se_endOf_69 : decode b_Se_endOf 69 = .ok (.aload_n 1, 1) := by decide +kernel
theorem d_Se_endOf_70 : decode b_Se_endOf 70 = .ok (.iload 4, 2) := by decide +kernel
theorem d_Se_endOf_72 : decode b_Se_endOf 72 = .ok (.invokevirtual 45, 3) := by decide +kernel
theorem d_Se_endOf_75 : decode b_Se_endOf 75 = .ok (.ifCond .eq 6, 3) := by decide +kernel
theorem d_Se_endOf_78 : decode b_Se_endOf 78 = .ok (.iload 4, 2) := by decide +kernel
theorem d_Se_endOf_80 : decode b_Se_endOf 80 = .ok (.ireturn, 1) := by decide +kernel
theorem d_Se_endOf_81 : decode b_Se_endOf 81 = .ok (.aload_n 1, 1) := by decide +kernel
theorem d_Se_endOf_82 : decode b_Se_endOf 82 = .ok (.iload 4, 2) := by decide +kernel
theorem d_Se_endOf_84 : decode b_Se_endOf 84 = .ok (.aload_n 0, 1) := by decide +kernel
theorem d_Se_endOf_85 : decode b_Se_endOf 85 = .ok (.invokevirtual 49, 3) := by decide +kernel
theorem d_Se_endOf_88 : decode b_Se_endOf 88 = .ok (.iinc 3 1, 3) := by decide +kernel
theorem d_Se_endOf_91 : decode b_Se_endOf 91 = .ok (.goto (-56), 3) := by decide +kernel
theorem d_Se_endOf_94 : decode b_Se_endOf 94 = .ok (.iconst (-1), 1) := by decide +kernel
theorem d_Se_endOf_95 : decode b_Se_endOf 95 = .ok (.ireturn, 1) := by decide +kernel
theorem d_Se_makeRoom_0 : decode b_Se_makeRoom 0 = .ok (.iload_n 1, 1) := by decide +kernel
theorem d_Se_makeRoom_1 : decode b_Se_makeRoom 1 = .ok (.aload_n 0, 1) := by decide +kernel
theorem d_Se_makeRoom_2 : decode b_Se_makeRoom 2 = .ok (.getfield 11, 3) := by decide +kernel
theorem d_Se_makeRoom_5 : decode b_Se_makeRoom 5 = .ok (.arraylength, 1) := by decide +kernel
theorem d_Se_makeRoom_6 : decode b_Se_makeRoom 6 = .ok (.if_icmp .le 24, 3) := by decide +kernel
theorem d_Se_makeRoom_9 : decode b_Se_makeRoom 9 = .ok (.iload_n 1, 1) := by decide +kernel
theorem d_Se_makeRoom_10 : decode b_Se_makeRoom 10 = .ok (.sipush 10000, 3) := by decide +kernel
theorem d_Se_makeRoom_13 : decode b_Se_makeRoom 13 = .ok (.if_icmp .gt 17, 3) := by decide +kernel
theorem d_Se_makeRoom_16 : decode b_Se_makeRoom 16 = .ok (.aload_n 0, 1) := by decide +kernel
theorem d_Se_makeRoom_17 : decode b_Se_makeRoom 17 = .ok (.iload_n 1, 1) := by decide +kernel
theorem d_Se_makeRoom_18 : decode b_Se_makeRoom 18 = .ok (.newarray .int, 2) := by decide +kernel
theorem d_Se_makeRoom_20 : decode b_Se_makeRoom 20 = .ok (.putfield 11, 3) := by decide +kernel
theorem d_Se_makeRoom_23 : decode b_Se_makeRoom 23 = .ok (.aload_n 0, 1) := by decide +kernel
theorem d_Se_makeRoom_24 : decode b_Se_makeRoom 24 = .ok (.iload_n 1, 1) := by decide +kernel
theorem d_Se_makeRoom_25 : decode b_Se_makeRoom 25 = .ok (.newarray .int, 2) := by decide +kernel
theorem d_Se_makeRoom_27 : decode b_Se_makeRoom 27 = .ok (.putfield 15, 3) := by decide +kernel
theorem d_Se_makeRoom_30 : decode b_Se_makeRoom 30 = .ok (.return_, 1) := by decide +kernel
theorem d_Se_meet_0 : decode b_Se_meet 0 = .ok (.iload_n 1, 1) := by decide +kernel
theorem d_Se_meet_1 : decode b_Se_meet 1 = .ok (.ifCond .lt 33, 3) := by decide +kernel
theorem d_Se_meet_4 : decode b_Se_meet 4 = .ok (.iload_n 1, 1) := by decide +kernel
theorem d_Se_meet_5 : decode b_Se_meet 5 = .ok (.aload_n 0, 1) := by decide +kernel
theorem d_Se_meet_6 : decode b_Se_meet 6 = .ok (.getfield 11, 3) := by decide +kernel
theorem d_Se_meet_9 : decode b_Se_meet 9 = .ok (.arraylength, 1) := by decide +kernel
theorem d_Se_meet_10 : decode b_Se_meet 10 = .ok (.if_icmp .ge 24, 3) := by decide +kernel
theorem d_Se_meet_13 : decode b_Se_meet 13 = .ok (.aload_n 0, 1) := by decide +kernel
theorem d_Se_meet_14 : decode b_Se_meet 14 = .ok (.getfield 11, 3) := by decide +kernel
theorem d_Se_meet_17 : decode b_Se_meet 17 = .ok (.iload_n 1, 1) := by decide +kernel
theorem d_Se_meet_18 : decode b_Se_meet 18 = .ok (.iaload, 1) := by decide +kernel
theorem d_Se_meet_19 : decode b_Se_meet 19 = .ok (.ifCond .ne 15, 3) := by decide +kernel
theorem d_Se_meet_22 : decode b_Se_meet 22 = .ok (.aload_n 0, 1) := by decide +kernel
theorem d_Se_meet_23 : decode b_Se_meet 23 = .ok (.getfield 34, 3) := by decide +kernel
theorem d_Se_meet_26 : decode b_Se_meet 26 = .ok (.aload_n 0, 1) := by decide +kernel
theorem d_Se_meet_27 : decode b_Se_meet 27 = .ok (.getfield 15, 3) := by decide +kernel
theorem d_Se_meet_30 : decode b_Se_meet 30 = .ok (.arraylength, 1) := by decide +kernel
theorem d_Se_meet_31 : decode b_Se_meet 31 = .ok (.if_icmp .lt 4, 3) := by decide +kernel
theorem d_Se_meet_34 : decode b_Se_meet 34 = .ok (.return_, 1) := by decide +kernel
theorem d_Se_meet_35 : decode b_Se_meet 35 = .ok (.aload_n 0, 1) := by decide +kernel
theorem d_Se_meet_36 : decode b_Se_meet 36 = .ok (.getfield 11, 3) := by decide +kernel
theorem d_Se_meet_39 : decode b_Se_meet 39 = .ok (.iload_n 1, 1) := by decide +kernel
theorem d_Se_meet_40 : decode b_Se_meet 40 = .ok (.iconst 1, 1) := by decide +kernel
theorem d_Se_meet_41 : decode b_Se_meet 41 = .ok (.iload_n 2, 1) := by decide +kernel
theorem d_Se_meet_42 : decode b_Se_meet 42 = .ok (.bipush 8, 2) := by decide +kernel
theorem d_Se_meet_44 : decode b_Se_meet 44 = .ok (.ishl, 1) := by decide +kernel
theorem d_Se_meet_45 : decode b_Se_meet 45 = .ok (.iload_n 3, 1) := by decide +kernel
theorem d_Se_meet_46 : decode b_Se_meet 46 = .ok (.ior, 1) := by decide +kernel
theorem d_Se_meet_47 : decode b_Se_meet 47 = .ok (.iadd, 1) := by decide +kernel
theorem d_Se_meet_48 : decode b_Se_meet 48 = .ok (.iastore, 1) := by decide +kernel
theorem d_Se_meet_49 : decode b_Se_meet 49 = .ok (.aload_n 0, 1) := by decide +kernel
theorem d_Se_meet_50 : decode b_Se_meet 50 = .ok (.getfield 15, 3) := by decide +kernel
theorem d_Se_meet_53 : decode b_Se_meet 53 = .ok (.aload_n 0, 1) := by decide +kernel
theorem d_Se_meet_54 : decode b_Se_meet 54 = .ok (.getfield 34, 3) := by decide +kernel
theorem d_Se_meet_57 : decode b_Se_meet 57 = .ok (.iload_n 1, 1) := by decide +kernel
theorem d_Se_meet_58 : decode b_Se_meet 58 = .ok (.iastore, 1) := by decide +kernel
theorem d_Se_meet_59 : decode b_Se_meet 59 = .ok (.aload_n 0, 1) := by decide +kernel
theorem d_Se_meet_60 : decode b_Se_meet 60 = .ok (.dup, 1) := by decide +kernel
theorem d_Se_meet_61 : decode b_Se_meet 61 = .ok (.getfield 34, 3) := by decide +kernel
theorem d_Se_meet_64 : decode b_Se_meet 64 = .ok (.iconst 1, 1) := by decide +kernel
theorem d_Se_meet_65 : decode b_Se_meet 65 = .ok (.iadd, 1) := by decide +kernel
theorem d_Se_meet_66 : decode b_Se_meet 66 = .ok (.putfield 34, 3) := by decide +kernel
theorem d_Se_meet_69 : decode b_Se_meet 69 = .ok (.return_, 1) := by decide +kernel
theorem d_Se_stepInto_0 : decode b_Se_stepInto 0 = .ok (.iload_n 1, 1) := by decide +kernel
theorem d_Se_stepInto_1 : decode b_Se_stepInto 1 = .ok (.ifCond .lt 12, 3) := by decide +kernel
theorem d_Se_stepInto_4 : decode b_Se_stepInto 4 = .ok (.iload_n 1, 1) := by decide +kernel
theorem d_Se_stepInto_5 : decode b_Se_stepInto 5 = .ok (.aload_n 0, 1) := by decide +kernel
theorem d_Se_stepInto_6 : decode b_Se_stepInto 6 = .ok (.getfield 11, 3) := by decide +kernel
theorem d_Se_stepInto_9 : decode b_Se_stepInto 9 = .ok (.arraylength, 1) := by decide +kernel
theorem d_Se_stepInto_10 : decode b_Se_stepInto 10 = .ok (.if_icmp .lt 7, 3) := by decide +kernel
theorem d_Se_stepInto_13 : decode b_Se_stepInto 13 = .ok (.iconst 0, 1) := by decide +kernel
theorem d_Se_stepInto_14 : decode b_Se_stepInto 14 = .ok (.goto 15, 3) := by decide +kernel
theorem d_Se_stepInto_17 : decode b_Se_stepInto 17 = .ok (.aload_n 0, 1) := by decide +kernel
theorem d_Se_stepInto_18 : decode b_Se_stepInto 18 = .ok (.getfield 11, 3) := by decide +kernel
theorem d_Se_stepInto_21 : decode b_Se_stepInto 21 = .ok (.iload_n 1, 1) := by decide +kernel
theorem d_Se_stepInto_22 : decode b_Se_stepInto 22 = .ok (.iaload, 1) := by decide +kernel
theorem d_Se_stepInto_23 : decode b_Se_stepInto 23 = .ok (.iconst 1, 1) := by decide +kernel
theorem d_Se_stepInto_24 : decode b_Se_stepInto 24 = .ok (.isub, 1) := by decide +kernel
theorem d_Se_stepInto_25 : decode b_Se_stepInto 25 = .ok (.sipush 255, 3) := by decide +kernel
theorem d_Se_stepInto_28 : decode b_Se_stepInto 28 = .ok (.iand, 1) := by decide +kernel
theorem d_Se_stepInto_29 : decode b_Se_stepInto 29 = .ok (.ireturn, 1) := by decide +kernel
theorem d_Se_stepsTo_0 : decode b_Se_stepsTo 0 = .ok (.iload_n 1, 1) := by decide +kernel
theorem d_Se_stepsTo_1 : decode b_Se_stepsTo 1 = .ok (.istore_n 2, 1) := by decide +kernel
theorem d_Se_stepsTo_2 : decode b_Se_stepsTo 2 = .ok (.iconst 0, 1) := by decide +kernel
theorem d_Se_stepsTo_3 : decode b_Se_stepsTo 3 = .ok (.istore_n 3, 1) := by decide +kernel
theorem d_Se_stepsTo_4 : decode b_Se_stepsTo 4 = .ok (.iload_n 3, 1) := by decide +kernel
theorem d_Se_stepsTo_5 : decode b_Se_stepsTo 5 = .ok (.sipush 10000, 3) := by decide +kernel
theorem d_Se_stepsTo_8 : decode b_Se_stepsTo 8 = .ok (.if_icmp .ge 27, 3) := by decide +kernel
theorem d_Se_stepsTo_11 : decode b_Se_stepsTo 11 = .ok (.aload_n 0, 1) := by decide +kernel
theorem d_Se_stepsTo_12 : decode b_Se_stepsTo 12 = .ok (.iload_n 2, 1) := by decide +kernel
theorem d_Se_stepsTo_13 : decode b_Se_stepsTo 13 = .ok (.invokevirtual 53, 3) := by decide +kernel
theorem d_Se_stepsTo_16 : decode b_Se_stepsTo 16 = .ok (.istore 4, 2) := by decide +kernel
theorem d_Se_stepsTo_18 : decode b_Se_stepsTo 18 = .ok (.iload 4, 2) := by decide +kernel
theorem d_Se_stepsTo_20 : decode b_Se_stepsTo 20 = .ok (.iload_n 2, 1) := by decide +kernel
theorem d_Se_stepsTo_21 : decode b_Se_stepsTo 21 = .ok (.if_icmp .ne 5, 3) := by decide +kernel
theorem d_Se_stepsTo_24 : decode b_Se_stepsTo 24 = .ok (.iload_n 3, 1) := by decide +kernel
theorem d_Se_stepsTo_25 : decode b_Se_stepsTo 25 = .ok (.ireturn, 1) := by decide +kernel
theorem d_Se_stepsTo_26 : decode b_Se_stepsTo 26 = .ok (.iload 4, 2) := by decide +kernel
theorem d_Se_stepsTo_28 : decode b_Se_stepsTo 28 = .ok (.istore_n 2, 1) := by decide +kernel
theorem d_Se_stepsTo_29 : decode b_Se_stepsTo 29 = .ok (.iinc 3 1, 3) := by decide +kernel
theorem d_Se_stepsTo_32 : decode b_Se_stepsTo 32 = .ok (.goto (-28), 3) := by decide +kernel
theorem d_Se_stepsTo_35 : decode b_Se_stepsTo 35 = .ok (.sipush 10000, 3) := by decide +kernel
theorem d_Se_stepsTo_38 : decode b_Se_stepsTo 38 = .ok (.ireturn, 1) := by decide +kernel
theorem d_Tw_init_0 : decode b_Tw_init 0 = .ok (.aload_n 0, 1) := by decide +kernel
theorem d_Tw_init_1 : decode b_Tw_init 1 = .ok (.invokespecial 3, 3) := by decide +kernel
theorem d_Tw_init_4 : decode b_Tw_init 4 = .ok (.aload_n 0, 1) := by decide +kernel
theorem d_Tw_init_5 : decode b_Tw_init 5 = .ok (.bipush 41, 2) := by decide +kernel
theorem d_Tw_init_7 : decode b_Tw_init 7 = .ok (.newarray .long, 2) := by decide +kernel
theorem d_Tw_init_9 : decode b_Tw_init 9 = .ok (.putfield 11, 3) := by decide +kernel
theorem d_Tw_init_12 : decode b_Tw_init 12 = .ok (.aload_n 0, 1) := by decide +kernel
theorem d_Tw_init_13 : decode b_Tw_init 13 = .ok (.bipush 41, 2) := by decide +kernel
theorem d_Tw_init_15 : decode b_Tw_init 15 = .ok (.newarray .int, 2) := by decide +kernel
theorem d_Tw_init_17 : decode b_Tw_init 17 = .ok (.putfield 15, 3) := by decide +kernel
theorem d_Tw_init_20 : decode b_Tw_init 20 = .ok (.aload_n 0, 1) := by decide +kernel
theorem d_Tw_init_21 : decode b_Tw_init 21 = .ok (.iconst 3, 1) := by decide +kernel
theorem d_Tw_init_22 : decode b_Tw_init 22 = .ok (.putfield 19, 3) := by decide +kernel
theorem d_Tw_init_25 : decode b_Tw_init 25 = .ok (.iconst 1, 1) := by decide +kernel
theorem d_Tw_init_26 : decode b_Tw_init 26 = .ok (.istore_n 1, 1) := by decide +kernel
theorem d_Tw_init_27 : decode b_Tw_init 27 = .ok (.iload_n 1, 1) := by decide +kernel
theorem d_Tw_init_28 : decode b_Tw_init 28 = .ok (.bipush 40, 2) := by decide +kernel
theorem d_Tw_init_30 : decode b_Tw_init 30 = .ok (.if_icmp .gt 74, 3) := by decide +kernel
theorem d_Tw_init_33 : decode b_Tw_init 33 = .ok (.aload_n 0, 1) := by decide +kernel
theorem d_Tw_init_34 : decode b_Tw_init 34 = .ok (.getfield 11, 3) := by decide +kernel
theorem d_Tw_init_37 : decode b_Tw_init 37 = .ok (.iload_n 1, 1) := by decide +kernel
theorem d_Tw_init_38 : decode b_Tw_init 38 = .ok (.ldc2_w 25, 3) := by decide +kernel
theorem d_Tw_init_41 : decode b_Tw_init 41 = .ok (.lastore, 1) := by decide +kernel
theorem d_Tw_init_42 : decode b_Tw_init 42 = .ok (.iconst 0, 1) := by decide +kernel
theorem d_Tw_init_43 : decode b_Tw_init 43 = .ok (.istore_n 2, 1) := by decide +kernel
theorem d_Tw_init_44 : decode b_Tw_init 44 = .ok (.iload_n 2, 1) := by decide +kernel
theorem d_Tw_init_45 : decode b_Tw_init 45 = .ok (.iload_n 1, 1) := by decide +kernel
theorem d_Tw_init_46 : decode b_Tw_init 46 = .ok (.if_icmp .ge 52, 3) := by decide +kernel
theorem d_Tw_init_49 : decode b_Tw_init 49 = .ok (.ldc2_w 27, 3) := by decide +kernel
theorem d_Tw_init_52 : decode b_Tw_init 52 = .ok (.aload_n 0, 1) := by decide +kernel
theorem d_Tw_init_53 : decode b_Tw_init 53 = .ok (.getfield 11, 3) := by decide +kernel
theorem d_Tw_init_56 : decode b_Tw_init 56 = .ok (.iload_n 2, 1) := by decide +kernel
theorem d_Tw_init_57 : decode b_Tw_init 57 = .ok (.laload, 1) := by decide +kernel
theorem d_Tw_init_58 : decode b_Tw_init 58 = .ok (.lmul, 1) := by decide +kernel
theorem d_Tw_init_59 : decode b_Tw_init 59 = .ok (.iload_n 1, 1) := by decide +kernel
theorem d_Tw_init_60 : decode b_Tw_init 60 = .ok (.iload_n 2, 1) := by decide +kernel
theorem d_Tw_init_61 : decode b_Tw_init 61 = .ok (.isub, 1) := by decide +kernel
theorem d_Tw_init_62 : decode b_Tw_init 62 = .ok (.invokestatic 29, 3) := by decide +kernel
theorem d_Tw_init_65 : decode b_Tw_init 65 = .ok (.ladd, 1) := by decide +kernel
theorem d_Tw_init_66 : decode b_Tw_init 66 = .ok (.lstore_n 3, 1) := by decide +kernel
theorem d_Tw_init_67 : decode b_Tw_init 67 = .ok (.lload_n 3, 1) := by decide +kernel
theorem d_Tw_init_68 : decode b_Tw_init 68 = .ok (.aload_n 0, 1) := by decide +kernel
theorem d_Tw_init_69 : decode b_Tw_init 69 = .ok (.getfield 11, 3) := by decide +kernel
theorem d_Tw_init_72 : decode b_Tw_init 72 = .ok (.iload_n 1, 1) := by decide +kernel
theorem d_Tw_init_73 : decode b_Tw_init 73 = .ok (.laload, 1) := by decide +kernel
theorem d_Tw_init_74 : decode b_Tw_init 74 = .ok (.lcmp, 1) := by decide +kernel
theorem d_Tw_init_75 : decode b_Tw_init 75 = .ok (.ifCond .ge 17, 3) := by decide +kernel
theorem d_Tw_init_78 : decode b_Tw_init 78 = .ok (.aload_n 0, 1) := by decide +kernel
theorem d_Tw_init_79 : decode b_Tw_init 79 = .ok (.getfield 11, 3) := by decide +kernel
theorem d_Tw_init_82 : decode b_Tw_init 82 = .ok (.iload_n 1, 1) := by decide +kernel
theorem d_Tw_init_83 : decode b_Tw_init 83 = .ok (.lload_n 3, 1) := by decide +kernel
theorem d_Tw_init_84 : decode b_Tw_init 84 = .ok (.lastore, 1) := by decide +kernel
theorem d_Tw_init_85 : decode b_Tw_init 85 = .ok (.aload_n 0, 1) := by decide +kernel
theorem d_Tw_init_86 : decode b_Tw_init 86 = .ok (.getfield 15, 3) := by decide +kernel
theorem d_Tw_init_89 : decode b_Tw_init 89 = .ok (.iload_n 1, 1) := by decide +kernel
theorem d_Tw_init_90 : decode b_Tw_init 90 = .ok (.iload_n 2, 1) := by decide +kernel
theorem d_Tw_init_91 : decode b_Tw_init 91 = .ok (.iastore, 1) := by decide +kernel
theorem d_Tw_init_92 : decode b_Tw_init 92 = .ok (.iinc 2 1, 3) := by decide +kernel
theorem d_Tw_init_95 : decode b_Tw_init 95 = .ok (.goto (-51), 3) := by decide +kernel
theorem d_Tw_init_98 : decode b_Tw_init 98 = .ok (.iinc 1 1, 3) := by decide +kernel
theorem d_Tw_init_101 : decode b_Tw_init 101 = .ok (.goto (-74), 3) := by decide +kernel
theorem d_Tw_init_104 : decode b_Tw_init 104 = .ok (.return_, 1) := by decide +kernel
theorem d_Tw_lesserFreePeg_0 : decode b_Tw_lesserFreePeg 0 = .ok (.iconst 0, 1) := by decide +kernel
theorem d_Tw_lesserFreePeg_1 : decode b_Tw_lesserFreePeg 1 = .ok (.istore_n 2, 1) := by decide +kernel
theorem d_Tw_lesserFreePeg_2 : decode b_Tw_lesserFreePeg 2 = .ok (.iconst 0, 1) := by decide +kernel
theorem d_Tw_lesserFreePeg_3 : decode b_Tw_lesserFreePeg 3 = .ok (.istore_n 3, 1) := by decide +kernel
theorem d_Tw_lesserFreePeg_4 : decode b_Tw_lesserFreePeg 4 = .ok (.iload_n 3, 1) := by decide +kernel
theorem d_Tw_lesserFreePeg_5 : decode b_Tw_lesserFreePeg 5 = .ok (.iconst 2, 1) := by decide +kernel
theorem d_Tw_lesserFreePeg_6 : decode b_Tw_lesserFreePeg 6 = .ok (.if_icmp .ge 22, 3) := by decide +kernel
theorem d_Tw_lesserFreePeg_9 : decode b_Tw_lesserFreePeg 9 = .ok (.iload_n 2, 1) := by decide +kernel
theorem d_Tw_lesserFreePeg_10 : decode b_Tw_lesserFreePeg 10 = .ok (.iload_n 0, 1) := by decide +kernel
theorem d_Tw_lesserFreePeg_11 : decode b_Tw_lesserFreePeg 11 = .ok (.if_icmp .eq 8, 3) := by decide +kernel
theorem d_Tw_lesserFreePeg_14 : decode b_Tw_lesserFreePeg 14 = .ok (.iload_n 2, 1) := by decide +kernel
theorem d_Tw_lesserFreePeg_15 : decode b_Tw_lesserFreePeg 15 = .ok (.iload_n 1, 1) := by decide +kernel
theorem d_Tw_lesserFreePeg_16 : decode b_Tw_lesserFreePeg 16 = .ok (.if_icmp .ne 6, 3) := by decide +kernel
theorem d_Tw_lesserFreePeg_19 : decode b_Tw_lesserFreePeg 19 = .ok (.iinc 2 1, 3) := by decide +kernel
theorem d_Tw_lesserFreePeg_22 : decode b_Tw_lesserFreePeg 22 = .ok (.iinc 3 1, 3) := by decide +kernel
theorem d_Tw_lesserFreePeg_25 : decode b_Tw_lesserFreePeg 25 = .ok (.goto (-21), 3) := by decide +kernel
theorem d_Tw_lesserFreePeg_28 : decode b_Tw_lesserFreePeg 28 = .ok (.iload_n 2, 1) := by decide +kernel
theorem d_Tw_lesserFreePeg_29 : decode b_Tw_lesserFreePeg 29 = .ok (.ireturn, 1) := by decide +kernel
theorem d_Tw_moves_0 : decode b_Tw_moves 0 = .ok (.aload_n 0, 1) := by decide +kernel
theorem d_Tw_moves_1 : decode b_Tw_moves 1 = .ok (.getfield 19, 3) := by decide +kernel
theorem d_Tw_moves_4 : decode b_Tw_moves 4 = .ok (.iconst 3, 1) := by decide +kernel
theorem d_Tw_moves_5 : decode b_Tw_moves 5 = .ok (.if_icmp .ne 13, 3) := by decide +kernel
theorem d_Tw_moves_8 : decode b_Tw_moves 8 = .ok (.aload_n 0, 1) := by decide +kernel
theorem d_Tw_moves_9 : decode b_Tw_moves 9 = .ok (.getfield 33, 3) := by decide +kernel
theorem d_Tw_moves_12 : decode b_Tw_moves 12 = .ok (.invokestatic 29, 3) := by decide +kernel
theorem d_Tw_moves_15 : decode b_Tw_moves 15 = .ok (.goto 12, 3) := by decide +kernel
theorem d_Tw_moves_18 : decode b_Tw_moves 18 = .ok (.aload_n 0, 1) := by decide +kernel
theorem d_Tw_moves_19 : decode b_Tw_moves 19 = .ok (.getfield 11, 3) := by decide +kernel
theorem d_Tw_moves_22 : decode b_Tw_moves 22 = .ok (.aload_n 0, 1) := by decide +kernel
theorem d_Tw_moves_23 : decode b_Tw_moves 23 = .ok (.getfield 33, 3) := by decide +kernel
theorem d_Tw_moves_26 : decode b_Tw_moves 26 = .ok (.laload, 1) := by decide +kernel
theorem d_Tw_moves_27 : decode b_Tw_moves 27 = .ok (.lreturn, 1) := by decide +kernel
theorem d_Tw_set_0 : decode b_Tw_set 0 = .ok (.iload_n 1, 1) := by decide +kernel
theorem d_Tw_set_1 : decode b_Tw_set 1 = .ok (.iconst 3, 1) := by decide +kernel
theorem d_Tw_set_2 : decode b_Tw_set 2 = .ok (.if_icmp .lt 18, 3) := by decide +kernel
theorem d_Tw_set_5 : decode b_Tw_set 5 = .ok (.iload_n 1, 1) := by decide +kernel
theorem d_Tw_set_6 : decode b_Tw_set 6 = .ok (.iconst 4, 1) := by decide +kernel
theorem d_Tw_set_7 : decode b_Tw_set 7 = .ok (.if_icmp .gt 13, 3) := by decide +kernel
theorem d_Tw_set_10 : decode b_Tw_set 10 = .ok (.iload_n 2, 1) := by decide +kernel
theorem d_Tw_set_11 : decode b_Tw_set 11 = .ok (.ifCond .lt 9, 3) := by decide +kernel
theorem d_Tw_set_14 : decode b_Tw_set 14 = .ok (.iload_n 2, 1) := by decide +kernel
theorem d_Tw_set_15 : decode b_Tw_set 15 = .ok (.bipush 40, 2) := by decide +kernel
theorem d_Tw_set_17 : decode b_Tw_set 17 = .ok (.if_icmp .le 5, 3) := by decide +kernel
theorem d_Tw_set_20 : decode b_Tw_set 20 = .ok (.iconst 0, 1) := by decide +kernel
theorem d_Tw_set_21 : decode b_Tw_set 21 = .ok (.ireturn, 1) := by decide +kernel
theorem d_Tw_set_22 : decode b_Tw_set 22 = .ok (.aload_n 0, 1) := by decide +kernel
theorem d_Tw_set_23 : decode b_Tw_set 23 = .ok (.iload_n 1, 1) := by decide +kernel
theorem d_Tw_set_24 : decode b_Tw_set 24 = .ok (.putfield 19, 3) := by decide +kernel
theorem d_Tw_set_27 : decode b_Tw_set 27 = .ok (.aload_n 0, 1) := by decide +kernel
theorem d_Tw_set_28 : decode b_Tw_set 28 = .ok (.iload_n 2, 1) := by decide +kernel
theorem d_Tw_set_29 : decode b_Tw_set 29 = .ok (.putfield 33, 3) := by decide +kernel
theorem d_Tw_set_32 : decode b_Tw_set 32 = .ok (.iconst 1, 1) := by decide +kernel
theorem d_Tw_set_33 : decode b_Tw_set 33 = .ok (.ireturn, 1) := by decide +kernel
theorem d_Tw_tellMove_0 : decode b_Tw_tellMove 0 = .ok (.lload_n 1, 1) := by decide +kernel
theorem d_Tw_tellMove_1 : decode b_Tw_tellMove 1 = .ok (.lconst 0, 1) := by decide +kernel
theorem d_Tw_tellMove_2 : decode b_Tw_tellMove 2 = .ok (.lcmp, 1) := by decide +kernel
theorem d_Tw_tellMove_3 : decode b_Tw_tellMove 3 = .ok (.ifCond .lt 21, 3) := by decide +kernel
theorem d_Tw_tellMove_6 : decode b_Tw_tellMove 6 = .ok (.lload_n 1, 1) := by decide +kernel
theorem d_Tw_tellMove_7 : decode b_Tw_tellMove 7 = .ok (.aload_n 0, 1) := by decide +kernel
theorem d_Tw_tellMove_8 : decode b_Tw_tellMove 8 = .ok (.invokevirtual 36, 3) := by decide +kernel
theorem d_Tw_tellMove_11 : decode b_Tw_tellMove 11 = .ok (.lcmp, 1) := by decide +kernel
theorem d_Tw_tellMove_12 : decode b_Tw_tellMove 12 = .ok (.ifCond .ge 12, 3) := by decide +kernel
theorem d_Tw_tellMove_15 : decode b_Tw_tellMove 15 = .ok (.iload_n 3, 1) := by decide +kernel
theorem d_Tw_tellMove_16 : decode b_Tw_tellMove 16 = .ok (.ifCond .lt 8, 3) := by decide +kernel
theorem d_Tw_tellMove_19 : decode b_Tw_tellMove 19 = .ok (.iload_n 3, 1) := by decide +kernel
theorem d_Tw_tellMove_20 : decode b_Tw_tellMove 20 = .ok (.iconst 2, 1) := by decide +kernel
theorem d_Tw_tellMove_21 : decode b_Tw_tellMove 21 = .ok (.if_icmp .le 5, 3) := by decide +kernel
theorem d_Tw_tellMove_24 : decode b_Tw_tellMove 24 = .ok (.iconst (-1), 1) := by decide +kernel
theorem d_Tw_tellMove_25 : decode b_Tw_tellMove 25 = .ok (.ireturn, 1) := by decide +kernel
theorem d_Tw_tellMove_26 : decode b_Tw_tellMove 26 = .ok (.aload_n 0, 1) := by decide +kernel
theorem d_Tw_tellMove_27 : decode b_Tw_tellMove 27 = .ok (.getfield 19, 3) := by decide +kernel
theorem d_Tw_tellMove_30 : decode b_Tw_tellMove 30 = .ok (.iconst 3, 1) := by decide +kernel
theorem d_Tw_tellMove_31 : decode b_Tw_tellMove 31 = .ok (.if_icmp .ne 19, 3) := by decide +kernel
theorem d_Tw_tellMove_34 : decode b_Tw_tellMove 34 = .ok (.lload_n 1, 1) := by decide +kernel
theorem d_Tw_tellMove_35 : decode b_Tw_tellMove 35 = .ok (.iload_n 3, 1) := by decide +kernel
theorem d_Tw_tellMove_36 : decode b_Tw_tellMove 36 = .ok (.iconst 0, 1) := by decide +kernel
theorem d_Tw_tellMove_37 : decode b_Tw_tellMove 37 = .ok (.aload_n 0, 1) := by decide +kernel
theorem d_Tw_tellMove_38 : decode b_Tw_tellMove 38 = .ok (.getfield 33, 3) := by decide +kernel
theorem d_Tw_tellMove_41 : decode b_Tw_tellMove 41 = .ok (.iconst 0, 1) := by decide +kernel
theorem d_Tw_tellMove_42 : decode b_Tw_tellMove 42 = .ok (.iconst 1, 1) := by decide +kernel
theorem d_Tw_tellMove_43 : decode b_Tw_tellMove 43 = .ok (.iconst 2, 1) := by decide +kernel
theorem d_Tw_tellMove_44 : decode b_Tw_tellMove 44 = .ok (.invokestatic 40, 3) := by decide +kernel
theorem d_Tw_tellMove_47 : decode b_Tw_tellMove 47 = .ok (.goto 9, 3) := by decide +kernel
theorem d_Tw_tellMove_50 : decode b_Tw_tellMove 50 = .ok (.aload_n 0, 1) := by decide +kernel
theorem d_Tw_tellMove_51 : decode b_Tw_tellMove 51 = .ok (.lload_n 1, 1) := by decide +kernel
theorem d_Tw_tellMove_52 : decode b_Tw_tellMove 52 = .ok (.iload_n 3, 1) := by decide +kernel
theorem d_Tw_tellMove_53 : decode b_Tw_tellMove 53 = .ok (.invokevirtual 44, 3) := by decide +kernel
theorem d_Tw_tellMove_56 : decode b_Tw_tellMove 56 = .ok (.ireturn, 1) := by decide +kernel
theorem d_Tw_tellOfFour_0 : decode b_Tw_tellOfFour 0 = .ok (.lload_n 1, 1) := by decide +kernel
theorem d_Tw_tellOfFour_1 : decode b_Tw_tellOfFour 1 = .ok (.lstore 4, 2) := by decide +kernel
theorem d_Tw_tellOfFour_3 : decode b_Tw_tellOfFour 3 = .ok (.aload_n 0, 1) := by decide +kernel
theorem d_Tw_tellOfFour_4 : decode b_Tw_tellOfFour 4 = .ok (.getfield 33, 3) := by decide +kernel
theorem d_Tw_tellOfFour_7 : decode b_Tw_tellOfFour 7 = .ok (.istore 6, 2) := by decide +kernel
theorem d_Tw_tellOfFour_9 : decode b_Tw_tellOfFour 9 = .ok (.iconst 0, 1) := by decide +kernel
theorem d_Tw_tellOfFour_10 : decode b_Tw_tellOfFour 10 = .ok (.istore 7, 2) := by decide +kernel
theorem d_Tw_tellOfFour_12 : decode b_Tw_tellOfFour 12 = .ok (.iconst 1, 1) := by decide +kernel
theorem d_Tw_tellOfFour_13 : decode b_Tw_tellOfFour 13 = .ok (.istore 8, 2) := by decide +kernel
theorem d_Tw_tellOfFour_15 : decode b_Tw_tellOfFour 15 = .ok (.iconst 0, 1) := by decide +kernel
theorem d_Tw_tellOfFour_16 : decode b_Tw_tellOfFour 16 = .ok (.istore 9, 2) := by decide +kernel
theorem d_Tw_tellOfFour_18 : decode b_Tw_tellOfFour 18 = .ok (.iload 9, 2) := by decide +kernel
theorem d_Tw_tellOfFour_20 : decode b_Tw_tellOfFour 20 = .ok (.bipush 40, 2) := by decide +kernel
theorem d_Tw_tellOfFour_22 : decode b_Tw_tellOfFour 22 = .ok (.if_icmp .ge 120, 3) := by decide +kernel
theorem d_Tw_tellOfFour_25 : decode b_Tw_tellOfFour 25 = .ok (.iload 6, 2) := by decide +kernel
theorem d_Tw_tellOfFour_27 : decode b_Tw_tellOfFour 27 = .ok (.ifCond .le 115, 3) := by decide +kernel
theorem d_Tw_tellOfFour_30 : decode b_Tw_tellOfFour 30 = .ok (.aload_n 0, 1) := by decide +kernel
theorem d_Tw_tellOfFour_31 : decode b_Tw_tellOfFour 31 = .ok (.getfield 15, 3) := by decide +kernel
theorem d_Tw_tellOfFour_34 : decode b_Tw_tellOfFour 34 = .ok (.iload 6, 2) := by decide +kernel
theorem d_Tw_tellOfFour_36 : decode b_Tw_tellOfFour 36 = .ok (.iaload, 1) := by decide +kernel
theorem d_Tw_tellOfFour_37 : decode b_Tw_tellOfFour 37 = .ok (.istore 10, 2) := by decide +kernel
theorem d_Tw_tellOfFour_39 : decode b_Tw_tellOfFour 39 = .ok (.iload 7, 2) := by decide +kernel
theorem d_Tw_tellOfFour_41 : decode b_Tw_tellOfFour 41 = .ok (.iload 8, 2) := by decide +kernel
theorem d_Tw_tellOfFour_43 : decode b_Tw_tellOfFour 43 = .ok (.invokestatic 48, 3) := by decide +kernel
theorem d_Tw_tellOfFour_46 : decode b_Tw_tellOfFour 46 = .ok (.istore 11, 2) := by decide +kernel
theorem d_Tw_tellOfFour_48 : decode b_Tw_tellOfFour 48 = .ok (.lload 4, 2) := by decide +kernel
theorem d_Tw_tellOfFour_50 : decode b_Tw_tellOfFour 50 = .ok (.aload_n 0, 1) := by decide +kernel
theorem d_Tw_tellOfFour_51 : decode b_Tw_tellOfFour 51 = .ok (.getfield 11, 3) := by decide +kernel
theorem d_Tw_tellOfFour_54 : decode b_Tw_tellOfFour 54 = .ok (.iload 10, 2) := by decide +kernel
theorem d_Tw_tellOfFour_56 : decode b_Tw_tellOfFour 56 = .ok (.laload, 1) := by decide +kernel
theorem d_Tw_tellOfFour_57 : decode b_Tw_tellOfFour 57 = .ok (.lsub, 1) := by decide +kernel
theorem d_Tw_tellOfFour_58 : decode b_Tw_tellOfFour 58 = .ok (.lstore 12, 2) := by decide +kernel
theorem d_Tw_tellOfFour_60 : decode b_Tw_tellOfFour 60 = .ok (.lload 12, 2) := by decide +kernel
theorem d_Tw_tellOfFour_62 : decode b_Tw_tellOfFour 62 = .ok (.iload 6, 2) := by decide +kernel
theorem d_Tw_tellOfFour_64 : decode b_Tw_tellOfFour 64 = .ok (.iload 10, 2) := by decide +kernel
theorem d_Tw_tellOfFour_66 : decode b_Tw_tellOfFour 66 = .ok (.isub, 1) := by decide +kernel
theorem d_Tw_tellOfFour_67 : decode b_Tw_tellOfFour 67 = .ok (.invokestatic 29, 3) := by decide +kernel
theorem d_Tw_tellOfFour_70 : decode b_Tw_tellOfFour 70 = .ok (.lsub, 1) := by decide +kernel
theorem d_Tw_tellOfFour_71 : decode b_Tw_tellOfFour 71 = .ok (.lstore 14, 2) := by decide +kernel
theorem d_Tw_tellOfFour_73 : decode b_Tw_tellOfFour 73 = .ok (.lload 12, 2) := by decide +kernel
theorem d_Tw_tellOfFour_75 : decode b_Tw_tellOfFour 75 = .ok (.lconst 0, 1) := by decide +kernel
theorem d_Tw_tellOfFour_76 : decode b_Tw_tellOfFour 76 = .ok (.lcmp, 1) := by decide +kernel
theorem d_Tw_tellOfFour_77 : decode b_Tw_tellOfFour 77 = .ok (.ifCond .ge 10, 3) := by decide +kernel
theorem d_Tw_tellOfFour_80 : decode b_Tw_tellOfFour 80 = .ok (.iload 11, 2) := by decide +kernel
theorem d_Tw_tellOfFour_82 : decode b_Tw_tellOfFour 82 = .ok (.istore 8, 2) := by decide +kernel
theorem d_Tw_tellOfFour_84 : decode b_Tw_tellOfFour 84 = .ok (.goto 48, 3) := by decide +kernel
theorem d_Tw_tellOfFour_87 : decode b_Tw_tellOfFour 87 = .ok (.lload 14, 2) := by decide +kernel
theorem d_Tw_tellOfFour_89 : decode b_Tw_tellOfFour 89 = .ok (.lconst 0, 1) := by decide +kernel
theorem d_Tw_tellOfFour_90 : decode b_Tw_tellOfFour 90 = .ok (.lcmp, 1) := by decide +kernel
theorem d_Tw_tellOfFour_91 : decode b_Tw_tellOfFour 91 = .ok (.ifCond .ge 33, 3) := by decide +kernel
theorem d_Tw_tellOfFour_94 : decode b_Tw_tellOfFour 94 = .ok (.bipush 6, 2) := by decide +kernel
theorem d_Tw_tellOfFour_96 : decode b_Tw_tellOfFour 96 = .ok (.iload 7, 2) := by decide +kernel
theorem d_Tw_tellOfFour_98 : decode b_Tw_tellOfFour 98 = .ok (.isub, 1) := by decide +kernel
theorem d_Tw_tellOfFour_99 : decode b_Tw_tellOfFour 99 = .ok (.iload 8, 2) := by decide +kernel
theorem d_Tw_tellOfFour_101 : decode b_Tw_tellOfFour 101 = .ok (.isub, 1) := by decide +kernel
theorem d_Tw_tellOfFour_102 : decode b_Tw_tellOfFour 102 = .ok (.iload 11, 2) := by decide +kernel
theorem d_Tw_tellOfFour_104 : decode b_Tw_tellOfFour 104 = .ok (.isub, 1) := by decide +kernel
theorem d_Tw_tellOfFour_105 : decode b_Tw_tellOfFour 105 = .ok (.istore 16, 2) := by decide +kernel
theorem d_Tw_tellOfFour_107 : decode b_Tw_tellOfFour 107 = .ok (.lload 12, 2) := by decide +kernel
theorem d_Tw_tellOfFour_109 : decode b_Tw_tellOfFour 109 = .ok (.iload_n 3, 1) := by decide +kernel
theorem d_Tw_tellOfFour_110 : decode b_Tw_tellOfFour 110 = .ok (.iload 10, 2) := by decide +kernel
theorem d_Tw_tellOfFour_112 : decode b_Tw_tellOfFour 112 = .ok (.iload 6, 2) := by decide +kernel
theorem d_Tw_tellOfFour_114 : decode b_Tw_tellOfFour 114 = .ok (.iload 7, 2) := by decide +kernel
theorem d_Tw_tellOfFour_116 : decode b_Tw_tellOfFour 116 = .ok (.iload 8, 2) := by decide +kernel
theorem d_Tw_tellOfFour_118 : decode b_Tw_tellOfFour 118 = .ok (.iload 16, 2) := by decide +kernel
theorem d_Tw_tellOfFour_120 : decode b_Tw_tellOfFour 120 = .ok (.invokestatic 40, 3) := by decide +kernel
theorem d_Tw_tellOfFour_123 : decode b_Tw_tellOfFour 123 = .ok (.ireturn, 1) := by decide +kernel
theorem d_Tw_tellOfFour_124 : decode b_Tw_tellOfFour 124 = .ok (.lload 14, 2) := by decide +kernel
theorem d_Tw_tellOfFour_126 : decode b_Tw_tellOfFour 126 = .ok (.lstore 4, 2) := by decide +kernel
theorem d_Tw_tellOfFour_128 : decode b_Tw_tellOfFour 128 = .ok (.iload 11, 2) := by decide +kernel
theorem d_Tw_tellOfFour_130 : decode b_Tw_tellOfFour 130 = .ok (.istore 7, 2) := by decide +kernel
theorem d_Tw_tellOfFour_132 : decode b_Tw_tellOfFour 132 = .ok (.iload 10, 2) := by decide +kernel
theorem d_Tw_tellOfFour_134 : decode b_Tw_tellOfFour 134 = .ok (.istore 6, 2) := by decide +kernel
theorem d_Tw_tellOfFour_136 : decode b_Tw_tellOfFour 136 = .ok (.iinc 9 1, 3) := by decide +kernel
theorem d_Tw_tellOfFour_139 : decode b_Tw_tellOfFour 139 = .ok (.goto (-121), 3) := by decide +kernel
theorem d_Tw_tellOfFour_142 : decode b_Tw_tellOfFour 142 = .ok (.iconst (-1), 1) := by decide +kernel
theorem d_Tw_tellOfFour_143 : decode b_Tw_tellOfFour 143 = .ok (.ireturn, 1) := by decide +kernel
theorem d_Tw_tellOfThree_0 : decode b_Tw_tellOfThree 0 = .ok (.lload_n 0, 1) := by decide +kernel
theorem d_Tw_tellOfThree_1 : decode b_Tw_tellOfThree 1 = .ok (.lstore 8, 2) := by decide +kernel
theorem d_Tw_tellOfThree_3 : decode b_Tw_tellOfThree 3 = .ok (.iload 5, 2) := by decide +kernel
theorem d_Tw_tellOfThree_5 : decode b_Tw_tellOfThree 5 = .ok (.istore 10, 2) := by decide +kernel
theorem d_Tw_tellOfThree_7 : decode b_Tw_tellOfThree 7 = .ok (.iload 6, 2) := by decide +kernel
theorem d_Tw_tellOfThree_9 : decode b_Tw_tellOfThree 9 = .ok (.istore 11, 2) := by decide +kernel
theorem d_Tw_tellOfThree_11 : decode b_Tw_tellOfThree 11 = .ok (.iload 7, 2) := by decide +kernel
theorem d_Tw_tellOfThree_13 : decode b_Tw_tellOfThree 13 = .ok (.istore 12, 2) := by decide +kernel
theorem d_Tw_tellOfThree_15 : decode b_Tw_tellOfThree 15 = .ok (.iload 4, 2) := by decide +kernel
theorem d_Tw_tellOfThree_17 : decode b_Tw_tellOfThree 17 = .ok (.iconst 1, 1) := by decide +kernel
theorem d_Tw_tellOfThree_18 : decode b_Tw_tellOfThree 18 = .ok (.isub, 1) := by decide +kernel
theorem d_Tw_tellOfThree_19 : decode b_Tw_tellOfThree 19 = .ok (.istore 13, 2) := by decide +kernel
theorem d_Tw_tellOfThree_21 : decode b_Tw_tellOfThree 21 = .ok (.iload 13, 2) := by decide +kernel
theorem d_Tw_tellOfThree_23 : decode b_Tw_tellOfThree 23 = .ok (.iload_n 3, 1) := by decide +kernel
theorem d_Tw_tellOfThree_24 : decode b_Tw_tellOfThree 24 = .ok (.if_icmp .lt 88, 3) := by decide +kernel
theorem d_Tw_tellOfThree_27 : decode b_Tw_tellOfThree 27 = .ok (.iload 13, 2) := by decide +kernel
theorem d_Tw_tellOfThree_29 : decode b_Tw_tellOfThree 29 = .ok (.iload_n 3, 1) := by decide +kernel
theorem d_Tw_tellOfThree_30 : decode b_Tw_tellOfThree 30 = .ok (.isub, 1) := by decide +kernel
theorem d_Tw_tellOfThree_31 : decode b_Tw_tellOfThree 31 = .ok (.invokestatic 29, 3) := by decide +kernel
theorem d_Tw_tellOfThree_34 : decode b_Tw_tellOfThree 34 = .ok (.lstore 14, 2) := by decide +kernel
theorem d_Tw_tellOfThree_36 : decode b_Tw_tellOfThree 36 = .ok (.lload 8, 2) := by decide +kernel
theorem d_Tw_tellOfThree_38 : decode b_Tw_tellOfThree 38 = .ok (.lload 14, 2) := by decide +kernel
theorem d_Tw_tellOfThree_40 : decode b_Tw_tellOfThree 40 = .ok (.lcmp, 1) := by decide +kernel
theorem d_Tw_tellOfThree_41 : decode b_Tw_tellOfThree 41 = .ok (.ifCond .ne 25, 3) := by decide +kernel
theorem d_Tw_tellOfThree_44 : decode b_Tw_tellOfThree 44 = .ok (.iload_n 2, 1) := by decide +kernel
theorem d_Tw_tellOfThree_45 : decode b_Tw_tellOfThree 45 = .ok (.ifCond .ne 8, 3) := by decide +kernel
theorem d_Tw_tellOfThree_48 : decode b_Tw_tellOfThree 48 = .ok (.iload 13, 2) := by decide +kernel
theorem d_Tw_tellOfThree_50 : decode b_Tw_tellOfThree 50 = .ok (.goto 15, 3) := by decide +kernel
theorem d_Tw_tellOfThree_53 : decode b_Tw_tellOfThree 53 = .ok (.iload_n 2, 1) := by decide +kernel
theorem d_Tw_tellOfThree_54 : decode b_Tw_tellOfThree 54 = .ok (.iconst 1, 1) := by decide +kernel
theorem d_Tw_tellOfThree_55 : decode b_Tw_tellOfThree 55 = .ok (.if_icmp .ne 8, 3) := by decide +kernel
theorem d_Tw_tellOfThree_58 : decode b_Tw_tellOfThree 58 = .ok (.iload 10, 2) := by decide +kernel
theorem d_Tw_tellOfThree_60 : decode b_Tw_tellOfThree 60 = .ok (.goto 5, 3) := by decide +kernel
theorem d_Tw_tellOfThree_63 : decode b_Tw_tellOfThree 63 = .ok (.iload 11, 2) := by decide +kernel
theorem d_Tw_tellOfThree_65 : decode b_Tw_tellOfThree 65 = .ok (.ireturn, 1) := by decide +kernel
theorem d_Tw_tellOfThree_66 : decode b_Tw_tellOfThree 66 = .ok (.iload 12, 2) := by decide +kernel
theorem d_Tw_tellOfThree_68 : decode b_Tw_tellOfThree 68 = .ok (.istore 16, 2) := by decide +kernel
theorem d_Tw_tellOfThree_70 : decode b_Tw_tellOfThree 70 = .ok (.lload 8, 2) := by decide +kernel
theorem d_Tw_tellOfThree_72 : decode b_Tw_tellOfThree 72 = .ok (.lload 14, 2) := by decide +kernel
theorem d_Tw_tellOfThree_74 : decode b_Tw_tellOfThree 74 = .ok (.lcmp, 1) := by decide +kernel
theorem d_Tw_tellOfThree_75 : decode b_Tw_tellOfThree 75 = .ok (.ifCond .ge 14, 3) := by decide +kernel
theorem d_Tw_tellOfThree_78 : decode b_Tw_tellOfThree 78 = .ok (.iload 11, 2) := by decide +kernel
end
section
theorem d_Tw_tellOfThree_80 : decode b_Tw_tellOfThree 80 = .ok (.istore 12, 2) := by decide +kernel
theorem d_Tw_tellOfThree_82 : decode b_Tw_tellOfThree 82 = .ok (.iload 16, 2) := by decide +kernel
theorem d_Tw_tellOfThree_84 : decode b_Tw_tellOfThree 84 = .ok (.istore 11, 2) := by decide +kernel
theorem d_Tw_tellOfThree_86 : decode b_Tw_tellOfThree 86 = .ok (.goto 20, 3) := by decide +kernel
theorem d_Tw_tellOfThree_89 : decode b_Tw_tellOfThree 89 = .ok (.lload 8, 2) := by decide +kernel
theorem d_Tw_tellOfThree_91 : decode b_Tw_tellOfThree 91 = .ok (.lload 14, 2) := by decide +kernel
theorem d_Tw_tellOfThree_93 : decode b_Tw_tellOfThree 93 = .ok (.lconst 1, 1) := by decide +kernel
theorem d_Tw_tellOfThree_94 : decode b_Tw_tellOfThree 94 = .ok (.ladd, 1) := by decide +kernel
theorem d_Tw_tellOfThree_95 : decode b_Tw_tellOfThree 95 = .ok (.lsub, 1) := by decide +kernel
theorem d_Tw_tellOfThree_96 : decode b_Tw_tellOfThree 96 = .ok (.lstore 8, 2) := by decide +kernel
theorem d_Tw_tellOfThree_98 : decode b_Tw_tellOfThree 98 = .ok (.iload 10, 2) := by decide +kernel
theorem d_Tw_tellOfThree_100 : decode b_Tw_tellOfThree 100 = .ok (.istore 12, 2) := by decide +kernel
theorem d_Tw_tellOfThree_102 : decode b_Tw_tellOfThree 102 = .ok (.iload 16, 2) := by decide +kernel
theorem d_Tw_tellOfThree_104 : decode b_Tw_tellOfThree 104 = .ok (.istore 10, 2) := by decide +kernel
theorem d_Tw_tellOfThree_106 : decode b_Tw_tellOfThree 106 = .ok (.iinc 13 (-1), 3) := by decide +kernel
theorem d_Tw_tellOfThree_109 : decode b_Tw_tellOfThree 109 = .ok (.goto (-88), 3) := by decide +kernel
theorem d_Tw_tellOfThree_112 : decode b_Tw_tellOfThree 112 = .ok (.iconst (-1), 1) := by decide +kernel
theorem d_Tw_tellOfThree_113 : decode b_Tw_tellOfThree 113 = .ok (.ireturn, 1) := by decide +kernel
theorem d_Tw_threePegMoves_0 : decode b_Tw_threePegMoves 0 = .ok (.lconst 1, 1) := by decide +kernel
theorem d_Tw_threePegMoves_1 : decode b_Tw_threePegMoves 1 = .ok (.iload_n 0, 1) := by decide +kernel
theorem d_Tw_threePegMoves_2 : decode b_Tw_threePegMoves 2 = .ok (.lshl, 1) := by decide +kernel
theorem d_Tw_threePegMoves_3 : decode b_Tw_threePegMoves 3 = .ok (.lconst 1, 1) := by decide +kernel
theorem d_Tw_threePegMoves_4 : decode b_Tw_threePegMoves 4 = .ok (.lsub, 1) := by decide +kernel
theorem d_Tw_threePegMoves_5 : decode b_Tw_threePegMoves 5 = .ok (.lreturn, 1) := by decide +kernel
theorem d_Mo_init_0 : decode b_Mo_init 0 = .ok (.aload_n 0, 1) := by decide +kernel
theorem d_Mo_init_1 : decode b_Mo_init 1 = .ok (.invokespecial 1, 3) := by decide +kernel
theorem d_Mo_init_4 : decode b_Mo_init 4 = .ok (.aload_n 0, 1) := by decide +kernel
theorem d_Mo_init_5 : decode b_Mo_init 5 = .ok (.iconst 4, 1) := by decide +kernel
theorem d_Mo_init_6 : decode b_Mo_init 6 = .ok (.newarray .int, 2) := by decide +kernel
theorem d_Mo_init_8 : decode b_Mo_init 8 = .ok (.putfield 7, 3) := by decide +kernel
theorem d_Mo_init_11 : decode b_Mo_init 11 = .ok (.aload_n 0, 1) := by decide +kernel
theorem d_Mo_init_12 : decode b_Mo_init 12 = .ok (.iconst 4, 1) := by decide +kernel
theorem d_Mo_init_13 : decode b_Mo_init 13 = .ok (.newarray .int, 2) := by decide +kernel
theorem d_Mo_init_15 : decode b_Mo_init 15 = .ok (.putfield 13, 3) := by decide +kernel
theorem d_Mo_init_18 : decode b_Mo_init 18 = .ok (.aload_n 0, 1) := by decide +kernel
theorem d_Mo_init_19 : decode b_Mo_init 19 = .ok (.iconst 4, 1) := by decide +kernel
theorem d_Mo_init_20 : decode b_Mo_init 20 = .ok (.newarray .int, 2) := by decide +kernel
theorem d_Mo_init_22 : decode b_Mo_init 22 = .ok (.putfield 16, 3) := by decide +kernel
theorem d_Mo_init_25 : decode b_Mo_init 25 = .ok (.aload_n 0, 1) := by decide +kernel
theorem d_Mo_init_26 : decode b_Mo_init 26 = .ok (.bipush 100, 2) := by decide +kernel
theorem d_Mo_init_28 : decode b_Mo_init 28 = .ok (.newarray .int, 2) := by decide +kernel
theorem d_Mo_init_30 : decode b_Mo_init 30 = .ok (.putfield 19, 3) := by decide +kernel
theorem d_Mo_init_33 : decode b_Mo_init 33 = .ok (.aload_n 0, 1) := by decide +kernel
theorem d_Mo_init_34 : decode b_Mo_init 34 = .ok (.sipush 10000, 3) := by decide +kernel
theorem d_Mo_init_37 : decode b_Mo_init 37 = .ok (.newarray .int, 2) := by decide +kernel
theorem d_Mo_init_39 : decode b_Mo_init 39 = .ok (.putfield 22, 3) := by decide +kernel
theorem d_Mo_init_42 : decode b_Mo_init 42 = .ok (.aload_n 0, 1) := by decide +kernel
theorem d_Mo_init_43 : decode b_Mo_init 43 = .ok (.sipush 10000, 3) := by decide +kernel
theorem d_Mo_init_46 : decode b_Mo_init 46 = .ok (.newarray .int, 2) := by decide +kernel
theorem d_Mo_init_48 : decode b_Mo_init 48 = .ok (.putfield 25, 3) := by decide +kernel
theorem d_Mo_init_51 : decode b_Mo_init 51 = .ok (.aload_n 0, 1) := by decide +kernel
theorem d_Mo_init_52 : decode b_Mo_init 52 = .ok (.sipush 10000, 3) := by decide +kernel
theorem d_Mo_init_55 : decode b_Mo_init 55 = .ok (.newarray .int, 2) := by decide +kernel
theorem d_Mo_init_57 : decode b_Mo_init 57 = .ok (.putfield 28, 3) := by decide +kernel
theorem d_Mo_init_60 : decode b_Mo_init 60 = .ok (.aload_n 0, 1) := by decide +kernel
theorem d_Mo_init_61 : decode b_Mo_init 61 = .ok (.sipush 10000, 3) := by decide +kernel
theorem d_Mo_init_64 : decode b_Mo_init 64 = .ok (.newarray .int, 2) := by decide +kernel
theorem d_Mo_init_66 : decode b_Mo_init 66 = .ok (.putfield 31, 3) := by decide +kernel
theorem d_Mo_init_69 : decode b_Mo_init 69 = .ok (.aload_n 0, 1) := by decide +kernel
theorem d_Mo_init_70 : decode b_Mo_init 70 = .ok (.sipush 10000, 3) := by decide +kernel
theorem d_Mo_init_73 : decode b_Mo_init 73 = .ok (.newarray .int, 2) := by decide +kernel
theorem d_Mo_init_75 : decode b_Mo_init 75 = .ok (.putfield 34, 3) := by decide +kernel
theorem d_Mo_init_78 : decode b_Mo_init 78 = .ok (.aload_n 0, 1) := by decide +kernel
theorem d_Mo_init_79 : decode b_Mo_init 79 = .ok (.sipush 10000, 3) := by decide +kernel
theorem d_Mo_init_82 : decode b_Mo_init 82 = .ok (.newarray .int, 2) := by decide +kernel
theorem d_Mo_init_84 : decode b_Mo_init 84 = .ok (.putfield 37, 3) := by decide +kernel
theorem d_Mo_init_87 : decode b_Mo_init 87 = .ok (.aload_n 0, 1) := by decide +kernel
theorem d_Mo_init_88 : decode b_Mo_init 88 = .ok (.sipush 10000, 3) := by decide +kernel
theorem d_Mo_init_91 : decode b_Mo_init 91 = .ok (.newarray .boolean, 2) := by decide +kernel
theorem d_Mo_init_93 : decode b_Mo_init 93 = .ok (.putfield 40, 3) := by decide +kernel
theorem d_Mo_init_96 : decode b_Mo_init 96 = .ok (.aload_n 0, 1) := by decide +kernel
theorem d_Mo_init_97 : decode b_Mo_init 97 = .ok (.iconst 4, 1) := by decide +kernel
theorem d_Mo_init_98 : decode b_Mo_init 98 = .ok (.newarray .int, 2) := by decide +kernel
theorem d_Mo_init_100 : decode b_Mo_init 100 = .ok (.putfield 44, 3) := by decide +kernel
theorem d_Mo_init_103 : decode b_Mo_init 103 = .ok (.aload_n 0, 1) := by decide +kernel
theorem d_Mo_init_104 : decode b_Mo_init 104 = .ok (.bipush 8, 2) := by decide +kernel
theorem d_Mo_init_106 : decode b_Mo_init 106 = .ok (.newarray .int, 2) := by decide +kernel
theorem d_Mo_init_108 : decode b_Mo_init 108 = .ok (.putfield 47, 3) := by decide +kernel
theorem d_Mo_init_111 : decode b_Mo_init 111 = .ok (.aload_n 0, 1) := by decide +kernel
theorem d_Mo_init_112 : decode b_Mo_init 112 = .ok (.bipush 8, 2) := by decide +kernel
theorem d_Mo_init_114 : decode b_Mo_init 114 = .ok (.newarray .int, 2) := by decide +kernel
theorem d_Mo_init_116 : decode b_Mo_init 116 = .ok (.putfield 50, 3) := by decide +kernel
theorem d_Mo_init_119 : decode b_Mo_init 119 = .ok (.aload_n 0, 1) := by decide +kernel
theorem d_Mo_init_120 : decode b_Mo_init 120 = .ok (.iconst 3, 1) := by decide +kernel
theorem d_Mo_init_121 : decode b_Mo_init 121 = .ok (.putfield 53, 3) := by decide +kernel
theorem d_Mo_init_124 : decode b_Mo_init 124 = .ok (.aload_n 0, 1) := by decide +kernel
theorem d_Mo_init_125 : decode b_Mo_init 125 = .ok (.bipush 41, 2) := by decide +kernel
theorem d_Mo_init_127 : decode b_Mo_init 127 = .ok (.newarray .long, 2) := by decide +kernel
theorem d_Mo_init_129 : decode b_Mo_init 129 = .ok (.putfield 57, 3) := by decide +kernel
theorem d_Mo_init_132 : decode b_Mo_init 132 = .ok (.aload_n 0, 1) := by decide +kernel
theorem d_Mo_init_133 : decode b_Mo_init 133 = .ok (.bipush 41, 2) := by decide +kernel
theorem d_Mo_init_135 : decode b_Mo_init 135 = .ok (.newarray .int, 2) := by decide +kernel
theorem d_Mo_init_137 : decode b_Mo_init 137 = .ok (.putfield 61, 3) := by decide +kernel
theorem d_Mo_init_140 : decode b_Mo_init 140 = .ok (.iconst 1, 1) := by decide +kernel
theorem d_Mo_init_141 : decode b_Mo_init 141 = .ok (.istore_n 1, 1) := by decide +kernel
theorem d_Mo_init_142 : decode b_Mo_init 142 = .ok (.iload_n 1, 1) := by decide +kernel
theorem d_Mo_init_143 : decode b_Mo_init 143 = .ok (.bipush 40, 2) := by decide +kernel
theorem d_Mo_init_145 : decode b_Mo_init 145 = .ok (.if_icmp .gt 77, 3) := by decide +kernel
theorem d_Mo_init_148 : decode b_Mo_init 148 = .ok (.aload_n 0, 1) := by decide +kernel
theorem d_Mo_init_149 : decode b_Mo_init 149 = .ok (.getfield 57, 3) := by decide +kernel
theorem d_Mo_init_152 : decode b_Mo_init 152 = .ok (.iload_n 1, 1) := by decide +kernel
theorem d_Mo_init_153 : decode b_Mo_init 153 = .ok (.ldc2_w 64, 3) := by decide +kernel
theorem d_Mo_init_156 : decode b_Mo_init 156 = .ok (.lastore, 1) := by decide +kernel
theorem d_Mo_init_157 : decode b_Mo_init 157 = .ok (.iconst 0, 1) := by decide +kernel
theorem d_Mo_init_158 : decode b_Mo_init 158 = .ok (.istore_n 2, 1) := by decide +kernel
theorem d_Mo_init_159 : decode b_Mo_init 159 = .ok (.iload_n 2, 1) := by decide +kernel
theorem d_Mo_init_160 : decode b_Mo_init 160 = .ok (.iload_n 1, 1) := by decide +kernel
theorem d_Mo_init_161 : decode b_Mo_init 161 = .ok (.if_icmp .ge 55, 3) := by decide +kernel
theorem d_Mo_init_164 : decode b_Mo_init 164 = .ok (.ldc2_w 66, 3) := by decide +kernel
theorem d_Mo_init_167 : decode b_Mo_init 167 = .ok (.aload_n 0, 1) := by decide +kernel
theorem d_Mo_init_168 : decode b_Mo_init 168 = .ok (.getfield 57, 3) := by decide +kernel
theorem d_Mo_init_171 : decode b_Mo_init 171 = .ok (.iload_n 2, 1) := by decide +kernel
theorem d_Mo_init_172 : decode b_Mo_init 172 = .ok (.laload, 1) := by decide +kernel
theorem d_Mo_init_173 : decode b_Mo_init 173 = .ok (.lmul, 1) := by decide +kernel
theorem d_Mo_init_174 : decode b_Mo_init 174 = .ok (.iload_n 1, 1) := by decide +kernel
theorem d_Mo_init_175 : decode b_Mo_init 175 = .ok (.iload_n 2, 1) := by decide +kernel
theorem d_Mo_init_176 : decode b_Mo_init 176 = .ok (.isub, 1) := by decide +kernel
theorem d_Mo_init_177 : decode b_Mo_init 177 = .ok (.invokestatic 68, 3) := by decide +kernel
theorem d_Mo_init_180 : decode b_Mo_init 180 = .ok (.ladd, 1) := by decide +kernel
theorem d_Mo_init_181 : decode b_Mo_init 181 = .ok (.lstore_n 3, 1) := by decide +kernel
theorem d_Mo_init_182 : decode b_Mo_init 182 = .ok (.lload_n 3, 1) := by decide +kernel
theorem d_Mo_init_183 : decode b_Mo_init 183 = .ok (.aload_n 0, 1) := by decide +kernel
theorem d_Mo_init_184 : decode b_Mo_init 184 = .ok (.getfield 57, 3) := by decide +kernel
theorem d_Mo_init_187 : decode b_Mo_init 187 = .ok (.iload_n 1, 1) := by decide +kernel
theorem d_Mo_init_188 : decode b_Mo_init 188 = .ok (.laload, 1) := by decide +kernel
theorem d_Mo_init_189 : decode b_Mo_init 189 = .ok (.lcmp, 1) := by decide +kernel
theorem d_Mo_init_190 : decode b_Mo_init 190 = .ok (.ifCond .lt 6, 3) := by decide +kernel
theorem d_Mo_init_193 : decode b_Mo_init 193 = .ok (.goto 17, 3) := by decide +kernel
theorem d_Mo_init_196 : decode b_Mo_init 196 = .ok (.aload_n 0, 1) := by decide +kernel
theorem d_Mo_init_197 : decode b_Mo_init 197 = .ok (.getfield 57, 3) := by decide +kernel
theorem d_Mo_init_200 : decode b_Mo_init 200 = .ok (.iload_n 1, 1) := by decide +kernel
theorem d_Mo_init_201 : decode b_Mo_init 201 = .ok (.lload_n 3, 1) := by decide +kernel
theorem d_Mo_init_202 : decode b_Mo_init 202 = .ok (.lastore, 1) := by decide +kernel
theorem d_Mo_init_203 : decode b_Mo_init 203 = .ok (.aload_n 0, 1) := by decide +kernel
theorem d_Mo_init_204 : decode b_Mo_init 204 = .ok (.getfield 61, 3) := by decide +kernel
theorem d_Mo_init_207 : decode b_Mo_init 207 = .ok (.iload_n 1, 1) := by decide +kernel
theorem d_Mo_init_208 : decode b_Mo_init 208 = .ok (.iload_n 2, 1) := by decide +kernel
theorem d_Mo_init_209 : decode b_Mo_init 209 = .ok (.iastore, 1) := by decide +kernel
theorem d_Mo_init_210 : decode b_Mo_init 210 = .ok (.iinc 2 1, 3) := by decide +kernel
theorem d_Mo_init_213 : decode b_Mo_init 213 = .ok (.goto (-54), 3) := by decide +kernel
theorem d_Mo_init_216 : decode b_Mo_init 216 = .ok (.iinc 1 1, 3) := by decide +kernel
theorem d_Mo_init_219 : decode b_Mo_init 219 = .ok (.goto (-77), 3) := by decide +kernel
theorem d_Mo_init_222 : decode b_Mo_init 222 = .ok (.return_, 1) := by decide +kernel
theorem d_Mo_all_0 : decode b_Mo_all 0 = .ok (.aload_n 0, 1) := by decide +kernel
theorem d_Mo_all_1 : decode b_Mo_all 1 = .ok (.getfield 53, 3) := by decide +kernel
theorem d_Mo_all_4 : decode b_Mo_all 4 = .ok (.iconst 3, 1) := by decide +kernel
theorem d_Mo_all_5 : decode b_Mo_all 5 = .ok (.if_icmp .ne 13, 3) := by decide +kernel
theorem d_Mo_all_8 : decode b_Mo_all 8 = .ok (.aload_n 0, 1) := by decide +kernel
theorem d_Mo_all_9 : decode b_Mo_all 9 = .ok (.getfield 137, 3) := by decide +kernel
theorem d_Mo_all_12 : decode b_Mo_all 12 = .ok (.invokestatic 68, 3) := by decide +kernel
theorem d_Mo_all_15 : decode b_Mo_all 15 = .ok (.goto 12, 3) := by decide +kernel
theorem d_Mo_all_18 : decode b_Mo_all 18 = .ok (.aload_n 0, 1) := by decide +kernel
theorem d_Mo_all_19 : decode b_Mo_all 19 = .ok (.getfield 57, 3) := by decide +kernel
theorem d_Mo_all_22 : decode b_Mo_all 22 = .ok (.aload_n 0, 1) := by decide +kernel
theorem d_Mo_all_23 : decode b_Mo_all 23 = .ok (.getfield 137, 3) := by decide +kernel
theorem d_Mo_all_26 : decode b_Mo_all 26 = .ok (.laload, 1) := by decide +kernel
theorem d_Mo_all_27 : decode b_Mo_all 27 = .ok (.lreturn, 1) := by decide +kernel
theorem d_Mo_begin_0 : decode b_Mo_begin 0 = .ok (.iconst 0, 1) := by decide +kernel
theorem d_Mo_begin_1 : decode b_Mo_begin 1 = .ok (.istore_n 2, 1) := by decide +kernel
theorem d_Mo_begin_2 : decode b_Mo_begin 2 = .ok (.iload_n 2, 1) := by decide +kernel
theorem d_Mo_begin_3 : decode b_Mo_begin 3 = .ok (.sipush 10000, 3) := by decide +kernel
theorem d_Mo_begin_6 : decode b_Mo_begin 6 = .ok (.if_icmp .ge 16, 3) := by decide +kernel
theorem d_Mo_begin_9 : decode b_Mo_begin 9 = .ok (.aload_n 0, 1) := by decide +kernel
theorem d_Mo_begin_10 : decode b_Mo_begin 10 = .ok (.getfield 40, 3) := by decide +kernel
theorem d_Mo_begin_13 : decode b_Mo_begin 13 = .ok (.iload_n 2, 1) := by decide +kernel
theorem d_Mo_begin_14 : decode b_Mo_begin 14 = .ok (.iconst 0, 1) := by decide +kernel
theorem d_Mo_begin_15 : decode b_Mo_begin 15 = .ok (.bastore, 1) := by decide +kernel
theorem d_Mo_begin_16 : decode b_Mo_begin 16 = .ok (.iinc 2 1, 3) := by decide +kernel
theorem d_Mo_begin_19 : decode b_Mo_begin 19 = .ok (.goto (-17), 3) := by decide +kernel
theorem d_Mo_begin_22 : decode b_Mo_begin 22 = .ok (.aload_n 0, 1) := by decide +kernel
theorem d_Mo_begin_23 : decode b_Mo_begin 23 = .ok (.iconst 0, 1) := by decide +kernel
theorem d_Mo_begin_24 : decode b_Mo_begin 24 = .ok (.putfield 85, 3) := by decide +kernel
theorem d_Mo_begin_27 : decode b_Mo_begin 27 = .ok (.aload_n 0, 1) := by decide +kernel
theorem d_Mo_begin_28 : decode b_Mo_begin 28 = .ok (.iload_n 1, 1) := by decide +kernel
theorem d_Mo_begin_29 : decode b_Mo_begin 29 = .ok (.iconst (-1), 1) := by decide +kernel
theorem d_Mo_begin_30 : decode b_Mo_begin 30 = .ok (.iconst 0, 1) := by decide +kernel
theorem d_Mo_begin_31 : decode b_Mo_begin 31 = .ok (.iconst 0, 1) := by decide +kernel
theorem d_Mo_begin_32 : decode b_Mo_begin 32 = .ok (.invokevirtual 88, 3) := by decide +kernel
theorem d_Mo_begin_35 : decode b_Mo_begin 35 = .ok (.return_, 1) := by decide +kernel
theorem d_Mo_byteAt_0 : decode b_Mo_byteAt 0 = .ok (.iload_n 1, 1) := by decide +kernel
theorem d_Mo_byteAt_1 : decode b_Mo_byteAt 1 = .ok (.aload_n 0, 1) := by decide +kernel
theorem d_Mo_byteAt_2 : decode b_Mo_byteAt 2 = .ok (.getfield 111, 3) := by decide +kernel
theorem d_Mo_byteAt_5 : decode b_Mo_byteAt 5 = .ok (.if_icmp .ge 12, 3) := by decide +kernel
theorem d_Mo_byteAt_8 : decode b_Mo_byteAt 8 = .ok (.aload_n 0, 1) := by decide +kernel
theorem d_Mo_byteAt_9 : decode b_Mo_byteAt 9 = .ok (.getfield 19, 3) := by decide +kernel
theorem d_Mo_byteAt_12 : decode b_Mo_byteAt 12 = .ok (.iload_n 1, 1) := by decide +kernel
theorem d_Mo_byteAt_13 : decode b_Mo_byteAt 13 = .ok (.iaload, 1) := by decide +kernel
theorem d_Mo_byteAt_14 : decode b_Mo_byteAt 14 = .ok (.goto 4, 3) := by decide +kernel
theorem d_Mo_byteAt_17 : decode b_Mo_byteAt 17 = .ok (.iconst (-1), 1) := by decide +kernel
theorem d_Mo_byteAt_18 : decode b_Mo_byteAt 18 = .ok (.ireturn, 1) := by decide +kernel
theorem d_Mo_code_0 : decode b_Mo_code 0 = .ok (.aload_n 0, 1) := by decide +kernel
theorem d_Mo_code_1 : decode b_Mo_code 1 = .ok (.getfield 44, 3) := by decide +kernel
theorem d_Mo_code_4 : decode b_Mo_code 4 = .ok (.iconst 0, 1) := by decide +kernel
theorem d_Mo_code_5 : decode b_Mo_code 5 = .ok (.iaload, 1) := by decide +kernel
theorem d_Mo_code_6 : decode b_Mo_code 6 = .ok (.bipush 10, 2) := by decide +kernel
theorem d_Mo_code_8 : decode b_Mo_code 8 = .ok (.aload_n 0, 1) := by decide +kernel
theorem d_Mo_code_9 : decode b_Mo_code 9 = .ok (.getfield 44, 3) := by decide +kernel
theorem d_Mo_code_12 : decode b_Mo_code 12 = .ok (.iconst 1, 1) := by decide +kernel
theorem d_Mo_code_13 : decode b_Mo_code 13 = .ok (.iaload, 1) := by decide +kernel
theorem d_Mo_code_14 : decode b_Mo_code 14 = .ok (.imul, 1) := by decide +kernel
theorem d_Mo_code_15 : decode b_Mo_code 15 = .ok (.iadd, 1) := by decide +kernel
theorem d_Mo_code_16 : decode b_Mo_code 16 = .ok (.bipush 100, 2) := by decide +kernel
theorem d_Mo_code_18 : decode b_Mo_code 18 = .ok (.aload_n 0, 1) := by decide +kernel
theorem d_Mo_code_19 : decode b_Mo_code 19 = .ok (.getfield 44, 3) := by decide +kernel
theorem d_Mo_code_22 : decode b_Mo_code 22 = .ok (.iconst 2, 1) := by decide +kernel
theorem d_Mo_code_23 : decode b_Mo_code 23 = .ok (.iaload, 1) := by decide +kernel
theorem d_Mo_code_24 : decode b_Mo_code 24 = .ok (.imul, 1) := by decide +kernel
theorem d_Mo_code_25 : decode b_Mo_code 25 = .ok (.iadd, 1) := by decide +kernel
theorem d_Mo_code_26 : decode b_Mo_code 26 = .ok (.sipush 1000, 3) := by decide +kernel
theorem d_Mo_code_29 : decode b_Mo_code 29 = .ok (.aload_n 0, 1) := by decide +kernel
theorem d_Mo_code_30 : decode b_Mo_code 30 = .ok (.getfield 44, 3) := by decide +kernel
theorem d_Mo_code_33 : decode b_Mo_code 33 = .ok (.iconst 3, 1) := by decide +kernel
theorem d_Mo_code_34 : decode b_Mo_code 34 = .ok (.iaload, 1) := by decide +kernel
theorem d_Mo_code_35 : decode b_Mo_code 35 = .ok (.imul, 1) := by decide +kernel
theorem d_Mo_code_36 : decode b_Mo_code 36 = .ok (.iadd, 1) := by decide +kernel
theorem d_Mo_code_37 : decode b_Mo_code 37 = .ok (.ireturn, 1) := by decide +kernel
theorem d_Mo_come_0 : decode b_Mo_come 0 = .ok (.aload_n 0, 1) := by decide +kernel
theorem d_Mo_come_1 : decode b_Mo_come 1 = .ok (.getfield 40, 3) := by decide +kernel
theorem d_Mo_come_4 : decode b_Mo_come 4 = .ok (.iload_n 1, 1) := by decide +kernel
theorem d_Mo_come_5 : decode b_Mo_come 5 = .ok (.baload, 1) := by decide +kernel
theorem d_Mo_come_6 : decode b_Mo_come 6 = .ok (.ifCond .eq 4, 3) := by decide +kernel
theorem d_Mo_come_9 : decode b_Mo_come 9 = .ok (.return_, 1) := by decide +kernel
theorem d_Mo_come_10 : decode b_Mo_come 10 = .ok (.aload_n 0, 1) := by decide +kernel
theorem d_Mo_come_11 : decode b_Mo_come 11 = .ok (.getfield 40, 3) := by decide +kernel
theorem d_Mo_come_14 : decode b_Mo_come 14 = .ok (.iload_n 1, 1) := by decide +kernel
theorem d_Mo_come_15 : decode b_Mo_come 15 = .ok (.iconst 1, 1) := by decide +kernel
theorem d_Mo_come_16 : decode b_Mo_come 16 = .ok (.bastore, 1) := by decide +kernel
theorem d_Mo_come_17 : decode b_Mo_come 17 = .ok (.aload_n 0, 1) := by decide +kernel
theorem d_Mo_come_18 : decode b_Mo_come 18 = .ok (.getfield 28, 3) := by decide +kernel
theorem d_Mo_come_21 : decode b_Mo_come 21 = .ok (.aload_n 0, 1) := by decide +kernel
theorem d_Mo_come_22 : decode b_Mo_come 22 = .ok (.getfield 85, 3) := by decide +kernel
theorem d_Mo_come_25 : decode b_Mo_come 25 = .ok (.iload_n 1, 1) := by decide +kernel
theorem d_Mo_come_26 : decode b_Mo_come 26 = .ok (.iastore, 1) := by decide +kernel
theorem d_Mo_come_27 : decode b_Mo_come 27 = .ok (.aload_n 0, 1) := by decide +kernel
theorem d_Mo_come_28 : decode b_Mo_come 28 = .ok (.getfield 31, 3) := by decide +kernel
theorem d_Mo_come_31 : decode b_Mo_come 31 = .ok (.aload_n 0, 1) := by decide +kernel
theorem d_Mo_come_32 : decode b_Mo_come 32 = .ok (.getfield 85, 3) := by decide +kernel
theorem d_Mo_come_35 : decode b_Mo_come 35 = .ok (.iload_n 2, 1) := by decide +kernel
theorem d_Mo_come_36 : decode b_Mo_come 36 = .ok (.iastore, 1) := by decide +kernel
theorem d_Mo_come_37 : decode b_Mo_come 37 = .ok (.aload_n 0, 1) := by decide +kernel
theorem d_Mo_come_38 : decode b_Mo_come 38 = .ok (.getfield 34, 3) := by decide +kernel
theorem d_Mo_come_41 : decode b_Mo_come 41 = .ok (.aload_n 0, 1) := by decide +kernel
theorem d_Mo_come_42 : decode b_Mo_come 42 = .ok (.getfield 85, 3) := by decide +kernel
theorem d_Mo_come_45 : decode b_Mo_come 45 = .ok (.iload_n 3, 1) := by decide +kernel
theorem d_Mo_come_46 : decode b_Mo_come 46 = .ok (.iastore, 1) := by decide +kernel
theorem d_Mo_come_47 : decode b_Mo_come 47 = .ok (.aload_n 0, 1) := by decide +kernel
theorem d_Mo_come_48 : decode b_Mo_come 48 = .ok (.getfield 37, 3) := by decide +kernel
theorem d_Mo_come_51 : decode b_Mo_come 51 = .ok (.aload_n 0, 1) := by decide +kernel
theorem d_Mo_come_52 : decode b_Mo_come 52 = .ok (.getfield 85, 3) := by decide +kernel
theorem d_Mo_come_55 : decode b_Mo_come 55 = .ok (.iload 4, 2) := by decide +kernel
theorem d_Mo_come_57 : decode b_Mo_come 57 = .ok (.iastore, 1) := by decide +kernel
theorem d_Mo_come_58 : decode b_Mo_come 58 = .ok (.aload_n 0, 1) := by decide +kernel
theorem d_Mo_come_59 : decode b_Mo_come 59 = .ok (.dup, 1) := by decide +kernel
theorem d_Mo_come_60 : decode b_Mo_come 60 = .ok (.getfield 85, 3) := by decide +kernel
theorem d_Mo_come_63 : decode b_Mo_come 63 = .ok (.iconst 1, 1) := by decide +kernel
theorem d_Mo_come_64 : decode b_Mo_come 64 = .ok (.iadd, 1) := by decide +kernel
theorem d_Mo_come_65 : decode b_Mo_come 65 = .ok (.putfield 85, 3) := by decide +kernel
theorem d_Mo_come_68 : decode b_Mo_come 68 = .ok (.return_, 1) := by decide +kernel
theorem d_Mo_countOf_0 : decode b_Mo_countOf 0 = .ok (.iconst 0, 1) := by decide +kernel
theorem d_Mo_countOf_1 : decode b_Mo_countOf 1 = .ok (.istore_n 2, 1) := by decide +kernel
theorem d_Mo_countOf_2 : decode b_Mo_countOf 2 = .ok (.iconst 0, 1) := by decide +kernel
theorem d_Mo_countOf_3 : decode b_Mo_countOf 3 = .ok (.istore_n 3, 1) := by decide +kernel
theorem d_Mo_countOf_4 : decode b_Mo_countOf 4 = .ok (.iload_n 3, 1) := by decide +kernel
theorem d_Mo_countOf_5 : decode b_Mo_countOf 5 = .ok (.bipush 8, 2) := by decide +kernel
theorem d_Mo_countOf_7 : decode b_Mo_countOf 7 = .ok (.if_icmp .ge 17, 3) := by decide +kernel
theorem d_Mo_countOf_10 : decode b_Mo_countOf 10 = .ok (.iload_n 2, 1) := by decide +kernel
theorem d_Mo_countOf_11 : decode b_Mo_countOf 11 = .ok (.iload_n 1, 1) := by decide +kernel
theorem d_Mo_countOf_12 : decode b_Mo_countOf 12 = .ok (.iload_n 3, 1) := by decide +kernel
theorem d_Mo_countOf_13 : decode b_Mo_countOf 13 = .ok (.ishr, 1) := by decide +kernel
theorem d_Mo_countOf_14 : decode b_Mo_countOf 14 = .ok (.iconst 1, 1) := by decide +kernel
theorem d_Mo_countOf_15 : decode b_Mo_countOf 15 = .ok (.iand, 1) := by decide +kernel
theorem d_Mo_countOf_16 : decode b_Mo_countOf 16 = .ok (.iadd, 1) := by decide +kernel
theorem d_Mo_countOf_17 : decode b_Mo_countOf 17 = .ok (.istore_n 2, 1) := by decide +kernel
theorem d_Mo_countOf_18 : decode b_Mo_countOf 18 = .ok (.iinc 3 1, 3) := by decide +kernel
theorem d_Mo_countOf_21 : decode b_Mo_countOf 21 = .ok (.goto (-17), 3) := by decide +kernel
theorem d_Mo_countOf_24 : decode b_Mo_countOf 24 = .ok (.iload_n 2, 1) := by decide +kernel
theorem d_Mo_countOf_25 : decode b_Mo_countOf 25 = .ok (.ireturn, 1) := by decide +kernel
theorem d_Mo_crossing_0 : decode b_Mo_crossing 0 = .ok (.aload_n 0, 1) := by decide +kernel
theorem d_Mo_crossing_1 : decode b_Mo_crossing 1 = .ok (.iconst 0, 1) := by decide +kernel
theorem d_Mo_crossing_2 : decode b_Mo_crossing 2 = .ok (.putfield 72, 3) := by decide +kernel
theorem d_Mo_crossing_5 : decode b_Mo_crossing 5 = .ok (.aload_n 0, 1) := by decide +kernel
theorem d_Mo_crossing_6 : decode b_Mo_crossing 6 = .ok (.iconst 0, 1) := by decide +kernel
theorem d_Mo_crossing_7 : decode b_Mo_crossing 7 = .ok (.putfield 78, 3) := by decide +kernel
theorem d_Mo_crossing_10 : decode b_Mo_crossing 10 = .ok (.aload_n 0, 1) := by decide +kernel
theorem d_Mo_crossing_11 : decode b_Mo_crossing 11 = .ok (.invokevirtual 126, 3) := by decide +kernel
theorem d_Mo_crossing_14 : decode b_Mo_crossing 14 = .ok (.istore_n 1, 1) := by decide +kernel
theorem d_Mo_crossing_15 : decode b_Mo_crossing 15 = .ok (.aload_n 0, 1) := by decide +kernel
theorem d_Mo_crossing_16 : decode b_Mo_crossing 16 = .ok (.iconst 0, 1) := by decide +kernel
theorem d_Mo_crossing_17 : decode b_Mo_crossing 17 = .ok (.putfield 111, 3) := by decide +kernel
theorem d_Mo_crossing_20 : decode b_Mo_crossing 20 = .ok (.iload_n 1, 1) := by decide +kernel
theorem d_Mo_crossing_21 : decode b_Mo_crossing 21 = .ok (.ifCond .lt 8, 3) := by decide +kernel
theorem d_Mo_crossing_24 : decode b_Mo_crossing 24 = .ok (.bipush (-2), 2) := by decide +kernel
theorem d_Mo_crossing_26 : decode b_Mo_crossing 26 = .ok (.iload_n 1, 1) := by decide +kernel
theorem d_Mo_crossing_27 : decode b_Mo_crossing 27 = .ok (.isub, 1) := by decide +kernel
theorem d_Mo_crossing_28 : decode b_Mo_crossing 28 = .ok (.ireturn, 1) := by decide +kernel
theorem d_Mo_crossing_29 : decode b_Mo_crossing 29 = .ok (.iconst 1, 1) := by decide +kernel
theorem d_Mo_crossing_30 : decode b_Mo_crossing 30 = .ok (.aload_n 0, 1) := by decide +kernel
theorem d_Mo_crossing_31 : decode b_Mo_crossing 31 = .ok (.getfield 114, 3) := by decide +kernel
theorem d_Mo_crossing_34 : decode b_Mo_crossing 34 = .ok (.ishl, 1) := by decide +kernel
theorem d_Mo_crossing_35 : decode b_Mo_crossing 35 = .ok (.iconst 1, 1) := by decide +kernel
theorem d_Mo_crossing_36 : decode b_Mo_crossing 36 = .ok (.isub, 1) := by decide +kernel
theorem d_Mo_crossing_37 : decode b_Mo_crossing 37 = .ok (.istore_n 2, 1) := by decide +kernel
theorem d_Mo_crossing_38 : decode b_Mo_crossing 38 = .ok (.aload_n 0, 1) := by decide +kernel
theorem d_Mo_crossing_39 : decode b_Mo_crossing 39 = .ok (.iconst 0, 1) := by decide +kernel
theorem d_Mo_crossing_40 : decode b_Mo_crossing 40 = .ok (.invokevirtual 96, 3) := by decide +kernel
theorem d_Mo_crossing_43 : decode b_Mo_crossing 43 = .ok (.iconst 0, 1) := by decide +kernel
theorem d_Mo_crossing_44 : decode b_Mo_crossing 44 = .ok (.istore_n 3, 1) := by decide +kernel
theorem d_Mo_crossing_45 : decode b_Mo_crossing 45 = .ok (.iload_n 3, 1) := by decide +kernel
theorem d_Mo_crossing_46 : decode b_Mo_crossing 46 = .ok (.aload_n 0, 1) := by decide +kernel
theorem d_Mo_crossing_47 : decode b_Mo_crossing 47 = .ok (.getfield 85, 3) := by decide +kernel
theorem d_Mo_crossing_50 : decode b_Mo_crossing 50 = .ok (.if_icmp .ge 154, 3) := by decide +kernel
theorem d_Mo_crossing_53 : decode b_Mo_crossing 53 = .ok (.aload_n 0, 1) := by decide +kernel
theorem d_Mo_crossing_54 : decode b_Mo_crossing 54 = .ok (.getfield 28, 3) := by decide +kernel
theorem d_Mo_crossing_57 : decode b_Mo_crossing 57 = .ok (.iload_n 3, 1) := by decide +kernel
theorem d_Mo_crossing_58 : decode b_Mo_crossing 58 = .ok (.iaload, 1) := by decide +kernel
theorem d_Mo_crossing_59 : decode b_Mo_crossing 59 = .ok (.iconst 2, 1) := by decide +kernel
theorem d_Mo_crossing_60 : decode b_Mo_crossing 60 = .ok (.idiv, 1) := by decide +kernel
theorem d_Mo_crossing_61 : decode b_Mo_crossing 61 = .ok (.istore 4, 2) := by decide +kernel
theorem d_Mo_crossing_63 : decode b_Mo_crossing 63 = .ok (.aload_n 0, 1) := by decide +kernel
theorem d_Mo_crossing_64 : decode b_Mo_crossing 64 = .ok (.getfield 28, 3) := by decide +kernel
theorem d_Mo_crossing_67 : decode b_Mo_crossing 67 = .ok (.iload_n 3, 1) := by decide +kernel
theorem d_Mo_crossing_68 : decode b_Mo_crossing 68 = .ok (.iaload, 1) := by decide +kernel
theorem d_Mo_crossing_69 : decode b_Mo_crossing 69 = .ok (.iconst 2, 1) := by decide +kernel
theorem d_Mo_crossing_70 : decode b_Mo_crossing 70 = .ok (.irem, 1) := by decide +kernel
theorem d_Mo_crossing_71 : decode b_Mo_crossing 71 = .ok (.iconst 1, 1) := by decide +kernel
theorem d_Mo_crossing_72 : decode b_Mo_crossing 72 = .ok (.if_icmp .ne 7, 3) := by decide +kernel
theorem d_Mo_crossing_75 : decode b_Mo_crossing 75 = .ok (.iconst 1, 1) := by decide +kernel
theorem d_Mo_crossing_76 : decode b_Mo_crossing 76 = .ok (.goto 4, 3) := by decide +kernel
theorem d_Mo_crossing_79 : decode b_Mo_crossing 79 = .ok (.iconst 0, 1) := by decide +kernel
theorem d_Mo_crossing_80 : decode b_Mo_crossing 80 = .ok (.istore 5, 2) := by decide +kernel
theorem d_Mo_crossing_82 : decode b_Mo_crossing 82 = .ok (.iload 4, 2) := by decide +kernel
theorem d_Mo_crossing_84 : decode b_Mo_crossing 84 = .ok (.iload_n 2, 1) := by decide +kernel
theorem d_Mo_crossing_85 : decode b_Mo_crossing 85 = .ok (.if_icmp .ne 9, 3) := by decide +kernel
theorem d_Mo_crossing_88 : decode b_Mo_crossing 88 = .ok (.aload_n 0, 1) := by decide +kernel
theorem d_Mo_crossing_89 : decode b_Mo_crossing 89 = .ok (.iload_n 3, 1) := by decide +kernel
theorem d_Mo_crossing_90 : decode b_Mo_crossing 90 = .ok (.invokevirtual 103, 3) := by decide +kernel
theorem d_Mo_crossing_93 : decode b_Mo_crossing 93 = .ok (.ireturn, 1) := by decide +kernel
theorem d_Mo_crossing_94 : decode b_Mo_crossing 94 = .ok (.iload 5, 2) := by decide +kernel
theorem d_Mo_crossing_96 : decode b_Mo_crossing 96 = .ok (.ifCond .eq 8, 3) := by decide +kernel
theorem d_Mo_crossing_99 : decode b_Mo_crossing 99 = .ok (.iload 4, 2) := by decide +kernel
theorem d_Mo_crossing_101 : decode b_Mo_crossing 101 = .ok (.goto 9, 3) := by decide +kernel
theorem d_Mo_crossing_104 : decode b_Mo_crossing 104 = .ok (.iload_n 2, 1) := by decide +kernel
theorem d_Mo_crossing_105 : decode b_Mo_crossing 105 = .ok (.iload 4, 2) := by decide +kernel
theorem d_Mo_crossing_107 : decode b_Mo_crossing 107 = .ok (.iconst (-1), 1) := by decide +kernel
theorem d_Mo_crossing_108 : decode b_Mo_crossing 108 = .ok (.ixor, 1) := by decide +kernel
theorem d_Mo_crossing_109 : decode b_Mo_crossing 109 = .ok (.iand, 1) := by decide +kernel
theorem d_Mo_crossing_110 : decode b_Mo_crossing 110 = .ok (.istore 6, 2) := by decide +kernel
theorem d_Mo_crossing_112 : decode b_Mo_crossing 112 = .ok (.iconst 0, 1) := by decide +kernel
theorem d_Mo_crossing_113 : decode b_Mo_crossing 113 = .ok (.istore 7, 2) := by decide +kernel
theorem d_Mo_crossing_115 : decode b_Mo_crossing 115 = .ok (.iload 7, 2) := by decide +kernel
theorem d_Mo_crossing_117 : decode b_Mo_crossing 117 = .ok (.iload_n 2, 1) := by decide +kernel
theorem d_Mo_crossing_118 : decode b_Mo_crossing 118 = .ok (.if_icmp .gt 80, 3) := by decide +kernel
theorem d_Mo_crossing_121 : decode b_Mo_crossing 121 = .ok (.iload 7, 2) := by decide +kernel
theorem d_Mo_crossing_123 : decode b_Mo_crossing 123 = .ok (.iload 6, 2) := by decide +kernel
theorem d_Mo_crossing_125 : decode b_Mo_crossing 125 = .ok (.iconst (-1), 1) := by decide +kernel
theorem d_Mo_crossing_126 : decode b_Mo_crossing 126 = .ok (.ixor, 1) := by decide +kernel
theorem d_Mo_crossing_127 : decode b_Mo_crossing 127 = .ok (.iand, 1) := by decide +kernel
theorem d_Mo_crossing_128 : decode b_Mo_crossing 128 = .ok (.ifCond .ne 64, 3) := by decide +kernel
theorem d_Mo_crossing_131 : decode b_Mo_crossing 131 = .ok (.aload_n 0, 1) := by decide +kernel
theorem d_Mo_crossing_132 : decode b_Mo_crossing 132 = .ok (.iload 7, 2) := by decide +kernel
theorem d_Mo_crossing_134 : decode b_Mo_crossing 134 = .ok (.invokevirtual 129, 3) := by decide +kernel
theorem d_Mo_crossing_137 : decode b_Mo_crossing 137 = .ok (.aload_n 0, 1) := by decide +kernel
theorem d_Mo_crossing_138 : decode b_Mo_crossing 138 = .ok (.getfield 123, 3) := by decide +kernel
theorem d_Mo_crossing_141 : decode b_Mo_crossing 141 = .ok (.if_icmp .gt 51, 3) := by decide +kernel
theorem d_Mo_crossing_144 : decode b_Mo_crossing 144 = .ok (.aload_n 0, 1) := by decide +kernel
theorem d_Mo_crossing_145 : decode b_Mo_crossing 145 = .ok (.iload 6, 2) := by decide +kernel
theorem d_Mo_crossing_147 : decode b_Mo_crossing 147 = .ok (.iload 7, 2) := by decide +kernel
theorem d_Mo_crossing_149 : decode b_Mo_crossing 149 = .ok (.iconst (-1), 1) := by decide +kernel
theorem d_Mo_crossing_150 : decode b_Mo_crossing 150 = .ok (.ixor, 1) := by decide +kernel
theorem d_Mo_crossing_151 : decode b_Mo_crossing 151 = .ok (.iand, 1) := by decide +kernel
theorem d_Mo_crossing_152 : decode b_Mo_crossing 152 = .ok (.invokevirtual 132, 3) := by decide +kernel
theorem d_Mo_crossing_155 : decode b_Mo_crossing 155 = .ok (.ifCond .ne 6, 3) := by decide +kernel
theorem d_Mo_crossing_158 : decode b_Mo_crossing 158 = .ok (.goto 34, 3) := by decide +kernel
theorem d_Mo_crossing_161 : decode b_Mo_crossing 161 = .ok (.iload 4, 2) := by decide +kernel
theorem d_Mo_crossing_163 : decode b_Mo_crossing 163 = .ok (.iload 7, 2) := by decide +kernel
theorem d_Mo_crossing_165 : decode b_Mo_crossing 165 = .ok (.ixor, 1) := by decide +kernel
theorem d_Mo_crossing_166 : decode b_Mo_crossing 166 = .ok (.istore 8, 2) := by decide +kernel
theorem d_Mo_crossing_168 : decode b_Mo_crossing 168 = .ok (.aload_n 0, 1) := by decide +kernel
theorem d_Mo_crossing_169 : decode b_Mo_crossing 169 = .ok (.iconst 2, 1) := by decide +kernel
theorem d_Mo_crossing_170 : decode b_Mo_crossing 170 = .ok (.iload 8, 2) := by decide +kernel
theorem d_Mo_crossing_172 : decode b_Mo_crossing 172 = .ok (.imul, 1) := by decide +kernel
theorem d_Mo_crossing_173 : decode b_Mo_crossing 173 = .ok (.iload 5, 2) := by decide +kernel
theorem d_Mo_crossing_175 : decode b_Mo_crossing 175 = .ok (.ifCond .eq 7, 3) := by decide +kernel
theorem d_Mo_crossing_178 : decode b_Mo_crossing 178 = .ok (.iconst 0, 1) := by decide +kernel
theorem d_Mo_crossing_179 : decode b_Mo_crossing 179 = .ok (.goto 4, 3) := by decide +kernel
theorem d_Mo_crossing_182 : decode b_Mo_crossing 182 = .ok (.iconst 1, 1) := by decide +kernel
theorem d_Mo_crossing_183 : decode b_Mo_crossing 183 = .ok (.iadd, 1) := by decide +kernel
theorem d_Mo_crossing_184 : decode b_Mo_crossing 184 = .ok (.iload_n 3, 1) := by decide +kernel
theorem d_Mo_crossing_185 : decode b_Mo_crossing 185 = .ok (.iload 7, 2) := by decide +kernel
theorem d_Mo_crossing_187 : decode b_Mo_crossing 187 = .ok (.iload 8, 2) := by decide +kernel
theorem d_Mo_crossing_189 : decode b_Mo_crossing 189 = .ok (.invokevirtual 88, 3) := by decide +kernel
theorem d_Mo_crossing_192 : decode b_Mo_crossing 192 = .ok (.iinc 7 1, 3) := by decide +kernel
theorem d_Mo_crossing_195 : decode b_Mo_crossing 195 = .ok (.goto (-80), 3) := by decide +kernel
theorem d_Mo_crossing_198 : decode b_Mo_crossing 198 = .ok (.iinc 3 1, 3) := by decide +kernel
theorem d_Mo_crossing_201 : decode b_Mo_crossing 201 = .ok (.goto (-156), 3) := by decide +kernel
theorem d_Mo_crossing_204 : decode b_Mo_crossing 204 = .ok (.iconst (-1), 1) := by decide +kernel
theorem d_Mo_crossing_205 : decode b_Mo_crossing 205 = .ok (.ireturn, 1) := by decide +kernel
theorem d_Mo_findFour_0 : decode b_Mo_findFour 0 = .ok (.lload_n 1, 1) := by decide +kernel
theorem d_Mo_findFour_1 : decode b_Mo_findFour 1 = .ok (.lstore 4, 2) := by decide +kernel
theorem d_Mo_findFour_3 : decode b_Mo_findFour 3 = .ok (.iconst 0, 1) := by decide +kernel
theorem d_Mo_findFour_4 : decode b_Mo_findFour 4 = .ok (.istore 6, 2) := by decide +kernel
theorem d_Mo_findFour_6 : decode b_Mo_findFour 6 = .ok (.iconst 1, 1) := by decide +kernel
theorem d_Mo_findFour_7 : decode b_Mo_findFour 7 = .ok (.istore 7, 2) := by decide +kernel
theorem d_Mo_findFour_9 : decode b_Mo_findFour 9 = .ok (.iload_n 3, 1) := by decide +kernel
theorem d_Mo_findFour_10 : decode b_Mo_findFour 10 = .ok (.istore 8, 2) := by decide +kernel
theorem d_Mo_findFour_12 : decode b_Mo_findFour 12 = .ok (.aload_n 0, 1) := by decide +kernel
theorem d_Mo_findFour_13 : decode b_Mo_findFour 13 = .ok (.getfield 61, 3) := by decide +kernel
theorem d_Mo_findFour_16 : decode b_Mo_findFour 16 = .ok (.iload 8, 2) := by decide +kernel
theorem d_Mo_findFour_18 : decode b_Mo_findFour 18 = .ok (.iaload, 1) := by decide +kernel
theorem d_Mo_findFour_19 : decode b_Mo_findFour 19 = .ok (.istore 9, 2) := by decide +kernel
theorem d_Mo_findFour_21 : decode b_Mo_findFour 21 = .ok (.iload 6, 2) := by decide +kernel
theorem d_Mo_findFour_23 : decode b_Mo_findFour 23 = .ok (.iload 7, 2) := by decide +kernel
theorem d_Mo_findFour_25 : decode b_Mo_findFour 25 = .ok (.iconst 0, 1) := by decide +kernel
theorem d_Mo_findFour_26 : decode b_Mo_findFour 26 = .ok (.invokestatic 153, 3) := by decide +kernel
theorem d_Mo_findFour_29 : decode b_Mo_findFour 29 = .ok (.istore 10, 2) := by decide +kernel
theorem d_Mo_findFour_31 : decode b_Mo_findFour 31 = .ok (.iload 6, 2) := by decide +kernel
theorem d_Mo_findFour_33 : decode b_Mo_findFour 33 = .ok (.iload 7, 2) := by decide +kernel
theorem d_Mo_findFour_35 : decode b_Mo_findFour 35 = .ok (.iconst 1, 1) := by decide +kernel
theorem d_Mo_findFour_36 : decode b_Mo_findFour 36 = .ok (.invokestatic 153, 3) := by decide +kernel
theorem d_Mo_findFour_39 : decode b_Mo_findFour 39 = .ok (.istore 11, 2) := by decide +kernel
theorem d_Mo_findFour_41 : decode b_Mo_findFour 41 = .ok (.lload 4, 2) := by decide +kernel
theorem d_Mo_findFour_43 : decode b_Mo_findFour 43 = .ok (.aload_n 0, 1) := by decide +kernel
theorem d_Mo_findFour_44 : decode b_Mo_findFour 44 = .ok (.getfield 57, 3) := by decide +kernel
theorem d_Mo_findFour_47 : decode b_Mo_findFour 47 = .ok (.iload 9, 2) := by decide +kernel
theorem d_Mo_findFour_49 : decode b_Mo_findFour 49 = .ok (.laload, 1) := by decide +kernel
theorem d_Mo_findFour_50 : decode b_Mo_findFour 50 = .ok (.lcmp, 1) := by decide +kernel
theorem d_Mo_findFour_51 : decode b_Mo_findFour 51 = .ok (.ifCond .ge 10, 3) := by decide +kernel
theorem d_Mo_findFour_54 : decode b_Mo_findFour 54 = .ok (.iload 10, 2) := by decide +kernel
theorem d_Mo_findFour_56 : decode b_Mo_findFour 56 = .ok (.istore 7, 2) := by decide +kernel
theorem d_Mo_findFour_58 : decode b_Mo_findFour 58 = .ok (.goto 78, 3) := by decide +kernel
theorem d_Mo_findFour_61 : decode b_Mo_findFour 61 = .ok (.lload 4, 2) := by decide +kernel
theorem d_Mo_findFour_63 : decode b_Mo_findFour 63 = .ok (.aload_n 0, 1) := by decide +kernel
theorem d_Mo_findFour_64 : decode b_Mo_findFour 64 = .ok (.getfield 57, 3) := by decide +kernel
theorem d_Mo_findFour_67 : decode b_Mo_findFour 67 = .ok (.iload 9, 2) := by decide +kernel
theorem d_Mo_findFour_69 : decode b_Mo_findFour 69 = .ok (.laload, 1) := by decide +kernel
theorem d_Mo_findFour_70 : decode b_Mo_findFour 70 = .ok (.iload 8, 2) := by decide +kernel
theorem d_Mo_findFour_72 : decode b_Mo_findFour 72 = .ok (.iload 9, 2) := by decide +kernel
theorem d_Mo_findFour_74 : decode b_Mo_findFour 74 = .ok (.isub, 1) := by decide +kernel
theorem d_Mo_findFour_75 : decode b_Mo_findFour 75 = .ok (.invokestatic 68, 3) := by decide +kernel
theorem d_Mo_findFour_78 : decode b_Mo_findFour 78 = .ok (.ladd, 1) := by decide +kernel
theorem d_Mo_findFour_79 : decode b_Mo_findFour 79 = .ok (.lcmp, 1) := by decide +kernel
theorem d_Mo_findFour_80 : decode b_Mo_findFour 80 = .ok (.ifCond .ge 31, 3) := by decide +kernel
theorem d_Mo_findFour_83 : decode b_Mo_findFour 83 = .ok (.aload_n 0, 1) := by decide +kernel
theorem d_Mo_findFour_84 : decode b_Mo_findFour 84 = .ok (.lload 4, 2) := by decide +kernel
theorem d_Mo_findFour_86 : decode b_Mo_findFour 86 = .ok (.aload_n 0, 1) := by decide +kernel
theorem d_Mo_findFour_87 : decode b_Mo_findFour 87 = .ok (.getfield 57, 3) := by decide +kernel
theorem d_Mo_findFour_90 : decode b_Mo_findFour 90 = .ok (.iload 9, 2) := by decide +kernel
theorem d_Mo_findFour_92 : decode b_Mo_findFour 92 = .ok (.laload, 1) := by decide +kernel
theorem d_Mo_findFour_93 : decode b_Mo_findFour 93 = .ok (.lsub, 1) := by decide +kernel
theorem d_Mo_findFour_94 : decode b_Mo_findFour 94 = .ok (.iload 8, 2) := by decide +kernel
theorem d_Mo_findFour_96 : decode b_Mo_findFour 96 = .ok (.iload 9, 2) := by decide +kernel
theorem d_Mo_findFour_98 : decode b_Mo_findFour 98 = .ok (.isub, 1) := by decide +kernel
theorem d_Mo_findFour_99 : decode b_Mo_findFour 99 = .ok (.iload 9, 2) := by decide +kernel
theorem d_Mo_findFour_101 : decode b_Mo_findFour 101 = .ok (.iload 6, 2) := by decide +kernel
theorem d_Mo_findFour_103 : decode b_Mo_findFour 103 = .ok (.iload 7, 2) := by decide +kernel
theorem d_Mo_findFour_105 : decode b_Mo_findFour 105 = .ok (.iload 11, 2) := by decide +kernel
theorem d_Mo_findFour_107 : decode b_Mo_findFour 107 = .ok (.invokevirtual 157, 3) := by decide +kernel
theorem d_Mo_findFour_110 : decode b_Mo_findFour 110 = .ok (.return_, 1) := by decide +kernel
theorem d_Mo_findFour_111 : decode b_Mo_findFour 111 = .ok (.lload 4, 2) := by decide +kernel
theorem d_Mo_findFour_113 : decode b_Mo_findFour 113 = .ok (.aload_n 0, 1) := by decide +kernel
theorem d_Mo_findFour_114 : decode b_Mo_findFour 114 = .ok (.getfield 57, 3) := by decide +kernel
theorem d_Mo_findFour_117 : decode b_Mo_findFour 117 = .ok (.iload 9, 2) := by decide +kernel
theorem d_Mo_findFour_119 : decode b_Mo_findFour 119 = .ok (.laload, 1) := by decide +kernel
theorem d_Mo_findFour_120 : decode b_Mo_findFour 120 = .ok (.iload 8, 2) := by decide +kernel
theorem d_Mo_findFour_122 : decode b_Mo_findFour 122 = .ok (.iload 9, 2) := by decide +kernel
theorem d_Mo_findFour_124 : decode b_Mo_findFour 124 = .ok (.isub, 1) := by decide +kernel
theorem d_Mo_findFour_125 : decode b_Mo_findFour 125 = .ok (.invokestatic 68, 3) := by decide +kernel
theorem d_Mo_findFour_128 : decode b_Mo_findFour 128 = .ok (.ladd, 1) := by decide +kernel
theorem d_Mo_findFour_129 : decode b_Mo_findFour 129 = .ok (.lsub, 1) := by decide +kernel
theorem d_Mo_findFour_130 : decode b_Mo_findFour 130 = .ok (.lstore 4, 2) := by decide +kernel
theorem d_Mo_findFour_132 : decode b_Mo_findFour 132 = .ok (.iload 10, 2) := by decide +kernel
theorem d_Mo_findFour_134 : decode b_Mo_findFour 134 = .ok (.istore 6, 2) := by decide +kernel
theorem d_Mo_findFour_136 : decode b_Mo_findFour 136 = .ok (.iload 9, 2) := by decide +kernel
theorem d_Mo_findFour_138 : decode b_Mo_findFour 138 = .ok (.istore 8, 2) := by decide +kernel
theorem d_Mo_findFour_140 : decode b_Mo_findFour 140 = .ok (.goto (-128), 3) := by decide +kernel
theorem d_Mo_findThree_0 : decode b_Mo_findThree 0 = .ok (.lload_n 1, 1) := by decide +kernel
theorem d_Mo_findThree_1 : decode b_Mo_findThree 1 = .ok (.lstore 8, 2) := by decide +kernel
theorem d_Mo_findThree_3 : decode b_Mo_findThree 3 = .ok (.iload 5, 2) := by decide +kernel
theorem d_Mo_findThree_5 : decode b_Mo_findThree 5 = .ok (.istore 10, 2) := by decide +kernel
theorem d_Mo_findThree_7 : decode b_Mo_findThree 7 = .ok (.iload 6, 2) := by decide +kernel
theorem d_Mo_findThree_9 : decode b_Mo_findThree 9 = .ok (.istore 11, 2) := by decide +kernel
theorem d_Mo_findThree_11 : decode b_Mo_findThree 11 = .ok (.iload 7, 2) := by decide +kernel
theorem d_Mo_findThree_13 : decode b_Mo_findThree 13 = .ok (.istore 12, 2) := by decide +kernel
theorem d_Mo_findThree_15 : decode b_Mo_findThree 15 = .ok (.iload_n 3, 1) := by decide +kernel
theorem d_Mo_findThree_16 : decode b_Mo_findThree 16 = .ok (.istore 13, 2) := by decide +kernel
theorem d_Mo_findThree_18 : decode b_Mo_findThree 18 = .ok (.lload 8, 2) := by decide +kernel
theorem d_Mo_findThree_20 : decode b_Mo_findThree 20 = .ok (.iload 13, 2) := by decide +kernel
theorem d_Mo_findThree_22 : decode b_Mo_findThree 22 = .ok (.iconst 1, 1) := by decide +kernel
theorem d_Mo_findThree_23 : decode b_Mo_findThree 23 = .ok (.isub, 1) := by decide +kernel
theorem d_Mo_findThree_24 : decode b_Mo_findThree 24 = .ok (.invokestatic 68, 3) := by decide +kernel
theorem d_Mo_findThree_27 : decode b_Mo_findThree 27 = .ok (.lcmp, 1) := by decide +kernel
theorem d_Mo_findThree_28 : decode b_Mo_findThree 28 = .ok (.ifCond .eq 73, 3) := by decide +kernel
theorem d_Mo_findThree_31 : decode b_Mo_findThree 31 = .ok (.lload 8, 2) := by decide +kernel
theorem d_Mo_findThree_33 : decode b_Mo_findThree 33 = .ok (.iload 13, 2) := by decide +kernel
theorem d_Mo_findThree_35 : decode b_Mo_findThree 35 = .ok (.iconst 1, 1) := by decide +kernel
theorem d_Mo_findThree_36 : decode b_Mo_findThree 36 = .ok (.isub, 1) := by decide +kernel
theorem d_Mo_findThree_37 : decode b_Mo_findThree 37 = .ok (.invokestatic 68, 3) := by decide +kernel
theorem d_Mo_findThree_40 : decode b_Mo_findThree 40 = .ok (.lcmp, 1) := by decide +kernel
theorem d_Mo_findThree_41 : decode b_Mo_findThree 41 = .ok (.ifCond .ge 8, 3) := by decide +kernel
theorem d_Mo_findThree_44 : decode b_Mo_findThree 44 = .ok (.iload 11, 2) := by decide +kernel
end
section
theorem d_Mo_findThree_46 : decode b_Mo_findThree 46 = .ok (.goto 5, 3) := by decide +kernel
theorem d_Mo_findThree_49 : decode b_Mo_findThree 49 = .ok (.iload 10, 2) := by decide +kernel
theorem d_Mo_findThree_51 : decode b_Mo_findThree 51 = .ok (.istore 14, 2) := by decide +kernel
theorem d_Mo_findThree_53 : decode b_Mo_findThree 53 = .ok (.lload 8, 2) := by decide +kernel
theorem d_Mo_findThree_55 : decode b_Mo_findThree 55 = .ok (.iload 13, 2) := by decide +kernel
theorem d_Mo_findThree_57 : decode b_Mo_findThree 57 = .ok (.iconst 1, 1) := by decide +kernel
theorem d_Mo_findThree_58 : decode b_Mo_findThree 58 = .ok (.isub, 1) := by decide +kernel
theorem d_Mo_findThree_59 : decode b_Mo_findThree 59 = .ok (.invokestatic 68, 3) := by decide +kernel
theorem d_Mo_findThree_62 : decode b_Mo_findThree 62 = .ok (.lcmp, 1) := by decide +kernel
theorem d_Mo_findThree_63 : decode b_Mo_findThree 63 = .ok (.ifCond .ge 10, 3) := by decide +kernel
theorem d_Mo_findThree_66 : decode b_Mo_findThree 66 = .ok (.iload 12, 2) := by decide +kernel
theorem d_Mo_findThree_68 : decode b_Mo_findThree 68 = .ok (.istore 11, 2) := by decide +kernel
theorem d_Mo_findThree_70 : decode b_Mo_findThree 70 = .ok (.goto 21, 3) := by decide +kernel
theorem d_Mo_findThree_73 : decode b_Mo_findThree 73 = .ok (.lload 8, 2) := by decide +kernel
theorem d_Mo_findThree_75 : decode b_Mo_findThree 75 = .ok (.iload 13, 2) := by decide +kernel
theorem d_Mo_findThree_77 : decode b_Mo_findThree 77 = .ok (.iconst 1, 1) := by decide +kernel
theorem d_Mo_findThree_78 : decode b_Mo_findThree 78 = .ok (.isub, 1) := by decide +kernel
theorem d_Mo_findThree_79 : decode b_Mo_findThree 79 = .ok (.invokestatic 68, 3) := by decide +kernel
theorem d_Mo_findThree_82 : decode b_Mo_findThree 82 = .ok (.lconst 1, 1) := by decide +kernel
theorem d_Mo_findThree_83 : decode b_Mo_findThree 83 = .ok (.ladd, 1) := by decide +kernel
theorem d_Mo_findThree_84 : decode b_Mo_findThree 84 = .ok (.lsub, 1) := by decide +kernel
theorem d_Mo_findThree_85 : decode b_Mo_findThree 85 = .ok (.lstore 8, 2) := by decide +kernel
theorem d_Mo_findThree_87 : decode b_Mo_findThree 87 = .ok (.iload 12, 2) := by decide +kernel
theorem d_Mo_findThree_89 : decode b_Mo_findThree 89 = .ok (.istore 10, 2) := by decide +kernel
theorem d_Mo_findThree_91 : decode b_Mo_findThree 91 = .ok (.iload 14, 2) := by decide +kernel
theorem d_Mo_findThree_93 : decode b_Mo_findThree 93 = .ok (.istore 12, 2) := by decide +kernel
theorem d_Mo_findThree_95 : decode b_Mo_findThree 95 = .ok (.iinc 13 (-1), 3) := by decide +kernel
theorem d_Mo_findThree_98 : decode b_Mo_findThree 98 = .ok (.goto (-80), 3) := by decide +kernel
theorem d_Mo_findThree_101 : decode b_Mo_findThree 101 = .ok (.aload_n 0, 1) := by decide +kernel
theorem d_Mo_findThree_102 : decode b_Mo_findThree 102 = .ok (.iload 4, 2) := by decide +kernel
theorem d_Mo_findThree_104 : decode b_Mo_findThree 104 = .ok (.iload 13, 2) := by decide +kernel
theorem d_Mo_findThree_106 : decode b_Mo_findThree 106 = .ok (.iadd, 1) := by decide +kernel
theorem d_Mo_findThree_107 : decode b_Mo_findThree 107 = .ok (.iconst 1, 1) := by decide +kernel
theorem d_Mo_findThree_108 : decode b_Mo_findThree 108 = .ok (.isub, 1) := by decide +kernel
theorem d_Mo_findThree_109 : decode b_Mo_findThree 109 = .ok (.putfield 144, 3) := by decide +kernel
theorem d_Mo_findThree_112 : decode b_Mo_findThree 112 = .ok (.aload_n 0, 1) := by decide +kernel
theorem d_Mo_findThree_113 : decode b_Mo_findThree 113 = .ok (.iload 10, 2) := by decide +kernel
theorem d_Mo_findThree_115 : decode b_Mo_findThree 115 = .ok (.putfield 147, 3) := by decide +kernel
theorem d_Mo_findThree_118 : decode b_Mo_findThree 118 = .ok (.aload_n 0, 1) := by decide +kernel
theorem d_Mo_findThree_119 : decode b_Mo_findThree 119 = .ok (.iload 11, 2) := by decide +kernel
theorem d_Mo_findThree_121 : decode b_Mo_findThree 121 = .ok (.putfield 150, 3) := by decide +kernel
theorem d_Mo_findThree_124 : decode b_Mo_findThree 124 = .ok (.return_, 1) := by decide +kernel
theorem d_Mo_found_0 : decode b_Mo_found 0 = .ok (.aload_n 0, 1) := by decide +kernel
theorem d_Mo_found_1 : decode b_Mo_found 1 = .ok (.iconst 0, 1) := by decide +kernel
theorem d_Mo_found_2 : decode b_Mo_found 2 = .ok (.putfield 78, 3) := by decide +kernel
theorem d_Mo_found_5 : decode b_Mo_found 5 = .ok (.iload_n 1, 1) := by decide +kernel
theorem d_Mo_found_6 : decode b_Mo_found 6 = .ok (.istore_n 2, 1) := by decide +kernel
theorem d_Mo_found_7 : decode b_Mo_found 7 = .ok (.aload_n 0, 1) := by decide +kernel
theorem d_Mo_found_8 : decode b_Mo_found 8 = .ok (.getfield 31, 3) := by decide +kernel
theorem d_Mo_found_11 : decode b_Mo_found 11 = .ok (.iload_n 2, 1) := by decide +kernel
theorem d_Mo_found_12 : decode b_Mo_found 12 = .ok (.iaload, 1) := by decide +kernel
theorem d_Mo_found_13 : decode b_Mo_found 13 = .ok (.ifCond .lt 23, 3) := by decide +kernel
theorem d_Mo_found_16 : decode b_Mo_found 16 = .ok (.aload_n 0, 1) := by decide +kernel
theorem d_Mo_found_17 : decode b_Mo_found 17 = .ok (.dup, 1) := by decide +kernel
theorem d_Mo_found_18 : decode b_Mo_found 18 = .ok (.getfield 78, 3) := by decide +kernel
theorem d_Mo_found_21 : decode b_Mo_found 21 = .ok (.iconst 1, 1) := by decide +kernel
theorem d_Mo_found_22 : decode b_Mo_found 22 = .ok (.iadd, 1) := by decide +kernel
theorem d_Mo_found_23 : decode b_Mo_found 23 = .ok (.putfield 78, 3) := by decide +kernel
theorem d_Mo_found_26 : decode b_Mo_found 26 = .ok (.aload_n 0, 1) := by decide +kernel
theorem d_Mo_found_27 : decode b_Mo_found 27 = .ok (.getfield 31, 3) := by decide +kernel
theorem d_Mo_found_30 : decode b_Mo_found 30 = .ok (.iload_n 2, 1) := by decide +kernel
theorem d_Mo_found_31 : decode b_Mo_found 31 = .ok (.iaload, 1) := by decide +kernel
theorem d_Mo_found_32 : decode b_Mo_found 32 = .ok (.istore_n 2, 1) := by decide +kernel
theorem d_Mo_found_33 : decode b_Mo_found 33 = .ok (.goto (-26), 3) := by decide +kernel
theorem d_Mo_found_36 : decode b_Mo_found 36 = .ok (.aload_n 0, 1) := by decide +kernel
theorem d_Mo_found_37 : decode b_Mo_found 37 = .ok (.getfield 78, 3) := by decide +kernel
theorem d_Mo_found_40 : decode b_Mo_found 40 = .ok (.istore_n 2, 1) := by decide +kernel
theorem d_Mo_found_41 : decode b_Mo_found 41 = .ok (.iload_n 1, 1) := by decide +kernel
theorem d_Mo_found_42 : decode b_Mo_found 42 = .ok (.istore_n 3, 1) := by decide +kernel
theorem d_Mo_found_43 : decode b_Mo_found 43 = .ok (.aload_n 0, 1) := by decide +kernel
theorem d_Mo_found_44 : decode b_Mo_found 44 = .ok (.getfield 31, 3) := by decide +kernel
theorem d_Mo_found_47 : decode b_Mo_found 47 = .ok (.iload_n 3, 1) := by decide +kernel
theorem d_Mo_found_48 : decode b_Mo_found 48 = .ok (.iaload, 1) := by decide +kernel
theorem d_Mo_found_49 : decode b_Mo_found 49 = .ok (.ifCond .lt 40, 3) := by decide +kernel
theorem d_Mo_found_52 : decode b_Mo_found 52 = .ok (.iinc 2 (-1), 3) := by decide +kernel
theorem d_Mo_found_55 : decode b_Mo_found 55 = .ok (.aload_n 0, 1) := by decide +kernel
theorem d_Mo_found_56 : decode b_Mo_found 56 = .ok (.getfield 22, 3) := by decide +kernel
theorem d_Mo_found_59 : decode b_Mo_found 59 = .ok (.iload_n 2, 1) := by decide +kernel
theorem d_Mo_found_60 : decode b_Mo_found 60 = .ok (.aload_n 0, 1) := by decide +kernel
theorem d_Mo_found_61 : decode b_Mo_found 61 = .ok (.getfield 34, 3) := by decide +kernel
theorem d_Mo_found_64 : decode b_Mo_found 64 = .ok (.iload_n 3, 1) := by decide +kernel
theorem d_Mo_found_65 : decode b_Mo_found 65 = .ok (.iaload, 1) := by decide +kernel
theorem d_Mo_found_66 : decode b_Mo_found 66 = .ok (.iastore, 1) := by decide +kernel
theorem d_Mo_found_67 : decode b_Mo_found 67 = .ok (.aload_n 0, 1) := by decide +kernel
theorem d_Mo_found_68 : decode b_Mo_found 68 = .ok (.getfield 25, 3) := by decide +kernel
theorem d_Mo_found_71 : decode b_Mo_found 71 = .ok (.iload_n 2, 1) := by decide +kernel
theorem d_Mo_found_72 : decode b_Mo_found 72 = .ok (.aload_n 0, 1) := by decide +kernel
theorem d_Mo_found_73 : decode b_Mo_found 73 = .ok (.getfield 37, 3) := by decide +kernel
theorem d_Mo_found_76 : decode b_Mo_found 76 = .ok (.iload_n 3, 1) := by decide +kernel
theorem d_Mo_found_77 : decode b_Mo_found 77 = .ok (.iaload, 1) := by decide +kernel
theorem d_Mo_found_78 : decode b_Mo_found 78 = .ok (.iastore, 1) := by decide +kernel
theorem d_Mo_found_79 : decode b_Mo_found 79 = .ok (.aload_n 0, 1) := by decide +kernel
theorem d_Mo_found_80 : decode b_Mo_found 80 = .ok (.getfield 31, 3) := by decide +kernel
theorem d_Mo_found_83 : decode b_Mo_found 83 = .ok (.iload_n 3, 1) := by decide +kernel
theorem d_Mo_found_84 : decode b_Mo_found 84 = .ok (.iaload, 1) := by decide +kernel
theorem d_Mo_found_85 : decode b_Mo_found 85 = .ok (.istore_n 3, 1) := by decide +kernel
theorem d_Mo_found_86 : decode b_Mo_found 86 = .ok (.goto (-43), 3) := by decide +kernel
theorem d_Mo_found_89 : decode b_Mo_found 89 = .ok (.aload_n 0, 1) := by decide +kernel
theorem d_Mo_found_90 : decode b_Mo_found 90 = .ok (.getfield 78, 3) := by decide +kernel
theorem d_Mo_found_93 : decode b_Mo_found 93 = .ok (.ireturn, 1) := by decide +kernel
theorem d_Mo_full_0 : decode b_Mo_full 0 = .ok (.lconst 0, 1) := by decide +kernel
theorem d_Mo_full_1 : decode b_Mo_full 1 = .ok (.lstore_n 1, 1) := by decide +kernel
theorem d_Mo_full_2 : decode b_Mo_full 2 = .ok (.iconst 0, 1) := by decide +kernel
theorem d_Mo_full_3 : decode b_Mo_full 3 = .ok (.istore_n 3, 1) := by decide +kernel
theorem d_Mo_full_4 : decode b_Mo_full 4 = .ok (.iload_n 3, 1) := by decide +kernel
theorem d_Mo_full_5 : decode b_Mo_full 5 = .ok (.iload_n 0, 1) := by decide +kernel
theorem d_Mo_full_6 : decode b_Mo_full 6 = .ok (.if_icmp .ge 27, 3) := by decide +kernel
theorem d_Mo_full_9 : decode b_Mo_full 9 = .ok (.ldc2_w 66, 3) := by decide +kernel
theorem d_Mo_full_12 : decode b_Mo_full 12 = .ok (.lload_n 1, 1) := by decide +kernel
theorem d_Mo_full_13 : decode b_Mo_full 13 = .ok (.lmul, 1) := by decide +kernel
theorem d_Mo_full_14 : decode b_Mo_full 14 = .ok (.iload_n 3, 1) := by decide +kernel
theorem d_Mo_full_15 : decode b_Mo_full 15 = .ok (.iconst 2, 1) := by decide +kernel
theorem d_Mo_full_16 : decode b_Mo_full 16 = .ok (.irem, 1) := by decide +kernel
theorem d_Mo_full_17 : decode b_Mo_full 17 = .ok (.ifCond .ne 7, 3) := by decide +kernel
theorem d_Mo_full_20 : decode b_Mo_full 20 = .ok (.lconst 1, 1) := by decide +kernel
theorem d_Mo_full_21 : decode b_Mo_full 21 = .ok (.goto 4, 3) := by decide +kernel
theorem d_Mo_full_24 : decode b_Mo_full 24 = .ok (.lconst 0, 1) := by decide +kernel
theorem d_Mo_full_25 : decode b_Mo_full 25 = .ok (.ladd, 1) := by decide +kernel
theorem d_Mo_full_26 : decode b_Mo_full 26 = .ok (.lstore_n 1, 1) := by decide +kernel
theorem d_Mo_full_27 : decode b_Mo_full 27 = .ok (.iinc 3 1, 3) := by decide +kernel
theorem d_Mo_full_30 : decode b_Mo_full 30 = .ok (.goto (-26), 3) := by decide +kernel
theorem d_Mo_full_33 : decode b_Mo_full 33 = .ok (.lload_n 1, 1) := by decide +kernel
theorem d_Mo_full_34 : decode b_Mo_full 34 = .ok (.lreturn, 1) := by decide +kernel
theorem d_Mo_goal_0 : decode b_Mo_goal 0 = .ok (.aload_n 0, 1) := by decide +kernel
theorem d_Mo_goal_1 : decode b_Mo_goal 1 = .ok (.iconst 0, 1) := by decide +kernel
theorem d_Mo_goal_2 : decode b_Mo_goal 2 = .ok (.putfield 72, 3) := by decide +kernel
theorem d_Mo_goal_5 : decode b_Mo_goal 5 = .ok (.iload_n 1, 1) := by decide +kernel
theorem d_Mo_goal_6 : decode b_Mo_goal 6 = .ok (.ifCond .lt 42, 3) := by decide +kernel
theorem d_Mo_goal_9 : decode b_Mo_goal 9 = .ok (.iload_n 1, 1) := by decide +kernel
theorem d_Mo_goal_10 : decode b_Mo_goal 10 = .ok (.aload_n 0, 1) := by decide +kernel
theorem d_Mo_goal_11 : decode b_Mo_goal 11 = .ok (.getfield 75, 3) := by decide +kernel
theorem d_Mo_goal_14 : decode b_Mo_goal 14 = .ok (.if_icmp .ge 34, 3) := by decide +kernel
theorem d_Mo_goal_17 : decode b_Mo_goal 17 = .ok (.iload_n 2, 1) := by decide +kernel
theorem d_Mo_goal_18 : decode b_Mo_goal 18 = .ok (.iconst (-1), 1) := by decide +kernel
theorem d_Mo_goal_19 : decode b_Mo_goal 19 = .ok (.if_icmp .lt 29, 3) := by decide +kernel
theorem d_Mo_goal_22 : decode b_Mo_goal 22 = .ok (.iload_n 2, 1) := by decide +kernel
theorem d_Mo_goal_23 : decode b_Mo_goal 23 = .ok (.iload_n 1, 1) := by decide +kernel
theorem d_Mo_goal_24 : decode b_Mo_goal 24 = .ok (.ifCond .lt 11, 3) := by decide +kernel
theorem d_Mo_goal_27 : decode b_Mo_goal 27 = .ok (.iload_n 1, 1) := by decide +kernel
theorem d_Mo_goal_28 : decode b_Mo_goal 28 = .ok (.aload_n 0, 1) := by decide +kernel
theorem d_Mo_goal_29 : decode b_Mo_goal 29 = .ok (.getfield 75, 3) := by decide +kernel
theorem d_Mo_goal_32 : decode b_Mo_goal 32 = .ok (.if_icmp .lt 7, 3) := by decide +kernel
theorem d_Mo_goal_35 : decode b_Mo_goal 35 = .ok (.iconst 0, 1) := by decide +kernel
theorem d_Mo_goal_36 : decode b_Mo_goal 36 = .ok (.goto 9, 3) := by decide +kernel
theorem d_Mo_goal_39 : decode b_Mo_goal 39 = .ok (.aload_n 0, 1) := by decide +kernel
theorem d_Mo_goal_40 : decode b_Mo_goal 40 = .ok (.getfield 7, 3) := by decide +kernel
theorem d_Mo_goal_43 : decode b_Mo_goal 43 = .ok (.iload_n 1, 1) := by decide +kernel
theorem d_Mo_goal_44 : decode b_Mo_goal 44 = .ok (.iaload, 1) := by decide +kernel
theorem d_Mo_goal_45 : decode b_Mo_goal 45 = .ok (.if_icmp .le 5, 3) := by decide +kernel
theorem d_Mo_goal_48 : decode b_Mo_goal 48 = .ok (.iconst 0, 1) := by decide +kernel
theorem d_Mo_goal_49 : decode b_Mo_goal 49 = .ok (.ireturn, 1) := by decide +kernel
theorem d_Mo_goal_50 : decode b_Mo_goal 50 = .ok (.aload_n 0, 1) := by decide +kernel
theorem d_Mo_goal_51 : decode b_Mo_goal 51 = .ok (.getfield 16, 3) := by decide +kernel
theorem d_Mo_goal_54 : decode b_Mo_goal 54 = .ok (.iload_n 1, 1) := by decide +kernel
theorem d_Mo_goal_55 : decode b_Mo_goal 55 = .ok (.iload_n 2, 1) := by decide +kernel
theorem d_Mo_goal_56 : decode b_Mo_goal 56 = .ok (.iastore, 1) := by decide +kernel
theorem d_Mo_goal_57 : decode b_Mo_goal 57 = .ok (.aload_n 0, 1) := by decide +kernel
theorem d_Mo_goal_58 : decode b_Mo_goal 58 = .ok (.iconst 0, 1) := by decide +kernel
theorem d_Mo_goal_59 : decode b_Mo_goal 59 = .ok (.putfield 78, 3) := by decide +kernel
theorem d_Mo_goal_62 : decode b_Mo_goal 62 = .ok (.iconst 1, 1) := by decide +kernel
theorem d_Mo_goal_63 : decode b_Mo_goal 63 = .ok (.ireturn, 1) := by decide +kernel
theorem d_Mo_isGoal_0 : decode b_Mo_isGoal 0 = .ok (.aload_n 0, 1) := by decide +kernel
theorem d_Mo_isGoal_1 : decode b_Mo_isGoal 1 = .ok (.iload_n 1, 1) := by decide +kernel
theorem d_Mo_isGoal_2 : decode b_Mo_isGoal 2 = .ok (.invokevirtual 81, 3) := by decide +kernel
theorem d_Mo_isGoal_5 : decode b_Mo_isGoal 5 = .ok (.iconst 0, 1) := by decide +kernel
theorem d_Mo_isGoal_6 : decode b_Mo_isGoal 6 = .ok (.istore_n 2, 1) := by decide +kernel
theorem d_Mo_isGoal_7 : decode b_Mo_isGoal 7 = .ok (.iload_n 2, 1) := by decide +kernel
theorem d_Mo_isGoal_8 : decode b_Mo_isGoal 8 = .ok (.aload_n 0, 1) := by decide +kernel
theorem d_Mo_isGoal_9 : decode b_Mo_isGoal 9 = .ok (.getfield 75, 3) := by decide +kernel
theorem d_Mo_isGoal_12 : decode b_Mo_isGoal 12 = .ok (.if_icmp .ge 35, 3) := by decide +kernel
theorem d_Mo_isGoal_15 : decode b_Mo_isGoal 15 = .ok (.aload_n 0, 1) := by decide +kernel
theorem d_Mo_isGoal_16 : decode b_Mo_isGoal 16 = .ok (.getfield 16, 3) := by decide +kernel
theorem d_Mo_isGoal_19 : decode b_Mo_isGoal 19 = .ok (.iload_n 2, 1) := by decide +kernel
theorem d_Mo_isGoal_20 : decode b_Mo_isGoal 20 = .ok (.iaload, 1) := by decide +kernel
theorem d_Mo_isGoal_21 : decode b_Mo_isGoal 21 = .ok (.ifCond .lt 20, 3) := by decide +kernel
theorem d_Mo_isGoal_24 : decode b_Mo_isGoal 24 = .ok (.aload_n 0, 1) := by decide +kernel
theorem d_Mo_isGoal_25 : decode b_Mo_isGoal 25 = .ok (.getfield 44, 3) := by decide +kernel
theorem d_Mo_isGoal_28 : decode b_Mo_isGoal 28 = .ok (.iload_n 2, 1) := by decide +kernel
theorem d_Mo_isGoal_29 : decode b_Mo_isGoal 29 = .ok (.iaload, 1) := by decide +kernel
theorem d_Mo_isGoal_30 : decode b_Mo_isGoal 30 = .ok (.aload_n 0, 1) := by decide +kernel
theorem d_Mo_isGoal_31 : decode b_Mo_isGoal 31 = .ok (.getfield 16, 3) := by decide +kernel
theorem d_Mo_isGoal_34 : decode b_Mo_isGoal 34 = .ok (.iload_n 2, 1) := by decide +kernel
theorem d_Mo_isGoal_35 : decode b_Mo_isGoal 35 = .ok (.iaload, 1) := by decide +kernel
theorem d_Mo_isGoal_36 : decode b_Mo_isGoal 36 = .ok (.if_icmp .eq 5, 3) := by decide +kernel
theorem d_Mo_isGoal_39 : decode b_Mo_isGoal 39 = .ok (.iconst 0, 1) := by decide +kernel
theorem d_Mo_isGoal_40 : decode b_Mo_isGoal 40 = .ok (.ireturn, 1) := by decide +kernel
theorem d_Mo_isGoal_41 : decode b_Mo_isGoal 41 = .ok (.iinc 2 1, 3) := by decide +kernel
theorem d_Mo_isGoal_44 : decode b_Mo_isGoal 44 = .ok (.goto (-37), 3) := by decide +kernel
theorem d_Mo_isGoal_47 : decode b_Mo_isGoal 47 = .ok (.iconst 1, 1) := by decide +kernel
theorem d_Mo_isGoal_48 : decode b_Mo_isGoal 48 = .ok (.ireturn, 1) := by decide +kernel
theorem d_Mo_jug_0 : decode b_Mo_jug 0 = .ok (.aload_n 0, 1) := by decide +kernel
theorem d_Mo_jug_1 : decode b_Mo_jug 1 = .ok (.iconst 0, 1) := by decide +kernel
theorem d_Mo_jug_2 : decode b_Mo_jug 2 = .ok (.putfield 72, 3) := by decide +kernel
theorem d_Mo_jug_5 : decode b_Mo_jug 5 = .ok (.aload_n 0, 1) := by decide +kernel
theorem d_Mo_jug_6 : decode b_Mo_jug 6 = .ok (.getfield 75, 3) := by decide +kernel
theorem d_Mo_jug_9 : decode b_Mo_jug 9 = .ok (.iconst 4, 1) := by decide +kernel
theorem d_Mo_jug_10 : decode b_Mo_jug 10 = .ok (.if_icmp .eq 23, 3) := by decide +kernel
theorem d_Mo_jug_13 : decode b_Mo_jug 13 = .ok (.iload_n 1, 1) := by decide +kernel
theorem d_Mo_jug_14 : decode b_Mo_jug 14 = .ok (.iconst 1, 1) := by decide +kernel
theorem d_Mo_jug_15 : decode b_Mo_jug 15 = .ok (.if_icmp .lt 18, 3) := by decide +kernel
theorem d_Mo_jug_18 : decode b_Mo_jug 18 = .ok (.iload_n 1, 1) := by decide +kernel
theorem d_Mo_jug_19 : decode b_Mo_jug 19 = .ok (.bipush 9, 2) := by decide +kernel
theorem d_Mo_jug_21 : decode b_Mo_jug 21 = .ok (.if_icmp .gt 12, 3) := by decide +kernel
theorem d_Mo_jug_24 : decode b_Mo_jug 24 = .ok (.iload_n 2, 1) := by decide +kernel
theorem d_Mo_jug_25 : decode b_Mo_jug 25 = .ok (.ifCond .lt 8, 3) := by decide +kernel
theorem d_Mo_jug_28 : decode b_Mo_jug 28 = .ok (.iload_n 2, 1) := by decide +kernel
theorem d_Mo_jug_29 : decode b_Mo_jug 29 = .ok (.iload_n 1, 1) := by decide +kernel
theorem d_Mo_jug_30 : decode b_Mo_jug 30 = .ok (.if_icmp .le 5, 3) := by decide +kernel
theorem d_Mo_jug_33 : decode b_Mo_jug 33 = .ok (.iconst (-1), 1) := by decide +kernel
theorem d_Mo_jug_34 : decode b_Mo_jug 34 = .ok (.ireturn, 1) := by decide +kernel
theorem d_Mo_jug_35 : decode b_Mo_jug 35 = .ok (.aload_n 0, 1) := by decide +kernel
theorem d_Mo_jug_36 : decode b_Mo_jug 36 = .ok (.getfield 7, 3) := by decide +kernel
theorem d_Mo_jug_39 : decode b_Mo_jug 39 = .ok (.aload_n 0, 1) := by decide +kernel
theorem d_Mo_jug_40 : decode b_Mo_jug 40 = .ok (.getfield 75, 3) := by decide +kernel
theorem d_Mo_jug_43 : decode b_Mo_jug 43 = .ok (.iload_n 1, 1) := by decide +kernel
theorem d_Mo_jug_44 : decode b_Mo_jug 44 = .ok (.iastore, 1) := by decide +kernel
theorem d_Mo_jug_45 : decode b_Mo_jug 45 = .ok (.aload_n 0, 1) := by decide +kernel
theorem d_Mo_jug_46 : decode b_Mo_jug 46 = .ok (.getfield 13, 3) := by decide +kernel
theorem d_Mo_jug_49 : decode b_Mo_jug 49 = .ok (.aload_n 0, 1) := by decide +kernel
theorem d_Mo_jug_50 : decode b_Mo_jug 50 = .ok (.getfield 75, 3) := by decide +kernel
theorem d_Mo_jug_53 : decode b_Mo_jug 53 = .ok (.iload_n 2, 1) := by decide +kernel
theorem d_Mo_jug_54 : decode b_Mo_jug 54 = .ok (.iastore, 1) := by decide +kernel
theorem d_Mo_jug_55 : decode b_Mo_jug 55 = .ok (.aload_n 0, 1) := by decide +kernel
theorem d_Mo_jug_56 : decode b_Mo_jug 56 = .ok (.getfield 16, 3) := by decide +kernel
theorem d_Mo_jug_59 : decode b_Mo_jug 59 = .ok (.aload_n 0, 1) := by decide +kernel
theorem d_Mo_jug_60 : decode b_Mo_jug 60 = .ok (.getfield 75, 3) := by decide +kernel
theorem d_Mo_jug_63 : decode b_Mo_jug 63 = .ok (.iconst (-1), 1) := by decide +kernel
theorem d_Mo_jug_64 : decode b_Mo_jug 64 = .ok (.iastore, 1) := by decide +kernel
theorem d_Mo_jug_65 : decode b_Mo_jug 65 = .ok (.aload_n 0, 1) := by decide +kernel
theorem d_Mo_jug_66 : decode b_Mo_jug 66 = .ok (.dup, 1) := by decide +kernel
theorem d_Mo_jug_67 : decode b_Mo_jug 67 = .ok (.getfield 75, 3) := by decide +kernel
theorem d_Mo_jug_70 : decode b_Mo_jug 70 = .ok (.iconst 1, 1) := by decide +kernel
theorem d_Mo_jug_71 : decode b_Mo_jug 71 = .ok (.iadd, 1) := by decide +kernel
theorem d_Mo_jug_72 : decode b_Mo_jug 72 = .ok (.putfield 75, 3) := by decide +kernel
theorem d_Mo_jug_75 : decode b_Mo_jug 75 = .ok (.aload_n 0, 1) := by decide +kernel
theorem d_Mo_jug_76 : decode b_Mo_jug 76 = .ok (.iconst 0, 1) := by decide +kernel
theorem d_Mo_jug_77 : decode b_Mo_jug 77 = .ok (.putfield 78, 3) := by decide +kernel
theorem d_Mo_jug_80 : decode b_Mo_jug 80 = .ok (.aload_n 0, 1) := by decide +kernel
theorem d_Mo_jug_81 : decode b_Mo_jug 81 = .ok (.getfield 75, 3) := by decide +kernel
theorem d_Mo_jug_84 : decode b_Mo_jug 84 = .ok (.iconst 1, 1) := by decide +kernel
theorem d_Mo_jug_85 : decode b_Mo_jug 85 = .ok (.isub, 1) := by decide +kernel
theorem d_Mo_jug_86 : decode b_Mo_jug 86 = .ok (.ireturn, 1) := by decide +kernel
theorem d_Mo_jugs_0 : decode b_Mo_jugs 0 = .ok (.aload_n 0, 1) := by decide +kernel
theorem d_Mo_jugs_1 : decode b_Mo_jugs 1 = .ok (.iconst 0, 1) := by decide +kernel
theorem d_Mo_jugs_2 : decode b_Mo_jugs 2 = .ok (.putfield 72, 3) := by decide +kernel
theorem d_Mo_jugs_5 : decode b_Mo_jugs 5 = .ok (.aload_n 0, 1) := by decide +kernel
theorem d_Mo_jugs_6 : decode b_Mo_jugs 6 = .ok (.iconst 0, 1) := by decide +kernel
theorem d_Mo_jugs_7 : decode b_Mo_jugs 7 = .ok (.putfield 78, 3) := by decide +kernel
theorem d_Mo_jugs_10 : decode b_Mo_jugs 10 = .ok (.iconst 0, 1) := by decide +kernel
theorem d_Mo_jugs_11 : decode b_Mo_jugs 11 = .ok (.istore_n 1, 1) := by decide +kernel
theorem d_Mo_jugs_12 : decode b_Mo_jugs 12 = .ok (.iload_n 1, 1) := by decide +kernel
theorem d_Mo_jugs_13 : decode b_Mo_jugs 13 = .ok (.iconst 4, 1) := by decide +kernel
theorem d_Mo_jugs_14 : decode b_Mo_jugs 14 = .ok (.if_icmp .ge 21, 3) := by decide +kernel
theorem d_Mo_jugs_17 : decode b_Mo_jugs 17 = .ok (.aload_n 0, 1) := by decide +kernel
theorem d_Mo_jugs_18 : decode b_Mo_jugs 18 = .ok (.getfield 44, 3) := by decide +kernel
theorem d_Mo_jugs_21 : decode b_Mo_jugs 21 = .ok (.iload_n 1, 1) := by decide +kernel
theorem d_Mo_jugs_22 : decode b_Mo_jugs 22 = .ok (.aload_n 0, 1) := by decide +kernel
theorem d_Mo_jugs_23 : decode b_Mo_jugs 23 = .ok (.getfield 13, 3) := by decide +kernel
theorem d_Mo_jugs_26 : decode b_Mo_jugs 26 = .ok (.iload_n 1, 1) := by decide +kernel
theorem d_Mo_jugs_27 : decode b_Mo_jugs 27 = .ok (.iaload, 1) := by decide +kernel
theorem d_Mo_jugs_28 : decode b_Mo_jugs 28 = .ok (.iastore, 1) := by decide +kernel
theorem d_Mo_jugs_29 : decode b_Mo_jugs 29 = .ok (.iinc 1 1, 3) := by decide +kernel
theorem d_Mo_jugs_32 : decode b_Mo_jugs 32 = .ok (.goto (-20), 3) := by decide +kernel
theorem d_Mo_jugs_35 : decode b_Mo_jugs 35 = .ok (.aload_n 0, 1) := by decide +kernel
theorem d_Mo_jugs_36 : decode b_Mo_jugs 36 = .ok (.aload_n 0, 1) := by decide +kernel
theorem d_Mo_jugs_37 : decode b_Mo_jugs 37 = .ok (.invokevirtual 92, 3) := by decide +kernel
theorem d_Mo_jugs_40 : decode b_Mo_jugs 40 = .ok (.invokevirtual 96, 3) := by decide +kernel
theorem d_Mo_jugs_43 : decode b_Mo_jugs 43 = .ok (.iconst 0, 1) := by decide +kernel
theorem d_Mo_jugs_44 : decode b_Mo_jugs 44 = .ok (.istore_n 1, 1) := by decide +kernel
theorem d_Mo_jugs_45 : decode b_Mo_jugs 45 = .ok (.iload_n 1, 1) := by decide +kernel
theorem d_Mo_jugs_46 : decode b_Mo_jugs 46 = .ok (.aload_n 0, 1) := by decide +kernel
theorem d_Mo_jugs_47 : decode b_Mo_jugs 47 = .ok (.getfield 85, 3) := by decide +kernel
theorem d_Mo_jugs_50 : decode b_Mo_jugs 50 = .ok (.if_icmp .ge 95, 3) := by decide +kernel
theorem d_Mo_jugs_53 : decode b_Mo_jugs 53 = .ok (.aload_n 0, 1) := by decide +kernel
theorem d_Mo_jugs_54 : decode b_Mo_jugs 54 = .ok (.aload_n 0, 1) := by decide +kernel
theorem d_Mo_jugs_55 : decode b_Mo_jugs 55 = .ok (.getfield 28, 3) := by decide +kernel
theorem d_Mo_jugs_58 : decode b_Mo_jugs 58 = .ok (.iload_n 1, 1) := by decide +kernel
theorem d_Mo_jugs_59 : decode b_Mo_jugs 59 = .ok (.iaload, 1) := by decide +kernel
theorem d_Mo_jugs_60 : decode b_Mo_jugs 60 = .ok (.invokevirtual 99, 3) := by decide +kernel
theorem d_Mo_jugs_63 : decode b_Mo_jugs 63 = .ok (.ifCond .eq 9, 3) := by decide +kernel
theorem d_Mo_jugs_66 : decode b_Mo_jugs 66 = .ok (.aload_n 0, 1) := by decide +kernel
theorem d_Mo_jugs_67 : decode b_Mo_jugs 67 = .ok (.iload_n 1, 1) := by decide +kernel
theorem d_Mo_jugs_68 : decode b_Mo_jugs 68 = .ok (.invokevirtual 103, 3) := by decide +kernel
theorem d_Mo_jugs_71 : decode b_Mo_jugs 71 = .ok (.ireturn, 1) := by decide +kernel
theorem d_Mo_jugs_72 : decode b_Mo_jugs 72 = .ok (.iconst (-1), 1) := by decide +kernel
theorem d_Mo_jugs_73 : decode b_Mo_jugs 73 = .ok (.istore_n 2, 1) := by decide +kernel
theorem d_Mo_jugs_74 : decode b_Mo_jugs 74 = .ok (.iload_n 2, 1) := by decide +kernel
theorem d_Mo_jugs_75 : decode b_Mo_jugs 75 = .ok (.aload_n 0, 1) := by decide +kernel
theorem d_Mo_jugs_76 : decode b_Mo_jugs 76 = .ok (.getfield 75, 3) := by decide +kernel
theorem d_Mo_jugs_79 : decode b_Mo_jugs 79 = .ok (.if_icmp .ge 60, 3) := by decide +kernel
theorem d_Mo_jugs_82 : decode b_Mo_jugs 82 = .ok (.iconst (-1), 1) := by decide +kernel
theorem d_Mo_jugs_83 : decode b_Mo_jugs 83 = .ok (.istore_n 3, 1) := by decide +kernel
theorem d_Mo_jugs_84 : decode b_Mo_jugs 84 = .ok (.iload_n 3, 1) := by decide +kernel
theorem d_Mo_jugs_85 : decode b_Mo_jugs 85 = .ok (.aload_n 0, 1) := by decide +kernel
theorem d_Mo_jugs_86 : decode b_Mo_jugs 86 = .ok (.getfield 75, 3) := by decide +kernel
theorem d_Mo_jugs_89 : decode b_Mo_jugs 89 = .ok (.if_icmp .ge 44, 3) := by decide +kernel
theorem d_Mo_jugs_92 : decode b_Mo_jugs 92 = .ok (.iload_n 2, 1) := by decide +kernel
theorem d_Mo_jugs_93 : decode b_Mo_jugs 93 = .ok (.iload_n 3, 1) := by decide +kernel
theorem d_Mo_jugs_94 : decode b_Mo_jugs 94 = .ok (.if_icmp .ne 6, 3) := by decide +kernel
theorem d_Mo_jugs_97 : decode b_Mo_jugs 97 = .ok (.goto 30, 3) := by decide +kernel
theorem d_Mo_jugs_100 : decode b_Mo_jugs 100 = .ok (.aload_n 0, 1) := by decide +kernel
theorem d_Mo_jugs_101 : decode b_Mo_jugs 101 = .ok (.aload_n 0, 1) := by decide +kernel
theorem d_Mo_jugs_102 : decode b_Mo_jugs 102 = .ok (.getfield 28, 3) := by decide +kernel
theorem d_Mo_jugs_105 : decode b_Mo_jugs 105 = .ok (.iload_n 1, 1) := by decide +kernel
theorem d_Mo_jugs_106 : decode b_Mo_jugs 106 = .ok (.iaload, 1) := by decide +kernel
theorem d_Mo_jugs_107 : decode b_Mo_jugs 107 = .ok (.invokevirtual 81, 3) := by decide +kernel
theorem d_Mo_jugs_110 : decode b_Mo_jugs 110 = .ok (.aload_n 0, 1) := by decide +kernel
theorem d_Mo_jugs_111 : decode b_Mo_jugs 111 = .ok (.iload_n 2, 1) := by decide +kernel
theorem d_Mo_jugs_112 : decode b_Mo_jugs 112 = .ok (.iload_n 3, 1) := by decide +kernel
theorem d_Mo_jugs_113 : decode b_Mo_jugs 113 = .ok (.invokevirtual 107, 3) := by decide +kernel
theorem d_Mo_jugs_116 : decode b_Mo_jugs 116 = .ok (.aload_n 0, 1) := by decide +kernel
theorem d_Mo_jugs_117 : decode b_Mo_jugs 117 = .ok (.aload_n 0, 1) := by decide +kernel
theorem d_Mo_jugs_118 : decode b_Mo_jugs 118 = .ok (.invokevirtual 92, 3) := by decide +kernel
theorem d_Mo_jugs_121 : decode b_Mo_jugs 121 = .ok (.iload_n 1, 1) := by decide +kernel
theorem d_Mo_jugs_122 : decode b_Mo_jugs 122 = .ok (.iload_n 2, 1) := by decide +kernel
theorem d_Mo_jugs_123 : decode b_Mo_jugs 123 = .ok (.iload_n 3, 1) := by decide +kernel
theorem d_Mo_jugs_124 : decode b_Mo_jugs 124 = .ok (.invokevirtual 88, 3) := by decide +kernel
theorem d_Mo_jugs_127 : decode b_Mo_jugs 127 = .ok (.iinc 3 1, 3) := by decide +kernel
theorem d_Mo_jugs_130 : decode b_Mo_jugs 130 = .ok (.goto (-46), 3) := by decide +kernel
theorem d_Mo_jugs_133 : decode b_Mo_jugs 133 = .ok (.iinc 2 1, 3) := by decide +kernel
theorem d_Mo_jugs_136 : decode b_Mo_jugs 136 = .ok (.goto (-62), 3) := by decide +kernel
theorem d_Mo_jugs_139 : decode b_Mo_jugs 139 = .ok (.iinc 1 1, 3) := by decide +kernel
theorem d_Mo_jugs_142 : decode b_Mo_jugs 142 = .ok (.goto (-97), 3) := by decide +kernel
theorem d_Mo_jugs_145 : decode b_Mo_jugs 145 = .ok (.iconst (-1), 1) := by decide +kernel
theorem d_Mo_jugs_146 : decode b_Mo_jugs 146 = .ok (.ireturn, 1) := by decide +kernel
theorem d_Mo_mayStay_0 : decode b_Mo_mayStay 0 = .ok (.iconst 0, 1) := by decide +kernel
theorem d_Mo_mayStay_1 : decode b_Mo_mayStay 1 = .ok (.istore_n 2, 1) := by decide +kernel
theorem d_Mo_mayStay_2 : decode b_Mo_mayStay 2 = .ok (.iload_n 2, 1) := by decide +kernel
theorem d_Mo_mayStay_3 : decode b_Mo_mayStay 3 = .ok (.aload_n 0, 1) := by decide +kernel
theorem d_Mo_mayStay_4 : decode b_Mo_mayStay 4 = .ok (.getfield 114, 3) := by decide +kernel
theorem d_Mo_mayStay_7 : decode b_Mo_mayStay 7 = .ok (.if_icmp .ge 31, 3) := by decide +kernel
theorem d_Mo_mayStay_10 : decode b_Mo_mayStay 10 = .ok (.iload_n 1, 1) := by decide +kernel
theorem d_Mo_mayStay_11 : decode b_Mo_mayStay 11 = .ok (.iload_n 2, 1) := by decide +kernel
theorem d_Mo_mayStay_12 : decode b_Mo_mayStay 12 = .ok (.ishr, 1) := by decide +kernel
theorem d_Mo_mayStay_13 : decode b_Mo_mayStay 13 = .ok (.iconst 1, 1) := by decide +kernel
theorem d_Mo_mayStay_14 : decode b_Mo_mayStay 14 = .ok (.iand, 1) := by decide +kernel
theorem d_Mo_mayStay_15 : decode b_Mo_mayStay 15 = .ok (.iconst 1, 1) := by decide +kernel
theorem d_Mo_mayStay_16 : decode b_Mo_mayStay 16 = .ok (.if_icmp .ne 16, 3) := by decide +kernel
theorem d_Mo_mayStay_19 : decode b_Mo_mayStay 19 = .ok (.aload_n 0, 1) := by decide +kernel
theorem d_Mo_mayStay_20 : decode b_Mo_mayStay 20 = .ok (.getfield 50, 3) := by decide +kernel
theorem d_Mo_mayStay_23 : decode b_Mo_mayStay 23 = .ok (.iload_n 2, 1) := by decide +kernel
theorem d_Mo_mayStay_24 : decode b_Mo_mayStay 24 = .ok (.iaload, 1) := by decide +kernel
theorem d_Mo_mayStay_25 : decode b_Mo_mayStay 25 = .ok (.iload_n 1, 1) := by decide +kernel
theorem d_Mo_mayStay_26 : decode b_Mo_mayStay 26 = .ok (.iand, 1) := by decide +kernel
theorem d_Mo_mayStay_27 : decode b_Mo_mayStay 27 = .ok (.ifCond .eq 5, 3) := by decide +kernel
theorem d_Mo_mayStay_30 : decode b_Mo_mayStay 30 = .ok (.iconst 0, 1) := by decide +kernel
theorem d_Mo_mayStay_31 : decode b_Mo_mayStay 31 = .ok (.ireturn, 1) := by decide +kernel
theorem d_Mo_mayStay_32 : decode b_Mo_mayStay 32 = .ok (.iinc 2 1, 3) := by decide +kernel
theorem d_Mo_mayStay_35 : decode b_Mo_mayStay 35 = .ok (.goto (-33), 3) := by decide +kernel
theorem d_Mo_mayStay_38 : decode b_Mo_mayStay 38 = .ok (.iconst 1, 1) := by decide +kernel
theorem d_Mo_mayStay_39 : decode b_Mo_mayStay 39 = .ok (.ireturn, 1) := by decide +kernel
theorem d_Mo_parse_0 : decode b_Mo_parse 0 = .ok (.aload_n 0, 1) := by decide +kernel
theorem d_Mo_parse_1 : decode b_Mo_parse 1 = .ok (.iconst 0, 1) := by decide +kernel
theorem d_Mo_parse_2 : decode b_Mo_parse 2 = .ok (.putfield 114, 3) := by decide +kernel
theorem d_Mo_parse_5 : decode b_Mo_parse 5 = .ok (.iconst 0, 1) := by decide +kernel
theorem d_Mo_parse_6 : decode b_Mo_parse 6 = .ok (.istore_n 1, 1) := by decide +kernel
theorem d_Mo_parse_7 : decode b_Mo_parse 7 = .ok (.iload_n 1, 1) := by decide +kernel
theorem d_Mo_parse_8 : decode b_Mo_parse 8 = .ok (.bipush 8, 2) := by decide +kernel
theorem d_Mo_parse_10 : decode b_Mo_parse 10 = .ok (.if_icmp .ge 23, 3) := by decide +kernel
theorem d_Mo_parse_13 : decode b_Mo_parse 13 = .ok (.aload_n 0, 1) := by decide +kernel
theorem d_Mo_parse_14 : decode b_Mo_parse 14 = .ok (.getfield 47, 3) := by decide +kernel
theorem d_Mo_parse_17 : decode b_Mo_parse 17 = .ok (.iload_n 1, 1) := by decide +kernel
theorem d_Mo_parse_18 : decode b_Mo_parse 18 = .ok (.iconst (-1), 1) := by decide +kernel
theorem d_Mo_parse_19 : decode b_Mo_parse 19 = .ok (.iastore, 1) := by decide +kernel
theorem d_Mo_parse_20 : decode b_Mo_parse 20 = .ok (.aload_n 0, 1) := by decide +kernel
theorem d_Mo_parse_21 : decode b_Mo_parse 21 = .ok (.getfield 50, 3) := by decide +kernel
theorem d_Mo_parse_24 : decode b_Mo_parse 24 = .ok (.iload_n 1, 1) := by decide +kernel
theorem d_Mo_parse_25 : decode b_Mo_parse 25 = .ok (.iconst 0, 1) := by decide +kernel
theorem d_Mo_parse_26 : decode b_Mo_parse 26 = .ok (.iastore, 1) := by decide +kernel
theorem d_Mo_parse_27 : decode b_Mo_parse 27 = .ok (.iinc 1 1, 3) := by decide +kernel
theorem d_Mo_parse_30 : decode b_Mo_parse 30 = .ok (.goto (-23), 3) := by decide +kernel
theorem d_Mo_parse_33 : decode b_Mo_parse 33 = .ok (.iconst 0, 1) := by decide +kernel
theorem d_Mo_parse_34 : decode b_Mo_parse 34 = .ok (.istore_n 1, 1) := by decide +kernel
theorem d_Mo_parse_35 : decode b_Mo_parse 35 = .ok (.aload_n 0, 1) := by decide +kernel
theorem d_Mo_parse_36 : decode b_Mo_parse 36 = .ok (.iload_n 1, 1) := by decide +kernel
theorem d_Mo_parse_37 : decode b_Mo_parse 37 = .ok (.invokevirtual 117, 3) := by decide +kernel
theorem d_Mo_parse_40 : decode b_Mo_parse 40 = .ok (.bipush 97, 2) := by decide +kernel
theorem d_Mo_parse_42 : decode b_Mo_parse 42 = .ok (.if_icmp .lt 58, 3) := by decide +kernel
theorem d_Mo_parse_45 : decode b_Mo_parse 45 = .ok (.aload_n 0, 1) := by decide +kernel
theorem d_Mo_parse_46 : decode b_Mo_parse 46 = .ok (.iload_n 1, 1) := by decide +kernel
theorem d_Mo_parse_47 : decode b_Mo_parse 47 = .ok (.invokevirtual 117, 3) := by decide +kernel
theorem d_Mo_parse_50 : decode b_Mo_parse 50 = .ok (.bipush 104, 2) := by decide +kernel
theorem d_Mo_parse_52 : decode b_Mo_parse 52 = .ok (.if_icmp .gt 48, 3) := by decide +kernel
theorem d_Mo_parse_55 : decode b_Mo_parse 55 = .ok (.aload_n 0, 1) := by decide +kernel
theorem d_Mo_parse_56 : decode b_Mo_parse 56 = .ok (.aload_n 0, 1) := by decide +kernel
theorem d_Mo_parse_57 : decode b_Mo_parse 57 = .ok (.iload_n 1, 1) := by decide +kernel
theorem d_Mo_parse_58 : decode b_Mo_parse 58 = .ok (.invokevirtual 117, 3) := by decide +kernel
theorem d_Mo_parse_61 : decode b_Mo_parse 61 = .ok (.invokevirtual 120, 3) := by decide +kernel
theorem d_Mo_parse_64 : decode b_Mo_parse 64 = .ok (.ifCond .ge 36, 3) := by decide +kernel
theorem d_Mo_parse_67 : decode b_Mo_parse 67 = .ok (.aload_n 0, 1) := by decide +kernel
theorem d_Mo_parse_68 : decode b_Mo_parse 68 = .ok (.getfield 47, 3) := by decide +kernel
theorem d_Mo_parse_71 : decode b_Mo_parse 71 = .ok (.aload_n 0, 1) := by decide +kernel
theorem d_Mo_parse_72 : decode b_Mo_parse 72 = .ok (.iload_n 1, 1) := by decide +kernel
theorem d_Mo_parse_73 : decode b_Mo_parse 73 = .ok (.invokevirtual 117, 3) := by decide +kernel
theorem d_Mo_parse_76 : decode b_Mo_parse 76 = .ok (.bipush 97, 2) := by decide +kernel
theorem d_Mo_parse_78 : decode b_Mo_parse 78 = .ok (.isub, 1) := by decide +kernel
theorem d_Mo_parse_79 : decode b_Mo_parse 79 = .ok (.aload_n 0, 1) := by decide +kernel
theorem d_Mo_parse_80 : decode b_Mo_parse 80 = .ok (.getfield 114, 3) := by decide +kernel
theorem d_Mo_parse_83 : decode b_Mo_parse 83 = .ok (.iastore, 1) := by decide +kernel
theorem d_Mo_parse_84 : decode b_Mo_parse 84 = .ok (.aload_n 0, 1) := by decide +kernel
theorem d_Mo_parse_85 : decode b_Mo_parse 85 = .ok (.dup, 1) := by decide +kernel
theorem d_Mo_parse_86 : decode b_Mo_parse 86 = .ok (.getfield 114, 3) := by decide +kernel
theorem d_Mo_parse_89 : decode b_Mo_parse 89 = .ok (.iconst 1, 1) := by decide +kernel
theorem d_Mo_parse_90 : decode b_Mo_parse 90 = .ok (.iadd, 1) := by decide +kernel
theorem d_Mo_parse_91 : decode b_Mo_parse 91 = .ok (.putfield 114, 3) := by decide +kernel
theorem d_Mo_parse_94 : decode b_Mo_parse 94 = .ok (.iinc 1 1, 3) := by decide +kernel
theorem d_Mo_parse_97 : decode b_Mo_parse 97 = .ok (.goto (-62), 3) := by decide +kernel
theorem d_Mo_parse_100 : decode b_Mo_parse 100 = .ok (.aload_n 0, 1) := by decide +kernel
theorem d_Mo_parse_101 : decode b_Mo_parse 101 = .ok (.getfield 114, 3) := by decide +kernel
theorem d_Mo_parse_104 : decode b_Mo_parse 104 = .ok (.ifCond .ne 5, 3) := by decide +kernel
theorem d_Mo_parse_107 : decode b_Mo_parse 107 = .ok (.iload_n 1, 1) := by decide +kernel
theorem d_Mo_parse_108 : decode b_Mo_parse 108 = .ok (.ireturn, 1) := by decide +kernel
theorem d_Mo_parse_109 : decode b_Mo_parse 109 = .ok (.aload_n 0, 1) := by decide +kernel
theorem d_Mo_parse_110 : decode b_Mo_parse 110 = .ok (.iload_n 1, 1) := by decide +kernel
theorem d_Mo_parse_111 : decode b_Mo_parse 111 = .ok (.invokevirtual 117, 3) := by decide +kernel
theorem d_Mo_parse_114 : decode b_Mo_parse 114 = .ok (.bipush 32, 2) := by decide +kernel
theorem d_Mo_parse_116 : decode b_Mo_parse 116 = .ok (.if_icmp .eq 5, 3) := by decide +kernel
theorem d_Mo_parse_119 : decode b_Mo_parse 119 = .ok (.iload_n 1, 1) := by decide +kernel
theorem d_Mo_parse_120 : decode b_Mo_parse 120 = .ok (.ireturn, 1) := by decide +kernel
theorem d_Mo_parse_121 : decode b_Mo_parse 121 = .ok (.iinc 1 1, 3) := by decide +kernel
theorem d_Mo_parse_124 : decode b_Mo_parse 124 = .ok (.aload_n 0, 1) := by decide +kernel
theorem d_Mo_parse_125 : decode b_Mo_parse 125 = .ok (.iload_n 1, 1) := by decide +kernel
theorem d_Mo_parse_126 : decode b_Mo_parse 126 = .ok (.invokevirtual 117, 3) := by decide +kernel
theorem d_Mo_parse_129 : decode b_Mo_parse 129 = .ok (.bipush 49, 2) := by decide +kernel
theorem d_Mo_parse_131 : decode b_Mo_parse 131 = .ok (.if_icmp .lt 43, 3) := by decide +kernel
theorem d_Mo_parse_134 : decode b_Mo_parse 134 = .ok (.aload_n 0, 1) := by decide +kernel
theorem d_Mo_parse_135 : decode b_Mo_parse 135 = .ok (.iload_n 1, 1) := by decide +kernel
theorem d_Mo_parse_136 : decode b_Mo_parse 136 = .ok (.invokevirtual 117, 3) := by decide +kernel
theorem d_Mo_parse_139 : decode b_Mo_parse 139 = .ok (.bipush 51, 2) := by decide +kernel
theorem d_Mo_parse_141 : decode b_Mo_parse 141 = .ok (.if_icmp .gt 33, 3) := by decide +kernel
theorem d_Mo_parse_144 : decode b_Mo_parse 144 = .ok (.aload_n 0, 1) := by decide +kernel
theorem d_Mo_parse_145 : decode b_Mo_parse 145 = .ok (.aload_n 0, 1) := by decide +kernel
theorem d_Mo_parse_146 : decode b_Mo_parse 146 = .ok (.iload_n 1, 1) := by decide +kernel
theorem d_Mo_parse_147 : decode b_Mo_parse 147 = .ok (.invokevirtual 117, 3) := by decide +kernel
theorem d_Mo_parse_150 : decode b_Mo_parse 150 = .ok (.bipush 48, 2) := by decide +kernel
theorem d_Mo_parse_152 : decode b_Mo_parse 152 = .ok (.isub, 1) := by decide +kernel
theorem d_Mo_parse_153 : decode b_Mo_parse 153 = .ok (.putfield 123, 3) := by decide +kernel
theorem d_Mo_parse_156 : decode b_Mo_parse 156 = .ok (.iload_n 1, 1) := by decide +kernel
theorem d_Mo_parse_157 : decode b_Mo_parse 157 = .ok (.iconst 1, 1) := by decide +kernel
theorem d_Mo_parse_158 : decode b_Mo_parse 158 = .ok (.iadd, 1) := by decide +kernel
theorem d_Mo_parse_159 : decode b_Mo_parse 159 = .ok (.aload_n 0, 1) := by decide +kernel
theorem d_Mo_parse_160 : decode b_Mo_parse 160 = .ok (.getfield 111, 3) := by decide +kernel
theorem d_Mo_parse_163 : decode b_Mo_parse 163 = .ok (.if_icmp .ne 7, 3) := by decide +kernel
theorem d_Mo_parse_166 : decode b_Mo_parse 166 = .ok (.iconst (-1), 1) := by decide +kernel
theorem d_Mo_parse_167 : decode b_Mo_parse 167 = .ok (.goto 6, 3) := by decide +kernel
theorem d_Mo_parse_170 : decode b_Mo_parse 170 = .ok (.iload_n 1, 1) := by decide +kernel
theorem d_Mo_parse_171 : decode b_Mo_parse 171 = .ok (.iconst 1, 1) := by decide +kernel
theorem d_Mo_parse_172 : decode b_Mo_parse 172 = .ok (.iadd, 1) := by decide +kernel
theorem d_Mo_parse_173 : decode b_Mo_parse 173 = .ok (.ireturn, 1) := by decide +kernel
theorem d_Mo_parse_174 : decode b_Mo_parse 174 = .ok (.aload_n 0, 1) := by decide +kernel
theorem d_Mo_parse_175 : decode b_Mo_parse 175 = .ok (.aload_n 0, 1) := by decide +kernel
theorem d_Mo_parse_176 : decode b_Mo_parse 176 = .ok (.iload_n 1, 1) := by decide +kernel
theorem d_Mo_parse_177 : decode b_Mo_parse 177 = .ok (.invokevirtual 117, 3) := by decide +kernel
theorem d_Mo_parse_180 : decode b_Mo_parse 180 = .ok (.invokevirtual 120, 3) := by decide +kernel
theorem d_Mo_parse_183 : decode b_Mo_parse 183 = .ok (.istore_n 2, 1) := by decide +kernel
theorem d_Mo_parse_184 : decode b_Mo_parse 184 = .ok (.iload_n 2, 1) := by decide +kernel
theorem d_Mo_parse_185 : decode b_Mo_parse 185 = .ok (.ifCond .ge 5, 3) := by decide +kernel
theorem d_Mo_parse_188 : decode b_Mo_parse 188 = .ok (.iload_n 1, 1) := by decide +kernel
theorem d_Mo_parse_189 : decode b_Mo_parse 189 = .ok (.ireturn, 1) := by decide +kernel
theorem d_Mo_parse_190 : decode b_Mo_parse 190 = .ok (.aload_n 0, 1) := by decide +kernel
theorem d_Mo_parse_191 : decode b_Mo_parse 191 = .ok (.aload_n 0, 1) := by decide +kernel
theorem d_Mo_parse_192 : decode b_Mo_parse 192 = .ok (.iload_n 1, 1) := by decide +kernel
theorem d_Mo_parse_193 : decode b_Mo_parse 193 = .ok (.iconst 1, 1) := by decide +kernel
theorem d_Mo_parse_194 : decode b_Mo_parse 194 = .ok (.iadd, 1) := by decide +kernel
theorem d_Mo_parse_195 : decode b_Mo_parse 195 = .ok (.invokevirtual 117, 3) := by decide +kernel
theorem d_Mo_parse_198 : decode b_Mo_parse 198 = .ok (.invokevirtual 120, 3) := by decide +kernel
theorem d_Mo_parse_201 : decode b_Mo_parse 201 = .ok (.istore_n 3, 1) := by decide +kernel
theorem d_Mo_parse_202 : decode b_Mo_parse 202 = .ok (.iload_n 3, 1) := by decide +kernel
theorem d_Mo_parse_203 : decode b_Mo_parse 203 = .ok (.ifCond .lt 8, 3) := by decide +kernel
theorem d_Mo_parse_206 : decode b_Mo_parse 206 = .ok (.iload_n 2, 1) := by decide +kernel
theorem d_Mo_parse_207 : decode b_Mo_parse 207 = .ok (.iload_n 3, 1) := by decide +kernel
theorem d_Mo_parse_208 : decode b_Mo_parse 208 = .ok (.if_icmp .ne 7, 3) := by decide +kernel
theorem d_Mo_parse_211 : decode b_Mo_parse 211 = .ok (.iload_n 1, 1) := by decide +kernel
theorem d_Mo_parse_212 : decode b_Mo_parse 212 = .ok (.iconst 1, 1) := by decide +kernel
theorem d_Mo_parse_213 : decode b_Mo_parse 213 = .ok (.iadd, 1) := by decide +kernel
theorem d_Mo_parse_214 : decode b_Mo_parse 214 = .ok (.ireturn, 1) := by decide +kernel
theorem d_Mo_parse_215 : decode b_Mo_parse 215 = .ok (.aload_n 0, 1) := by decide +kernel
theorem d_Mo_parse_216 : decode b_Mo_parse 216 = .ok (.getfield 50, 3) := by decide +kernel
theorem d_Mo_parse_219 : decode b_Mo_parse 219 = .ok (.iload_n 2, 1) := by decide +kernel
theorem d_Mo_parse_220 : decode b_Mo_parse 220 = .ok (.aload_n 0, 1) := by decide +kernel
theorem d_Mo_parse_221 : decode b_Mo_parse 221 = .ok (.getfield 50, 3) := by decide +kernel
theorem d_Mo_parse_224 : decode b_Mo_parse 224 = .ok (.iload_n 2, 1) := by decide +kernel
theorem d_Mo_parse_225 : decode b_Mo_parse 225 = .ok (.iaload, 1) := by decide +kernel
theorem d_Mo_parse_226 : decode b_Mo_parse 226 = .ok (.iconst 1, 1) := by decide +kernel
theorem d_Mo_parse_227 : decode b_Mo_parse 227 = .ok (.iload_n 3, 1) := by decide +kernel
theorem d_Mo_parse_228 : decode b_Mo_parse 228 = .ok (.ishl, 1) := by decide +kernel
theorem d_Mo_parse_229 : decode b_Mo_parse 229 = .ok (.ior, 1) := by decide +kernel
theorem d_Mo_parse_230 : decode b_Mo_parse 230 = .ok (.iastore, 1) := by decide +kernel
theorem d_Mo_parse_231 : decode b_Mo_parse 231 = .ok (.aload_n 0, 1) := by decide +kernel
theorem d_Mo_parse_232 : decode b_Mo_parse 232 = .ok (.getfield 50, 3) := by decide +kernel
theorem d_Mo_parse_235 : decode b_Mo_parse 235 = .ok (.iload_n 3, 1) := by decide +kernel
theorem d_Mo_parse_236 : decode b_Mo_parse 236 = .ok (.aload_n 0, 1) := by decide +kernel
theorem d_Mo_parse_237 : decode b_Mo_parse 237 = .ok (.getfield 50, 3) := by decide +kernel
theorem d_Mo_parse_240 : decode b_Mo_parse 240 = .ok (.iload_n 3, 1) := by decide +kernel
theorem d_Mo_parse_241 : decode b_Mo_parse 241 = .ok (.iaload, 1) := by decide +kernel
theorem d_Mo_parse_242 : decode b_Mo_parse 242 = .ok (.iconst 1, 1) := by decide +kernel
theorem d_Mo_parse_243 : decode b_Mo_parse 243 = .ok (.iload_n 2, 1) := by decide +kernel
theorem d_Mo_parse_244 : decode b_Mo_parse 244 = .ok (.ishl, 1) := by decide +kernel
theorem d_Mo_parse_245 : decode b_Mo_parse 245 = .ok (.ior, 1) := by decide +kernel
theorem d_Mo_parse_246 : decode b_Mo_parse 246 = .ok (.iastore, 1) := by decide +kernel
end
section
theorem d_Mo_parse_247 : decode b_Mo_parse 247 = .ok (.iinc 1 2, 3) := by decide +kernel
theorem d_Mo_parse_250 : decode b_Mo_parse 250 = .ok (.goto (-141), 3) := by decide +kernel
theorem d_Mo_pour_0 : decode b_Mo_pour 0 = .ok (.iload_n 1, 1) := by decide +kernel
theorem d_Mo_pour_1 : decode b_Mo_pour 1 = .ok (.ifCond .ge 18, 3) := by decide +kernel
theorem d_Mo_pour_4 : decode b_Mo_pour 4 = .ok (.aload_n 0, 1) := by decide +kernel
theorem d_Mo_pour_5 : decode b_Mo_pour 5 = .ok (.getfield 44, 3) := by decide +kernel
theorem d_Mo_pour_8 : decode b_Mo_pour 8 = .ok (.iload_n 2, 1) := by decide +kernel
theorem d_Mo_pour_9 : decode b_Mo_pour 9 = .ok (.aload_n 0, 1) := by decide +kernel
theorem d_Mo_pour_10 : decode b_Mo_pour 10 = .ok (.getfield 7, 3) := by decide +kernel
theorem d_Mo_pour_13 : decode b_Mo_pour 13 = .ok (.iload_n 2, 1) := by decide +kernel
theorem d_Mo_pour_14 : decode b_Mo_pour 14 = .ok (.iaload, 1) := by decide +kernel
theorem d_Mo_pour_15 : decode b_Mo_pour 15 = .ok (.iastore, 1) := by decide +kernel
theorem d_Mo_pour_16 : decode b_Mo_pour 16 = .ok (.goto 75, 3) := by decide +kernel
theorem d_Mo_pour_19 : decode b_Mo_pour 19 = .ok (.iload_n 2, 1) := by decide +kernel
theorem d_Mo_pour_20 : decode b_Mo_pour 20 = .ok (.ifCond .ge 13, 3) := by decide +kernel
theorem d_Mo_pour_23 : decode b_Mo_pour 23 = .ok (.aload_n 0, 1) := by decide +kernel
theorem d_Mo_pour_24 : decode b_Mo_pour 24 = .ok (.getfield 44, 3) := by decide +kernel
theorem d_Mo_pour_27 : decode b_Mo_pour 27 = .ok (.iload_n 1, 1) := by decide +kernel
theorem d_Mo_pour_28 : decode b_Mo_pour 28 = .ok (.iconst 0, 1) := by decide +kernel
theorem d_Mo_pour_29 : decode b_Mo_pour 29 = .ok (.iastore, 1) := by decide +kernel
theorem d_Mo_pour_30 : decode b_Mo_pour 30 = .ok (.goto 61, 3) := by decide +kernel
theorem d_Mo_pour_33 : decode b_Mo_pour 33 = .ok (.aload_n 0, 1) := by decide +kernel
theorem d_Mo_pour_34 : decode b_Mo_pour 34 = .ok (.getfield 7, 3) := by decide +kernel
theorem d_Mo_pour_37 : decode b_Mo_pour 37 = .ok (.iload_n 2, 1) := by decide +kernel
theorem d_Mo_pour_38 : decode b_Mo_pour 38 = .ok (.iaload, 1) := by decide +kernel
theorem d_Mo_pour_39 : decode b_Mo_pour 39 = .ok (.aload_n 0, 1) := by decide +kernel
theorem d_Mo_pour_40 : decode b_Mo_pour 40 = .ok (.getfield 44, 3) := by decide +kernel
theorem d_Mo_pour_43 : decode b_Mo_pour 43 = .ok (.iload_n 2, 1) := by decide +kernel
theorem d_Mo_pour_44 : decode b_Mo_pour 44 = .ok (.iaload, 1) := by decide +kernel
theorem d_Mo_pour_45 : decode b_Mo_pour 45 = .ok (.isub, 1) := by decide +kernel
theorem d_Mo_pour_46 : decode b_Mo_pour 46 = .ok (.istore_n 3, 1) := by decide +kernel
theorem d_Mo_pour_47 : decode b_Mo_pour 47 = .ok (.aload_n 0, 1) := by decide +kernel
theorem d_Mo_pour_48 : decode b_Mo_pour 48 = .ok (.getfield 44, 3) := by decide +kernel
theorem d_Mo_pour_51 : decode b_Mo_pour 51 = .ok (.iload_n 1, 1) := by decide +kernel
theorem d_Mo_pour_52 : decode b_Mo_pour 52 = .ok (.iaload, 1) := by decide +kernel
theorem d_Mo_pour_53 : decode b_Mo_pour 53 = .ok (.iload_n 3, 1) := by decide +kernel
theorem d_Mo_pour_54 : decode b_Mo_pour 54 = .ok (.if_icmp .ge 12, 3) := by decide +kernel
theorem d_Mo_pour_57 : decode b_Mo_pour 57 = .ok (.aload_n 0, 1) := by decide +kernel
theorem d_Mo_pour_58 : decode b_Mo_pour 58 = .ok (.getfield 44, 3) := by decide +kernel
theorem d_Mo_pour_61 : decode b_Mo_pour 61 = .ok (.iload_n 1, 1) := by decide +kernel
theorem d_Mo_pour_62 : decode b_Mo_pour 62 = .ok (.iaload, 1) := by decide +kernel
theorem d_Mo_pour_63 : decode b_Mo_pour 63 = .ok (.goto 4, 3) := by decide +kernel
theorem d_Mo_pour_66 : decode b_Mo_pour 66 = .ok (.iload_n 3, 1) := by decide +kernel
theorem d_Mo_pour_67 : decode b_Mo_pour 67 = .ok (.istore 4, 2) := by decide +kernel
theorem d_Mo_pour_69 : decode b_Mo_pour 69 = .ok (.aload_n 0, 1) := by decide +kernel
theorem d_Mo_pour_70 : decode b_Mo_pour 70 = .ok (.getfield 44, 3) := by decide +kernel
theorem d_Mo_pour_73 : decode b_Mo_pour 73 = .ok (.iload_n 1, 1) := by decide +kernel
theorem d_Mo_pour_74 : decode b_Mo_pour 74 = .ok (.dup2, 1) := by decide +kernel
theorem d_Mo_pour_75 : decode b_Mo_pour 75 = .ok (.iaload, 1) := by decide +kernel
theorem d_Mo_pour_76 : decode b_Mo_pour 76 = .ok (.iload 4, 2) := by decide +kernel
theorem d_Mo_pour_78 : decode b_Mo_pour 78 = .ok (.isub, 1) := by decide +kernel
theorem d_Mo_pour_79 : decode b_Mo_pour 79 = .ok (.iastore, 1) := by decide +kernel
theorem d_Mo_pour_80 : decode b_Mo_pour 80 = .ok (.aload_n 0, 1) := by decide +kernel
theorem d_Mo_pour_81 : decode b_Mo_pour 81 = .ok (.getfield 44, 3) := by decide +kernel
theorem d_Mo_pour_84 : decode b_Mo_pour 84 = .ok (.iload_n 2, 1) := by decide +kernel
theorem d_Mo_pour_85 : decode b_Mo_pour 85 = .ok (.dup2, 1) := by decide +kernel
theorem d_Mo_pour_86 : decode b_Mo_pour 86 = .ok (.iaload, 1) := by decide +kernel
theorem d_Mo_pour_87 : decode b_Mo_pour 87 = .ok (.iload 4, 2) := by decide +kernel
theorem d_Mo_pour_89 : decode b_Mo_pour 89 = .ok (.iadd, 1) := by decide +kernel
theorem d_Mo_pour_90 : decode b_Mo_pour 90 = .ok (.iastore, 1) := by decide +kernel
theorem d_Mo_pour_91 : decode b_Mo_pour 91 = .ok (.return_, 1) := by decide +kernel
theorem d_Mo_ring_0 : decode b_Mo_ring 0 = .ok (.aload_n 0, 1) := by decide +kernel
theorem d_Mo_ring_1 : decode b_Mo_ring 1 = .ok (.iconst 0, 1) := by decide +kernel
theorem d_Mo_ring_2 : decode b_Mo_ring 2 = .ok (.putfield 72, 3) := by decide +kernel
theorem d_Mo_ring_5 : decode b_Mo_ring 5 = .ok (.iload_n 1, 1) := by decide +kernel
theorem d_Mo_ring_6 : decode b_Mo_ring 6 = .ok (.ifCond .lt 24, 3) := by decide +kernel
theorem d_Mo_ring_9 : decode b_Mo_ring 9 = .ok (.iload_n 1, 1) := by decide +kernel
theorem d_Mo_ring_10 : decode b_Mo_ring 10 = .ok (.bipush 60, 2) := by decide +kernel
theorem d_Mo_ring_12 : decode b_Mo_ring 12 = .ok (.if_icmp .gt 18, 3) := by decide +kernel
theorem d_Mo_ring_15 : decode b_Mo_ring 15 = .ok (.lload_n 2, 1) := by decide +kernel
theorem d_Mo_ring_16 : decode b_Mo_ring 16 = .ok (.lconst 0, 1) := by decide +kernel
theorem d_Mo_ring_17 : decode b_Mo_ring 17 = .ok (.lcmp, 1) := by decide +kernel
theorem d_Mo_ring_18 : decode b_Mo_ring 18 = .ok (.ifCond .lt 12, 3) := by decide +kernel
theorem d_Mo_ring_21 : decode b_Mo_ring 21 = .ok (.lload_n 2, 1) := by decide +kernel
theorem d_Mo_ring_22 : decode b_Mo_ring 22 = .ok (.iload_n 1, 1) := by decide +kernel
theorem d_Mo_ring_23 : decode b_Mo_ring 23 = .ok (.invokestatic 165, 3) := by decide +kernel
theorem d_Mo_ring_26 : decode b_Mo_ring 26 = .ok (.lcmp, 1) := by decide +kernel
theorem d_Mo_ring_27 : decode b_Mo_ring 27 = .ok (.ifCond .le 7, 3) := by decide +kernel
theorem d_Mo_ring_30 : decode b_Mo_ring 30 = .ok (.ldc2_w 135, 3) := by decide +kernel
theorem d_Mo_ring_33 : decode b_Mo_ring 33 = .ok (.lreturn, 1) := by decide +kernel
theorem d_Mo_ring_34 : decode b_Mo_ring 34 = .ok (.iload_n 1, 1) := by decide +kernel
theorem d_Mo_ring_35 : decode b_Mo_ring 35 = .ok (.invokestatic 165, 3) := by decide +kernel
theorem d_Mo_ring_38 : decode b_Mo_ring 38 = .ok (.lload_n 2, 1) := by decide +kernel
theorem d_Mo_ring_39 : decode b_Mo_ring 39 = .ok (.lsub, 1) := by decide +kernel
theorem d_Mo_ring_40 : decode b_Mo_ring 40 = .ok (.lstore 4, 2) := by decide +kernel
theorem d_Mo_ring_42 : decode b_Mo_ring 42 = .ok (.lload 4, 2) := by decide +kernel
theorem d_Mo_ring_44 : decode b_Mo_ring 44 = .ok (.lload 4, 2) := by decide +kernel
theorem d_Mo_ring_46 : decode b_Mo_ring 46 = .ok (.iconst 1, 1) := by decide +kernel
theorem d_Mo_ring_47 : decode b_Mo_ring 47 = .ok (.lshr, 1) := by decide +kernel
theorem d_Mo_ring_48 : decode b_Mo_ring 48 = .ok (.lxor, 1) := by decide +kernel
theorem d_Mo_ring_49 : decode b_Mo_ring 49 = .ok (.lreturn, 1) := by decide +kernel
theorem d_Mo_rings_0 : decode b_Mo_rings 0 = .ok (.aload_n 0, 1) := by decide +kernel
theorem d_Mo_rings_1 : decode b_Mo_rings 1 = .ok (.iconst 0, 1) := by decide +kernel
theorem d_Mo_rings_2 : decode b_Mo_rings 2 = .ok (.putfield 72, 3) := by decide +kernel
theorem d_Mo_rings_5 : decode b_Mo_rings 5 = .ok (.iload_n 1, 1) := by decide +kernel
theorem d_Mo_rings_6 : decode b_Mo_rings 6 = .ok (.ifCond .lt 9, 3) := by decide +kernel
theorem d_Mo_rings_9 : decode b_Mo_rings 9 = .ok (.iload_n 1, 1) := by decide +kernel
theorem d_Mo_rings_10 : decode b_Mo_rings 10 = .ok (.bipush 60, 2) := by decide +kernel
theorem d_Mo_rings_12 : decode b_Mo_rings 12 = .ok (.if_icmp .le 9, 3) := by decide +kernel
theorem d_Mo_rings_15 : decode b_Mo_rings 15 = .ok (.ldc2_w 135, 3) := by decide +kernel
theorem d_Mo_rings_18 : decode b_Mo_rings 18 = .ok (.goto 7, 3) := by decide +kernel
theorem d_Mo_rings_21 : decode b_Mo_rings 21 = .ok (.iload_n 1, 1) := by decide +kernel
theorem d_Mo_rings_22 : decode b_Mo_rings 22 = .ok (.invokestatic 165, 3) := by decide +kernel
theorem d_Mo_rings_25 : decode b_Mo_rings 25 = .ok (.lreturn, 1) := by decide +kernel
theorem d_Mo_spare_0 : decode b_Mo_spare 0 = .ok (.iconst (-1), 1) := by decide +kernel
theorem d_Mo_spare_1 : decode b_Mo_spare 1 = .ok (.istore_n 3, 1) := by decide +kernel
theorem d_Mo_spare_2 : decode b_Mo_spare 2 = .ok (.iconst 0, 1) := by decide +kernel
theorem d_Mo_spare_3 : decode b_Mo_spare 3 = .ok (.istore 4, 2) := by decide +kernel
theorem d_Mo_spare_5 : decode b_Mo_spare 5 = .ok (.iload 4, 2) := by decide +kernel
theorem d_Mo_spare_7 : decode b_Mo_spare 7 = .ok (.iconst 4, 1) := by decide +kernel
theorem d_Mo_spare_8 : decode b_Mo_spare 8 = .ok (.if_icmp .ge 32, 3) := by decide +kernel
theorem d_Mo_spare_11 : decode b_Mo_spare 11 = .ok (.iload 4, 2) := by decide +kernel
theorem d_Mo_spare_13 : decode b_Mo_spare 13 = .ok (.iload_n 0, 1) := by decide +kernel
theorem d_Mo_spare_14 : decode b_Mo_spare 14 = .ok (.if_icmp .eq 20, 3) := by decide +kernel
theorem d_Mo_spare_17 : decode b_Mo_spare 17 = .ok (.iload 4, 2) := by decide +kernel
theorem d_Mo_spare_19 : decode b_Mo_spare 19 = .ok (.iload_n 1, 1) := by decide +kernel
theorem d_Mo_spare_20 : decode b_Mo_spare 20 = .ok (.if_icmp .eq 14, 3) := by decide +kernel
theorem d_Mo_spare_23 : decode b_Mo_spare 23 = .ok (.iload_n 3, 1) := by decide +kernel
theorem d_Mo_spare_24 : decode b_Mo_spare 24 = .ok (.ifCond .lt 7, 3) := by decide +kernel
theorem d_Mo_spare_27 : decode b_Mo_spare 27 = .ok (.iload_n 2, 1) := by decide +kernel
theorem d_Mo_spare_28 : decode b_Mo_spare 28 = .ok (.ifCond .eq 6, 3) := by decide +kernel
theorem d_Mo_spare_31 : decode b_Mo_spare 31 = .ok (.iload 4, 2) := by decide +kernel
theorem d_Mo_spare_33 : decode b_Mo_spare 33 = .ok (.istore_n 3, 1) := by decide +kernel
theorem d_Mo_spare_34 : decode b_Mo_spare 34 = .ok (.iinc 4 1, 3) := by decide +kernel
theorem d_Mo_spare_37 : decode b_Mo_spare 37 = .ok (.goto (-32), 3) := by decide +kernel
theorem d_Mo_spare_40 : decode b_Mo_spare 40 = .ok (.iload_n 3, 1) := by decide +kernel
theorem d_Mo_spare_41 : decode b_Mo_spare 41 = .ok (.ireturn, 1) := by decide +kernel
theorem d_Mo_step_0 : decode b_Mo_step 0 = .ok (.aload_n 0, 1) := by decide +kernel
theorem d_Mo_step_1 : decode b_Mo_step 1 = .ok (.iconst 0, 1) := by decide +kernel
theorem d_Mo_step_2 : decode b_Mo_step 2 = .ok (.putfield 72, 3) := by decide +kernel
theorem d_Mo_step_5 : decode b_Mo_step 5 = .ok (.iload_n 1, 1) := by decide +kernel
theorem d_Mo_step_6 : decode b_Mo_step 6 = .ok (.ifCond .lt 11, 3) := by decide +kernel
theorem d_Mo_step_9 : decode b_Mo_step 9 = .ok (.iload_n 1, 1) := by decide +kernel
theorem d_Mo_step_10 : decode b_Mo_step 10 = .ok (.aload_n 0, 1) := by decide +kernel
theorem d_Mo_step_11 : decode b_Mo_step 11 = .ok (.getfield 78, 3) := by decide +kernel
theorem d_Mo_step_14 : decode b_Mo_step 14 = .ok (.if_icmp .lt 6, 3) := by decide +kernel
theorem d_Mo_step_17 : decode b_Mo_step 17 = .ok (.bipush (-2), 2) := by decide +kernel
theorem d_Mo_step_19 : decode b_Mo_step 19 = .ok (.ireturn, 1) := by decide +kernel
theorem d_Mo_step_20 : decode b_Mo_step 20 = .ok (.iload_n 2, 1) := by decide +kernel
theorem d_Mo_step_21 : decode b_Mo_step 21 = .ok (.ifCond .eq 12, 3) := by decide +kernel
theorem d_Mo_step_24 : decode b_Mo_step 24 = .ok (.aload_n 0, 1) := by decide +kernel
theorem d_Mo_step_25 : decode b_Mo_step 25 = .ok (.getfield 25, 3) := by decide +kernel
theorem d_Mo_step_28 : decode b_Mo_step 28 = .ok (.iload_n 1, 1) := by decide +kernel
theorem d_Mo_step_29 : decode b_Mo_step 29 = .ok (.iaload, 1) := by decide +kernel
theorem d_Mo_step_30 : decode b_Mo_step 30 = .ok (.goto 9, 3) := by decide +kernel
theorem d_Mo_step_33 : decode b_Mo_step 33 = .ok (.aload_n 0, 1) := by decide +kernel
theorem d_Mo_step_34 : decode b_Mo_step 34 = .ok (.getfield 22, 3) := by decide +kernel
theorem d_Mo_step_37 : decode b_Mo_step 37 = .ok (.iload_n 1, 1) := by decide +kernel
theorem d_Mo_step_38 : decode b_Mo_step 38 = .ok (.iaload, 1) := by decide +kernel
theorem d_Mo_step_39 : decode b_Mo_step 39 = .ok (.ireturn, 1) := by decide +kernel
theorem d_Mo_take_0 : decode b_Mo_take 0 = .ok (.iload_n 1, 1) := by decide +kernel
theorem d_Mo_take_1 : decode b_Mo_take 1 = .ok (.istore_n 2, 1) := by decide +kernel
theorem d_Mo_take_2 : decode b_Mo_take 2 = .ok (.iconst 0, 1) := by decide +kernel
theorem d_Mo_take_3 : decode b_Mo_take 3 = .ok (.istore_n 3, 1) := by decide +kernel
theorem d_Mo_take_4 : decode b_Mo_take 4 = .ok (.iload_n 3, 1) := by decide +kernel
theorem d_Mo_take_5 : decode b_Mo_take 5 = .ok (.iconst 4, 1) := by decide +kernel
theorem d_Mo_take_6 : decode b_Mo_take 6 = .ok (.if_icmp .ge 24, 3) := by decide +kernel
theorem d_Mo_take_9 : decode b_Mo_take 9 = .ok (.aload_n 0, 1) := by decide +kernel
theorem d_Mo_take_10 : decode b_Mo_take 10 = .ok (.getfield 44, 3) := by decide +kernel
theorem d_Mo_take_13 : decode b_Mo_take 13 = .ok (.iload_n 3, 1) := by decide +kernel
theorem d_Mo_take_14 : decode b_Mo_take 14 = .ok (.iload_n 2, 1) := by decide +kernel
theorem d_Mo_take_15 : decode b_Mo_take 15 = .ok (.bipush 10, 2) := by decide +kernel
theorem d_Mo_take_17 : decode b_Mo_take 17 = .ok (.irem, 1) := by decide +kernel
theorem d_Mo_take_18 : decode b_Mo_take 18 = .ok (.iastore, 1) := by decide +kernel
theorem d_Mo_take_19 : decode b_Mo_take 19 = .ok (.iload_n 2, 1) := by decide +kernel
theorem d_Mo_take_20 : decode b_Mo_take 20 = .ok (.bipush 10, 2) := by decide +kernel
theorem d_Mo_take_22 : decode b_Mo_take 22 = .ok (.idiv, 1) := by decide +kernel
theorem d_Mo_take_23 : decode b_Mo_take 23 = .ok (.istore_n 2, 1) := by decide +kernel
theorem d_Mo_take_24 : decode b_Mo_take 24 = .ok (.iinc 3 1, 3) := by decide +kernel
theorem d_Mo_take_27 : decode b_Mo_take 27 = .ok (.goto (-23), 3) := by decide +kernel
theorem d_Mo_take_30 : decode b_Mo_take 30 = .ok (.return_, 1) := by decide +kernel
theorem d_Mo_thingOf_0 : decode b_Mo_thingOf 0 = .ok (.iload_n 1, 1) := by decide +kernel
theorem d_Mo_thingOf_1 : decode b_Mo_thingOf 1 = .ok (.bipush 97, 2) := by decide +kernel
theorem d_Mo_thingOf_3 : decode b_Mo_thingOf 3 = .ok (.if_icmp .lt 21, 3) := by decide +kernel
theorem d_Mo_thingOf_6 : decode b_Mo_thingOf 6 = .ok (.iload_n 1, 1) := by decide +kernel
theorem d_Mo_thingOf_7 : decode b_Mo_thingOf 7 = .ok (.bipush 104, 2) := by decide +kernel
theorem d_Mo_thingOf_9 : decode b_Mo_thingOf 9 = .ok (.if_icmp .gt 15, 3) := by decide +kernel
theorem d_Mo_thingOf_12 : decode b_Mo_thingOf 12 = .ok (.aload_n 0, 1) := by decide +kernel
theorem d_Mo_thingOf_13 : decode b_Mo_thingOf 13 = .ok (.getfield 47, 3) := by decide +kernel
theorem d_Mo_thingOf_16 : decode b_Mo_thingOf 16 = .ok (.iload_n 1, 1) := by decide +kernel
theorem d_Mo_thingOf_17 : decode b_Mo_thingOf 17 = .ok (.bipush 97, 2) := by decide +kernel
theorem d_Mo_thingOf_19 : decode b_Mo_thingOf 19 = .ok (.isub, 1) := by decide +kernel
theorem d_Mo_thingOf_20 : decode b_Mo_thingOf 20 = .ok (.iaload, 1) := by decide +kernel
theorem d_Mo_thingOf_21 : decode b_Mo_thingOf 21 = .ok (.goto 4, 3) := by decide +kernel
theorem d_Mo_thingOf_24 : decode b_Mo_thingOf 24 = .ok (.iconst (-1), 1) := by decide +kernel
theorem d_Mo_thingOf_25 : decode b_Mo_thingOf 25 = .ok (.ireturn, 1) := by decide +kernel
theorem d_Mo_three_0 : decode b_Mo_three 0 = .ok (.lconst 1, 1) := by decide +kernel
theorem d_Mo_three_1 : decode b_Mo_three 1 = .ok (.iload_n 0, 1) := by decide +kernel
theorem d_Mo_three_2 : decode b_Mo_three 2 = .ok (.lshl, 1) := by decide +kernel
theorem d_Mo_three_3 : decode b_Mo_three 3 = .ok (.lconst 1, 1) := by decide +kernel
theorem d_Mo_three_4 : decode b_Mo_three 4 = .ok (.lsub, 1) := by decide +kernel
theorem d_Mo_three_5 : decode b_Mo_three 5 = .ok (.lreturn, 1) := by decide +kernel
theorem d_Mo_tower_0 : decode b_Mo_tower 0 = .ok (.aload_n 0, 1) := by decide +kernel
theorem d_Mo_tower_1 : decode b_Mo_tower 1 = .ok (.iconst 0, 1) := by decide +kernel
theorem d_Mo_tower_2 : decode b_Mo_tower 2 = .ok (.putfield 72, 3) := by decide +kernel
theorem d_Mo_tower_5 : decode b_Mo_tower 5 = .ok (.iload_n 1, 1) := by decide +kernel
theorem d_Mo_tower_6 : decode b_Mo_tower 6 = .ok (.iconst 3, 1) := by decide +kernel
theorem d_Mo_tower_7 : decode b_Mo_tower 7 = .ok (.if_icmp .eq 8, 3) := by decide +kernel
theorem d_Mo_tower_10 : decode b_Mo_tower 10 = .ok (.iload_n 1, 1) := by decide +kernel
theorem d_Mo_tower_11 : decode b_Mo_tower 11 = .ok (.iconst 4, 1) := by decide +kernel
theorem d_Mo_tower_12 : decode b_Mo_tower 12 = .ok (.if_icmp .ne 13, 3) := by decide +kernel
theorem d_Mo_tower_15 : decode b_Mo_tower 15 = .ok (.iload_n 2, 1) := by decide +kernel
theorem d_Mo_tower_16 : decode b_Mo_tower 16 = .ok (.ifCond .lt 9, 3) := by decide +kernel
theorem d_Mo_tower_19 : decode b_Mo_tower 19 = .ok (.iload_n 2, 1) := by decide +kernel
theorem d_Mo_tower_20 : decode b_Mo_tower 20 = .ok (.bipush 40, 2) := by decide +kernel
theorem d_Mo_tower_22 : decode b_Mo_tower 22 = .ok (.if_icmp .le 7, 3) := by decide +kernel
theorem d_Mo_tower_25 : decode b_Mo_tower 25 = .ok (.ldc2_w 135, 3) := by decide +kernel
theorem d_Mo_tower_28 : decode b_Mo_tower 28 = .ok (.lreturn, 1) := by decide +kernel
theorem d_Mo_tower_29 : decode b_Mo_tower 29 = .ok (.aload_n 0, 1) := by decide +kernel
theorem d_Mo_tower_30 : decode b_Mo_tower 30 = .ok (.iload_n 1, 1) := by decide +kernel
theorem d_Mo_tower_31 : decode b_Mo_tower 31 = .ok (.putfield 53, 3) := by decide +kernel
theorem d_Mo_tower_34 : decode b_Mo_tower 34 = .ok (.aload_n 0, 1) := by decide +kernel
theorem d_Mo_tower_35 : decode b_Mo_tower 35 = .ok (.iload_n 2, 1) := by decide +kernel
theorem d_Mo_tower_36 : decode b_Mo_tower 36 = .ok (.putfield 137, 3) := by decide +kernel
theorem d_Mo_tower_39 : decode b_Mo_tower 39 = .ok (.aload_n 0, 1) := by decide +kernel
theorem d_Mo_tower_40 : decode b_Mo_tower 40 = .ok (.invokevirtual 140, 3) := by decide +kernel
theorem d_Mo_tower_43 : decode b_Mo_tower 43 = .ok (.lreturn, 1) := by decide +kernel
theorem d_Mo_towerMove_0 : decode b_Mo_towerMove 0 = .ok (.aload_n 0, 1) := by decide +kernel
theorem d_Mo_towerMove_1 : decode b_Mo_towerMove 1 = .ok (.iconst 0, 1) := by decide +kernel
theorem d_Mo_towerMove_2 : decode b_Mo_towerMove 2 = .ok (.putfield 72, 3) := by decide +kernel
theorem d_Mo_towerMove_5 : decode b_Mo_towerMove 5 = .ok (.lload_n 1, 1) := by decide +kernel
theorem d_Mo_towerMove_6 : decode b_Mo_towerMove 6 = .ok (.lconst 0, 1) := by decide +kernel
theorem d_Mo_towerMove_7 : decode b_Mo_towerMove 7 = .ok (.lcmp, 1) := by decide +kernel
theorem d_Mo_towerMove_8 : decode b_Mo_towerMove 8 = .ok (.ifCond .lt 21, 3) := by decide +kernel
theorem d_Mo_towerMove_11 : decode b_Mo_towerMove 11 = .ok (.lload_n 1, 1) := by decide +kernel
theorem d_Mo_towerMove_12 : decode b_Mo_towerMove 12 = .ok (.aload_n 0, 1) := by decide +kernel
theorem d_Mo_towerMove_13 : decode b_Mo_towerMove 13 = .ok (.invokevirtual 140, 3) := by decide +kernel
theorem d_Mo_towerMove_16 : decode b_Mo_towerMove 16 = .ok (.lcmp, 1) := by decide +kernel
theorem d_Mo_towerMove_17 : decode b_Mo_towerMove 17 = .ok (.ifCond .ge 12, 3) := by decide +kernel
theorem d_Mo_towerMove_20 : decode b_Mo_towerMove 20 = .ok (.iload_n 3, 1) := by decide +kernel
theorem d_Mo_towerMove_21 : decode b_Mo_towerMove 21 = .ok (.ifCond .lt 8, 3) := by decide +kernel
theorem d_Mo_towerMove_24 : decode b_Mo_towerMove 24 = .ok (.iload_n 3, 1) := by decide +kernel
theorem d_Mo_towerMove_25 : decode b_Mo_towerMove 25 = .ok (.iconst 2, 1) := by decide +kernel
theorem d_Mo_towerMove_26 : decode b_Mo_towerMove 26 = .ok (.if_icmp .le 5, 3) := by decide +kernel
theorem d_Mo_towerMove_29 : decode b_Mo_towerMove 29 = .ok (.iconst (-1), 1) := by decide +kernel
theorem d_Mo_towerMove_30 : decode b_Mo_towerMove 30 = .ok (.ireturn, 1) := by decide +kernel
theorem d_Mo_towerMove_31 : decode b_Mo_towerMove 31 = .ok (.aload_n 0, 1) := by decide +kernel
theorem d_Mo_towerMove_32 : decode b_Mo_towerMove 32 = .ok (.getfield 53, 3) := by decide +kernel
theorem d_Mo_towerMove_35 : decode b_Mo_towerMove 35 = .ok (.iconst 3, 1) := by decide +kernel
theorem d_Mo_towerMove_36 : decode b_Mo_towerMove 36 = .ok (.if_icmp .ne 19, 3) := by decide +kernel
theorem d_Mo_towerMove_39 : decode b_Mo_towerMove 39 = .ok (.aload_n 0, 1) := by decide +kernel
theorem d_Mo_towerMove_40 : decode b_Mo_towerMove 40 = .ok (.lload_n 1, 1) := by decide +kernel
theorem d_Mo_towerMove_41 : decode b_Mo_towerMove 41 = .ok (.aload_n 0, 1) := by decide +kernel
theorem d_Mo_towerMove_42 : decode b_Mo_towerMove 42 = .ok (.getfield 137, 3) := by decide +kernel
theorem d_Mo_towerMove_45 : decode b_Mo_towerMove 45 = .ok (.iconst 0, 1) := by decide +kernel
theorem d_Mo_towerMove_46 : decode b_Mo_towerMove 46 = .ok (.iconst 0, 1) := by decide +kernel
theorem d_Mo_towerMove_47 : decode b_Mo_towerMove 47 = .ok (.iconst 1, 1) := by decide +kernel
theorem d_Mo_towerMove_48 : decode b_Mo_towerMove 48 = .ok (.iconst 2, 1) := by decide +kernel
theorem d_Mo_towerMove_49 : decode b_Mo_towerMove 49 = .ok (.invokevirtual 157, 3) := by decide +kernel
theorem d_Mo_towerMove_52 : decode b_Mo_towerMove 52 = .ok (.goto 12, 3) := by decide +kernel
theorem d_Mo_towerMove_55 : decode b_Mo_towerMove 55 = .ok (.aload_n 0, 1) := by decide +kernel
theorem d_Mo_towerMove_56 : decode b_Mo_towerMove 56 = .ok (.lload_n 1, 1) := by decide +kernel
theorem d_Mo_towerMove_57 : decode b_Mo_towerMove 57 = .ok (.aload_n 0, 1) := by decide +kernel
theorem d_Mo_towerMove_58 : decode b_Mo_towerMove 58 = .ok (.getfield 137, 3) := by decide +kernel
theorem d_Mo_towerMove_61 : decode b_Mo_towerMove 61 = .ok (.invokevirtual 161, 3) := by decide +kernel
theorem d_Mo_towerMove_64 : decode b_Mo_towerMove 64 = .ok (.iload_n 3, 1) := by decide +kernel
theorem d_Mo_towerMove_65 : decode b_Mo_towerMove 65 = .ok (.ifCond .ne 10, 3) := by decide +kernel
theorem d_Mo_towerMove_68 : decode b_Mo_towerMove 68 = .ok (.aload_n 0, 1) := by decide +kernel
theorem d_Mo_towerMove_69 : decode b_Mo_towerMove 69 = .ok (.getfield 144, 3) := by decide +kernel
theorem d_Mo_towerMove_72 : decode b_Mo_towerMove 72 = .ok (.goto 19, 3) := by decide +kernel
theorem d_Mo_towerMove_75 : decode b_Mo_towerMove 75 = .ok (.iload_n 3, 1) := by decide +kernel
theorem d_Mo_towerMove_76 : decode b_Mo_towerMove 76 = .ok (.iconst 1, 1) := by decide +kernel
theorem d_Mo_towerMove_77 : decode b_Mo_towerMove 77 = .ok (.if_icmp .ne 10, 3) := by decide +kernel
theorem d_Mo_towerMove_80 : decode b_Mo_towerMove 80 = .ok (.aload_n 0, 1) := by decide +kernel
theorem d_Mo_towerMove_81 : decode b_Mo_towerMove 81 = .ok (.getfield 147, 3) := by decide +kernel
theorem d_Mo_towerMove_84 : decode b_Mo_towerMove 84 = .ok (.goto 7, 3) := by decide +kernel
theorem d_Mo_towerMove_87 : decode b_Mo_towerMove 87 = .ok (.aload_n 0, 1) := by decide +kernel
theorem d_Mo_towerMove_88 : decode b_Mo_towerMove 88 = .ok (.getfield 150, 3) := by decide +kernel
theorem d_Mo_towerMove_91 : decode b_Mo_towerMove 91 = .ok (.ireturn, 1) := by decide +kernel
theorem d_Mo_unit_0 : decode b_Mo_unit 0 = .ok (.aload_n 0, 1) := by decide +kernel
theorem d_Mo_unit_1 : decode b_Mo_unit 1 = .ok (.iconst 0, 1) := by decide +kernel
theorem d_Mo_unit_2 : decode b_Mo_unit 2 = .ok (.putfield 72, 3) := by decide +kernel
theorem d_Mo_unit_5 : decode b_Mo_unit 5 = .ok (.iload_n 1, 1) := by decide +kernel
theorem d_Mo_unit_6 : decode b_Mo_unit 6 = .ok (.ifCond .lt 19, 3) := by decide +kernel
theorem d_Mo_unit_9 : decode b_Mo_unit 9 = .ok (.iload_n 1, 1) := by decide +kernel
theorem d_Mo_unit_10 : decode b_Mo_unit 10 = .ok (.sipush 255, 3) := by decide +kernel
theorem d_Mo_unit_13 : decode b_Mo_unit 13 = .ok (.if_icmp .gt 12, 3) := by decide +kernel
theorem d_Mo_unit_16 : decode b_Mo_unit 16 = .ok (.aload_n 0, 1) := by decide +kernel
theorem d_Mo_unit_17 : decode b_Mo_unit 17 = .ok (.getfield 111, 3) := by decide +kernel
theorem d_Mo_unit_20 : decode b_Mo_unit 20 = .ok (.bipush 100, 2) := by decide +kernel
theorem d_Mo_unit_22 : decode b_Mo_unit 22 = .ok (.if_icmp .ne 5, 3) := by decide +kernel
theorem d_Mo_unit_25 : decode b_Mo_unit 25 = .ok (.iconst 0, 1) := by decide +kernel
theorem d_Mo_unit_26 : decode b_Mo_unit 26 = .ok (.ireturn, 1) := by decide +kernel
theorem d_Mo_unit_27 : decode b_Mo_unit 27 = .ok (.aload_n 0, 1) := by decide +kernel
theorem d_Mo_unit_28 : decode b_Mo_unit 28 = .ok (.getfield 19, 3) := by decide +kernel
theorem d_Mo_unit_31 : decode b_Mo_unit 31 = .ok (.aload_n 0, 1) := by decide +kernel
theorem d_Mo_unit_32 : decode b_Mo_unit 32 = .ok (.getfield 111, 3) := by decide +kernel
theorem d_Mo_unit_35 : decode b_Mo_unit 35 = .ok (.iload_n 1, 1) := by decide +kernel
theorem d_Mo_unit_36 : decode b_Mo_unit 36 = .ok (.iastore, 1) := by decide +kernel
theorem d_Mo_unit_37 : decode b_Mo_unit 37 = .ok (.aload_n 0, 1) := by decide +kernel
theorem d_Mo_unit_38 : decode b_Mo_unit 38 = .ok (.dup, 1) := by decide +kernel
theorem d_Mo_unit_39 : decode b_Mo_unit 39 = .ok (.getfield 111, 3) := by decide +kernel
theorem d_Mo_unit_42 : decode b_Mo_unit 42 = .ok (.iconst 1, 1) := by decide +kernel
theorem d_Mo_unit_43 : decode b_Mo_unit 43 = .ok (.iadd, 1) := by decide +kernel
theorem d_Mo_unit_44 : decode b_Mo_unit 44 = .ok (.putfield 111, 3) := by decide +kernel
theorem d_Mo_unit_47 : decode b_Mo_unit 47 = .ok (.iconst 1, 1) := by decide +kernel
theorem d_Mo_unit_48 : decode b_Mo_unit 48 = .ok (.ireturn, 1) := by decide +kernel
theorem d_Mo_weigh_0 : decode b_Mo_weigh 0 = .ok (.aload_n 0, 1) := by decide +kernel
theorem d_Mo_weigh_1 : decode b_Mo_weigh 1 = .ok (.iconst 0, 1) := by decide +kernel
theorem d_Mo_weigh_2 : decode b_Mo_weigh 2 = .ok (.putfield 72, 3) := by decide +kernel
theorem d_Mo_weigh_5 : decode b_Mo_weigh 5 = .ok (.iload_n 1, 1) := by decide +kernel
theorem d_Mo_weigh_6 : decode b_Mo_weigh 6 = .ok (.iconst 1, 1) := by decide +kernel
theorem d_Mo_weigh_7 : decode b_Mo_weigh 7 = .ok (.if_icmp .lt 18, 3) := by decide +kernel
theorem d_Mo_weigh_10 : decode b_Mo_weigh 10 = .ok (.iload_n 1, 1) := by decide +kernel
theorem d_Mo_weigh_11 : decode b_Mo_weigh 11 = .ok (.bipush 13, 2) := by decide +kernel
theorem d_Mo_weigh_13 : decode b_Mo_weigh 13 = .ok (.if_icmp .gt 12, 3) := by decide +kernel
theorem d_Mo_weigh_16 : decode b_Mo_weigh 16 = .ok (.iload_n 2, 1) := by decide +kernel
theorem d_Mo_weigh_17 : decode b_Mo_weigh 17 = .ok (.ifCond .eq 11, 3) := by decide +kernel
theorem d_Mo_weigh_20 : decode b_Mo_weigh 20 = .ok (.iload_n 2, 1) := by decide +kernel
theorem d_Mo_weigh_21 : decode b_Mo_weigh 21 = .ok (.iconst 1, 1) := by decide +kernel
theorem d_Mo_weigh_22 : decode b_Mo_weigh 22 = .ok (.if_icmp .eq 6, 3) := by decide +kernel
theorem d_Mo_weigh_25 : decode b_Mo_weigh 25 = .ok (.bipush (-2), 2) := by decide +kernel
theorem d_Mo_weigh_27 : decode b_Mo_weigh 27 = .ok (.ireturn, 1) := by decide +kernel
theorem d_Mo_weigh_28 : decode b_Mo_weigh 28 = .ok (.iload_n 2, 1) := by decide +kernel
theorem d_Mo_weigh_29 : decode b_Mo_weigh 29 = .ok (.iconst 1, 1) := by decide +kernel
theorem d_Mo_weigh_30 : decode b_Mo_weigh 30 = .ok (.if_icmp .ne 10, 3) := by decide +kernel
theorem d_Mo_weigh_33 : decode b_Mo_weigh 33 = .ok (.iload_n 1, 1) := by decide +kernel
theorem d_Mo_weigh_34 : decode b_Mo_weigh 34 = .ok (.iconst 3, 1) := by decide +kernel
theorem d_Mo_weigh_35 : decode b_Mo_weigh 35 = .ok (.if_icmp .ge 5, 3) := by decide +kernel
theorem d_Mo_weigh_38 : decode b_Mo_weigh 38 = .ok (.iconst (-1), 1) := by decide +kernel
theorem d_Mo_weigh_39 : decode b_Mo_weigh 39 = .ok (.ireturn, 1) := by decide +kernel
theorem d_Mo_weigh_40 : decode b_Mo_weigh 40 = .ok (.iconst 0, 1) := by decide +kernel
theorem d_Mo_weigh_41 : decode b_Mo_weigh 41 = .ok (.istore_n 3, 1) := by decide +kernel
theorem d_Mo_weigh_42 : decode b_Mo_weigh 42 = .ok (.iconst 1, 1) := by decide +kernel
theorem d_Mo_weigh_43 : decode b_Mo_weigh 43 = .ok (.istore 4, 2) := by decide +kernel
theorem d_Mo_weigh_45 : decode b_Mo_weigh 45 = .ok (.iload_n 2, 1) := by decide +kernel
theorem d_Mo_weigh_46 : decode b_Mo_weigh 46 = .ok (.ifCond .ne 12, 3) := by decide +kernel
theorem d_Mo_weigh_49 : decode b_Mo_weigh 49 = .ok (.iload 4, 2) := by decide +kernel
theorem d_Mo_weigh_51 : decode b_Mo_weigh 51 = .ok (.iload_n 1, 1) := by decide +kernel
theorem d_Mo_weigh_52 : decode b_Mo_weigh 52 = .ok (.if_icmp .ge 28, 3) := by decide +kernel
theorem d_Mo_weigh_55 : decode b_Mo_weigh 55 = .ok (.goto 13, 3) := by decide +kernel
theorem d_Mo_weigh_58 : decode b_Mo_weigh 58 = .ok (.iload 4, 2) := by decide +kernel
theorem d_Mo_weigh_60 : decode b_Mo_weigh 60 = .ok (.iconst 3, 1) := by decide +kernel
theorem d_Mo_weigh_61 : decode b_Mo_weigh 61 = .ok (.isub, 1) := by decide +kernel
theorem d_Mo_weigh_62 : decode b_Mo_weigh 62 = .ok (.iconst 2, 1) := by decide +kernel
theorem d_Mo_weigh_63 : decode b_Mo_weigh 63 = .ok (.idiv, 1) := by decide +kernel
theorem d_Mo_weigh_64 : decode b_Mo_weigh 64 = .ok (.iload_n 1, 1) := by decide +kernel
theorem d_Mo_weigh_65 : decode b_Mo_weigh 65 = .ok (.if_icmp .ge 15, 3) := by decide +kernel
theorem d_Mo_weigh_68 : decode b_Mo_weigh 68 = .ok (.iload 4, 2) := by decide +kernel
theorem d_Mo_weigh_70 : decode b_Mo_weigh 70 = .ok (.iconst 3, 1) := by decide +kernel
theorem d_Mo_weigh_71 : decode b_Mo_weigh 71 = .ok (.imul, 1) := by decide +kernel
theorem d_Mo_weigh_72 : decode b_Mo_weigh 72 = .ok (.istore 4, 2) := by decide +kernel
theorem d_Mo_weigh_74 : decode b_Mo_weigh 74 = .ok (.iinc 3 1, 3) := by decide +kernel
theorem d_Mo_weigh_77 : decode b_Mo_weigh 77 = .ok (.goto (-32), 3) := by decide +kernel
theorem d_Mo_weigh_80 : decode b_Mo_weigh 80 = .ok (.iload_n 3, 1) := by decide +kernel
theorem d_Mo_weigh_81 : decode b_Mo_weigh 81 = .ok (.ireturn, 1) := by decide +kernel
theorem d_Ig_bitCount_0 : decode b_Ig_bitCount 0 = .ok (.iload_n 0, 1) := by decide +kernel
theorem d_Ig_bitCount_1 : decode b_Ig_bitCount 1 = .ok (.iload_n 0, 1) := by decide +kernel
theorem d_Ig_bitCount_2 : decode b_Ig_bitCount 2 = .ok (.iconst 1, 1) := by decide +kernel
theorem d_Ig_bitCount_3 : decode b_Ig_bitCount 3 = .ok (.iushr, 1) := by decide +kernel
theorem d_Ig_bitCount_4 : decode b_Ig_bitCount 4 = .ok (.ldc_w 265, 3) := by decide +kernel
theorem d_Ig_bitCount_7 : decode b_Ig_bitCount 7 = .ok (.iand, 1) := by decide +kernel
theorem d_Ig_bitCount_8 : decode b_Ig_bitCount 8 = .ok (.isub, 1) := by decide +kernel
theorem d_Ig_bitCount_9 : decode b_Ig_bitCount 9 = .ok (.istore_n 0, 1) := by decide +kernel
theorem d_Ig_bitCount_10 : decode b_Ig_bitCount 10 = .ok (.iload_n 0, 1) := by decide +kernel
theorem d_Ig_bitCount_11 : decode b_Ig_bitCount 11 = .ok (.ldc_w 266, 3) := by decide +kernel
theorem d_Ig_bitCount_14 : decode b_Ig_bitCount 14 = .ok (.iand, 1) := by decide +kernel
theorem d_Ig_bitCount_15 : decode b_Ig_bitCount 15 = .ok (.iload_n 0, 1) := by decide +kernel
theorem d_Ig_bitCount_16 : decode b_Ig_bitCount 16 = .ok (.iconst 2, 1) := by decide +kernel
theorem d_Ig_bitCount_17 : decode b_Ig_bitCount 17 = .ok (.iushr, 1) := by decide +kernel
theorem d_Ig_bitCount_18 : decode b_Ig_bitCount 18 = .ok (.ldc_w 266, 3) := by decide +kernel
theorem d_Ig_bitCount_21 : decode b_Ig_bitCount 21 = .ok (.iand, 1) := by decide +kernel
theorem d_Ig_bitCount_22 : decode b_Ig_bitCount 22 = .ok (.iadd, 1) := by decide +kernel
theorem d_Ig_bitCount_23 : decode b_Ig_bitCount 23 = .ok (.istore_n 0, 1) := by decide +kernel
theorem d_Ig_bitCount_24 : decode b_Ig_bitCount 24 = .ok (.iload_n 0, 1) := by decide +kernel
theorem d_Ig_bitCount_25 : decode b_Ig_bitCount 25 = .ok (.iload_n 0, 1) := by decide +kernel
theorem d_Ig_bitCount_26 : decode b_Ig_bitCount 26 = .ok (.iconst 4, 1) := by decide +kernel
theorem d_Ig_bitCount_27 : decode b_Ig_bitCount 27 = .ok (.iushr, 1) := by decide +kernel
theorem d_Ig_bitCount_28 : decode b_Ig_bitCount 28 = .ok (.iadd, 1) := by decide +kernel
theorem d_Ig_bitCount_29 : decode b_Ig_bitCount 29 = .ok (.ldc_w 267, 3) := by decide +kernel
theorem d_Ig_bitCount_32 : decode b_Ig_bitCount 32 = .ok (.iand, 1) := by decide +kernel
theorem d_Ig_bitCount_33 : decode b_Ig_bitCount 33 = .ok (.istore_n 0, 1) := by decide +kernel
theorem d_Ig_bitCount_34 : decode b_Ig_bitCount 34 = .ok (.iload_n 0, 1) := by decide +kernel
theorem d_Ig_bitCount_35 : decode b_Ig_bitCount 35 = .ok (.iload_n 0, 1) := by decide +kernel
theorem d_Ig_bitCount_36 : decode b_Ig_bitCount 36 = .ok (.bipush 8, 2) := by decide +kernel
theorem d_Ig_bitCount_38 : decode b_Ig_bitCount 38 = .ok (.iushr, 1) := by decide +kernel
theorem d_Ig_bitCount_39 : decode b_Ig_bitCount 39 = .ok (.iadd, 1) := by decide +kernel
theorem d_Ig_bitCount_40 : decode b_Ig_bitCount 40 = .ok (.istore_n 0, 1) := by decide +kernel
theorem d_Ig_bitCount_41 : decode b_Ig_bitCount 41 = .ok (.iload_n 0, 1) := by decide +kernel
theorem d_Ig_bitCount_42 : decode b_Ig_bitCount 42 = .ok (.iload_n 0, 1) := by decide +kernel
theorem d_Ig_bitCount_43 : decode b_Ig_bitCount 43 = .ok (.bipush 16, 2) := by decide +kernel
theorem d_Ig_bitCount_45 : decode b_Ig_bitCount 45 = .ok (.iushr, 1) := by decide +kernel
theorem d_Ig_bitCount_46 : decode b_Ig_bitCount 46 = .ok (.iadd, 1) := by decide +kernel
theorem d_Ig_bitCount_47 : decode b_Ig_bitCount 47 = .ok (.istore_n 0, 1) := by decide +kernel
theorem d_Ig_bitCount_48 : decode b_Ig_bitCount 48 = .ok (.iload_n 0, 1) := by decide +kernel
theorem d_Ig_bitCount_49 : decode b_Ig_bitCount 49 = .ok (.bipush 63, 2) := by decide +kernel
theorem d_Ig_bitCount_51 : decode b_Ig_bitCount 51 = .ok (.iand, 1) := by decide +kernel
theorem d_Ig_bitCount_52 : decode b_Ig_bitCount 52 = .ok (.ireturn, 1) := by decide +kernel
theorem d_Ma_min_0 : decode b_Ma_min 0 = .ok (.iload_n 0, 1) := by decide +kernel
theorem d_Ma_min_1 : decode b_Ma_min 1 = .ok (.iload_n 1, 1) := by decide +kernel
theorem d_Ma_min_2 : decode b_Ma_min 2 = .ok (.if_icmp .gt 7, 3) := by decide +kernel
theorem d_Ma_min_5 : decode b_Ma_min 5 = .ok (.iload_n 0, 1) := by decide +kernel
theorem d_Ma_min_6 : decode b_Ma_min 6 = .ok (.goto 4, 3) := by decide +kernel
theorem d_Ma_min_9 : decode b_Ma_min 9 = .ok (.iload_n 1, 1) := by decide +kernel
theorem d_Ma_min_10 : decode b_Ma_min 10 = .ok (.ireturn, 1) := by decide +kernel
theorem d_Ar_fill_0 : decode b_Ar_fill 0 = .ok (.iconst 0, 1) := by decide +kernel
theorem d_Ar_fill_1 : decode b_Ar_fill 1 = .ok (.istore_n 2, 1) := by decide +kernel
theorem d_Ar_fill_2 : decode b_Ar_fill 2 = .ok (.aload_n 0, 1) := by decide +kernel
theorem d_Ar_fill_3 : decode b_Ar_fill 3 = .ok (.arraylength, 1) := by decide +kernel
theorem d_Ar_fill_4 : decode b_Ar_fill 4 = .ok (.istore_n 3, 1) := by decide +kernel
theorem d_Ar_fill_5 : decode b_Ar_fill 5 = .ok (.iload_n 2, 1) := by decide +kernel
theorem d_Ar_fill_6 : decode b_Ar_fill 6 = .ok (.iload_n 3, 1) := by decide +kernel
theorem d_Ar_fill_7 : decode b_Ar_fill 7 = .ok (.if_icmp .ge 13, 3) := by decide +kernel
theorem d_Ar_fill_10 : decode b_Ar_fill 10 = .ok (.aload_n 0, 1) := by decide +kernel
theorem d_Ar_fill_11 : decode b_Ar_fill 11 = .ok (.iload_n 2, 1) := by decide +kernel
theorem d_Ar_fill_12 : decode b_Ar_fill 12 = .ok (.iload_n 1, 1) := by decide +kernel
theorem d_Ar_fill_13 : decode b_Ar_fill 13 = .ok (.iastore, 1) := by decide +kernel
theorem d_Ar_fill_14 : decode b_Ar_fill 14 = .ok (.iinc 2 1, 3) := by decide +kernel
theorem d_Ar_fill_17 : decode b_Ar_fill 17 = .ok (.goto (-12), 3) := by decide +kernel
theorem d_Ar_fill_20 : decode b_Ar_fill 20 = .ok (.return_, 1) := by decide +kernel
end
section
section ZZ2
variable {p : Program} {l : Launch} {e : Env} {R : Room} {s : State} {m : MethodId} {args : Array Value} {below : List Frame} {meth : Method} {c : Code} {H : Heap} {locs : List Loc} {cells slots : Nat} {Q : State → Prop}
variable {cc : ByteArray} {pc nL : Nat} {ls : Array Slot} {rest : List Value} {A : Nat → Prop} {a : Nat} {ws wc wr : va_W} {own : String} {ret : Option FieldType} {E : zG}
theorem zz_newI (C : cx p s m args meth c cc nL own ret) (hK : kt E s) (hP : va_P E.1 vwCl ws H) (hD : va_D A ws) (hS : va_S A s.heap H locs) (hA : ∀ q, s.heap.size ≤ q → A q) {n : Nat} (hn : n ≤ 100000) (harr : Cond.arrayClass .int ∈ TBL) (hcells : cells + 1 ≤ R.cells) (hslots : slots + n ≤ R.slots) (hdg : decode cc pc = .ok (.newarray .int, 2))
    (kk : ∀ (q : Nat) (H1 : Heap), va_P E.1 vwCl (ws ++ [(q, zI E n (fun _ => 0))]) H1 → va_D A (ws ++ [(q, zI E n (fun _ => 0))]) → va_S A s.heap H1 locs → W p l e R s m args below meth c H1 locs (cells + 1) (slots + n) Q (F0 m (pc + 2) ls (.ref q :: rest))) : W p l e R s m args below meth c H locs cells slots Q (F0 m pc ls (.int (nI n) :: rest)) := by
  obtain ⟨hx, hb, hr, hml, hown, hts, hlk⟩ := C
  refine va_newa (a0 := (n, .inl (fun _ => 0))) (ty := .int) (atype := .int) hx hb (hts _ harr) rfl hK.1 hP hD hS hA (fun _ => rfl) (nI_pos (by omega)) (nI_clamp (by omega)) (Nat.le_trans (Nat.mul_le_mul hn (show componentBytes .int ≤ 4 from by decide)) (by decide)) hcells hslots hdg (fun q cA H1 hK1 hP1 hD1 hS1 => ?_)
  have e : cA = E.2.1 := by
    have h1 := (hK1.2 3 (cA, .int) rfl).2
    have h2 := (hK1.2 0 (E.2.1, .int) rfl).2
    have h3 : s.vm.findClass ("[" ++ FieldType.int.toString) = some cA := h1
    have h4 : s.vm.findClass ("[" ++ FieldType.int.toString) = some E.2.1 := h2
    rw [h3] at h4
    exact Option.some.inj h4
  subst e
  exact kk q H1 hP1 hD1 hS1
theorem zz_newL (C : cx p s m args meth c cc nL own ret) (hK : kt E s) (hP : va_P E.1 vwCl ws H) (hD : va_D A ws) (hS : va_S A s.heap H locs) (hA : ∀ q, s.heap.size ≤ q → A q) {n : Nat} (hn : n ≤ 100000) (harr : Cond.arrayClass .long ∈ TBL) (hcells : cells + 1 ≤ R.cells) (hslots : slots + n ≤ R.slots) (hdg : decode cc pc = .ok (.newarray .long, 2))
    (kk : ∀ (q : Nat) (H1 : Heap), va_P E.1 vwCl (ws ++ [(q, zL E n (fun _ => 0))]) H1 → va_D A (ws ++ [(q, zL E n (fun _ => 0))]) → va_S A s.heap H1 locs → W p l e R s m args below meth c H1 locs (cells + 1) (slots + n) Q (F0 m (pc + 2) ls (.ref q :: rest))) : W p l e R s m args below meth c H locs cells slots Q (F0 m pc ls (.int (nI n) :: rest)) := by
  obtain ⟨hx, hb, hr, hml, hown, hts, hlk⟩ := C
  refine va_newa (a0 := (n, .inr (.inl (fun _ => 0)))) (ty := .long) (atype := .long) hx hb (hts _ harr) rfl hK.1 hP hD hS hA (fun _ => rfl) (nI_pos (by omega)) (nI_clamp (by omega)) (Nat.le_trans (Nat.mul_le_mul hn (show componentBytes .long ≤ 8 from by decide)) (by decide)) hcells hslots hdg (fun q cA H1 hK1 hP1 hD1 hS1 => ?_)
  have e : cA = E.2.2.1 := by
    have h1 := (hK1.2 3 (cA, .long) rfl).2
    have h2 := (hK1.2 1 (E.2.2.1, .long) rfl).2
    have h3 : s.vm.findClass ("[" ++ FieldType.long.toString) = some cA := h1
    have h4 : s.vm.findClass ("[" ++ FieldType.long.toString) = some E.2.2.1 := h2
    rw [h3] at h4
    exact Option.some.inj h4
  subst e
  exact kk q H1 hP1 hD1 hS1
theorem zz_newZ (C : cx p s m args meth c cc nL own ret) (hK : kt E s) (hP : va_P E.1 vwCl ws H) (hD : va_D A ws) (hS : va_S A s.heap H locs) (hA : ∀ q, s.heap.size ≤ q → A q) {n : Nat} (hn : n ≤ 100000) (harr : Cond.arrayClass .boolean ∈ TBL) (hcells : cells + 1 ≤ R.cells) (hslots : slots + n ≤ R.slots) (hdg : decode cc pc = .ok (.newarray .boolean, 2))
    (kk : ∀ (q : Nat) (H1 : Heap), va_P E.1 vwCl (ws ++ [(q, zZ E n (fun _ => 0))]) H1 → va_D A (ws ++ [(q, zZ E n (fun _ => 0))]) → va_S A s.heap H1 locs → W p l e R s m args below meth c H1 locs (cells + 1) (slots + n) Q (F0 m (pc + 2) ls (.ref q :: rest))) : W p l e R s m args below meth c H locs cells slots Q (F0 m pc ls (.int (nI n) :: rest)) := by
  obtain ⟨hx, hb, hr, hml, hown, hts, hlk⟩ := C
  refine va_newa (a0 := (n, .inl (fun _ => 0))) (ty := .boolean) (atype := .boolean) hx hb (hts _ harr) rfl hK.1 hP hD hS hA (fun _ => rfl) (nI_pos (by omega)) (nI_clamp (by omega)) (Nat.le_trans (Nat.mul_le_mul hn (show componentBytes .boolean ≤ 4 from by decide)) (by decide)) hcells hslots hdg (fun q cA H1 hK1 hP1 hD1 hS1 => ?_)
  have e : cA = E.2.2.2 := by
    have h1 := (hK1.2 3 (cA, .boolean) rfl).2
    have h2 := (hK1.2 2 (E.2.2.2, .boolean) rfl).2
    have h3 : s.vm.findClass ("[" ++ FieldType.boolean.toString) = some cA := h1
    have h4 : s.vm.findClass ("[" ++ FieldType.boolean.toString) = some E.2.2.2 := h2
    rw [h3] at h4
    exact Option.some.inj h4
  subst e
  exact kk q H1 hP1 hD1 hS1
/-- Object's constructor does nothing -/
theorem zz_oi (C : cx p s m args meth c cc nL own ret) {idx : Nat} {o : Nat} (hlink : Cond.methodLink own idx Lib.objectInit ∈ TBL) (hinst : Cond.instanceMethod Lib.objectInit ∈ TBL) (hcode : Cond.code Lib.objectInit ⟨#[0xb1]⟩ 1 none ∈ TBL) (hls : ls.size = nL) (hf : 1 ≤ R.frames) (hlo : (rest.map fun v => v.category).sum + 12 ≤ R.locals) (hdg : decode cc pc = .ok (.invokespecial idx, 3))
    (kk : W p l e R s m args below meth c H locs cells slots Q (F0 m (pc + 3) ls rest)) : W p l e R s m args below meth c H locs cells slots Q (F0 m pc ls (.ref o :: rest)) := by
  obtain ⟨hx, hb, hr, hml, hown, hts, hlk⟩ := C
  refine W.objInit hx hb hown (hts _ hlink) (hts _ hinst) (hts _ hcode) rfl (by rw [hml]; exact hls) rfl hdg hf ?_ ?_
  · simpa [JFrame.monitorRoom] using hlo
  · exact kk
theorem zz_min (C : cx p s m args meth c cc nL own ret) {index : Nat} (hlink : Cond.methodLink own index Lib.Math.min.name ∈ TBL) (hstat : Cond.static Lib.Math.min.name ∈ TBL) (hini : Cond.initialized "java/lang/Math" ∈ TBL) (hcode : Cond.code Lib.Math.min.name Lib.Math.min.code 2 (some .int) ∈ TBL) (hls : ls.size = nL) (hf : 1 ≤ R.frames) (hlo : (rest.map fun v => v.category).sum + 13 ≤ R.locals) (hc : cells ≤ R.cells) (hs : slots ≤ R.slots) {x y : Int32} (hdg : decode cc pc = .ok (.invokestatic index, 3))
    (kk : W p l e R s m args below meth c H locs cells slots Q (F0 m (pc + 3) ls (.int (if y < x then y else x) :: rest))) : W p l e R s m args below meth c H locs cells slots Q (F0 m pc ls (.int y :: .int x :: rest)) := by
  obtain ⟨hx, hb, hr, hml, hown, hts, hlk⟩ := C
  exact va_mmin hx hb (hml.trans hls.symm) hown (hts _ hlink) (hts _ hstat) (hts _ hini) (hts _ hcode) hf hlo hc hs hdg kk
theorem zz_tabI (C : cx p s m args meth c cc nL own ret) {t N : Nat} {f : Nat → Int32} (hT : va_T .int t N (fun j => .int (f j)) A s s.heap) (hS : va_S A s.heap H locs) {j : Nat} (hj : j < N) (hn : N < 2 ^ 31) (hdg : decode cc pc = .ok (.iaload, 1))
    (kk : W p l e R s m args below meth c H locs cells slots Q (F0 m (pc + 1) ls (.int (f j) :: rest))) : W p l e R s m args below meth c H locs cells slots Q (F0 m pc ls (.int (nI j) :: .ref t :: rest)) := by
  refine va_ti C.1 C.2.1 hT hS (vp_in_nI hj hn) (v := .int (f j)) ?_ hdg kk
  rw [nI_clamp (Nat.lt_trans hj hn)]
theorem zz_ldcw (C : cx p s m args meth c cc nL own ret) {index : Nat} {v : Int32} (hconst : Cond.constant own index v ∈ TBL) (hdg : decode cc pc = .ok (.ldc_w index, 3))
    (kk : W p l e R s m args below meth c H locs cells slots Q (F0 m (pc + 3) ls (.int v :: rest))) : W p l e R s m args below meth c H locs cells slots Q (F0 m pc ls rest) := by
  obtain ⟨hx, hb, hr, hml, hown, hts, hlk⟩ := C
  intro T hT X
  obtain ⟨t, a1, b1⟩ := kk T hT X
  exact ⟨t, va_ldcwI X hx hown (hts _ hconst) rfl (by rw [hb]; exact hdg) t a1, b1⟩
end ZZ2
theorem zz_vp {k : Int32} {n : Nat} (h0 : ¬ k < 0) (h1 : ¬ nI n ≤ k) (hn : n < 2 ^ 31) : vp_in k n := by
  rw [vp_in_iff]
  have e := nI_toInt hn
  rw [Int32.lt_iff_toInt_lt] at h0
  rw [Int32.le_iff_toInt_le, e] at h1
  have z : (0 : Int32).toInt = 0 := by decide
  rw [z] at h0
  omega
theorem zz_if1 {P : Prop} [Decidable P] (h : ¬ (if P then (1 : Int32) else 0) = 0) : P := by
  by_cases hp : P
  · exact hp
  · rw [if_neg hp] at h
    exact absurd rfl h
theorem zz_if0 {P : Prop} [Decidable P] (h : (if P then (1 : Int32) else 0) = 0) : ¬ P := by
  intro hp
  rw [if_pos hp] at h
  exact absurd h (by decide)
theorem zz_minL {k n : Nat} (h : k ≤ n) (hn : n < 2 ^ 31) : (if nI n < nI k then nI n else nI k) = nI k := by rw [if_neg (nI_nlt h hn)]
theorem zz_minS (k : Nat) : (if nI k < nI k then nI k else nI k) = nI k := by split <;> rfl
theorem zz_nle {x y : Int32} (h : y < x) : ¬ x ≤ y := by
  rw [Int32.lt_iff_toInt_lt] at h
  rw [Int32.le_iff_toInt_le]
  omega
theorem zz_nI0 {t : Nat} (h : nI t = 0) (ht : t < 2 ^ 31) : t = 0 := (nI_eq ht (by decide)).mp (h.trans nI_0.symm)
theorem zz_ltc {c n : Nat} (h : ¬ nI n ≤ nI c) (hc : c < 2 ^ 31) : c < n := by
  rcases Nat.lt_or_ge c n with q | q
  · exact q
  · exact absurd (nI_le q hc) h
theorem zz_vp4 {c : Nat} {k : Int32} (hc : c ≤ 4) (h0 : ¬ k < 0) (h1 : ¬ nI c ≤ k) : vp_in k 4 := by
  obtain ⟨j, hj, rfl⟩ := vp_in_of (zz_vp h0 h1 (by omega)) (by omega)
  exact vp_in_nI (by omega) (by decide)
theorem zz_ltl {c n : Nat} (h : nI c < nI n) (hc : c < 2 ^ 31) : c < n := by
  rcases Nat.lt_or_ge c n with q | q
  · exact q
  · exact absurd h (nI_nlt q hc)
end
section
theorem wd_ac_I : Cond.arrayClass .int ∈ TBL := zz_in (by decide +kernel) rfl
theorem wd_ac_L : Cond.arrayClass .long ∈ TBL := zz_in (by decide +kernel) rfl
theorem wd_ac_Z : Cond.arrayClass .boolean ∈ TBL := zz_in (by decide +kernel) rfl
theorem wd_cd_min : Cond.code Lib.Math.min.name Lib.Math.min.code 2 (some .int) ∈ TBL := zz_in (by decide +kernel) rfl
theorem wd_cd_obj : Cond.code Lib.objectInit ⟨#[0xb1]⟩ 1 none ∈ TBL := zz_in (by decide +kernel) rfl
theorem wd_de_isDone : Cond.declares ⟨"StatePuzzles$Puzzle", "isDone", "(I)Z"⟩ ∈ NWS := zz_nin (by decide +kernel) rfl
theorem wd_de_meetNext : Cond.declares ⟨"StatePuzzles$Puzzle", "meetNext", "(ILStatePuzzles$Search;)V"⟩ ∈ NWS := zz_nin (by decide +kernel) rfl
theorem wd_de_startState : Cond.declares ⟨"StatePuzzles$Puzzle", "startState", "()I"⟩ ∈ NWS := zz_nin (by decide +kernel) rfl
theorem wd_de_stateCount : Cond.declares ⟨"StatePuzzles$Puzzle", "stateCount", "()I"⟩ ∈ NWS := zz_nin (by decide +kernel) rfl
theorem wd_fs_Js_28 : Cond.fieldLink "StatePuzzles$JugSet" 28 "StatePuzzles$JugSet" "STATES" "[I" ∈ TBL := zz_in (by decide +kernel) rfl
theorem wd_fs_Js_31 : Cond.fieldLink "StatePuzzles$JugSet" 31 "StatePuzzles$JugSet" "DIGIT" "[I" ∈ TBL := zz_in (by decide +kernel) rfl
theorem wd_im_Fs_isFound : Cond.instanceMethod y_Fs_isFound ∈ TBL := zz_in (by decide +kernel) rfl
theorem wd_im_Js_isDone : Cond.instanceMethod y_Js_isDone ∈ TBL := zz_in (by decide +kernel) rfl
theorem wd_im_Js_meetNext : Cond.instanceMethod y_Js_meetNext ∈ TBL := zz_in (by decide +kernel) rfl
theorem wd_im_Js_readLevels : Cond.instanceMethod y_Js_readLevels ∈ TBL := zz_in (by decide +kernel) rfl
theorem wd_im_Js_roomIn : Cond.instanceMethod y_Js_roomIn ∈ TBL := zz_in (by decide +kernel) rfl
theorem wd_im_Js_startState : Cond.instanceMethod y_Js_startState ∈ TBL := zz_in (by decide +kernel) rfl
theorem wd_im_Js_stateCount : Cond.instanceMethod y_Js_stateCount ∈ TBL := zz_in (by decide +kernel) rfl
theorem wd_im_Pz_init : Cond.instanceMethod y_Pz_init ∈ TBL := zz_in (by decide +kernel) rfl
theorem wd_im_Rt_readThings : Cond.instanceMethod y_Rt_readThings ∈ TBL := zz_in (by decide +kernel) rfl
theorem wd_im_Rt_unitAt : Cond.instanceMethod y_Rt_unitAt ∈ TBL := zz_in (by decide +kernel) rfl
theorem wd_im_Rv_addThing : Cond.instanceMethod y_Rv_addThing ∈ TBL := zz_in (by decide +kernel) rfl
theorem wd_im_Rv_allThings : Cond.instanceMethod y_Rv_allThings ∈ TBL := zz_in (by decide +kernel) rfl
theorem wd_im_Rv_clear : Cond.instanceMethod y_Rv_clear ∈ TBL := zz_in (by decide +kernel) rfl
theorem wd_im_Rv_isDone : Cond.instanceMethod y_Rv_isDone ∈ TBL := zz_in (by decide +kernel) rfl
theorem wd_im_Rv_keepApart : Cond.instanceMethod y_Rv_keepApart ∈ TBL := zz_in (by decide +kernel) rfl
theorem wd_im_Rv_mayBeLeft : Cond.instanceMethod y_Rv_mayBeLeft ∈ TBL := zz_in (by decide +kernel) rfl
theorem wd_im_Rv_meetNext : Cond.instanceMethod y_Rv_meetNext ∈ TBL := zz_in (by decide +kernel) rfl
theorem wd_im_Rv_setBoat : Cond.instanceMethod y_Rv_setBoat ∈ TBL := zz_in (by decide +kernel) rfl
theorem wd_im_Rv_startState : Cond.instanceMethod y_Rv_startState ∈ TBL := zz_in (by decide +kernel) rfl
theorem wd_im_Rv_stateCount : Cond.instanceMethod y_Rv_stateCount ∈ TBL := zz_in (by decide +kernel) rfl
theorem wd_im_Rv_thingOf : Cond.instanceMethod y_Rv_thingOf ∈ TBL := zz_in (by decide +kernel) rfl
theorem wd_im_Se_before : Cond.instanceMethod y_Se_before ∈ TBL := zz_in (by decide +kernel) rfl
theorem wd_im_Se_makeRoom : Cond.instanceMethod y_Se_makeRoom ∈ TBL := zz_in (by decide +kernel) rfl
theorem wd_im_Se_meet : Cond.instanceMethod y_Se_meet ∈ TBL := zz_in (by decide +kernel) rfl
theorem wd_im_obj : Cond.instanceMethod Lib.objectInit ∈ TBL := zz_in (by decide +kernel) rfl
theorem wd_in_math : Cond.initialized "java/lang/Math" ∈ TBL := zz_in (by decide +kernel) rfl
theorem wd_ml_Fs_22 : Cond.methodLink "StatePuzzles$FoundSteps" 22 Lib.Math.min.name ∈ TBL := zz_in (by decide +kernel) rfl
theorem wd_ml_Fs_28 : Cond.methodLink "StatePuzzles$FoundSteps" 28 y_Fs_isFound ∈ TBL := zz_in (by decide +kernel) rfl
theorem wd_ml_Fs_3 : Cond.methodLink "StatePuzzles$FoundSteps" 3 Lib.objectInit ∈ TBL := zz_in (by decide +kernel) rfl
theorem wd_ml_Js_34 : Cond.methodLink "StatePuzzles$JugSet" 34 y_Js_readLevels ∈ TBL := zz_in (by decide +kernel) rfl
theorem wd_ml_Js_38 : Cond.methodLink "StatePuzzles$JugSet" 38 y_Js_roomIn ∈ TBL := zz_in (by decide +kernel) rfl
theorem wd_ml_Js_42 : Cond.methodLink "StatePuzzles$JugSet" 42 y_Js_codeOf ∈ TBL := zz_in (by decide +kernel) rfl
theorem wd_ml_Js_46 : Cond.methodLink "StatePuzzles$JugSet" 46 y_Se_meet ∈ TBL := zz_in (by decide +kernel) rfl
theorem wd_ml_Js_52 : Cond.methodLink "StatePuzzles$JugSet" 52 Lib.Math.min.name ∈ TBL := zz_in (by decide +kernel) rfl
theorem wd_ml_Pz_1 : Cond.methodLink "StatePuzzles$Puzzle" 1 Lib.objectInit ∈ TBL := zz_in (by decide +kernel) rfl
theorem wd_ml_Rt_19 : Cond.methodLink "StatePuzzles$RiverText" 19 y_Rv_clear ∈ TBL := zz_in (by decide +kernel) rfl
theorem wd_ml_Rt_24 : Cond.methodLink "StatePuzzles$RiverText" 24 y_Rt_readThings ∈ TBL := zz_in (by decide +kernel) rfl
theorem wd_ml_Rt_28 : Cond.methodLink "StatePuzzles$RiverText" 28 y_Rt_unitAt ∈ TBL := zz_in (by decide +kernel) rfl
theorem wd_ml_Rt_3 : Cond.methodLink "StatePuzzles$RiverText" 3 Lib.objectInit ∈ TBL := zz_in (by decide +kernel) rfl
theorem wd_ml_Rt_32 : Cond.methodLink "StatePuzzles$RiverText" 32 y_Rv_setBoat ∈ TBL := zz_in (by decide +kernel) rfl
theorem wd_ml_Rt_36 : Cond.methodLink "StatePuzzles$RiverText" 36 y_Rv_thingOf ∈ TBL := zz_in (by decide +kernel) rfl
theorem wd_ml_Rt_39 : Cond.methodLink "StatePuzzles$RiverText" 39 y_Rv_keepApart ∈ TBL := zz_in (by decide +kernel) rfl
theorem wd_ml_Rt_43 : Cond.methodLink "StatePuzzles$RiverText" 43 y_Rv_addThing ∈ TBL := zz_in (by decide +kernel) rfl
theorem wd_ml_Rv_18 : Cond.methodLink "StatePuzzles$River" 18 y_Ar_fill ∈ TBL := zz_in (by decide +kernel) rfl
theorem wd_ml_Rv_31 : Cond.methodLink "StatePuzzles$River" 31 y_Rv_allThings ∈ TBL := zz_in (by decide +kernel) rfl
theorem wd_ml_Rv_35 : Cond.methodLink "StatePuzzles$River" 35 y_Ig_bitCount ∈ TBL := zz_in (by decide +kernel) rfl
theorem wd_ml_Rv_41 : Cond.methodLink "StatePuzzles$River" 41 y_Rv_mayBeLeft ∈ TBL := zz_in (by decide +kernel) rfl
theorem wd_ml_Rv_45 : Cond.methodLink "StatePuzzles$River" 45 y_Se_meet ∈ TBL := zz_in (by decide +kernel) rfl
theorem wd_ml_Se_18 : Cond.methodLink "StatePuzzles$Search" 18 ⟨"StatePuzzles$Puzzle", "stateCount", "()I"⟩ ∈ TBL := zz_in (by decide +kernel) rfl
theorem wd_ml_Se_24 : Cond.methodLink "StatePuzzles$Search" 24 y_Se_makeRoom ∈ TBL := zz_in (by decide +kernel) rfl
theorem wd_ml_Se_28 : Cond.methodLink "StatePuzzles$Search" 28 y_Ar_fill ∈ TBL := zz_in (by decide +kernel) rfl
theorem wd_ml_Se_3 : Cond.methodLink "StatePuzzles$Search" 3 Lib.objectInit ∈ TBL := zz_in (by decide +kernel) rfl
theorem wd_ml_Se_38 : Cond.methodLink "StatePuzzles$Search" 38 ⟨"StatePuzzles$Puzzle", "startState", "()I"⟩ ∈ TBL := zz_in (by decide +kernel) rfl
theorem wd_ml_Se_41 : Cond.methodLink "StatePuzzles$Search" 41 y_Se_meet ∈ TBL := zz_in (by decide +kernel) rfl
theorem wd_ml_Se_45 : Cond.methodLink "StatePuzzles$Search" 45 ⟨"StatePuzzles$Puzzle", "isDone", "(I)Z"⟩ ∈ TBL := zz_in (by decide +kernel) rfl
theorem wd_ml_Se_49 : Cond.methodLink "StatePuzzles$Search" 49 ⟨"StatePuzzles$Puzzle", "meetNext", "(ILStatePuzzles$Search;)V"⟩ ∈ TBL := zz_in (by decide +kernel) rfl
theorem wd_ml_Se_53 : Cond.methodLink "StatePuzzles$Search" 53 y_Se_before ∈ TBL := zz_in (by decide +kernel) rfl
theorem wd_mn_Js_3 : Cond.methodLinkNest "StatePuzzles$JugSet" 3 y_Pz_init "StatePuzzles" ∈ NWS := zz_nin (by decide +kernel) rfl
theorem wd_mn_Rv_3 : Cond.methodLinkNest "StatePuzzles$River" 3 y_Pz_init "StatePuzzles" ∈ NWS := zz_nin (by decide +kernel) rfl
theorem wd_se_Fs_isFound : Cond.selects "StatePuzzles$FoundSteps" y_Fs_isFound y_Fs_isFound ∈ TBL := zz_in (by decide +kernel) rfl
theorem wd_se_Js_isDone : Cond.selects "StatePuzzles$JugSet" ⟨"StatePuzzles$Puzzle", "isDone", "(I)Z"⟩ y_Js_isDone ∈ TBL := zz_in (by decide +kernel) rfl
theorem wd_se_Js_meetNext : Cond.selects "StatePuzzles$JugSet" ⟨"StatePuzzles$Puzzle", "meetNext", "(ILStatePuzzles$Search;)V"⟩ y_Js_meetNext ∈ TBL := zz_in (by decide +kernel) rfl
theorem wd_se_Js_readLevels : Cond.selects "StatePuzzles$JugSet" y_Js_readLevels y_Js_readLevels ∈ TBL := zz_in (by decide +kernel) rfl
theorem wd_se_Js_roomIn : Cond.selects "StatePuzzles$JugSet" y_Js_roomIn y_Js_roomIn ∈ TBL := zz_in (by decide +kernel) rfl
theorem wd_se_Js_startState : Cond.selects "StatePuzzles$JugSet" ⟨"StatePuzzles$Puzzle", "startState", "()I"⟩ y_Js_startState ∈ TBL := zz_in (by decide +kernel) rfl
theorem wd_se_Js_stateCount : Cond.selects "StatePuzzles$JugSet" ⟨"StatePuzzles$Puzzle", "stateCount", "()I"⟩ y_Js_stateCount ∈ TBL := zz_in (by decide +kernel) rfl
theorem wd_se_Rt_readThings : Cond.selects "StatePuzzles$RiverText" y_Rt_readThings y_Rt_readThings ∈ TBL := zz_in (by decide +kernel) rfl
theorem wd_se_Rt_unitAt : Cond.selects "StatePuzzles$RiverText" y_Rt_unitAt y_Rt_unitAt ∈ TBL := zz_in (by decide +kernel) rfl
theorem wd_se_Rv_addThing : Cond.selects "StatePuzzles$River" y_Rv_addThing y_Rv_addThing ∈ TBL := zz_in (by decide +kernel) rfl
theorem wd_se_Rv_allThings : Cond.selects "StatePuzzles$River" y_Rv_allThings y_Rv_allThings ∈ TBL := zz_in (by decide +kernel) rfl
theorem wd_se_Rv_clear : Cond.selects "StatePuzzles$River" y_Rv_clear y_Rv_clear ∈ TBL := zz_in (by decide +kernel) rfl
theorem wd_se_Rv_isDone : Cond.selects "StatePuzzles$River" ⟨"StatePuzzles$Puzzle", "isDone", "(I)Z"⟩ y_Rv_isDone ∈ TBL := zz_in (by decide +kernel) rfl
theorem wd_se_Rv_keepApart : Cond.selects "StatePuzzles$River" y_Rv_keepApart y_Rv_keepApart ∈ TBL := zz_in (by decide +kernel) rfl
theorem wd_se_Rv_mayBeLeft : Cond.selects "StatePuzzles$River" y_Rv_mayBeLeft y_Rv_mayBeLeft ∈ TBL := zz_in (by decide +kernel) rfl
theorem wd_se_Rv_meetNext : Cond.selects "StatePuzzles$River" ⟨"StatePuzzles$Puzzle", "meetNext", "(ILStatePuzzles$Search;)V"⟩ y_Rv_meetNext ∈ TBL := zz_in (by decide +kernel) rfl
theorem wd_se_Rv_setBoat : Cond.selects "StatePuzzles$River" y_Rv_setBoat y_Rv_setBoat ∈ TBL := zz_in (by decide +kernel) rfl
theorem wd_se_Rv_startState : Cond.selects "StatePuzzles$River" ⟨"StatePuzzles$Puzzle", "startState", "()I"⟩ y_Rv_startState ∈ TBL := zz_in (by decide +kernel) rfl
theorem wd_se_Rv_stateCount : Cond.selects "StatePuzzles$River" ⟨"StatePuzzles$Puzzle", "stateCount", "()I"⟩ y_Rv_stateCount ∈ TBL := zz_in (by decide +kernel) rfl
theorem wd_se_Rv_thingOf : Cond.selects "StatePuzzles$River" y_Rv_thingOf y_Rv_thingOf ∈ TBL := zz_in (by decide +kernel) rfl
theorem wd_se_Se_before : Cond.selects "StatePuzzles$Search" y_Se_before y_Se_before ∈ TBL := zz_in (by decide +kernel) rfl
theorem wd_se_Se_makeRoom : Cond.selects "StatePuzzles$Search" y_Se_makeRoom y_Se_makeRoom ∈ TBL := zz_in (by decide +kernel) rfl
theorem wd_se_Se_meet : Cond.selects "StatePuzzles$Search" y_Se_meet y_Se_meet ∈ TBL := zz_in (by decide +kernel) rfl
theorem wd_sm_isDone : Cond.sameMethod "StatePuzzles$Puzzle" "StatePuzzles$Puzzle" "isDone" "(I)Z" ∈ TBL := zz_in (by decide +kernel) rfl
theorem wd_sm_meetNext : Cond.sameMethod "StatePuzzles$Puzzle" "StatePuzzles$Puzzle" "meetNext" "(ILStatePuzzles$Search;)V" ∈ TBL := zz_in (by decide +kernel) rfl
theorem wd_sm_startState : Cond.sameMethod "StatePuzzles$Puzzle" "StatePuzzles$Puzzle" "startState" "()I" ∈ TBL := zz_in (by decide +kernel) rfl
theorem wd_sm_stateCount : Cond.sameMethod "StatePuzzles$Puzzle" "StatePuzzles$Puzzle" "stateCount" "()I" ∈ TBL := zz_in (by decide +kernel) rfl
theorem wd_st_Ar_fill : Cond.static y_Ar_fill ∈ TBL := zz_in (by decide +kernel) rfl
theorem wd_st_Ig_bitCount : Cond.static y_Ig_bitCount ∈ TBL := zz_in (by decide +kernel) rfl
theorem wd_st_Js_codeOf : Cond.static y_Js_codeOf ∈ TBL := zz_in (by decide +kernel) rfl
theorem wd_st_min : Cond.static Lib.Math.min.name ∈ TBL := zz_in (by decide +kernel) rfl
theorem wk_Ig_265 : Cond.constant "java/lang/Integer" 265 1431655765 ∈ TBL := zz_in (by decide +kernel) rfl
theorem wk_Ig_266 : Cond.constant "java/lang/Integer" 266 858993459 ∈ TBL := zz_in (by decide +kernel) rfl
theorem wk_Ig_267 : Cond.constant "java/lang/Integer" 267 252645135 ∈ TBL := zz_in (by decide +kernel) rfl
theorem wk_La_51 : Cond.constantLong "StatePuzzlesLaw" 51 4294967295 ∈ TBL := zz_in (by decide +kernel) rfl
theorem wk_Mo_135 : Cond.constantLong "StatePuzzlesModel" 135 (-1) ∈ TBL := zz_in (by decide +kernel) rfl
theorem wk_Mo_64 : Cond.constantLong "StatePuzzlesModel" 64 9223372036854775807 ∈ TBL := zz_in (by decide +kernel) rfl
theorem wk_Mo_66 : Cond.constantLong "StatePuzzlesModel" 66 2 ∈ TBL := zz_in (by decide +kernel) rfl
theorem wk_Sp_132 : Cond.constantLong "StatePuzzles" 132 2 ∈ TBL := zz_in (by decide +kernel) rfl
theorem wk_Sp_134 : Cond.constantLong "StatePuzzles" 134 3 ∈ TBL := zz_in (by decide +kernel) rfl
theorem wk_Sp_94 : Cond.constantLong "StatePuzzles" 94 (-1) ∈ TBL := zz_in (by decide +kernel) rfl
theorem wk_Tw_25 : Cond.constantLong "StatePuzzles$Tower" 25 9223372036854775807 ∈ TBL := zz_in (by decide +kernel) rfl
theorem wk_Tw_27 : Cond.constantLong "StatePuzzles$Tower" 27 2 ∈ TBL := zz_in (by decide +kernel) rfl
end
section
/-! PURE: the search by breadth. A state of it: tr j = 0 where j isn't met, else 1 + (256 * the state before + the code of the step); q: what is met, in order. -/
def bfs_mt (st : (Nat → Nat) × List Nat) (b : Nat) (x : Nat × Nat) : (Nat → Nat) × List Nat := if st.1 x.1 = 0 then (va_up st.1 x.1 (1 + (b * 256 + x.2)), st.2 ++ [x.1]) else st
def bfs_bf (tr : Nat → Nat) (x : Nat) : Nat := (tr x - 1) / 256
def bfs_RS (n : Nat) (st : (Nat → Nat) × List Nat) (fT fQ : Nat → Int32) : Prop := (∀ j, j < n → fT j = nI (st.1 j)) ∧ (∀ i, i < st.2.length → fQ i = nI (st.2.getD i 0))
def bfs_WF (n : Nat) (st : (Nat → Nat) × List Nat) : Prop := (∀ x ∈ st.2, x < n ∧ st.1 x ≠ 0) ∧ st.2.Nodup ∧ (∀ j, j < n → st.1 j ≠ 0 → j ∈ st.2 ∧ st.1 j ≤ 2560000 ∧ bfs_bf st.1 j < n ∧ st.1 (bfs_bf st.1 j) ≠ 0)
theorem bfs_len : ∀ (n : Nat) (l : List Nat), l.Nodup → (∀ x ∈ l, x < n) → l.length ≤ n := by
  intro n
  induction n with
  | zero =>
    intro l _ h
    cases l with
    | nil => simp
    | cons a l => exact absurd (h a List.mem_cons_self) (Nat.not_lt_zero _)
  | succ n ih =>
    intro l hn h
    by_cases hm : n ∈ l
    · have h1 := ih (l.erase n) (hn.erase n) (fun x hx => by
        have h2 := h x (List.mem_of_mem_erase hx)
        have h3 : x ≠ n := fun e => by
          subst e
          exact (List.Nodup.not_mem_erase hn) hx
        omega)
      have h4 := List.length_erase_of_mem hm
      have h5 : 0 < l.length := List.length_pos_of_mem hm
      omega
    · have h1 := ih l hn (fun x hx => by
        have h2 := h x hx
        have h3 : x ≠ n := fun e => hm (e ▸ hx)
        omega)
      omega
theorem bfs_room {n : Nat} {st : (Nat → Nat) × List Nat} (h : bfs_WF n st) {a : Nat} (ha : a < n) (h0 : st.1 a = 0) : st.2.length < n := by
  have hm : a ∉ st.2 := fun hx => (h.1 a hx).2 h0
  have h1 := bfs_len n (a :: st.2) (List.nodup_cons.mpr ⟨hm, h.2.1⟩) (fun x hx => by
    rcases List.mem_cons.mp hx with e | hx
    · rw [e]; exact ha
    · exact (h.1 x hx).1)
  simp at h1
  omega
theorem bfs_le {n : Nat} {st : (Nat → Nat) × List Nat} (h : bfs_WF n st) : st.2.length ≤ n := bfs_len n st.2 h.2.1 (fun x hx => (h.1 x hx).1)
theorem bfs_tr {n : Nat} {st : (Nat → Nat) × List Nat} (h : bfs_WF n st) {a : Nat} (ha : a < n) : st.1 a < 2 ^ 31 := by
  by_cases h0 : st.1 a = 0
  · omega
  · have := (h.2.2 a ha h0).2.1
    omega
theorem bfs_code {b k : Nat} (hb : b < 10000) (hk : k < 256) : (1 : Int32) + ((nI b <<< ((8 : Int32) &&& 31)) ||| nI k) = nI (1 + (b * 256 + k)) := by
  have e1 : nI b <<< ((8 : Int32) &&& 31) = nI (b * 2 ^ 8) := pk_shlN _ 8 (by decide) (by omega)
  have e2 : nI (b * 2 ^ 8) ||| nI k = nI (b * 256 + k) := by
    have e3 : nI (b * 2 ^ 8) ||| nI k = nI (b * 2 ^ 8 ||| k) := by
      apply Int32.toBitVec_inj.mp
      simp only [nI, Int32.toBitVec_or, Int32.toBitVec_ofNat', Int32.toBitVec_ofNat]
      apply BitVec.eq_of_toNat_eq
      simp only [BitVec.toNat_or, BitVec.toNat_ofNat]
      rw [Nat.or_mod_two_pow]
    rw [e3, show b * 2 ^ 8 ||| k = b * 256 + k from by rw [Nat.mul_comm b, ← Nat.two_pow_add_eq_or_of_lt (by omega : k < 2 ^ 8)]]
  rw [e1, e2]
  exact (nI_add 1 (b * 256 + k))
theorem bfs_mt_RS {n : Nat} {st : (Nat → Nat) × List Nat} {fT fQ : Nat → Int32} {a b k : Nat} (h : bfs_RS n st fT fQ) (h0 : st.1 a = 0) : bfs_RS n (bfs_mt st b (a, k)) (upd fT a (nI (1 + (b * 256 + k)))) (upd fQ st.2.length (nI a)) := by
  unfold bfs_mt
  rw [if_pos h0]
  refine ⟨fun j hj => ?_, fun i hi => ?_⟩
  · by_cases e : j = a
    · subst e; rw [pk_us]; simp [va_up]
    · rw [pk_un e, h.1 j hj]; simp [va_up, e]
  · simp only [List.length_append, List.length_cons, List.length_nil] at hi
    by_cases e : i = st.2.length
    · subst e; rw [pk_us]; simp [List.getD]
    · rw [pk_un e, h.2 i (by omega)]
      have hi2 : i < st.2.length := by omega
      simp [List.getD, List.getElem?_append_left hi2]
theorem bfs_mt_WF {n : Nat} {st : (Nat → Nat) × List Nat} {a b k : Nat} (h : bfs_WF n st) (ha : a < n) (hb : b < n) (hn : n ≤ 10000) (hk : k < 256) (hab : b = a ∨ st.1 b ≠ 0) : bfs_WF n (bfs_mt st b (a, k)) := by
  unfold bfs_mt
  by_cases h0 : st.1 a = 0
  · rw [if_pos h0]
    have hm : a ∉ st.2 := fun hx => (h.1 a hx).2 h0
    refine ⟨fun x hx => ?_, ?_, fun j hj hne => ?_⟩
    · rcases List.mem_append.mp hx with hx | hx
      · refine ⟨(h.1 x hx).1, ?_⟩
        have e : x ≠ a := fun e => hm (e ▸ hx)
        simp only [va_up, if_neg e]
        exact (h.1 x hx).2
      · have e : x = a := by simpa using hx
        subst e
        refine ⟨ha, ?_⟩
        simp [va_up]
    · exact List.nodup_append.mpr ⟨h.2.1, by simp, fun x hx y hy => by
        have e : y = a := by simpa using hy
        subst e
        exact fun e => hm (e ▸ hx)⟩
    · by_cases e : j = a
      · subst e
        have e2 : bfs_bf (va_up st.1 j (1 + (b * 256 + k))) j = b := by
          simp only [bfs_bf, va_up, if_pos]
          omega
        refine ⟨by simp, ?_, ?_, ?_⟩
        · simp only [va_up, if_pos]; omega
        · rw [e2]; exact hb
        · rw [e2]
          by_cases eb : b = j
          · simp [va_up, eb]
          · simp only [va_up, if_neg eb]
            rcases hab with q | q
            · exact absurd q eb
            · exact q
      · have hne2 : st.1 j ≠ 0 := by simpa [va_up, e] using hne
        obtain ⟨q1, q2, q3, q4⟩ := h.2.2 j hj hne2
        have e2 : bfs_bf (va_up st.1 a (1 + (b * 256 + k))) j = bfs_bf st.1 j := by simp [bfs_bf, va_up, e]
        refine ⟨by simp [q1], by simpa [va_up, e] using q2, by rw [e2]; exact q3, ?_⟩
        rw [e2]
        have e3 : bfs_bf st.1 j ≠ a := fun z => q4 (z ▸ h0)
        simpa [va_up, e3] using q4
  · rw [if_neg h0]; exact h
/-- how many steps back to where it stands still -/
def bfs_cnt (g : Nat → Nat) : Nat → Nat → Nat
  | 0, _ => 0
  | f + 1, x => if g x = x then 0 else bfs_cnt g f (g x) + 1
theorem bfs_cnt_le (g : Nat → Nat) : ∀ (f x : Nat), bfs_cnt g f x ≤ f := by
  intro f
  induction f with
  | zero => intro x; exact Nat.le_refl 0
  | succ f ih =>
    intro x
    unfold bfs_cnt
    split
    · omega
    · have := ih (g x); omega
theorem bfs_before {t : Nat} (h0 : t ≠ 0) (h : t ≤ 2560000) : (nI t - 1) >>> ((8 : Int32) &&& 31) = nI ((t - 1) / 256) := by
  rw [show nI t - 1 = nI (t - 1) from pk_sub (a := t) (b := 1) (by omega)]
  exact pk_shrN (by omega) _ 8 (by decide)
theorem bfs_into {t : Nat} (h0 : t ≠ 0) : (nI t - 1) &&& 255 = nI ((t - 1) % 256) := by
  rw [show nI t - 1 = nI (t - 1) from pk_sub (a := t) (b := 1) (by omega)]
  exact (pk_and _ 8 (by decide)).trans (by
    rw [show (nI (t - 1)).toBitVec.toNat = (t - 1) % 2 ^ 32 from by simp [nI]]
    congr 1
    omega)
/-! PURE: jugs. A state is a decimal number, its digit i what is in jug i. -/
def jg_d (x i : Nat) : Nat := x / 10 ^ i % 10
def jg_ok (c : Nat) (sz fl : Nat → Nat) (fS fF : Nat → Int32) : Prop := c ≤ 4 ∧ ∀ i, i < c → fS i = nI (sz i) ∧ 1 ≤ sz i ∧ sz i ≤ 9 ∧ fF i = nI (fl i) ∧ fl i ≤ sz i
def jg_good (c : Nat) (sz : Nat → Nat) (x : Nat) : Prop := x < 10 ^ c ∧ ∀ i, i < c → jg_d x i ≤ sz i
def jg_sum (fl : Nat → Nat) : Nat → Nat
  | 0 => 0
  | i + 1 => jg_sum fl i + fl i * 10 ^ i
def jg_fill (sz : Nat → Nat) (x i : Nat) : Nat × Nat := (x + (sz i - jg_d x i) * 10 ^ i, i + 1)
def jg_empt (x i : Nat) : Nat × Nat := (x - jg_d x i * 10 ^ i, (i + 1) * 8)
def jg_p (sz : Nat → Nat) (x i j : Nat) : Nat := if sz j - jg_d x j < jg_d x i then sz j - jg_d x j else jg_d x i
def jg_pour (sz : Nat → Nat) (x i j : Nat) : Nat × Nat := (x + jg_p sz x i j * 10 ^ j - jg_p sz x i j * 10 ^ i, (i + 1) * 8 + (j + 1))
theorem jg_case {i : Nat} (h : i < 4) : i = 0 ∨ i = 1 ∨ i = 2 ∨ i = 3 := by omega
theorem jg_casec {c : Nat} (h : c ≤ 4) : c = 0 ∨ c = 1 ∨ c = 2 ∨ c = 3 ∨ c = 4 := by omega
theorem jg_d0 (x : Nat) : jg_d x 0 = x % 10 := by simp [jg_d]
theorem jg_d1 (x : Nat) : jg_d x 1 = x / 10 % 10 := by simp [jg_d]
theorem jg_d2 (x : Nat) : jg_d x 2 = x / 100 % 10 := by simp [jg_d]
theorem jg_d3 (x : Nat) : jg_d x 3 = x / 1000 % 10 := by simp [jg_d]
theorem jg_d_le (x i : Nat) : jg_d x i ≤ 9 := by unfold jg_d; omega
theorem jg_code : ∀ a : Nat, a < 5 → ∀ b : Nat, b < 5 → ((nI a - 1 + 1) <<< ((3 : Int32) &&& 31)) ||| (nI b - 1 + 1) = nI (a * 8 + b) := by decide +kernel
theorem jg_ring {x p a b : Nat} (h : p * b ≤ x + p * a) : nI x + nI p * (nI a - nI b) = nI (x + p * a - p * b) := by
  rw [Int32.sub_eq_add_neg, Int32.mul_add, Int32.mul_neg, ← Int32.add_assoc, pk_mul, pk_mul, nI_add, ← Int32.sub_eq_add_neg]
  exact pk_sub h
theorem jg_add_lt {jc i x p : Nat} (hc : jc ≤ 4) (hi : i < jc) (hx : x < 10 ^ jc) (hp : p + jg_d x i ≤ 9) : x + p * 10 ^ i < 10 ^ jc := by
  rcases jg_casec hc with rfl | rfl | rfl | rfl | rfl <;> rcases jg_case (Nat.lt_of_lt_of_le hi hc) with rfl | rfl | rfl | rfl <;> simp only [jg_d] at hp <;> omega
theorem jg_d_mul_le (x i : Nat) : jg_d x i * 10 ^ i ≤ x := by
  unfold jg_d
  have h1 : x / 10 ^ i % 10 ≤ x / 10 ^ i := Nat.mod_le _ _
  exact Nat.le_trans (Nat.mul_le_mul_right _ h1) (Nat.div_mul_le_self x (10 ^ i))
theorem jg_p_le1 (sz : Nat → Nat) (x i j : Nat) : jg_p sz x i j ≤ jg_d x i := by unfold jg_p; split <;> omega
theorem jg_p_le2 (sz : Nat → Nat) (x i j : Nat) : jg_p sz x i j ≤ sz j - jg_d x j := by unfold jg_p; split <;> omega
theorem jg_p_i32 {sz : Nat → Nat} {x i j : Nat} (h : sz j ≤ 9) : (if nI (sz j - jg_d x j) < nI (jg_d x i) then nI (sz j - jg_d x j) else nI (jg_d x i)) = nI (jg_p sz x i j) := by
  unfold jg_p
  have h1 := jg_d_le x i
  have h2 : sz j - jg_d x j ≤ 9 := by omega
  rcases Nat.lt_or_ge (sz j - jg_d x j) (jg_d x i) with q | q
  · rw [if_pos (nI_lt q (by omega)), if_pos q]
  · rw [if_neg (nI_nlt q (by omega)), if_neg (Nat.not_lt.mpr q)]
theorem jg_pour_sub {sz : Nat → Nat} {x i j : Nat} : jg_p sz x i j * 10 ^ i ≤ x + jg_p sz x i j * 10 ^ j := by
  have h1 := Nat.mul_le_mul_right (10 ^ i) (jg_p_le1 sz x i j)
  have h2 := jg_d_mul_le x i
  omega
theorem jg_fill_lt {jc : Nat} {sz : Nat → Nat} {x i : Nat} (hc : jc ≤ 4) (hi : i < jc) (hx : x < 10 ^ jc) (hs : sz i ≤ 9) (hg : jg_d x i ≤ sz i) : (jg_fill sz x i).1 < 10 ^ jc := jg_add_lt hc hi hx (by omega)
theorem jg_empt_lt {jc x i : Nat} (hx : x < 10 ^ jc) : (jg_empt x i).1 < 10 ^ jc := Nat.lt_of_le_of_lt (Nat.sub_le _ _) hx
theorem jg_pour_lt {jc : Nat} {sz : Nat → Nat} {x i j : Nat} (hc : jc ≤ 4) (hj : j < jc) (hx : x < 10 ^ jc) (hs : sz j ≤ 9) (hg : jg_d x j ≤ sz j) : (jg_pour sz x i j).1 < 10 ^ jc := by
  have h1 := jg_p_le2 sz x i j
  exact Nat.lt_of_le_of_lt (Nat.sub_le _ _) (jg_add_lt hc hj hx (by omega))
/-- what the steps from x lead to, in their order -/
def jg_l1 (sz : Nat → Nat) (x : Nat) (st : (Nat → Nat) × List Nat) : Nat → (Nat → Nat) × List Nat
  | 0 => st
  | i + 1 => bfs_mt (jg_l1 sz x st i) x (jg_fill sz x i)
def jg_l3 (sz : Nat → Nat) (x i : Nat) (st : (Nat → Nat) × List Nat) : Nat → (Nat → Nat) × List Nat
  | 0 => st
  | j + 1 => bfs_mt (jg_l3 sz x i st j) x (jg_pour sz x i j)
def jg_l2 (jc : Nat) (sz : Nat → Nat) (x : Nat) (st : (Nat → Nat) × List Nat) : Nat → (Nat → Nat) × List Nat
  | 0 => st
  | i + 1 => jg_l3 sz x i (bfs_mt (jg_l2 jc sz x st i) x (jg_empt x i)) jc
def jg_next (jc : Nat) (sz : Nat → Nat) (x : Nat) (st : (Nat → Nat) × List Nat) : (Nat → Nat) × List Nat := jg_l2 jc sz x (jg_l1 sz x st jc) jc
/-- what a search keeps, at a state x that is met -/
def bfs_I (n x : Nat) (st : (Nat → Nat) × List Nat) : Prop := bfs_WF n st ∧ st.1 x ≠ 0
theorem bfs_mt_ne {st : (Nat → Nat) × List Nat} {b x : Nat} {y : Nat × Nat} (h : st.1 x ≠ 0) : (bfs_mt st b y).1 x ≠ 0 := by
  unfold bfs_mt
  split
  · by_cases e : x = y.1
    · simp [va_up, e]
    · simpa [va_up, e] using h
  · exact h
theorem bfs_mt_I {n x : Nat} {st : (Nat → Nat) × List Nat} {y : Nat × Nat} (h : bfs_I n x st) (hn : n ≤ 10000) (hx : x < n) (hy : y.1 < n) (hk : y.2 < 256) : bfs_I n x (bfs_mt st x y) := ⟨bfs_mt_WF (a := y.1) (k := y.2) h.1 hy hx hn hk (Or.inr h.2), bfs_mt_ne h.2⟩
/-! PURE: the river. -/
def rv_pop (k : Nat) : Nat := k % 2 + k / 2 % 2 + k / 4 % 2 + k / 8 % 2 + k / 16 % 2 + k / 32 % 2 + k / 64 % 2 + k / 128 % 2
theorem rv_popE : ∀ k : Nat, k < 256 → (((((((((nI k) - ((((nI k).toUInt32 >>> ((1 : Int32).toUInt32 &&& Int32.toUInt32 31)).toInt32) &&& 1431655765)) &&& 858993459) + (((((nI k) - ((((nI k).toUInt32 >>> ((1 : Int32).toUInt32 &&& Int32.toUInt32 31)).toInt32) &&& 1431655765)).toUInt32 >>> ((2 : Int32).toUInt32 &&& Int32.toUInt32 31)).toInt32) &&& 858993459)) + ((((((nI k) - ((((nI k).toUInt32 >>> ((1 : Int32).toUInt32 &&& Int32.toUInt32 31)).toInt32) &&& 1431655765)) &&& 858993459) + (((((nI k) - ((((nI k).toUInt32 >>> ((1 : Int32).toUInt32 &&& Int32.toUInt32 31)).toInt32) &&& 1431655765)).toUInt32 >>> ((2 : Int32).toUInt32 &&& Int32.toUInt32 31)).toInt32) &&& 858993459)).toUInt32 >>> ((4 : Int32).toUInt32 &&& Int32.toUInt32 31)).toInt32)) &&& 252645135) + ((((((((nI k) - ((((nI k).toUInt32 >>> ((1 : Int32).toUInt32 &&& Int32.toUInt32 31)).toInt32) &&& 1431655765)) &&& 858993459) + (((((nI k) - ((((nI k).toUInt32 >>> ((1 : Int32).toUInt32 &&& Int32.toUInt32 31)).toInt32) &&& 1431655765)).toUInt32 >>> ((2 : Int32).toUInt32 &&& Int32.toUInt32 31)).toInt32) &&& 858993459)) + ((((((nI k) - ((((nI k).toUInt32 >>> ((1 : Int32).toUInt32 &&& Int32.toUInt32 31)).toInt32) &&& 1431655765)) &&& 858993459) + (((((nI k) - ((((nI k).toUInt32 >>> ((1 : Int32).toUInt32 &&& Int32.toUInt32 31)).toInt32) &&& 1431655765)).toUInt32 >>> ((2 : Int32).toUInt32 &&& Int32.toUInt32 31)).toInt32) &&& 858993459)).toUInt32 >>> ((4 : Int32).toUInt32 &&& Int32.toUInt32 31)).toInt32)) &&& 252645135).toUInt32 >>> ((8 : Int32).toUInt32 &&& Int32.toUInt32 31)).toInt32)) + (((((((((nI k) - ((((nI k).toUInt32 >>> ((1 : Int32).toUInt32 &&& Int32.toUInt32 31)).toInt32) &&& 1431655765)) &&& 858993459) + (((((nI k) - ((((nI k).toUInt32 >>> ((1 : Int32).toUInt32 &&& Int32.toUInt32 31)).toInt32) &&& 1431655765)).toUInt32 >>> ((2 : Int32).toUInt32 &&& Int32.toUInt32 31)).toInt32) &&& 858993459)) + ((((((nI k) - ((((nI k).toUInt32 >>> ((1 : Int32).toUInt32 &&& Int32.toUInt32 31)).toInt32) &&& 1431655765)) &&& 858993459) + (((((nI k) - ((((nI k).toUInt32 >>> ((1 : Int32).toUInt32 &&& Int32.toUInt32 31)).toInt32) &&& 1431655765)).toUInt32 >>> ((2 : Int32).toUInt32 &&& Int32.toUInt32 31)).toInt32) &&& 858993459)).toUInt32 >>> ((4 : Int32).toUInt32 &&& Int32.toUInt32 31)).toInt32)) &&& 252645135) + ((((((((nI k) - ((((nI k).toUInt32 >>> ((1 : Int32).toUInt32 &&& Int32.toUInt32 31)).toInt32) &&& 1431655765)) &&& 858993459) + (((((nI k) - ((((nI k).toUInt32 >>> ((1 : Int32).toUInt32 &&& Int32.toUInt32 31)).toInt32) &&& 1431655765)).toUInt32 >>> ((2 : Int32).toUInt32 &&& Int32.toUInt32 31)).toInt32) &&& 858993459)) + ((((((nI k) - ((((nI k).toUInt32 >>> ((1 : Int32).toUInt32 &&& Int32.toUInt32 31)).toInt32) &&& 1431655765)) &&& 858993459) + (((((nI k) - ((((nI k).toUInt32 >>> ((1 : Int32).toUInt32 &&& Int32.toUInt32 31)).toInt32) &&& 1431655765)).toUInt32 >>> ((2 : Int32).toUInt32 &&& Int32.toUInt32 31)).toInt32) &&& 858993459)).toUInt32 >>> ((4 : Int32).toUInt32 &&& Int32.toUInt32 31)).toInt32)) &&& 252645135).toUInt32 >>> ((8 : Int32).toUInt32 &&& Int32.toUInt32 31)).toInt32)).toUInt32 >>> ((16 : Int32).toUInt32 &&& Int32.toUInt32 31)).toInt32)) &&& 63 : Int32) = nI (rv_pop k) := by decide +kernel
theorem nI_and (a b : Nat) : nI a &&& nI b = nI (a &&& b) := by
  apply Int32.toBitVec_inj.mp
  simp only [nI, Int32.toBitVec_and, Int32.toBitVec_ofNat', Int32.toBitVec_ofNat]
  apply BitVec.eq_of_toNat_eq
  simp only [BitVec.toNat_and, BitVec.toNat_ofNat]
  rw [Nat.and_mod_two_pow]
theorem nI_or (a b : Nat) : nI a ||| nI b = nI (a ||| b) := by
  apply Int32.toBitVec_inj.mp
  simp only [nI, Int32.toBitVec_or, Int32.toBitVec_ofNat', Int32.toBitVec_ofNat]
  apply BitVec.eq_of_toNat_eq
  simp only [BitVec.toNat_or, BitVec.toNat_ofNat]
  rw [Nat.or_mod_two_pow]
theorem nI_xor (a b : Nat) : nI a ^^^ nI b = nI (a ^^^ b) := by
  apply Int32.toBitVec_inj.mp
  simp only [nI, Int32.toBitVec_xor, Int32.toBitVec_ofNat', Int32.toBitVec_ofNat]
  apply BitVec.eq_of_toNat_eq
  simp only [BitVec.toNat_xor, BitVec.toNat_ofNat]
  rw [Nat.xor_mod_two_pow]
theorem rv_bit8 {b i : Nat} (hb : b < 256) (hi : 8 ≤ i) : b.testBit i = false := Nat.testBit_lt_two_pow (Nat.lt_of_lt_of_le hb (Nat.pow_le_pow_right (n := 2) (by decide) hi))
/-- b without t, of eight things -/
def rv_wo (b t : Nat) : Nat := b &&& (255 ^^^ t)
theorem rv_wo_lt {b t : Nat} (hb : b < 256) : rv_wo b t < 256 := Nat.lt_of_le_of_lt Nat.and_le_left hb
theorem rv_woE {b t : Nat} (hb : b < 256) : nI b &&& (nI t ^^^ (-1)) = nI (rv_wo b t) := by
  rw [show (-1 : Int32) = nI (2 ^ 32 - 1) from by decide, nI_xor, nI_and]
  congr 1
  apply Nat.eq_of_testBit_eq
  intro i
  unfold rv_wo
  simp only [Nat.testBit_and, Nat.testBit_xor]
  rcases Nat.lt_or_ge i 8 with q | q
  · have h1 : (2 ^ 32 - 1).testBit i = true := by rw [Nat.testBit_two_pow_sub_one]; simp; omega
    have h2 : (255 : Nat).testBit i = true := by rw [show (255 : Nat) = 2 ^ 8 - 1 from rfl, Nat.testBit_two_pow_sub_one]; simp; omega
    rw [h1, h2, Bool.xor_comm]
  · rw [rv_bit8 hb q]; simp
def rv_nx (b t : Nat) : Nat := (t + 256 - b) % 256 &&& b
theorem rv_nx_lt {b t : Nat} (hb : b < 256) : rv_nx b t < 256 := Nat.lt_of_le_of_lt Nat.and_le_right hb
theorem rv_nxE {b t : Nat} (hb : b < 256) (ht : t < 256) : (nI t - nI b) &&& nI b = nI (rv_nx b t) := by
  have e1 : nI t - nI b = nI (t + 2 ^ 32 - b) := by
    rw [← pk_sub (a := t + 2 ^ 32) (b := b) (by omega), ← nI_add]
    rw [show nI (2 ^ 32) = 0 from by decide, Int32.add_zero]
  rw [e1, nI_and]
  congr 1
  apply Nat.eq_of_testBit_eq
  intro i
  unfold rv_nx
  simp only [Nat.testBit_and]
  rcases Nat.lt_or_ge i 8 with q | q
  · have h1 : (t + 2 ^ 32 - b) % 2 ^ 8 = (t + 256 - b) % 2 ^ 8 := by omega
    have h2 := Nat.testBit_mod_two_pow (t + 2 ^ 32 - b) 8 i
    have h3 := Nat.testBit_mod_two_pow (t + 256 - b) 8 i
    rw [h1, h3] at h2
    simp only [q, decide_true, Bool.true_and] at h2
    rw [show (256 : Nat) = 2 ^ 8 from rfl, Nat.testBit_mod_two_pow]
    simp only [q, decide_true, Bool.true_and]
    rw [← h2]
  · rw [rv_bit8 hb q]; simp
theorem rv_all : ∀ t : Nat, t < 9 → ((1 : Int32) <<< (nI t &&& 31)) - 1 = nI (2 ^ t - 1) := by decide +kernel
theorem rv_m255 (a : Nat) : nI a &&& 255 = nI (a % 256) := by
  rw [show (255 : Int32) = nI (2 ^ 8 - 1) from by decide, nI_and, Nat.and_two_pow_sub_one_eq_mod]
abbrev rv_addok (fL : Nat → Int32) (x : Int32) : Prop := ¬ x - 97 < 0 ∧ ¬ 8 ≤ x - 97 ∧ fL (x - 97).toNatClampNeg = -1
abbrev rv_lok (x : Int32) : Prop := ¬ x - 97 < 0 ∧ x - 97 < 8
def rv_thing (fL : Nat → Int32) (x : Int32) : Int32 := if rv_lok x then fL (x - 97).toNatClampNeg else -1
abbrev rv_kok (t : Nat) (a b : Int32) : Prop := ¬ a < 0 ∧ ¬ nI t ≤ a ∧ ¬ b < 0 ∧ ¬ nI t ≤ b ∧ ¬ a = b
def rv_keep (fN : Nat → Int32) (a b : Int32) : Nat → Int32 := upd (upd fN a.toNatClampNeg (fN a.toNatClampNeg ||| (1 <<< (b &&& 31)))) b.toNatClampNeg (upd fN a.toNatClampNeg (fN a.toNatClampNeg ||| (1 <<< (b &&& 31))) b.toNatClampNeg ||| (1 <<< (a &&& 31)))
theorem rv_vp8 {k : Int32} (h0 : ¬ k < 0) (h1 : ¬ 8 ≤ k) : vp_in k 8 := zz_vp (n := 8) h0 h1 (by decide)
theorem rv_vp8l {k : Int32} (h0 : ¬ k < 0) (h1 : k < 8) : vp_in k 8 := rv_vp8 h0 (zz_nle h1)
theorem rv_vpt {t : Nat} (ht : t ≤ 8) {k : Int32} (h0 : ¬ k < 0) (h1 : ¬ nI t ≤ k) : vp_in k 8 := by
  obtain ⟨j, hj, rfl⟩ := vp_in_of (zz_vp h0 h1 (by omega)) (by omega)
  exact vp_in_nI (by omega) (by decide)
/-- no two that may not be left together are in the set -/
abbrev rv_stay (nw : Nat → Nat) (m : Nat) : Prop := ∀ i, i < 8 → m / 2 ^ i % 2 = 1 → nw i &&& m = 0
theorem rv_bitE {m i : Nat} (hm : m < 256) (hi : i < 8) : (nI m >>> (nI i &&& 31)) &&& 1 = nI (m / 2 ^ i % 2) := by
  have e : ((nI i &&& 31).toBitVec.smod 32).toNat = i := by
    rcases (show i = 0 ∨ i = 1 ∨ i = 2 ∨ i = 3 ∨ i = 4 ∨ i = 5 ∨ i = 6 ∨ i = 7 by omega) with rfl | rfl | rfl | rfl | rfl | rfl | rfl | rfl <;> decide
  rw [pk_shrN (by omega) _ i e, show (1 : Int32) = nI (2 ^ 1 - 1) from by decide, nI_and, Nat.and_two_pow_sub_one_eq_mod]
def rv_go (nw : Nat → Nat) (bt x bank on : Nat) : Nat → Nat → (Nat → Nat) × List Nat → (Nat → Nat) × List Nat
  | 0, _, st => st
  | f + 1, t, st => if t = bank then (if rv_pop t ≤ bt ∧ rv_stay nw (rv_wo bank t) then bfs_mt st x (on ||| (x % 256 ^^^ t), t) else st) else rv_go nw bt x bank on f (rv_nx bank t) (if rv_pop t ≤ bt ∧ rv_stay nw (rv_wo bank t) then bfs_mt st x (on ||| (x % 256 ^^^ t), t) else st)
def rv_bank (tn x : Nat) : Nat := if x < 256 then rv_wo (2 ^ tn - 1) (x % 256) else x % 256
def rv_on (x : Nat) : Nat := if x < 256 then 256 else 0
def rv_next (tn : Nat) (nw : Nat → Nat) (bt x : Nat) (st : (Nat → Nat) × List Nat) : (Nat → Nat) × List Nat := rv_go nw bt x (rv_bank tn x) (rv_on x) 256 0 st
theorem rv_pop_le (k : Nat) : rv_pop k ≤ 8 := by unfold rv_pop; omega
theorem rv_m256 {x : Nat} (hx : x < 512) : nI x &&& 256 = nI (x / 256 * 256) := by
  rw [show (256 : Int32) = nI 256 from rfl, nI_and]
  congr 1
  have e : x = 2 ^ 8 * (x / 256) + x % 256 := by omega
  rcases (show x / 256 = 0 ∨ x / 256 = 1 by omega) with q | q
  · rw [q]
    apply Nat.eq_of_testBit_eq
    intro i
    simp only [Nat.testBit_and, Nat.zero_mul, Nat.zero_testBit]
    rcases Nat.lt_or_ge i 8 with r | r
    · rw [show (256 : Nat) = 2 ^ 8 from rfl, Nat.testBit_two_pow_of_ne (by omega)]; simp
    · rw [rv_bit8 (b := x) (by omega) r]; simp
  · rw [q]
    apply Nat.eq_of_testBit_eq
    intro i
    simp only [Nat.testBit_and, Nat.one_mul]
    by_cases r : i = 8
    · subst r
      have h1 : x.testBit 8 = true := by
        rw [Nat.testBit_eq_decide_div_mod_eq]
        simp
        omega
      rw [h1]; simp
    · rw [show (256 : Nat) = 2 ^ 8 from rfl, Nat.testBit_two_pow_of_ne (by omega)]; simp
theorem rv_tgt_lt {on far t : Nat} (ho : on = 0 ∨ on = 256) (hf : far < 256) (ht : t < 256) : (on ||| (far ^^^ t)) < 512 := by
  have h1 : far ^^^ t < 2 ^ 9 := Nat.xor_lt_two_pow (by omega) (by omega)
  have h2 : on < 2 ^ 9 := by omega
  exact Nat.or_lt_two_pow h2 h1
/-! PURE: the text of a crossing. -/
def rt_u (fU : Nat → Int32) (k j : Nat) : Int32 := if j < k then fU j else -1
def rt_things (U : Nat → Int32) : Nat → Nat → (Nat → Int32) × Nat → Nat × (Nat → Int32) × Nat
  | 0, p, S => (p, S)
  | f + 1, p, S => if rv_addok S.1 (U p) then rt_things U f (p + 1) (upd S.1 (U p - 97).toNatClampNeg (nI S.2), S.2 + 1) else (p, S)
def rt_pairs (U : Nat → Int32) (k : Nat) (fL : Nat → Int32) (t : Nat) : Nat → Nat → (Nat → Int32) × Int32 → Int32 × (Nat → Int32) × Int32
  | 0, p, S => (nI p, S)
  | f + 1, p, S => if U p = 32 then (if ¬ U (p + 1) < 49 ∧ U (p + 1) ≤ 51 then ((if p + 2 = k then -1 else nI (p + 2)), S.1, U (p + 1) - 48) else if rv_thing fL (U (p + 1)) = -1 then (nI (p + 1), S) else if rv_kok t (rv_thing fL (U (p + 1))) (rv_thing fL (U (p + 2))) then rt_pairs U k fL t f (p + 3) (rv_keep S.1 (rv_thing fL (U (p + 1))) (rv_thing fL (U (p + 2))), S.2) else (nI (p + 2), S)) else (nI p, S)
/-- how many letters have a thing -/
def rt_cnt (fL : Nat → Int32) : Nat → Nat
  | 0 => 0
  | j + 1 => rt_cnt fL j + (if fL j = -1 then 0 else 1)
theorem rt_cnt_le (fL : Nat → Int32) : ∀ n, rt_cnt fL n ≤ n := by
  intro n
  induction n with
  | zero => exact Nat.le_refl 0
  | succ n ih => unfold rt_cnt; split <;> omega
theorem rt_cnt_upd {fL : Nat → Int32} {i : Nat} {v : Int32} (h : fL i = -1) (hv : v ≠ -1) : ∀ n, rt_cnt (upd fL i v) n = rt_cnt fL n + (if i < n then 1 else 0) := by
  intro n
  induction n with
  | zero => simp [rt_cnt]
  | succ n ih =>
    unfold rt_cnt
    rw [ih]
    by_cases e : n = i
    · subst e
      rw [pk_us, if_neg hv, h, if_pos rfl, if_neg (Nat.lt_irrefl n), if_pos (Nat.lt_succ_self n)]
    · rw [pk_un e]
      by_cases q : i < n
      · rw [if_pos q, if_pos (by omega : i < n + 1)]; omega
      · rw [if_neg q, if_neg (by omega : ¬ i < n + 1), Nat.add_zero, Nat.add_zero]
theorem rt_cnt_0 {fL : Nat → Int32} : ∀ n, (∀ j, j < n → fL j = -1) → rt_cnt fL n = 0 := by
  intro n
  induction n with
  | zero => intro _; rfl
  | succ n ih =>
    intro h
    unfold rt_cnt
    rw [ih (fun j hj => h j (by omega)), if_pos (h n (Nat.lt_succ_self n))]
theorem rt_things_cnt (U : Nat → Int32) : ∀ (f p : Nat) (S : (Nat → Int32) × Nat), rt_cnt S.1 8 = S.2 → rt_cnt (rt_things U f p S).2.1 8 = (rt_things U f p S).2.2 := by
  intro f
  induction f with
  | zero => intro p S h; exact h
  | succ f ih =>
    intro p S h
    unfold rt_things
    split
    · rename_i hok
      refine ih (p + 1) _ ?_
      obtain ⟨h1, h2, h3⟩ := hok
      obtain ⟨j, hj, e⟩ := vp_in_of (rv_vp8 h1 h2) (by decide)
      have ej : (U p - 97).toNatClampNeg = j := by rw [e]; exact nI_clamp (by omega)
      have hc := rt_cnt_le S.1 8
      have hne : nI S.2 ≠ -1 := by
        rw [← h]
        intro z
        have := congrArg Int32.toInt z
        rw [nI_toInt (by omega)] at this
        have e2 : (-1 : Int32).toInt = -1 := by decide
        rw [e2] at this
        omega
      rw [ej] at h3 ⊢
      show rt_cnt (upd S.1 j (nI S.2)) 8 = S.2 + 1
      rw [rt_cnt_upd h3 hne, if_pos hj, h]
    · exact h
theorem rt_things_le {U : Nat → Int32} {fL : Nat → Int32} (h : ∀ j, j < 8 → fL j = -1) : (rt_things U 100 0 (fL, 0)).2.2 ≤ 8 := by
  rw [← rt_things_cnt U 100 0 (fL, 0) (rt_cnt_0 8 h)]
  exact rt_cnt_le _ 8
theorem rt_things_p (U : Nat → Int32) : ∀ (f p : Nat) (S : (Nat → Int32) × Nat), (rt_things U f p S).1 ≤ p + f := by
  intro f
  induction f with
  | zero => intro p S; exact Nat.le_refl _
  | succ f ih =>
    intro p S
    unfold rt_things
    split
    · have := ih (p + 1) (upd S.1 (U p - 97).toNatClampNeg (nI S.2), S.2 + 1); omega
    · exact Nat.le_add_right _ _
theorem rt_things_pos {U : Nat → Int32} {f p : Nat} {S : (Nat → Int32) × Nat} (h : rv_addok S.1 (U p)) : rt_things U (f + 1) p S = rt_things U f (p + 1) (upd S.1 (U p - 97).toNatClampNeg (nI S.2), S.2 + 1) := by rw [rt_things, if_pos h]
theorem rt_things_neg {U : Nat → Int32} {f p : Nat} {S : (Nat → Int32) × Nat} (h : ¬ rv_addok S.1 (U p)) : rt_things U (f + 1) p S = (p, S) := by rw [rt_things, if_neg h]
end
section
/-! PURE: the search as a whole. -/
def bfs_run (dn : Nat → Bool) (nx : Nat → (Nat → Nat) × List Nat → (Nat → Nat) × List Nat) : Nat → Nat → (Nat → Nat) × List Nat → Option Nat × (Nat → Nat) × List Nat
  | 0, _, st => (none, st)
  | f + 1, h, st => if h < st.2.length then (if dn (st.2.getD h 0) = true then (some (st.2.getD h 0), st) else bfs_run dn nx f (h + 1) (nx (st.2.getD h 0) st)) else (none, st)
def bfs_0 : (Nat → Nat) × List Nat := (fun _ => 0, [])
def bfs_o (r : Option Nat) : Int32 := match r with
  | some x => nI x
  | none => -1
theorem bfs_0_WF (n : Nat) : bfs_WF n bfs_0 := ⟨fun x h => (by cases h), List.nodup_nil, fun j _ h => absurd rfl h⟩
theorem bfs_0_RS {n : Nat} {f g : Nat → Int32} (h : ∀ j, j < n → f j = 0) : bfs_RS n bfs_0 f g := ⟨fun j hj => h j hj, fun i hi => absurd hi (Nat.not_lt_zero i)⟩
/-- what holds of a search all the way: well-formed, and all that is met is of a kind -/
def bfs_J (n : Nat) (P : Nat → Prop) (st : (Nat → Nat) × List Nat) : Prop := bfs_WF n st ∧ ∀ y ∈ st.2, P y
theorem bfs_mt_mem {st : (Nat → Nat) × List Nat} {b : Nat} {y : Nat × Nat} {z : Nat} (h : z ∈ (bfs_mt st b y).2) : z ∈ st.2 ∨ z = y.1 := by
  unfold bfs_mt at h
  split at h
  · rcases List.mem_append.mp h with q | q
    · exact Or.inl q
    · exact Or.inr (by simpa using q)
  · exact Or.inl h
theorem bfs_mt_J {n x : Nat} {P : Nat → Prop} {st : (Nat → Nat) × List Nat} {y : Nat × Nat} (h : bfs_J n P st ∧ st.1 x ≠ 0) (hn : n ≤ 10000) (hx : x < n) (hy : y.1 < n) (hk : y.2 < 256) (hp : P y.1) : bfs_J n P (bfs_mt st x y) ∧ (bfs_mt st x y).1 x ≠ 0 := by
  have h1 := bfs_mt_I (n := n) (x := x) ⟨h.1.1, h.2⟩ hn hx hy hk
  refine ⟨⟨h1.1, fun z hz => ?_⟩, h1.2⟩
  rcases bfs_mt_mem hz with q | q
  · exact h.1.2 z q
  · rw [q]; exact hp
theorem bfs_getD {st : (Nat → Nat) × List Nat} {h : Nat} (hl : h < st.2.length) : st.2.getD h 0 ∈ st.2 := by
  rw [List.getD_eq_getElem?_getD, List.getElem?_eq_getElem hl]
  exact List.getElem_mem hl
theorem bfs_st_J {n a : Nat} {P : Nat → Prop} (hn : n ≤ 10000) (ha : a < n) (hp : P a) : bfs_J n P (bfs_mt bfs_0 a (a, 0)) := by
  refine ⟨bfs_mt_WF (bfs_0_WF n) ha ha hn (by decide) (Or.inl rfl), fun z hz => ?_⟩
  rcases bfs_mt_mem hz with q | q
  · cases q
  · rw [q]; exact hp
/-! the jugs' steps stay among good states -/
theorem jg_d_add {x p i k : Nat} (hi : i < 4) (hk : k < 4) (hp : p + jg_d x i ≤ 9) : jg_d (x + p * 10 ^ i) k = if k = i then jg_d x i + p else jg_d x k := by
  rcases jg_case hi with rfl | rfl | rfl | rfl <;> rcases jg_case hk with rfl | rfl | rfl | rfl <;> simp only [jg_d] at hp ⊢ <;> simp <;> omega
theorem jg_d_sub {x p i k : Nat} (hi : i < 4) (hk : k < 4) (hp : p ≤ jg_d x i) : jg_d (x - p * 10 ^ i) k = if k = i then jg_d x i - p else jg_d x k := by
  rcases jg_case hi with rfl | rfl | rfl | rfl <;> rcases jg_case hk with rfl | rfl | rfl | rfl <;> simp only [jg_d] at hp ⊢ <;> simp <;> omega
theorem jg_fill_good {jc : Nat} {sz fl : Nat → Nat} {fS fF : Nat → Int32} (hJ : jg_ok jc sz fl fS fF) {x i : Nat} (hG : jg_good jc sz x) (hi : i < jc) : jg_good jc sz (jg_fill sz x i).1 := by
  have hc := hJ.1
  have hq := hJ.2 i hi
  have hg := hG.2 i hi
  refine ⟨jg_fill_lt hc hi hG.1 hq.2.2.1 hg, fun k hk => ?_⟩
  show jg_d (x + (sz i - jg_d x i) * 10 ^ i) k ≤ sz k
  rw [jg_d_add (by omega) (by omega) (by omega)]
  split
  · rename_i e; subst e; omega
  · exact hG.2 k hk
theorem jg_empt_good {jc : Nat} {sz : Nat → Nat} (hc : jc ≤ 4) {x i : Nat} (hG : jg_good jc sz x) (hi : i < jc) : jg_good jc sz (jg_empt x i).1 := by
  refine ⟨jg_empt_lt hG.1, fun k hk => ?_⟩
  show jg_d (x - jg_d x i * 10 ^ i) k ≤ sz k
  rw [jg_d_sub (by omega) (by omega) (Nat.le_refl _)]
  split
  · omega
  · exact hG.2 k hk
theorem jg_pour_good {jc : Nat} {sz fl : Nat → Nat} {fS fF : Nat → Int32} (hJ : jg_ok jc sz fl fS fF) {x i j : Nat} (hG : jg_good jc sz x) (hi : i < jc) (hj : j < jc) : jg_good jc sz (jg_pour sz x i j).1 := by
  have hc := hJ.1
  have hqj := hJ.2 j hj
  have hgj := hG.2 j hj
  have h1 := jg_p_le1 sz x i j
  have h2 := jg_p_le2 sz x i j
  refine ⟨jg_pour_lt hc hj hG.1 hqj.2.2.1 hgj, fun k hk => ?_⟩
  show jg_d (x + jg_p sz x i j * 10 ^ j - jg_p sz x i j * 10 ^ i) k ≤ sz k
  by_cases e : i = j
  · subst e
    rw [Nat.add_sub_cancel]
    exact hG.2 k hk
  · have hdi : jg_d (x + jg_p sz x i j * 10 ^ j) i = jg_d x i := by rw [jg_d_add (by omega) (by omega) (by omega), if_neg e]
    rw [jg_d_sub (by omega) (by omega) (by rw [hdi]; exact h1), hdi, jg_d_add (by omega) (by omega) (by omega)]
    have hgk := hG.2 k hk
    split
    · rename_i e2; subst e2; omega
    · split
      · rename_i e2; subst e2; omega
      · exact hgk
theorem jg_next_ind {jc : Nat} {sz fl : Nat → Nat} {fS fF : Nat → Int32} (hJ : jg_ok jc sz fl fS fF) {x : Nat} (hG : jg_good jc sz x) (Φ : (Nat → Nat) × List Nat → Prop) (hΦ : ∀ (st : (Nat → Nat) × List Nat) (y : Nat × Nat), Φ st → jg_good jc sz y.1 → y.2 < 256 → Φ (bfs_mt st x y)) {st : (Nat → Nat) × List Nat} (h : Φ st) : Φ (jg_next jc sz x st) := by
  have hc := hJ.1
  have l1 : ∀ i, i ≤ jc → Φ (jg_l1 sz x st i) := by
    intro i
    induction i with
    | zero => intro _; exact h
    | succ i ih => intro hi; exact hΦ _ _ (ih (by omega)) (jg_fill_good hJ hG (by omega)) (show i + 1 < 256 by omega)
  have l3 : ∀ (i : Nat), i < jc → ∀ S, Φ S → ∀ j, j ≤ jc → Φ (jg_l3 sz x i S j) := by
    intro i hi S hS j
    induction j with
    | zero => intro _; exact hS
    | succ j ih => intro hj; exact hΦ _ _ (ih (by omega)) (jg_pour_good hJ hG hi (by omega)) (show (i + 1) * 8 + (j + 1) < 256 by omega)
  have l2 : ∀ i, i ≤ jc → Φ (jg_l2 jc sz x (jg_l1 sz x st jc) i) := by
    intro i
    induction i with
    | zero => intro _; exact l1 jc (Nat.le_refl _)
    | succ i ih => intro hi; exact l3 i (by omega) _ (hΦ _ _ (ih (by omega)) (jg_empt_good hc hG (by omega)) (show (i + 1) * 8 < 256 by omega)) jc (Nat.le_refl _)
  exact l2 jc (Nat.le_refl _)
theorem jg_pow {jc : Nat} (hc : jc ≤ 4) : 10 ^ jc ≤ 10000 := by
  rcases jg_casec hc with rfl | rfl | rfl | rfl | rfl <;> decide
theorem jg_next_J {jc n : Nat} {sz fl : Nat → Nat} {fS fF : Nat → Int32} (hJ : jg_ok jc sz fl fS fF) {x : Nat} (hG : jg_good jc sz x) (hn : n ≤ 10000) (hnc : 10 ^ jc ≤ n) {st : (Nat → Nat) × List Nat} (h : bfs_J n (jg_good jc sz) st ∧ st.1 x ≠ 0) : bfs_J n (jg_good jc sz) (jg_next jc sz x st) ∧ (jg_next jc sz x st).1 x ≠ 0 :=
  jg_next_ind hJ hG (fun st => bfs_J n (jg_good jc sz) st ∧ st.1 x ≠ 0) (fun st y h1 h2 h3 => bfs_mt_J h1 hn (Nat.lt_of_lt_of_le hG.1 hnc) (Nat.lt_of_lt_of_le h2.1 hnc) h3 h2) h
theorem jg_sum_good {jc : Nat} {sz fl : Nat → Nat} {fS fF : Nat → Int32} (hJ : jg_ok jc sz fl fS fF) : jg_good jc sz (jg_sum fl jc) := by
  have h : ∀ i, i < jc → fl i ≤ sz i ∧ sz i ≤ 9 := fun i hi => ⟨(hJ.2 i hi).2.2.2.2, (hJ.2 i hi).2.2.1⟩
  have key : ∀ c, c ≤ jc → jg_sum fl c < 10 ^ c ∧ (∀ i, i < c → jg_d (jg_sum fl c) i = fl i) := by
    intro c
    induction c with
    | zero => intro _; exact ⟨(show 0 < 1 by decide), fun i hi => absurd hi (Nat.not_lt_zero i)⟩
    | succ c ih =>
      intro hc
      obtain ⟨h1, h2⟩ := ih (by omega)
      have h3 := h c (by omega)
      have hd0 : jg_d (jg_sum fl c) c = 0 := by
        unfold jg_d
        rw [Nat.div_eq_of_lt h1]
      have hc4 := hJ.1
      refine ⟨?_, fun i hi => ?_⟩
      · show jg_sum fl c + fl c * 10 ^ c < 10 ^ (c + 1)
        have h4 : fl c * 10 ^ c ≤ 9 * 10 ^ c := Nat.mul_le_mul_right _ (by omega)
        rw [Nat.pow_succ]
        omega
      · show jg_d (jg_sum fl c + fl c * 10 ^ c) i = fl i
        rw [jg_d_add (by omega) (by omega) (by omega), hd0]
        by_cases e : i = c
        · rw [if_pos e, e]; omega
        · rw [if_neg e]; exact h2 i (by omega)
  obtain ⟨k1, k2⟩ := key jc (Nat.le_refl _)
  exact ⟨k1, fun i hi => by rw [k2 i hi]; exact (h i hi).1⟩
abbrev jg_done (jc : Nat) (fW : Nat → Int32) (x : Nat) : Prop := ∀ i, i < jc → fW i = -1 ∨ fW i = nI (jg_d x i)
def jg_dn (jc : Nat) (fW : Nat → Int32) (x : Nat) : Bool := decide (jg_done jc fW x)
/-! the river's steps -/
theorem rv_go_ind {nw : Nat → Nat} {bt x bank on : Nat} (hx : x < 512) (hb : bank < 256) (ho : on = 0 ∨ on = 256) (Φ : (Nat → Nat) × List Nat → Prop) (hΦ : ∀ (st : (Nat → Nat) × List Nat) (y : Nat × Nat), Φ st → y.1 < 512 → y.2 < 256 → Φ (bfs_mt st x y)) : ∀ (f t : Nat) (st : (Nat → Nat) × List Nat), t < 256 → Φ st → Φ (rv_go nw bt x bank on f t st) := by
  intro f
  induction f with
  | zero => intro t st _ h; exact h
  | succ f ih =>
    intro t st ht h
    have h1 : Φ (if rv_pop t ≤ bt ∧ rv_stay nw (rv_wo bank t) then bfs_mt st x (on ||| (x % 256 ^^^ t), t) else st) := by
      split
      · exact hΦ _ _ h (rv_tgt_lt ho (by omega) ht) ht
      · exact h
    unfold rv_go
    split
    · exact h1
    · exact ih _ _ (rv_nx_lt hb) h1
theorem rv_bank_lt {tn x : Nat} (ht : tn ≤ 8) : rv_bank tn x < 256 := by
  have hp : 2 ^ tn ≤ 2 ^ 8 := Nat.pow_le_pow_right (by decide) ht
  unfold rv_bank
  split
  · exact rv_wo_lt (by omega)
  · omega
theorem rv_on_ok (x : Nat) : rv_on x = 0 ∨ rv_on x = 256 := by unfold rv_on; split <;> simp
theorem rv_next_J {tn bt x n : Nat} {nw : Nat → Nat} (ht : tn ≤ 8) (hx : x < 512) (hn : n ≤ 10000) (hn5 : 512 ≤ n) {st : (Nat → Nat) × List Nat} (h : bfs_J n (fun y => y < 512) st ∧ st.1 x ≠ 0) : bfs_J n (fun y => y < 512) (rv_next tn nw bt x st) ∧ (rv_next tn nw bt x st).1 x ≠ 0 :=
  rv_go_ind hx (rv_bank_lt ht) (rv_on_ok x) (fun st => bfs_J n (fun y => y < 512) st ∧ st.1 x ≠ 0) (fun st y h1 h2 h3 => bfs_mt_J h1 hn (by omega) (by omega) h3 h2) 256 0 st (by decide) h
def rv_dn (tn x : Nat) : Bool := decide (x % 256 = 2 ^ tn - 1)
end
section
set_option maxHeartbeats 4000000 in
set_option maxRecDepth 100000 in
theorem lp_Ar_fill {p : Program} {l : Launch} {e : Env} {s : State} {m : MethodId} {below : List Frame} {meth : Method} {c : Code} {A : Nat → Prop}  {E : zG} {a0 n : Nat} {v : Int32} {f0 : Nat → Int32} (hn : n ≤ 10000) (C : cx p s m #[.ref a0, .int v] meth c b_Ar_fill 4 y_Ar_fill.cls none) (hA : ∀ q, s.heap.size ≤ q → A q) (hK : kt E s) (hst : stt A s s.heap) :
    ∀ (f i : Nat) (g : Nat → Int32) (_ : i + f = n) (_ : ∀ j, j < i → g j = v) (H : Heap) (locs : List Loc) (ls : Array Slot), va_P E.1 vwCl [(a0, zI E n g)] H → va_D A [(a0, zI E n g)] → va_S A s.heap H locs → lv_has ls 4 [(0, .ref a0), (1, .int v), (2, .int (nI i)), (3, .int (nI n))] → W p l e (zR 0 0 0 0) s m #[.ref a0, .int v] below meth c H locs 0 0 (MQ below ((zQv E (S := Nat → Int32) (fun u => ∀ j, j < n → u j = v) (fun u => [(a0, zI E n u)])) A) #[.ref a0, .int v] s 0 0 A) (F0 m 5 ls []) := by
  obtain ⟨hx, hb, hr, hml, hown, hts, hlk⟩ := id C
  intro f
  induction f with
  | zero =>
    intro i g hi hg H locs ls hP hD hS hl
    have hi : i = n := by omega
    subst hi
    refine lv_iload_n hx hb d_Ar_fill_5 rfl (lv_at hl 2 rfl) ?_
    refine lv_iload_n hx hb d_Ar_fill_6 rfl (lv_at hl 3 rfl) ?_
    refine lv_icmp_ge (tgt := 20) hx hb d_Ar_fill_7 (by decide) (fun c_1 => ?_) (fun c_1 => ?_)
    · exact zz_retv C hS g (hg) hP hD d_Ar_fill_20
    · exact absurd (nI_le (Nat.le_refl _) (by omega)) c_1
  | succ f ih =>
    intro i g hi hg H locs ls hP hD hS hl
    have hic : i < n := by omega
    refine lv_iload_n hx hb d_Ar_fill_5 rfl (lv_at hl 2 rfl) ?_
    refine lv_iload_n hx hb d_Ar_fill_6 rfl (lv_at hl 3 rfl) ?_
    refine lv_icmp_ge (tgt := 20) hx hb d_Ar_fill_7 (by decide) (fun c_2 => ?_) (fun c_2 => ?_)
    · exact absurd c_2 (nI_ge hic (by omega))
    · refine lv_aload_n hx hb d_Ar_fill_10 rfl (lv_at hl 0 rfl) ?_
      refine lv_iload_n hx hb d_Ar_fill_11 rfl (lv_at hl 2 rfl) ?_
      refine lv_iload_n hx hb d_Ar_fill_12 rfl (lv_at hl 1 rfl) ?_
      refine zz_iastN C hK hP hD hS 0 rfl (j := i) (hic) (by omega) d_Ar_fill_13 (fun H locs hP hD hS => ?_)
      have hP : va_P E.1 vwCl [(a0, zI E n (upd g i v))] H := hP
      have hD : va_D A [(a0, zI E n (upd g i v))] := hD
      refine lv_iinc (v := nI (i + 1)) (lv' := [(2, .int (nI (i + 1))), (0, .ref a0), (1, .int v), (3, .int (nI n))]) hx hb d_Ar_fill_14 hl (k := 2) rfl (nI_1 _) (by decide) rfl (fun ls hl => ?_)
      refine lv_goto (tgt := 5) hx hb d_Ar_fill_17 (by decide) ?_
      exact ih (i + 1) (upd g i v) (by omega) (fun j hj => by
                  by_cases e : j = i
                  · subst e; exact pk_us
                  · rw [pk_un e]; exact hg j (by omega)) _ _ ls hP hD hS (lv_sub hl [1, 2, 0, 3] rfl)

set_option maxHeartbeats 4000000 in
set_option maxRecDepth 100000 in
theorem c_Ar_fill (l : Launch) (E : zG) (a0 n : Nat) (f0 : Nat → Int32) (v : Int32) (hn : n ≤ 10000) : zMet l y_Ar_fill b_Ar_fill 4 none 0 0 0 0 E [.ref a0, .int v] [(a0, zI E n f0)] (zQv E (S := Nat → Int32) (fun u => ∀ j, j < n → u j = v) (fun u => [(a0, zI E n u)])) := by
  refine zz_met (by decide +kernel) (Nat.le_of_ble_eq_true rfl) ?_
  intro p e s m below meth c A ls C hin hA hK hst hP hD hl
  obtain ⟨hx, hb, hr, hml, hown, hts, hlk⟩ := id C
  have hS : va_S A s.heap s.heap [] := va_S.rf
  have hl : lv_has ls 4 [(0, .ref a0), (1, .int v)] := hl
  refine lv_iconst (v := 0) hx hb d_Ar_fill_0 (by decide) ?_
  refine lv_istore_n (lv' := [(2, .int 0), (0, .ref a0), (1, .int v)]) hx hb d_Ar_fill_1 rfl hl (by decide) rfl (fun ls hl => ?_)
  refine lv_aload_n hx hb d_Ar_fill_2 rfl (lv_at hl 1 rfl) ?_
  refine zz_alenI C hK hP 0 rfl d_Ar_fill_3 ?_
  refine lv_istore_n (lv' := [(3, .int (nI n)), (2, .int 0), (0, .ref a0), (1, .int v)]) hx hb d_Ar_fill_4 rfl hl (by decide) rfl (fun ls hl => ?_)
  have hl := lv_sub (l' := [(0, .ref a0), (1, .int v), (2, .int (nI 0)), (3, .int (nI n))]) hl [2, 3, 1, 0] (rfl)
  exact lp_Ar_fill (f0 := f0) hn C hA hK hst n 0 f0 (by omega) lt_0 _ _ ls hP hD hS hl

set_option maxHeartbeats 4000000 in
set_option maxRecDepth 100000 in
theorem c_Ig_bitCount (l : Launch) (E : zG) (k : Nat) (hk : k < 256) : zMet l y_Ig_bitCount b_Ig_bitCount 1 (some .int) 0 0 0 0 E [.int (nI k)] [] (zQi E (S := Unit) (fun r _ => r = nI (rv_pop k)) (fun _ => [])) := by
  refine zz_met (by decide +kernel) (Nat.le_of_ble_eq_true rfl) ?_
  intro p e s m below meth c A ls C hin hA hK hst hP hD hl
  obtain ⟨hx, hb, hr, hml, hown, hts, hlk⟩ := id C
  have hS : va_S A s.heap s.heap [] := va_S.rf
  have hl : lv_has ls 1 [(0, .int (nI k))] := hl
  refine lv_iload_n hx hb d_Ig_bitCount_0 rfl (lv_at hl 0 rfl) ?_
  refine lv_iload_n hx hb d_Ig_bitCount_1 rfl (lv_at hl 0 rfl) ?_
  refine lv_iconst (v := 1) hx hb d_Ig_bitCount_2 (by decide) ?_
  refine lv_iushr (v := ((nI k).toUInt32 >>> ((1 : Int32).toUInt32 &&& Int32.toUInt32 31)).toInt32) hx hb d_Ig_bitCount_3 (rfl) ?_
  refine zz_ldcw (v := 1431655765) C wk_Ig_265 d_Ig_bitCount_4 ?_
  refine lv_iand hx hb d_Ig_bitCount_7 ?_
  refine lv_isub hx hb d_Ig_bitCount_8 ?_
  refine lv_istore_n (lv' := [(0, .int ((nI k) - ((((nI k).toUInt32 >>> ((1 : Int32).toUInt32 &&& Int32.toUInt32 31)).toInt32) &&& 1431655765)))]) hx hb d_Ig_bitCount_9 rfl hl (by decide) rfl (fun ls hl => ?_)
  refine lv_iload_n hx hb d_Ig_bitCount_10 rfl (lv_at hl 0 rfl) ?_
  refine zz_ldcw (v := 858993459) C wk_Ig_266 d_Ig_bitCount_11 ?_
  refine lv_iand hx hb d_Ig_bitCount_14 ?_
  refine lv_iload_n hx hb d_Ig_bitCount_15 rfl (lv_at hl 0 rfl) ?_
  refine lv_iconst (v := 2) hx hb d_Ig_bitCount_16 (by decide) ?_
  refine lv_iushr (v := (((nI k) - ((((nI k).toUInt32 >>> ((1 : Int32).toUInt32 &&& Int32.toUInt32 31)).toInt32) &&& 1431655765)).toUInt32 >>> ((2 : Int32).toUInt32 &&& Int32.toUInt32 31)).toInt32) hx hb d_Ig_bitCount_17 (rfl) ?_
  refine zz_ldcw (v := 858993459) C wk_Ig_266 d_Ig_bitCount_18 ?_
  refine lv_iand hx hb d_Ig_bitCount_21 ?_
  refine lv_iadd hx hb d_Ig_bitCount_22 ?_
  refine lv_istore_n (lv' := [(0, .int ((((nI k) - ((((nI k).toUInt32 >>> ((1 : Int32).toUInt32 &&& Int32.toUInt32 31)).toInt32) &&& 1431655765)) &&& 858993459) + (((((nI k) - ((((nI k).toUInt32 >>> ((1 : Int32).toUInt32 &&& Int32.toUInt32 31)).toInt32) &&& 1431655765)).toUInt32 >>> ((2 : Int32).toUInt32 &&& Int32.toUInt32 31)).toInt32) &&& 858993459)))]) hx hb d_Ig_bitCount_23 rfl hl (by decide) rfl (fun ls hl => ?_)
  refine lv_iload_n hx hb d_Ig_bitCount_24 rfl (lv_at hl 0 rfl) ?_
  refine lv_iload_n hx hb d_Ig_bitCount_25 rfl (lv_at hl 0 rfl) ?_
  refine lv_iconst (v := 4) hx hb d_Ig_bitCount_26 (by decide) ?_
  refine lv_iushr (v := (((((nI k) - ((((nI k).toUInt32 >>> ((1 : Int32).toUInt32 &&& Int32.toUInt32 31)).toInt32) &&& 1431655765)) &&& 858993459) + (((((nI k) - ((((nI k).toUInt32 >>> ((1 : Int32).toUInt32 &&& Int32.toUInt32 31)).toInt32) &&& 1431655765)).toUInt32 >>> ((2 : Int32).toUInt32 &&& Int32.toUInt32 31)).toInt32) &&& 858993459)).toUInt32 >>> ((4 : Int32).toUInt32 &&& Int32.toUInt32 31)).toInt32) hx hb d_Ig_bitCount_27 (rfl) ?_
  refine lv_iadd hx hb d_Ig_bitCount_28 ?_
  refine zz_ldcw (v := 252645135) C wk_Ig_267 d_Ig_bitCount_29 ?_
  refine lv_iand hx hb d_Ig_bitCount_32 ?_
  refine lv_istore_n (lv' := [(0, .int ((((((nI k) - ((((nI k).toUInt32 >>> ((1 : Int32).toUInt32 &&& Int32.toUInt32 31)).toInt32) &&& 1431655765)) &&& 858993459) + (((((nI k) - ((((nI k).toUInt32 >>> ((1 : Int32).toUInt32 &&& Int32.toUInt32 31)).toInt32) &&& 1431655765)).toUInt32 >>> ((2 : Int32).toUInt32 &&& Int32.toUInt32 31)).toInt32) &&& 858993459)) + ((((((nI k) - ((((nI k).toUInt32 >>> ((1 : Int32).toUInt32 &&& Int32.toUInt32 31)).toInt32) &&& 1431655765)) &&& 858993459) + (((((nI k) - ((((nI k).toUInt32 >>> ((1 : Int32).toUInt32 &&& Int32.toUInt32 31)).toInt32) &&& 1431655765)).toUInt32 >>> ((2 : Int32).toUInt32 &&& Int32.toUInt32 31)).toInt32) &&& 858993459)).toUInt32 >>> ((4 : Int32).toUInt32 &&& Int32.toUInt32 31)).toInt32)) &&& 252645135))]) hx hb d_Ig_bitCount_33 rfl hl (by decide) rfl (fun ls hl => ?_)
  refine lv_iload_n hx hb d_Ig_bitCount_34 rfl (lv_at hl 0 rfl) ?_
  refine lv_iload_n hx hb d_Ig_bitCount_35 rfl (lv_at hl 0 rfl) ?_
  refine lv_bipush (v := 8) hx hb d_Ig_bitCount_36 (by decide) ?_
  refine lv_iushr (v := (((((((nI k) - ((((nI k).toUInt32 >>> ((1 : Int32).toUInt32 &&& Int32.toUInt32 31)).toInt32) &&& 1431655765)) &&& 858993459) + (((((nI k) - ((((nI k).toUInt32 >>> ((1 : Int32).toUInt32 &&& Int32.toUInt32 31)).toInt32) &&& 1431655765)).toUInt32 >>> ((2 : Int32).toUInt32 &&& Int32.toUInt32 31)).toInt32) &&& 858993459)) + ((((((nI k) - ((((nI k).toUInt32 >>> ((1 : Int32).toUInt32 &&& Int32.toUInt32 31)).toInt32) &&& 1431655765)) &&& 858993459) + (((((nI k) - ((((nI k).toUInt32 >>> ((1 : Int32).toUInt32 &&& Int32.toUInt32 31)).toInt32) &&& 1431655765)).toUInt32 >>> ((2 : Int32).toUInt32 &&& Int32.toUInt32 31)).toInt32) &&& 858993459)).toUInt32 >>> ((4 : Int32).toUInt32 &&& Int32.toUInt32 31)).toInt32)) &&& 252645135).toUInt32 >>> ((8 : Int32).toUInt32 &&& Int32.toUInt32 31)).toInt32) hx hb d_Ig_bitCount_38 (rfl) ?_
  refine lv_iadd hx hb d_Ig_bitCount_39 ?_
  refine lv_istore_n (lv' := [(0, .int (((((((nI k) - ((((nI k).toUInt32 >>> ((1 : Int32).toUInt32 &&& Int32.toUInt32 31)).toInt32) &&& 1431655765)) &&& 858993459) + (((((nI k) - ((((nI k).toUInt32 >>> ((1 : Int32).toUInt32 &&& Int32.toUInt32 31)).toInt32) &&& 1431655765)).toUInt32 >>> ((2 : Int32).toUInt32 &&& Int32.toUInt32 31)).toInt32) &&& 858993459)) + ((((((nI k) - ((((nI k).toUInt32 >>> ((1 : Int32).toUInt32 &&& Int32.toUInt32 31)).toInt32) &&& 1431655765)) &&& 858993459) + (((((nI k) - ((((nI k).toUInt32 >>> ((1 : Int32).toUInt32 &&& Int32.toUInt32 31)).toInt32) &&& 1431655765)).toUInt32 >>> ((2 : Int32).toUInt32 &&& Int32.toUInt32 31)).toInt32) &&& 858993459)).toUInt32 >>> ((4 : Int32).toUInt32 &&& Int32.toUInt32 31)).toInt32)) &&& 252645135) + ((((((((nI k) - ((((nI k).toUInt32 >>> ((1 : Int32).toUInt32 &&& Int32.toUInt32 31)).toInt32) &&& 1431655765)) &&& 858993459) + (((((nI k) - ((((nI k).toUInt32 >>> ((1 : Int32).toUInt32 &&& Int32.toUInt32 31)).toInt32) &&& 1431655765)).toUInt32 >>> ((2 : Int32).toUInt32 &&& Int32.toUInt32 31)).toInt32) &&& 858993459)) + ((((((nI k) - ((((nI k).toUInt32 >>> ((1 : Int32).toUInt32 &&& Int32.toUInt32 31)).toInt32) &&& 1431655765)) &&& 858993459) + (((((nI k) - ((((nI k).toUInt32 >>> ((1 : Int32).toUInt32 &&& Int32.toUInt32 31)).toInt32) &&& 1431655765)).toUInt32 >>> ((2 : Int32).toUInt32 &&& Int32.toUInt32 31)).toInt32) &&& 858993459)).toUInt32 >>> ((4 : Int32).toUInt32 &&& Int32.toUInt32 31)).toInt32)) &&& 252645135).toUInt32 >>> ((8 : Int32).toUInt32 &&& Int32.toUInt32 31)).toInt32)))]) hx hb d_Ig_bitCount_40 rfl hl (by decide) rfl (fun ls hl => ?_)
  refine lv_iload_n hx hb d_Ig_bitCount_41 rfl (lv_at hl 0 rfl) ?_
  refine lv_iload_n hx hb d_Ig_bitCount_42 rfl (lv_at hl 0 rfl) ?_
  refine lv_bipush (v := 16) hx hb d_Ig_bitCount_43 (by decide) ?_
  refine lv_iushr (v := ((((((((nI k) - ((((nI k).toUInt32 >>> ((1 : Int32).toUInt32 &&& Int32.toUInt32 31)).toInt32) &&& 1431655765)) &&& 858993459) + (((((nI k) - ((((nI k).toUInt32 >>> ((1 : Int32).toUInt32 &&& Int32.toUInt32 31)).toInt32) &&& 1431655765)).toUInt32 >>> ((2 : Int32).toUInt32 &&& Int32.toUInt32 31)).toInt32) &&& 858993459)) + ((((((nI k) - ((((nI k).toUInt32 >>> ((1 : Int32).toUInt32 &&& Int32.toUInt32 31)).toInt32) &&& 1431655765)) &&& 858993459) + (((((nI k) - ((((nI k).toUInt32 >>> ((1 : Int32).toUInt32 &&& Int32.toUInt32 31)).toInt32) &&& 1431655765)).toUInt32 >>> ((2 : Int32).toUInt32 &&& Int32.toUInt32 31)).toInt32) &&& 858993459)).toUInt32 >>> ((4 : Int32).toUInt32 &&& Int32.toUInt32 31)).toInt32)) &&& 252645135) + ((((((((nI k) - ((((nI k).toUInt32 >>> ((1 : Int32).toUInt32 &&& Int32.toUInt32 31)).toInt32) &&& 1431655765)) &&& 858993459) + (((((nI k) - ((((nI k).toUInt32 >>> ((1 : Int32).toUInt32 &&& Int32.toUInt32 31)).toInt32) &&& 1431655765)).toUInt32 >>> ((2 : Int32).toUInt32 &&& Int32.toUInt32 31)).toInt32) &&& 858993459)) + ((((((nI k) - ((((nI k).toUInt32 >>> ((1 : Int32).toUInt32 &&& Int32.toUInt32 31)).toInt32) &&& 1431655765)) &&& 858993459) + (((((nI k) - ((((nI k).toUInt32 >>> ((1 : Int32).toUInt32 &&& Int32.toUInt32 31)).toInt32) &&& 1431655765)).toUInt32 >>> ((2 : Int32).toUInt32 &&& Int32.toUInt32 31)).toInt32) &&& 858993459)).toUInt32 >>> ((4 : Int32).toUInt32 &&& Int32.toUInt32 31)).toInt32)) &&& 252645135).toUInt32 >>> ((8 : Int32).toUInt32 &&& Int32.toUInt32 31)).toInt32)).toUInt32 >>> ((16 : Int32).toUInt32 &&& Int32.toUInt32 31)).toInt32) hx hb d_Ig_bitCount_45 (rfl) ?_
  refine lv_iadd hx hb d_Ig_bitCount_46 ?_
  refine lv_istore_n (lv' := [(0, .int ((((((((nI k) - ((((nI k).toUInt32 >>> ((1 : Int32).toUInt32 &&& Int32.toUInt32 31)).toInt32) &&& 1431655765)) &&& 858993459) + (((((nI k) - ((((nI k).toUInt32 >>> ((1 : Int32).toUInt32 &&& Int32.toUInt32 31)).toInt32) &&& 1431655765)).toUInt32 >>> ((2 : Int32).toUInt32 &&& Int32.toUInt32 31)).toInt32) &&& 858993459)) + ((((((nI k) - ((((nI k).toUInt32 >>> ((1 : Int32).toUInt32 &&& Int32.toUInt32 31)).toInt32) &&& 1431655765)) &&& 858993459) + (((((nI k) - ((((nI k).toUInt32 >>> ((1 : Int32).toUInt32 &&& Int32.toUInt32 31)).toInt32) &&& 1431655765)).toUInt32 >>> ((2 : Int32).toUInt32 &&& Int32.toUInt32 31)).toInt32) &&& 858993459)).toUInt32 >>> ((4 : Int32).toUInt32 &&& Int32.toUInt32 31)).toInt32)) &&& 252645135) + ((((((((nI k) - ((((nI k).toUInt32 >>> ((1 : Int32).toUInt32 &&& Int32.toUInt32 31)).toInt32) &&& 1431655765)) &&& 858993459) + (((((nI k) - ((((nI k).toUInt32 >>> ((1 : Int32).toUInt32 &&& Int32.toUInt32 31)).toInt32) &&& 1431655765)).toUInt32 >>> ((2 : Int32).toUInt32 &&& Int32.toUInt32 31)).toInt32) &&& 858993459)) + ((((((nI k) - ((((nI k).toUInt32 >>> ((1 : Int32).toUInt32 &&& Int32.toUInt32 31)).toInt32) &&& 1431655765)) &&& 858993459) + (((((nI k) - ((((nI k).toUInt32 >>> ((1 : Int32).toUInt32 &&& Int32.toUInt32 31)).toInt32) &&& 1431655765)).toUInt32 >>> ((2 : Int32).toUInt32 &&& Int32.toUInt32 31)).toInt32) &&& 858993459)).toUInt32 >>> ((4 : Int32).toUInt32 &&& Int32.toUInt32 31)).toInt32)) &&& 252645135).toUInt32 >>> ((8 : Int32).toUInt32 &&& Int32.toUInt32 31)).toInt32)) + (((((((((nI k) - ((((nI k).toUInt32 >>> ((1 : Int32).toUInt32 &&& Int32.toUInt32 31)).toInt32) &&& 1431655765)) &&& 858993459) + (((((nI k) - ((((nI k).toUInt32 >>> ((1 : Int32).toUInt32 &&& Int32.toUInt32 31)).toInt32) &&& 1431655765)).toUInt32 >>> ((2 : Int32).toUInt32 &&& Int32.toUInt32 31)).toInt32) &&& 858993459)) + ((((((nI k) - ((((nI k).toUInt32 >>> ((1 : Int32).toUInt32 &&& Int32.toUInt32 31)).toInt32) &&& 1431655765)) &&& 858993459) + (((((nI k) - ((((nI k).toUInt32 >>> ((1 : Int32).toUInt32 &&& Int32.toUInt32 31)).toInt32) &&& 1431655765)).toUInt32 >>> ((2 : Int32).toUInt32 &&& Int32.toUInt32 31)).toInt32) &&& 858993459)).toUInt32 >>> ((4 : Int32).toUInt32 &&& Int32.toUInt32 31)).toInt32)) &&& 252645135) + ((((((((nI k) - ((((nI k).toUInt32 >>> ((1 : Int32).toUInt32 &&& Int32.toUInt32 31)).toInt32) &&& 1431655765)) &&& 858993459) + (((((nI k) - ((((nI k).toUInt32 >>> ((1 : Int32).toUInt32 &&& Int32.toUInt32 31)).toInt32) &&& 1431655765)).toUInt32 >>> ((2 : Int32).toUInt32 &&& Int32.toUInt32 31)).toInt32) &&& 858993459)) + ((((((nI k) - ((((nI k).toUInt32 >>> ((1 : Int32).toUInt32 &&& Int32.toUInt32 31)).toInt32) &&& 1431655765)) &&& 858993459) + (((((nI k) - ((((nI k).toUInt32 >>> ((1 : Int32).toUInt32 &&& Int32.toUInt32 31)).toInt32) &&& 1431655765)).toUInt32 >>> ((2 : Int32).toUInt32 &&& Int32.toUInt32 31)).toInt32) &&& 858993459)).toUInt32 >>> ((4 : Int32).toUInt32 &&& Int32.toUInt32 31)).toInt32)) &&& 252645135).toUInt32 >>> ((8 : Int32).toUInt32 &&& Int32.toUInt32 31)).toInt32)).toUInt32 >>> ((16 : Int32).toUInt32 &&& Int32.toUInt32 31)).toInt32)))]) hx hb d_Ig_bitCount_47 rfl hl (by decide) rfl (fun ls hl => ?_)
  refine lv_iload_n hx hb d_Ig_bitCount_48 rfl (lv_at hl 0 rfl) ?_
  refine lv_bipush (v := 63) hx hb d_Ig_bitCount_49 (by decide) ?_
  refine lv_iand hx hb d_Ig_bitCount_51 ?_
  exact zz_reti C (rfl) hS () (rv_popE k hk) hP hD d_Ig_bitCount_52
end
section
set_option maxHeartbeats 4000000 in
set_option maxRecDepth 100000 in
theorem c_Fs_init (l : Launch) (E : zG) (h0 : Nat) : zMet l y_Fs_init b_Fs_init 1 none 1 20 2 16 E [.ref h0] [(h0, .inr (0, [.null, .null, .int 0]))] (zQv E (S := Nat × Nat) (fun _ => True) (fun u => [(h0, .inr (0, [.ref u.1, .ref u.2, .int 0])), (u.1, zI E 8 (fun _ => 0)), (u.2, zI E 8 (fun _ => 0))])) := by
  refine zz_met (by decide +kernel) (Nat.le_of_ble_eq_true rfl) ?_
  intro p e s m below meth c A ls C hin hA hK hst hP hD hl
  obtain ⟨hx, hb, hr, hml, hown, hts, hlk⟩ := id C
  have hS : va_S A s.heap s.heap [] := va_S.rf
  have hl : lv_has ls 1 [(0, .ref h0)] := hl
  refine lv_aload_n hx hb d_Fs_init_0 rfl (lv_at hl 0 rfl) ?_
  refine zz_oi C wd_ml_Fs_3 wd_im_obj wd_cd_obj hl.1 (Nat.le_of_ble_eq_true rfl) (Nat.le_of_ble_eq_true rfl) d_Fs_init_1 ?_
  refine lv_aload_n hx hb d_Fs_init_4 rfl (lv_at hl 0 rfl) ?_
  refine lv_bipush (v := 8) hx hb d_Fs_init_5 (by decide) ?_
  refine zz_eqi (show (8 : Int32) = nI 8 from rfl) ?_
  refine zz_newI C hK hP hD hS hA (by decide) wd_ac_I (Nat.le_of_ble_eq_true rfl) (Nat.le_of_ble_eq_true rfl) d_Fs_init_7 (fun q_1 H hP hD hS => ?_)
  have hP : va_P E.1 vwCl [(h0, .inr (0, [.null, .null, .int 0])), (q_1, zI E 8 (fun _ => 0))] H := hP
  have hD : va_D A [(h0, .inr (0, [.null, .null, .int 0])), (q_1, zI E 8 (fun _ => 0))] := hD
  refine zz_put C hK hP hD hS fl_Fs_11 0 rfl rfl rfl (Nat.le_of_ble_eq_true rfl) d_Fs_init_9 (fun H locs hP hD hS => ?_)
  have hP : va_P E.1 vwCl [(h0, .inr (0, [.ref q_1, .null, .int 0])), (q_1, zI E 8 (fun _ => 0))] H := hP
  have hD : va_D A [(h0, .inr (0, [.ref q_1, .null, .int 0])), (q_1, zI E 8 (fun _ => 0))] := hD
  refine lv_aload_n hx hb d_Fs_init_12 rfl (lv_at hl 0 rfl) ?_
  refine lv_bipush (v := 8) hx hb d_Fs_init_13 (by decide) ?_
  refine zz_eqi (show (8 : Int32) = nI 8 from rfl) ?_
  refine zz_newI C hK hP hD hS hA (by decide) wd_ac_I (Nat.le_of_ble_eq_true rfl) (Nat.le_of_ble_eq_true rfl) d_Fs_init_15 (fun q_2 H hP hD hS => ?_)
  have hP : va_P E.1 vwCl [(h0, .inr (0, [.ref q_1, .null, .int 0])), (q_1, zI E 8 (fun _ => 0)), (q_2, zI E 8 (fun _ => 0))] H := hP
  have hD : va_D A [(h0, .inr (0, [.ref q_1, .null, .int 0])), (q_1, zI E 8 (fun _ => 0)), (q_2, zI E 8 (fun _ => 0))] := hD
  refine zz_put C hK hP hD hS fl_Fs_15 0 rfl rfl rfl (Nat.le_of_ble_eq_true rfl) d_Fs_init_17 (fun H locs hP hD hS => ?_)
  have hP : va_P E.1 vwCl [(h0, .inr (0, [.ref q_1, .ref q_2, .int 0])), (q_1, zI E 8 (fun _ => 0)), (q_2, zI E 8 (fun _ => 0))] H := hP
  have hD : va_D A [(h0, .inr (0, [.ref q_1, .ref q_2, .int 0])), (q_1, zI E 8 (fun _ => 0)), (q_2, zI E 8 (fun _ => 0))] := hD
  exact zz_retv C hS (q_1, q_2) (trivial) hP hD d_Fs_init_20

set_option maxHeartbeats 4000000 in
set_option maxRecDepth 100000 in
theorem c_Fs_forget (l : Launch) (E : zG) (h0 a1 a2 n1 n2 : Nat) (f1 f2 : Nat → Int32) (cn : Int32) : zMet l y_Fs_forget b_Fs_forget 1 none 0 0 0 0 E [.ref h0] [(h0, .inr (0, [.ref a1, .ref a2, .int cn])), (a1, zI E n1 f1), (a2, zI E n2 f2)] (zQv E (S := Unit) (fun _ => True) (fun _ => [(h0, .inr (0, [.ref a1, .ref a2, .int 0])), (a1, zI E n1 f1), (a2, zI E n2 f2)])) := by
  refine zz_met (by decide +kernel) (Nat.le_of_ble_eq_true rfl) ?_
  intro p e s m below meth c A ls C hin hA hK hst hP hD hl
  obtain ⟨hx, hb, hr, hml, hown, hts, hlk⟩ := id C
  have hS : va_S A s.heap s.heap [] := va_S.rf
  have hl : lv_has ls 1 [(0, .ref h0)] := hl
  refine lv_aload_n hx hb d_Fs_forget_0 rfl (lv_at hl 0 rfl) ?_
  refine lv_iconst (v := 0) hx hb d_Fs_forget_1 (by decide) ?_
  refine zz_put C hK hP hD hS fl_Fs_18 0 rfl rfl rfl (Nat.le_of_ble_eq_true rfl) d_Fs_forget_2 (fun H locs hP hD hS => ?_)
  have hP : va_P E.1 vwCl [(h0, .inr (0, [.ref a1, .ref a2, .int 0])), (a1, zI E n1 f1), (a2, zI E n2 f2)] H := hP
  have hD : va_D A [(h0, .inr (0, [.ref a1, .ref a2, .int 0])), (a1, zI E n1 f1), (a2, zI E n2 f2)] := hD
  exact zz_retv C hS () (trivial) hP hD d_Fs_forget_5

set_option maxHeartbeats 4000000 in
set_option maxRecDepth 100000 in
theorem c_Fs_isFound (l : Launch) (E : zG) (h0 a1 a2 n1 n2 : Nat) (f1 f2 : Nat → Int32) (cn : Int32) (k : Int32) : zMet l y_Fs_isFound b_Fs_isFound 2 (some .boolean) 0 0 0 0 E [.ref h0, .int k] [(h0, .inr (0, [.ref a1, .ref a2, .int cn])), (a1, zI E n1 f1), (a2, zI E n2 f2)] (zQi E (S := Unit) (fun r _ => r = if ¬ k < 0 ∧ ¬ cn ≤ k ∧ ¬ nI n1 ≤ k ∧ ¬ nI n2 ≤ k then 1 else 0) (fun _ => [(h0, .inr (0, [.ref a1, .ref a2, .int cn])), (a1, zI E n1 f1), (a2, zI E n2 f2)])) := by
  refine zz_met (by decide +kernel) (Nat.le_of_ble_eq_true rfl) ?_
  intro p e s m below meth c A ls C hin hA hK hst hP hD hl
  obtain ⟨hx, hb, hr, hml, hown, hts, hlk⟩ := id C
  have hS : va_S A s.heap s.heap [] := va_S.rf
  have hl : lv_has ls 2 [(0, .ref h0), (1, .int k)] := hl
  refine lv_iload_n hx hb d_Fs_isFound_0 rfl (lv_at hl 1 rfl) ?_
  refine lv_if_lt (tgt := 34) hx hb d_Fs_isFound_1 (by decide) (fun c_3 => ?_) (fun c_3 => ?_)
  · refine lv_iconst (v := 0) hx hb d_Fs_isFound_34 (by decide) ?_
    exact zz_reti C (rfl) hS () (by simp_all) hP hD d_Fs_isFound_35
  · refine lv_iload_n hx hb d_Fs_isFound_4 rfl (lv_at hl 1 rfl) ?_
    refine lv_aload_n hx hb d_Fs_isFound_5 rfl (lv_at hl 0 rfl) ?_
    refine zz_get C hK hP fl_Fs_18 0 rfl rfl d_Fs_isFound_6 ?_
    refine lv_icmp_ge (tgt := 34) hx hb d_Fs_isFound_9 (by decide) (fun c_4 => ?_) (fun c_4 => ?_)
    · refine lv_iconst (v := 0) hx hb d_Fs_isFound_34 (by decide) ?_
      exact zz_reti C (rfl) hS () (by simp_all) hP hD d_Fs_isFound_35
    · refine lv_iload_n hx hb d_Fs_isFound_12 rfl (lv_at hl 1 rfl) ?_
      refine lv_aload_n hx hb d_Fs_isFound_13 rfl (lv_at hl 0 rfl) ?_
      refine zz_get C hK hP fl_Fs_11 0 rfl rfl d_Fs_isFound_14 ?_
      refine zz_alenI C hK hP 1 rfl d_Fs_isFound_17 ?_
      refine lv_icmp_ge (tgt := 34) hx hb d_Fs_isFound_18 (by decide) (fun c_5 => ?_) (fun c_5 => ?_)
      · refine lv_iconst (v := 0) hx hb d_Fs_isFound_34 (by decide) ?_
        exact zz_reti C (rfl) hS () (by simp_all) hP hD d_Fs_isFound_35
      · refine lv_iload_n hx hb d_Fs_isFound_21 rfl (lv_at hl 1 rfl) ?_
        refine lv_aload_n hx hb d_Fs_isFound_22 rfl (lv_at hl 0 rfl) ?_
        refine zz_get C hK hP fl_Fs_15 0 rfl rfl d_Fs_isFound_23 ?_
        refine zz_alenI C hK hP 2 rfl d_Fs_isFound_26 ?_
        refine lv_icmp_ge (tgt := 34) hx hb d_Fs_isFound_27 (by decide) (fun c_6 => ?_) (fun c_6 => ?_)
        · refine lv_iconst (v := 0) hx hb d_Fs_isFound_34 (by decide) ?_
          exact zz_reti C (rfl) hS () (by simp_all) hP hD d_Fs_isFound_35
        · refine lv_iconst (v := 1) hx hb d_Fs_isFound_30 (by decide) ?_
          refine lv_goto (tgt := 35) hx hb d_Fs_isFound_31 (by decide) ?_
          exact zz_reti C (rfl) hS () (by simp_all) hP hD d_Fs_isFound_35

set_option maxHeartbeats 4000000 in
set_option maxRecDepth 100000 in
theorem c_Fs_first (l : Launch) (E : zG) (h0 a1 a2 n1 n2 : Nat) (f1 f2 : Nat → Int32) (cn : Int32) (k : Int32) (hn1 : n1 < 2 ^ 31) (hn2 : n2 < 2 ^ 31) : zMet l y_Fs_first b_Fs_first 2 (some .int) 1 21 0 0 E [.ref h0, .int k] [(h0, .inr (0, [.ref a1, .ref a2, .int cn])), (a1, zI E n1 f1), (a2, zI E n2 f2)] (zQi E (S := Unit) (fun r _ => r = if ¬ k < 0 ∧ ¬ cn ≤ k ∧ ¬ nI n1 ≤ k ∧ ¬ nI n2 ≤ k then f1 k.toNatClampNeg else (-2)) (fun _ => [(h0, .inr (0, [.ref a1, .ref a2, .int cn])), (a1, zI E n1 f1), (a2, zI E n2 f2)])) := by
  refine zz_met (by decide +kernel) (Nat.le_of_ble_eq_true rfl) ?_
  intro p e s m below meth c A ls C hin hA hK hst hP hD hl
  obtain ⟨hx, hb, hr, hml, hown, hts, hlk⟩ := id C
  have hS : va_S A s.heap s.heap [] := va_S.rf
  have hl : lv_has ls 2 [(0, .ref h0), (1, .int k)] := hl
  refine lv_aload_n hx hb d_Fs_first_0 rfl (lv_at hl 0 rfl) ?_
  refine lv_iload_n hx hb d_Fs_first_1 rfl (lv_at hl 1 rfl) ?_
  refine zz_goi (wr := []) [0, 1, 2] [] rfl rfl (by decide) (by decide) hA hP hD hS (zz_runV (wc := [(h0, .inr (0, [.ref a1, .ref a2, .int cn])), (a1, zI E n1 f1), (a2, zI E n2 f2)]) (As := [.int k]) (rest := []) C (c_Fs_isFound l E h0 a1 a2 n1 n2 f1 f2 cn k) ym_Fs_isFound wd_ml_Fs_28 wd_im_Fs_isFound wd_se_Fs_isFound [0, 1, 2] (by decide) rfl hA hK hst hP hD hS (ci := 0) (q0 := 0) rfl rfl rfl rfl hl.1 rfl (Nat.le_of_ble_eq_true rfl) ⟨Nat.le_of_ble_eq_true rfl, Nat.le_of_ble_eq_true rfl⟩ ⟨Nat.le_of_ble_eq_true rfl, Nat.le_of_ble_eq_true rfl⟩ d_Fs_first_2) (fun r_7 u H locs hw hP hD hS => ?_)
  have hP : va_P E.1 vwCl [(h0, .inr (0, [.ref a1, .ref a2, .int cn])), (a1, zI E n1 f1), (a2, zI E n2 f2)] H := hP
  have hD : va_D A [(h0, .inr (0, [.ref a1, .ref a2, .int cn])), (a1, zI E n1 f1), (a2, zI E n2 f2)] := hD
  refine zz_eqi (y := if ¬ k < 0 ∧ ¬ cn ≤ k ∧ ¬ nI n1 ≤ k ∧ ¬ nI n2 ≤ k then 1 else 0) (hw) ?_
  refine lv_if_eq (tgt := 17) hx hb d_Fs_first_5 (by decide) (fun c_8 => ?_) (fun c_8 => ?_)
  · refine lv_bipush (v := (-2)) hx hb d_Fs_first_17 (by decide) ?_
    exact zz_reti C (rfl) hS () (by rw [if_neg (zz_if0 c_8)]) hP hD d_Fs_first_19
  · refine lv_aload_n hx hb d_Fs_first_8 rfl (lv_at hl 0 rfl) ?_
    refine zz_get C hK hP fl_Fs_11 0 rfl rfl d_Fs_first_9 ?_
    refine lv_iload_n hx hb d_Fs_first_12 rfl (lv_at hl 1 rfl) ?_
    refine zz_iald C hK hP 1 rfl (zz_vp (zz_if1 c_8).1 (zz_if1 c_8).2.2.1 hn1) d_Fs_first_13 ?_
    refine lv_goto (tgt := 19) hx hb d_Fs_first_14 (by decide) ?_
    exact zz_reti C (rfl) hS () (by rw [if_pos (zz_if1 c_8)]) hP hD d_Fs_first_19

set_option maxHeartbeats 4000000 in
set_option maxRecDepth 100000 in
theorem c_Fs_second (l : Launch) (E : zG) (h0 a1 a2 n1 n2 : Nat) (f1 f2 : Nat → Int32) (cn : Int32) (k : Int32) (hn1 : n1 < 2 ^ 31) (hn2 : n2 < 2 ^ 31) : zMet l y_Fs_second b_Fs_second 2 (some .int) 1 21 0 0 E [.ref h0, .int k] [(h0, .inr (0, [.ref a1, .ref a2, .int cn])), (a1, zI E n1 f1), (a2, zI E n2 f2)] (zQi E (S := Unit) (fun r _ => r = if ¬ k < 0 ∧ ¬ cn ≤ k ∧ ¬ nI n1 ≤ k ∧ ¬ nI n2 ≤ k then f2 k.toNatClampNeg else (-2)) (fun _ => [(h0, .inr (0, [.ref a1, .ref a2, .int cn])), (a1, zI E n1 f1), (a2, zI E n2 f2)])) := by
  refine zz_met (by decide +kernel) (Nat.le_of_ble_eq_true rfl) ?_
  intro p e s m below meth c A ls C hin hA hK hst hP hD hl
  obtain ⟨hx, hb, hr, hml, hown, hts, hlk⟩ := id C
  have hS : va_S A s.heap s.heap [] := va_S.rf
  have hl : lv_has ls 2 [(0, .ref h0), (1, .int k)] := hl
  refine lv_aload_n hx hb d_Fs_second_0 rfl (lv_at hl 0 rfl) ?_
  refine lv_iload_n hx hb d_Fs_second_1 rfl (lv_at hl 1 rfl) ?_
  refine zz_goi (wr := []) [0, 1, 2] [] rfl rfl (by decide) (by decide) hA hP hD hS (zz_runV (wc := [(h0, .inr (0, [.ref a1, .ref a2, .int cn])), (a1, zI E n1 f1), (a2, zI E n2 f2)]) (As := [.int k]) (rest := []) C (c_Fs_isFound l E h0 a1 a2 n1 n2 f1 f2 cn k) ym_Fs_isFound wd_ml_Fs_28 wd_im_Fs_isFound wd_se_Fs_isFound [0, 1, 2] (by decide) rfl hA hK hst hP hD hS (ci := 0) (q0 := 0) rfl rfl rfl rfl hl.1 rfl (Nat.le_of_ble_eq_true rfl) ⟨Nat.le_of_ble_eq_true rfl, Nat.le_of_ble_eq_true rfl⟩ ⟨Nat.le_of_ble_eq_true rfl, Nat.le_of_ble_eq_true rfl⟩ d_Fs_second_2) (fun r_9 u H locs hw hP hD hS => ?_)
  have hP : va_P E.1 vwCl [(h0, .inr (0, [.ref a1, .ref a2, .int cn])), (a1, zI E n1 f1), (a2, zI E n2 f2)] H := hP
  have hD : va_D A [(h0, .inr (0, [.ref a1, .ref a2, .int cn])), (a1, zI E n1 f1), (a2, zI E n2 f2)] := hD
  refine zz_eqi (y := if ¬ k < 0 ∧ ¬ cn ≤ k ∧ ¬ nI n1 ≤ k ∧ ¬ nI n2 ≤ k then 1 else 0) (hw) ?_
  refine lv_if_eq (tgt := 17) hx hb d_Fs_second_5 (by decide) (fun c_10 => ?_) (fun c_10 => ?_)
  · refine lv_bipush (v := (-2)) hx hb d_Fs_second_17 (by decide) ?_
    exact zz_reti C (rfl) hS () (by rw [if_neg (zz_if0 c_10)]) hP hD d_Fs_second_19
  · refine lv_aload_n hx hb d_Fs_second_8 rfl (lv_at hl 0 rfl) ?_
    refine zz_get C hK hP fl_Fs_15 0 rfl rfl d_Fs_second_9 ?_
    refine lv_iload_n hx hb d_Fs_second_12 rfl (lv_at hl 1 rfl) ?_
    refine zz_iald C hK hP 2 rfl (zz_vp (zz_if1 c_10).1 (zz_if1 c_10).2.2.2 hn2) d_Fs_second_13 ?_
    refine lv_goto (tgt := 19) hx hb d_Fs_second_14 (by decide) ?_
    exact zz_reti C (rfl) hS () (by rw [if_pos (zz_if1 c_10)]) hP hD d_Fs_second_19

set_option maxHeartbeats 4000000 in
set_option maxRecDepth 100000 in
theorem c_Fs_put (l : Launch) (E : zG) (h0 a1 a2 n1 n2 : Nat) (f1 f2 : Nat → Int32) (cn : Int32) (k x y : Int32) (hn1 : n1 < 2 ^ 31) (hn2 : n2 < 2 ^ 31) : zMet l y_Fs_put b_Fs_put 4 none 1 21 0 0 E [.ref h0, .int k, .int x, .int y] [(h0, .inr (0, [.ref a1, .ref a2, .int cn])), (a1, zI E n1 f1), (a2, zI E n2 f2)] (zQv E (S := (Nat → Int32) × (Nat → Int32)) (fun u => u = if ¬ k < 0 ∧ ¬ cn ≤ k ∧ ¬ nI n1 ≤ k ∧ ¬ nI n2 ≤ k then (upd f1 k.toNatClampNeg x, upd f2 k.toNatClampNeg y) else (f1, f2)) (fun u => [(h0, .inr (0, [.ref a1, .ref a2, .int cn])), (a1, zI E n1 u.1), (a2, zI E n2 u.2)])) := by
  refine zz_met (by decide +kernel) (Nat.le_of_ble_eq_true rfl) ?_
  intro p e s m below meth c A ls C hin hA hK hst hP hD hl
  obtain ⟨hx, hb, hr, hml, hown, hts, hlk⟩ := id C
  have hS : va_S A s.heap s.heap [] := va_S.rf
  have hl : lv_has ls 4 [(0, .ref h0), (1, .int k), (2, .int x), (3, .int y)] := hl
  refine lv_aload_n hx hb d_Fs_put_0 rfl (lv_at hl 0 rfl) ?_
  refine lv_iload_n hx hb d_Fs_put_1 rfl (lv_at hl 1 rfl) ?_
  refine zz_goi (wr := []) [0, 1, 2] [] rfl rfl (by decide) (by decide) hA hP hD hS (zz_runV (wc := [(h0, .inr (0, [.ref a1, .ref a2, .int cn])), (a1, zI E n1 f1), (a2, zI E n2 f2)]) (As := [.int k]) (rest := []) C (c_Fs_isFound l E h0 a1 a2 n1 n2 f1 f2 cn k) ym_Fs_isFound wd_ml_Fs_28 wd_im_Fs_isFound wd_se_Fs_isFound [0, 1, 2] (by decide) rfl hA hK hst hP hD hS (ci := 0) (q0 := 0) rfl rfl rfl rfl hl.1 rfl (Nat.le_of_ble_eq_true rfl) ⟨Nat.le_of_ble_eq_true rfl, Nat.le_of_ble_eq_true rfl⟩ ⟨Nat.le_of_ble_eq_true rfl, Nat.le_of_ble_eq_true rfl⟩ d_Fs_put_2) (fun r_11 u H locs hw hP hD hS => ?_)
  have hP : va_P E.1 vwCl [(h0, .inr (0, [.ref a1, .ref a2, .int cn])), (a1, zI E n1 f1), (a2, zI E n2 f2)] H := hP
  have hD : va_D A [(h0, .inr (0, [.ref a1, .ref a2, .int cn])), (a1, zI E n1 f1), (a2, zI E n2 f2)] := hD
  refine zz_eqi (y := if ¬ k < 0 ∧ ¬ cn ≤ k ∧ ¬ nI n1 ≤ k ∧ ¬ nI n2 ≤ k then 1 else 0) (hw) ?_
  refine lv_if_eq (tgt := 22) hx hb d_Fs_put_5 (by decide) (fun c_12 => ?_) (fun c_12 => ?_)
  · exact zz_retv C hS (f1, f2) (by rw [if_neg (zz_if0 c_12)]) hP hD d_Fs_put_22
  · refine lv_aload_n hx hb d_Fs_put_8 rfl (lv_at hl 0 rfl) ?_
    refine zz_get C hK hP fl_Fs_11 0 rfl rfl d_Fs_put_9 ?_
    refine lv_iload_n hx hb d_Fs_put_12 rfl (lv_at hl 1 rfl) ?_
    refine lv_iload_n hx hb d_Fs_put_13 rfl (lv_at hl 2 rfl) ?_
    refine zz_iast C hK hP hD hS 1 rfl (zz_vp (zz_if1 c_12).1 (zz_if1 c_12).2.2.1 hn1) d_Fs_put_14 (fun H locs hP hD hS => ?_)
    have hP : va_P E.1 vwCl [(h0, .inr (0, [.ref a1, .ref a2, .int cn])), (a1, zI E n1 (upd f1 k.toNatClampNeg x)), (a2, zI E n2 f2)] H := hP
    have hD : va_D A [(h0, .inr (0, [.ref a1, .ref a2, .int cn])), (a1, zI E n1 (upd f1 k.toNatClampNeg x)), (a2, zI E n2 f2)] := hD
    refine lv_aload_n hx hb d_Fs_put_15 rfl (lv_at hl 0 rfl) ?_
    refine zz_get C hK hP fl_Fs_15 0 rfl rfl d_Fs_put_16 ?_
    refine lv_iload_n hx hb d_Fs_put_19 rfl (lv_at hl 1 rfl) ?_
    refine lv_iload_n hx hb d_Fs_put_20 rfl (lv_at hl 3 rfl) ?_
    refine zz_iast C hK hP hD hS 2 rfl (zz_vp (zz_if1 c_12).1 (zz_if1 c_12).2.2.2 hn2) d_Fs_put_21 (fun H locs hP hD hS => ?_)
    have hP : va_P E.1 vwCl [(h0, .inr (0, [.ref a1, .ref a2, .int cn])), (a1, zI E n1 (upd f1 k.toNatClampNeg x)), (a2, zI E n2 (upd f2 k.toNatClampNeg y))] H := hP
    have hD : va_D A [(h0, .inr (0, [.ref a1, .ref a2, .int cn])), (a1, zI E n1 (upd f1 k.toNatClampNeg x)), (a2, zI E n2 (upd f2 k.toNatClampNeg y))] := hD
    exact zz_retv C hS (upd f1 k.toNatClampNeg x, upd f2 k.toNatClampNeg y) (by rw [if_pos (zz_if1 c_12)]) hP hD d_Fs_put_22

set_option maxHeartbeats 4000000 in
set_option maxRecDepth 100000 in
theorem c_Fs_makeRoom_keep (l : Launch) (E : zG) (h0 a1 a2 n1 n2 : Nat) (f1 f2 : Nat → Int32) (cn : Int32) (k : Nat) (hk : k ≤ n1) (hn1 : n1 < 2 ^ 31) : zMet l y_Fs_makeRoom b_Fs_makeRoom 2 none 1 21 0 0 E [.ref h0, .int (nI k)] [(h0, .inr (0, [.ref a1, .ref a2, .int cn])), (a1, zI E n1 f1), (a2, zI E n2 f2)] (zQv E (S := Unit) (fun _ => True) (fun _ => [(h0, .inr (0, [.ref a1, .ref a2, .int (nI k)])), (a1, zI E n1 f1), (a2, zI E n2 f2)])) := by
  refine zz_met (by decide +kernel) (Nat.le_of_ble_eq_true rfl) ?_
  intro p e s m below meth c A ls C hin hA hK hst hP hD hl
  obtain ⟨hx, hb, hr, hml, hown, hts, hlk⟩ := id C
  have hS : va_S A s.heap s.heap [] := va_S.rf
  have hl : lv_has ls 2 [(0, .ref h0), (1, .int (nI k))] := hl
  refine lv_iload_n hx hb d_Fs_makeRoom_0 rfl (lv_at hl 1 rfl) ?_
  refine lv_aload_n hx hb d_Fs_makeRoom_1 rfl (lv_at hl 0 rfl) ?_
  refine zz_get C hK hP fl_Fs_11 0 rfl rfl d_Fs_makeRoom_2 ?_
  refine zz_alenI C hK hP 1 rfl d_Fs_makeRoom_5 ?_
  refine lv_icmp_le (tgt := 30) hx hb d_Fs_makeRoom_6 (by decide) (fun c_13 => ?_) (fun c_13 => ?_)
  · refine lv_aload_n hx hb d_Fs_makeRoom_30 rfl (lv_at hl 0 rfl) ?_
    refine lv_iload_n hx hb d_Fs_makeRoom_31 rfl (lv_at hl 1 rfl) ?_
    refine lv_aload_n hx hb d_Fs_makeRoom_32 rfl (lv_at hl 0 rfl) ?_
    refine zz_get C hK hP fl_Fs_11 0 rfl rfl d_Fs_makeRoom_33 ?_
    refine zz_alenI C hK hP 1 rfl d_Fs_makeRoom_36 ?_
    refine zz_min C wd_ml_Fs_22 wd_st_min wd_in_math wd_cd_min hl.1 (Nat.le_of_ble_eq_true rfl) (Nat.le_of_ble_eq_true rfl) (Nat.le_of_ble_eq_true rfl) (Nat.le_of_ble_eq_true rfl) d_Fs_makeRoom_37 ?_
    refine zz_eqi (y := nI k) (zz_minL hk hn1) ?_
    refine zz_put C hK hP hD hS fl_Fs_18 0 rfl rfl rfl (Nat.le_of_ble_eq_true rfl) d_Fs_makeRoom_40 (fun H locs hP hD hS => ?_)
    have hP : va_P E.1 vwCl [(h0, .inr (0, [.ref a1, .ref a2, .int (nI k)])), (a1, zI E n1 f1), (a2, zI E n2 f2)] H := hP
    have hD : va_D A [(h0, .inr (0, [.ref a1, .ref a2, .int (nI k)])), (a1, zI E n1 f1), (a2, zI E n2 f2)] := hD
    exact zz_retv C hS () (trivial) hP hD d_Fs_makeRoom_43
  · exact absurd (nI_le hk hn1) c_13

set_option maxHeartbeats 4000000 in
set_option maxRecDepth 100000 in
theorem c_Fs_makeRoom_new (l : Launch) (E : zG) (h0 a1 a2 n1 n2 : Nat) (f1 f2 : Nat → Int32) (cn : Int32) (k : Nat) (hk : n1 < k) (hk2 : k ≤ 10000) : zMet l y_Fs_makeRoom b_Fs_makeRoom 2 none 1 21 2 (k + k) E [.ref h0, .int (nI k)] [(h0, .inr (0, [.ref a1, .ref a2, .int cn])), (a1, zI E n1 f1), (a2, zI E n2 f2)] (zQv E (S := Nat × Nat) (fun _ => True) (fun u => [(h0, .inr (0, [.ref u.1, .ref u.2, .int (nI k)])), (u.1, zI E k (fun _ => 0)), (u.2, zI E k (fun _ => 0))])) := by
  refine zz_met (by decide +kernel) (Nat.le_of_ble_eq_true rfl) ?_
  intro p e s m below meth c A ls C hin hA hK hst hP hD hl
  obtain ⟨hx, hb, hr, hml, hown, hts, hlk⟩ := id C
  have hS : va_S A s.heap s.heap [] := va_S.rf
  have hl : lv_has ls 2 [(0, .ref h0), (1, .int (nI k))] := hl
  refine lv_iload_n hx hb d_Fs_makeRoom_0 rfl (lv_at hl 1 rfl) ?_
  refine lv_aload_n hx hb d_Fs_makeRoom_1 rfl (lv_at hl 0 rfl) ?_
  refine zz_get C hK hP fl_Fs_11 0 rfl rfl d_Fs_makeRoom_2 ?_
  refine zz_alenI C hK hP 1 rfl d_Fs_makeRoom_5 ?_
  refine lv_icmp_le (tgt := 30) hx hb d_Fs_makeRoom_6 (by decide) (fun c_14 => ?_) (fun c_14 => ?_)
  · exact absurd c_14 (nI_ge hk (by omega))
  · refine lv_iload_n hx hb d_Fs_makeRoom_9 rfl (lv_at hl 1 rfl) ?_
    refine lv_sipush (v := 10000) hx hb d_Fs_makeRoom_10 (by decide) ?_
    refine lv_icmp_gt (tgt := 30) hx hb d_Fs_makeRoom_13 (by decide) (fun c_15 => ?_) (fun c_15 => ?_)
    · exact absurd (nI_le (b := 10000) hk2 (by decide)) (zz_nle c_15)
    · refine lv_aload_n hx hb d_Fs_makeRoom_16 rfl (lv_at hl 0 rfl) ?_
      refine lv_iload_n hx hb d_Fs_makeRoom_17 rfl (lv_at hl 1 rfl) ?_
      refine zz_newI C hK hP hD hS hA (by omega) wd_ac_I (by dsimp only [zR]; omega) (by dsimp only [zR]; omega) d_Fs_makeRoom_18 (fun q_16 H hP hD hS => ?_)
      have hP : va_P E.1 vwCl [(h0, .inr (0, [.ref a1, .ref a2, .int cn])), (a1, zI E n1 f1), (a2, zI E n2 f2), (q_16, zI E k (fun _ => 0))] H := hP
      have hD : va_D A [(h0, .inr (0, [.ref a1, .ref a2, .int cn])), (a1, zI E n1 f1), (a2, zI E n2 f2), (q_16, zI E k (fun _ => 0))] := hD
      refine zz_put C hK hP hD hS fl_Fs_11 0 rfl rfl rfl (Nat.le_of_ble_eq_true rfl) d_Fs_makeRoom_20 (fun H locs hP hD hS => ?_)
      have hP : va_P E.1 vwCl [(h0, .inr (0, [.ref q_16, .ref a2, .int cn])), (a1, zI E n1 f1), (a2, zI E n2 f2), (q_16, zI E k (fun _ => 0))] H := hP
      have hD : va_D A [(h0, .inr (0, [.ref q_16, .ref a2, .int cn])), (a1, zI E n1 f1), (a2, zI E n2 f2), (q_16, zI E k (fun _ => 0))] := hD
      refine lv_aload_n hx hb d_Fs_makeRoom_23 rfl (lv_at hl 0 rfl) ?_
      refine lv_iload_n hx hb d_Fs_makeRoom_24 rfl (lv_at hl 1 rfl) ?_
      refine zz_newI C hK hP hD hS hA (by omega) wd_ac_I (by dsimp only [zR]; omega) (by dsimp only [zR]; omega) d_Fs_makeRoom_25 (fun q_17 H hP hD hS => ?_)
      have hP : va_P E.1 vwCl [(h0, .inr (0, [.ref q_16, .ref a2, .int cn])), (a1, zI E n1 f1), (a2, zI E n2 f2), (q_16, zI E k (fun _ => 0)), (q_17, zI E k (fun _ => 0))] H := hP
      have hD : va_D A [(h0, .inr (0, [.ref q_16, .ref a2, .int cn])), (a1, zI E n1 f1), (a2, zI E n2 f2), (q_16, zI E k (fun _ => 0)), (q_17, zI E k (fun _ => 0))] := hD
      refine zz_put C hK hP hD hS fl_Fs_15 0 rfl rfl rfl (Nat.le_of_ble_eq_true rfl) d_Fs_makeRoom_27 (fun H locs hP hD hS => ?_)
      have hP : va_P E.1 vwCl [(h0, .inr (0, [.ref q_16, .ref q_17, .int cn])), (a1, zI E n1 f1), (a2, zI E n2 f2), (q_16, zI E k (fun _ => 0)), (q_17, zI E k (fun _ => 0))] H := hP
      have hD : va_D A [(h0, .inr (0, [.ref q_16, .ref q_17, .int cn])), (a1, zI E n1 f1), (a2, zI E n2 f2), (q_16, zI E k (fun _ => 0)), (q_17, zI E k (fun _ => 0))] := hD
      refine lv_aload_n hx hb d_Fs_makeRoom_30 rfl (lv_at hl 0 rfl) ?_
      refine lv_iload_n hx hb d_Fs_makeRoom_31 rfl (lv_at hl 1 rfl) ?_
      refine lv_aload_n hx hb d_Fs_makeRoom_32 rfl (lv_at hl 0 rfl) ?_
      refine zz_get C hK hP fl_Fs_11 0 rfl rfl d_Fs_makeRoom_33 ?_
      refine zz_alenI C hK hP 3 rfl d_Fs_makeRoom_36 ?_
      refine zz_min C wd_ml_Fs_22 wd_st_min wd_in_math wd_cd_min hl.1 (Nat.le_of_ble_eq_true rfl) (Nat.le_of_ble_eq_true rfl) (by dsimp only [zR]; omega) (by dsimp only [zR]; omega) d_Fs_makeRoom_37 ?_
      refine zz_eqi (y := nI k) (zz_minS k) ?_
      refine zz_put C hK hP hD hS fl_Fs_18 0 rfl rfl rfl (Nat.le_of_ble_eq_true rfl) d_Fs_makeRoom_40 (fun H locs hP hD hS => ?_)
      have hP : va_P E.1 vwCl [(h0, .inr (0, [.ref q_16, .ref q_17, .int (nI k)])), (a1, zI E n1 f1), (a2, zI E n2 f2), (q_16, zI E k (fun _ => 0)), (q_17, zI E k (fun _ => 0))] H := hP
      have hD : va_D A [(h0, .inr (0, [.ref q_16, .ref q_17, .int (nI k)])), (a1, zI E n1 f1), (a2, zI E n2 f2), (q_16, zI E k (fun _ => 0)), (q_17, zI E k (fun _ => 0))] := hD
      have hP := hP.sub (ws' := [(h0, .inr (0, [.ref q_16, .ref q_17, .int (nI k)])), (q_16, zI E k (fun _ => 0)), (q_17, zI E k (fun _ => 0))]) [0, 3, 4] rfl
      have hD := hD.sub (ws' := [(h0, .inr (0, [.ref q_16, .ref q_17, .int (nI k)])), (q_16, zI E k (fun _ => 0)), (q_17, zI E k (fun _ => 0))]) [0, 3, 4] (by decide) rfl
      refine W.widen (k := 2) (n := k + k) (by omega) (by omega) ?_
      exact zz_retv C hS (q_16, q_17) (trivial) hP hD d_Fs_makeRoom_43
end
section
set_option maxHeartbeats 4000000 in
set_option maxRecDepth 100000 in
theorem c_Se_init (l : Launch) (E : zG) (h0 : Nat) : zMet l y_Se_init b_Se_init 1 none 1 20 2 1024 E [.ref h0] [(h0, .inr (4, [.null, .null, .int 0]))] (zQv E (S := Nat × Nat) (fun _ => True) (fun u => [(h0, .inr (4, [.ref u.1, .ref u.2, .int 0])), (u.1, zI E 512 (fun _ => 0)), (u.2, zI E 512 (fun _ => 0))])) := by
  refine zz_met (by decide +kernel) (Nat.le_of_ble_eq_true rfl) ?_
  intro p e s m below meth c A ls C hin hA hK hst hP hD hl
  obtain ⟨hx, hb, hr, hml, hown, hts, hlk⟩ := id C
  have hS : va_S A s.heap s.heap [] := va_S.rf
  have hl : lv_has ls 1 [(0, .ref h0)] := hl
  refine lv_aload_n hx hb d_Se_init_0 rfl (lv_at hl 0 rfl) ?_
  refine zz_oi C wd_ml_Se_3 wd_im_obj wd_cd_obj hl.1 (Nat.le_of_ble_eq_true rfl) (Nat.le_of_ble_eq_true rfl) d_Se_init_1 ?_
  refine lv_aload_n hx hb d_Se_init_4 rfl (lv_at hl 0 rfl) ?_
  refine lv_sipush (v := 512) hx hb d_Se_init_5 (by decide) ?_
  refine zz_eqi (show (512 : Int32) = nI 512 from rfl) ?_
  refine zz_newI C hK hP hD hS hA (by decide) wd_ac_I (Nat.le_of_ble_eq_true rfl) (Nat.le_of_ble_eq_true rfl) d_Se_init_8 (fun q_1 H hP hD hS => ?_)
  have hP : va_P E.1 vwCl [(h0, .inr (4, [.null, .null, .int 0])), (q_1, zI E 512 (fun _ => 0))] H := hP
  have hD : va_D A [(h0, .inr (4, [.null, .null, .int 0])), (q_1, zI E 512 (fun _ => 0))] := hD
  refine zz_put C hK hP hD hS fl_Se_11 0 rfl rfl rfl (Nat.le_of_ble_eq_true rfl) d_Se_init_10 (fun H locs hP hD hS => ?_)
  have hP : va_P E.1 vwCl [(h0, .inr (4, [.ref q_1, .null, .int 0])), (q_1, zI E 512 (fun _ => 0))] H := hP
  have hD : va_D A [(h0, .inr (4, [.ref q_1, .null, .int 0])), (q_1, zI E 512 (fun _ => 0))] := hD
  refine lv_aload_n hx hb d_Se_init_13 rfl (lv_at hl 0 rfl) ?_
  refine lv_sipush (v := 512) hx hb d_Se_init_14 (by decide) ?_
  refine zz_eqi (show (512 : Int32) = nI 512 from rfl) ?_
  refine zz_newI C hK hP hD hS hA (by decide) wd_ac_I (Nat.le_of_ble_eq_true rfl) (Nat.le_of_ble_eq_true rfl) d_Se_init_17 (fun q_2 H hP hD hS => ?_)
  have hP : va_P E.1 vwCl [(h0, .inr (4, [.ref q_1, .null, .int 0])), (q_1, zI E 512 (fun _ => 0)), (q_2, zI E 512 (fun _ => 0))] H := hP
  have hD : va_D A [(h0, .inr (4, [.ref q_1, .null, .int 0])), (q_1, zI E 512 (fun _ => 0)), (q_2, zI E 512 (fun _ => 0))] := hD
  refine zz_put C hK hP hD hS fl_Se_15 0 rfl rfl rfl (Nat.le_of_ble_eq_true rfl) d_Se_init_19 (fun H locs hP hD hS => ?_)
  have hP : va_P E.1 vwCl [(h0, .inr (4, [.ref q_1, .ref q_2, .int 0])), (q_1, zI E 512 (fun _ => 0)), (q_2, zI E 512 (fun _ => 0))] H := hP
  have hD : va_D A [(h0, .inr (4, [.ref q_1, .ref q_2, .int 0])), (q_1, zI E 512 (fun _ => 0)), (q_2, zI E 512 (fun _ => 0))] := hD
  exact zz_retv C hS (q_1, q_2) (trivial) hP hD d_Se_init_22

set_option maxHeartbeats 4000000 in
set_option maxRecDepth 100000 in
theorem c_Se_meet (l : Launch) (E : zG) (h0 a1 a2 n : Nat) (fT fQ : Nat → Int32) (st : (Nat → Nat) × List Nat) (a b k : Nat) (hn : n ≤ 10000) (ha : a < n) (hb0 : b < n) (hk : k < 256) (hR : bfs_RS n st fT fQ) (hWF : bfs_WF n st) : zMet l y_Se_meet b_Se_meet 4 none 0 0 0 0 E [.ref h0, .int (nI a), .int (nI b), .int (nI k)] [(h0, .inr (4, [.ref a1, .ref a2, .int (nI st.2.length)])), (a1, zI E n fT), (a2, zI E n fQ)] (zQv E (S := (Nat → Int32) × (Nat → Int32)) (fun u => bfs_RS n (bfs_mt st b (a, k)) u.1 u.2) (fun u => [(h0, .inr (4, [.ref a1, .ref a2, .int (nI (bfs_mt st b (a, k)).2.length)])), (a1, zI E n u.1), (a2, zI E n u.2)])) := by
  refine zz_met (by decide +kernel) (Nat.le_of_ble_eq_true rfl) ?_
  intro p e s m below meth c A ls C hin hA hK hst hP hD hl
  obtain ⟨hx, hb, hr, hml, hown, hts, hlk⟩ := id C
  have hS : va_S A s.heap s.heap [] := va_S.rf
  have hl : lv_has ls 4 [(0, .ref h0), (1, .int (nI a)), (2, .int (nI b)), (3, .int (nI k))] := hl
  refine lv_iload_n hx hb d_Se_meet_0 rfl (lv_at hl 1 rfl) ?_
  refine lv_if_lt (tgt := 34) hx hb d_Se_meet_1 (by decide) (fun c_3 => ?_) (fun c_3 => ?_)
  · exact absurd c_3 (nI_pos (by omega))
  · refine lv_iload_n hx hb d_Se_meet_4 rfl (lv_at hl 1 rfl) ?_
    refine lv_aload_n hx hb d_Se_meet_5 rfl (lv_at hl 0 rfl) ?_
    refine zz_get C hK hP fl_Se_11 0 rfl rfl d_Se_meet_6 ?_
    refine zz_alenI C hK hP 1 rfl d_Se_meet_9 ?_
    refine lv_icmp_ge (tgt := 34) hx hb d_Se_meet_10 (by decide) (fun c_4 => ?_) (fun c_4 => ?_)
    · exact absurd c_4 (nI_ge ha (by omega))
    · refine lv_aload_n hx hb d_Se_meet_13 rfl (lv_at hl 0 rfl) ?_
      refine zz_get C hK hP fl_Se_11 0 rfl rfl d_Se_meet_14 ?_
      refine lv_iload_n hx hb d_Se_meet_17 rfl (lv_at hl 1 rfl) ?_
      refine zz_ialdN C hK hP 1 rfl (j := a) (ha) (by omega) d_Se_meet_18 ?_
      refine lv_if_ne (tgt := 34) hx hb d_Se_meet_19 (by decide) (fun c_5 => ?_) (fun c_5 => ?_)
      · have hz : ¬ st.1 a = 0 := fun z => c_5 (by rw [hR.1 a ha, z]; rfl)
        have e0 : bfs_mt st b (a, k) = st := by unfold bfs_mt; rw [if_neg hz]
        have hP : va_P E.1 vwCl [(h0, .inr (4, [.ref a1, .ref a2, .int (nI (bfs_mt st b (a, k)).2.length)])), (a1, zI E n fT), (a2, zI E n fQ)] s.heap := by rw [e0]; exact hP
        have hD : va_D A [(h0, .inr (4, [.ref a1, .ref a2, .int (nI (bfs_mt st b (a, k)).2.length)])), (a1, zI E n fT), (a2, zI E n fQ)] := by rw [e0]; exact hD
        exact zz_retv C hS (fT, fQ) (by rw [e0]; exact hR) hP hD d_Se_meet_34
      · have hz : st.1 a = 0 := zz_nI0 ((hR.1 a ha).symm.trans c_5) (bfs_tr hWF ha)
        have hq := bfs_room hWF ha hz
        refine lv_aload_n hx hb d_Se_meet_22 rfl (lv_at hl 0 rfl) ?_
        refine zz_get C hK hP fl_Se_34 0 rfl rfl d_Se_meet_23 ?_
        refine lv_aload_n hx hb d_Se_meet_26 rfl (lv_at hl 0 rfl) ?_
        refine zz_get C hK hP fl_Se_15 0 rfl rfl d_Se_meet_27 ?_
        refine zz_alenI C hK hP 2 rfl d_Se_meet_30 ?_
        refine lv_icmp_lt (tgt := 35) hx hb d_Se_meet_31 (by decide) (fun c_6 => ?_) (fun c_6 => ?_)
        · refine lv_aload_n hx hb d_Se_meet_35 rfl (lv_at hl 0 rfl) ?_
          refine zz_get C hK hP fl_Se_11 0 rfl rfl d_Se_meet_36 ?_
          refine lv_iload_n hx hb d_Se_meet_39 rfl (lv_at hl 1 rfl) ?_
          refine lv_iconst (v := 1) hx hb d_Se_meet_40 (by decide) ?_
          refine lv_iload_n hx hb d_Se_meet_41 rfl (lv_at hl 2 rfl) ?_
          refine lv_bipush (v := 8) hx hb d_Se_meet_42 (by decide) ?_
          refine lv_ishl hx hb d_Se_meet_44 ?_
          refine lv_iload_n hx hb d_Se_meet_45 rfl (lv_at hl 3 rfl) ?_
          refine lv_ior hx hb d_Se_meet_46 ?_
          refine lv_iadd hx hb d_Se_meet_47 ?_
          refine zz_eqi (y := nI (1 + (b * 256 + k))) (bfs_code (by omega) hk) ?_
          refine zz_iastN C hK hP hD hS 1 rfl (j := a) (ha) (by omega) d_Se_meet_48 (fun H locs hP hD hS => ?_)
          have hP : va_P E.1 vwCl [(h0, .inr (4, [.ref a1, .ref a2, .int (nI st.2.length)])), (a1, zI E n (upd fT a (nI (1 + (b * 256 + k))))), (a2, zI E n fQ)] H := hP
          have hD : va_D A [(h0, .inr (4, [.ref a1, .ref a2, .int (nI st.2.length)])), (a1, zI E n (upd fT a (nI (1 + (b * 256 + k))))), (a2, zI E n fQ)] := hD
          refine lv_aload_n hx hb d_Se_meet_49 rfl (lv_at hl 0 rfl) ?_
          refine zz_get C hK hP fl_Se_15 0 rfl rfl d_Se_meet_50 ?_
          refine lv_aload_n hx hb d_Se_meet_53 rfl (lv_at hl 0 rfl) ?_
          refine zz_get C hK hP fl_Se_34 0 rfl rfl d_Se_meet_54 ?_
          refine lv_iload_n hx hb d_Se_meet_57 rfl (lv_at hl 1 rfl) ?_
          refine zz_iastN C hK hP hD hS 2 rfl (j := st.2.length) (hq) (by omega) d_Se_meet_58 (fun H locs hP hD hS => ?_)
          have hP : va_P E.1 vwCl [(h0, .inr (4, [.ref a1, .ref a2, .int (nI st.2.length)])), (a1, zI E n (upd fT a (nI (1 + (b * 256 + k))))), (a2, zI E n (upd fQ st.2.length (nI a)))] H := hP
          have hD : va_D A [(h0, .inr (4, [.ref a1, .ref a2, .int (nI st.2.length)])), (a1, zI E n (upd fT a (nI (1 + (b * 256 + k))))), (a2, zI E n (upd fQ st.2.length (nI a)))] := hD
          refine lv_aload_n hx hb d_Se_meet_59 rfl (lv_at hl 0 rfl) ?_
          refine lv_dup hx hb d_Se_meet_60 rfl ?_
          refine zz_get C hK hP fl_Se_34 0 rfl rfl d_Se_meet_61 ?_
          refine lv_iconst (v := 1) hx hb d_Se_meet_64 (by decide) ?_
          refine lv_iadd hx hb d_Se_meet_65 ?_
          refine zz_eqi (y := nI (st.2.length + 1)) (nI_1 _) ?_
          refine zz_put C hK hP hD hS fl_Se_34 0 rfl rfl rfl (Nat.le_of_ble_eq_true rfl) d_Se_meet_66 (fun H locs hP hD hS => ?_)
          have hP : va_P E.1 vwCl [(h0, .inr (4, [.ref a1, .ref a2, .int (nI (st.2.length + 1))])), (a1, zI E n (upd fT a (nI (1 + (b * 256 + k))))), (a2, zI E n (upd fQ st.2.length (nI a)))] H := hP
          have hD : va_D A [(h0, .inr (4, [.ref a1, .ref a2, .int (nI (st.2.length + 1))])), (a1, zI E n (upd fT a (nI (1 + (b * 256 + k))))), (a2, zI E n (upd fQ st.2.length (nI a)))] := hD
          have e0 : (bfs_mt st b (a, k)).2.length = st.2.length + 1 := by unfold bfs_mt; rw [if_pos hz]; simp
          have hP : va_P E.1 vwCl [(h0, .inr (4, [.ref a1, .ref a2, .int (nI (bfs_mt st b (a, k)).2.length)])), (a1, zI E n (upd fT a (nI (1 + (b * 256 + k))))), (a2, zI E n (upd fQ st.2.length (nI a)))] H := by rw [e0]; exact hP
          have hD : va_D A [(h0, .inr (4, [.ref a1, .ref a2, .int (nI (bfs_mt st b (a, k)).2.length)])), (a1, zI E n (upd fT a (nI (1 + (b * 256 + k))))), (a2, zI E n (upd fQ st.2.length (nI a)))] := by rw [e0]; exact hD
          exact zz_retv C hS (upd fT a (nI (1 + (b * 256 + k))), upd fQ st.2.length (nI a)) (bfs_mt_RS hR hz) hP hD d_Se_meet_69
        · exact absurd (nI_lt hq (by omega)) c_6

set_option maxHeartbeats 4000000 in
set_option maxRecDepth 100000 in
theorem c_Se_before (l : Launch) (E : zG) (h0 a1 a2 n : Nat) (fT fQ : Nat → Int32) (st : (Nat → Nat) × List Nat) (a : Nat) (hn : n ≤ 10000) (ha : a < n) (hz : st.1 a ≠ 0) (hR : bfs_RS n st fT fQ) (hWF : bfs_WF n st) : zMet l y_Se_before b_Se_before 2 (some .int) 0 0 0 0 E [.ref h0, .int (nI a)] [(h0, .inr (4, [.ref a1, .ref a2, .int (nI st.2.length)])), (a1, zI E n fT), (a2, zI E n fQ)] (zQi E (S := Unit) (fun r _ => r = nI (bfs_bf st.1 a)) (fun _ => [(h0, .inr (4, [.ref a1, .ref a2, .int (nI st.2.length)])), (a1, zI E n fT), (a2, zI E n fQ)])) := by
  refine zz_met (by decide +kernel) (Nat.le_of_ble_eq_true rfl) ?_
  intro p e s m below meth c A ls C hin hA hK hst hP hD hl
  obtain ⟨hx, hb, hr, hml, hown, hts, hlk⟩ := id C
  have hS : va_S A s.heap s.heap [] := va_S.rf
  have hl : lv_has ls 2 [(0, .ref h0), (1, .int (nI a))] := hl
  refine lv_iload_n hx hb d_Se_before_0 rfl (lv_at hl 1 rfl) ?_
  refine lv_if_lt (tgt := 13) hx hb d_Se_before_1 (by decide) (fun c_7 => ?_) (fun c_7 => ?_)
  · exact absurd c_7 (nI_pos (by omega))
  · refine lv_iload_n hx hb d_Se_before_4 rfl (lv_at hl 1 rfl) ?_
    refine lv_aload_n hx hb d_Se_before_5 rfl (lv_at hl 0 rfl) ?_
    refine zz_get C hK hP fl_Se_11 0 rfl rfl d_Se_before_6 ?_
    refine zz_alenI C hK hP 1 rfl d_Se_before_9 ?_
    refine lv_icmp_lt (tgt := 17) hx hb d_Se_before_10 (by decide) (fun c_8 => ?_) (fun c_8 => ?_)
    · refine lv_aload_n hx hb d_Se_before_17 rfl (lv_at hl 0 rfl) ?_
      refine zz_get C hK hP fl_Se_11 0 rfl rfl d_Se_before_18 ?_
      refine lv_iload_n hx hb d_Se_before_21 rfl (lv_at hl 1 rfl) ?_
      refine zz_ialdN C hK hP 1 rfl (j := a) (ha) (by omega) d_Se_before_22 ?_
      refine lv_iconst (v := 1) hx hb d_Se_before_23 (by decide) ?_
      refine lv_isub hx hb d_Se_before_24 ?_
      refine lv_bipush (v := 8) hx hb d_Se_before_25 (by decide) ?_
      refine lv_ishr hx hb d_Se_before_27 ?_
      exact zz_reti C (rfl) hS () (by rw [hR.1 a ha]; exact bfs_before hz (hWF.2.2 a ha hz).2.1) hP hD d_Se_before_28
    · exact absurd (nI_lt ha (by omega)) c_8

set_option maxHeartbeats 4000000 in
set_option maxRecDepth 100000 in
theorem c_Se_stepInto (l : Launch) (E : zG) (h0 a1 a2 n : Nat) (fT fQ : Nat → Int32) (st : (Nat → Nat) × List Nat) (a : Nat) (hn : n ≤ 10000) (ha : a < n) (hz : st.1 a ≠ 0) (hR : bfs_RS n st fT fQ) (hWF : bfs_WF n st) : zMet l y_Se_stepInto b_Se_stepInto 2 (some .int) 0 0 0 0 E [.ref h0, .int (nI a)] [(h0, .inr (4, [.ref a1, .ref a2, .int (nI st.2.length)])), (a1, zI E n fT), (a2, zI E n fQ)] (zQi E (S := Unit) (fun r _ => r = nI ((st.1 a - 1) % 256)) (fun _ => [(h0, .inr (4, [.ref a1, .ref a2, .int (nI st.2.length)])), (a1, zI E n fT), (a2, zI E n fQ)])) := by
  refine zz_met (by decide +kernel) (Nat.le_of_ble_eq_true rfl) ?_
  intro p e s m below meth c A ls C hin hA hK hst hP hD hl
  obtain ⟨hx, hb, hr, hml, hown, hts, hlk⟩ := id C
  have hS : va_S A s.heap s.heap [] := va_S.rf
  have hl : lv_has ls 2 [(0, .ref h0), (1, .int (nI a))] := hl
  refine lv_iload_n hx hb d_Se_stepInto_0 rfl (lv_at hl 1 rfl) ?_
  refine lv_if_lt (tgt := 13) hx hb d_Se_stepInto_1 (by decide) (fun c_9 => ?_) (fun c_9 => ?_)
  · exact absurd c_9 (nI_pos (by omega))
  · refine lv_iload_n hx hb d_Se_stepInto_4 rfl (lv_at hl 1 rfl) ?_
    refine lv_aload_n hx hb d_Se_stepInto_5 rfl (lv_at hl 0 rfl) ?_
    refine zz_get C hK hP fl_Se_11 0 rfl rfl d_Se_stepInto_6 ?_
    refine zz_alenI C hK hP 1 rfl d_Se_stepInto_9 ?_
    refine lv_icmp_lt (tgt := 17) hx hb d_Se_stepInto_10 (by decide) (fun c_10 => ?_) (fun c_10 => ?_)
    · refine lv_aload_n hx hb d_Se_stepInto_17 rfl (lv_at hl 0 rfl) ?_
      refine zz_get C hK hP fl_Se_11 0 rfl rfl d_Se_stepInto_18 ?_
      refine lv_iload_n hx hb d_Se_stepInto_21 rfl (lv_at hl 1 rfl) ?_
      refine zz_ialdN C hK hP 1 rfl (j := a) (ha) (by omega) d_Se_stepInto_22 ?_
      refine lv_iconst (v := 1) hx hb d_Se_stepInto_23 (by decide) ?_
      refine lv_isub hx hb d_Se_stepInto_24 ?_
      refine lv_sipush (v := 255) hx hb d_Se_stepInto_25 (by decide) ?_
      refine lv_iand hx hb d_Se_stepInto_28 ?_
      exact zz_reti C (rfl) hS () (by rw [hR.1 a ha]; exact bfs_into hz) hP hD d_Se_stepInto_29
    · exact absurd (nI_lt ha (by omega)) c_10

set_option maxHeartbeats 4000000 in
set_option maxRecDepth 100000 in
theorem c_Se_makeRoom_keep (l : Launch) (E : zG) (h0 a1 a2 n k : Nat) (fT fQ : Nat → Int32) (mt : Int32) (hk : k ≤ n) (hn : n ≤ 10000) : zMet l y_Se_makeRoom b_Se_makeRoom 2 none 0 0 0 0 E [.ref h0, .int (nI k)] [(h0, .inr (4, [.ref a1, .ref a2, .int mt])), (a1, zI E n fT), (a2, zI E n fQ)] (zQv E (S := Unit) (fun _ => True) (fun _ => [(h0, .inr (4, [.ref a1, .ref a2, .int mt])), (a1, zI E n fT), (a2, zI E n fQ)])) := by
  refine zz_met (by decide +kernel) (Nat.le_of_ble_eq_true rfl) ?_
  intro p e s m below meth c A ls C hin hA hK hst hP hD hl
  obtain ⟨hx, hb, hr, hml, hown, hts, hlk⟩ := id C
  have hS : va_S A s.heap s.heap [] := va_S.rf
  have hl : lv_has ls 2 [(0, .ref h0), (1, .int (nI k))] := hl
  refine lv_iload_n hx hb d_Se_makeRoom_0 rfl (lv_at hl 1 rfl) ?_
  refine lv_aload_n hx hb d_Se_makeRoom_1 rfl (lv_at hl 0 rfl) ?_
  refine zz_get C hK hP fl_Se_11 0 rfl rfl d_Se_makeRoom_2 ?_
  refine zz_alenI C hK hP 1 rfl d_Se_makeRoom_5 ?_
  refine lv_icmp_le (tgt := 30) hx hb d_Se_makeRoom_6 (by decide) (fun c_11 => ?_) (fun c_11 => ?_)
  · exact zz_retv C hS () (trivial) hP hD d_Se_makeRoom_30
  · exact absurd (nI_le hk (by omega)) c_11

set_option maxHeartbeats 4000000 in
set_option maxRecDepth 100000 in
theorem c_Se_makeRoom_new (l : Launch) (E : zG) (h0 a1 a2 n k : Nat) (fT fQ : Nat → Int32) (mt : Int32) (hk : n < k) (hk2 : k ≤ 10000) : zMet l y_Se_makeRoom b_Se_makeRoom 2 none 0 0 2 (k + k) E [.ref h0, .int (nI k)] [(h0, .inr (4, [.ref a1, .ref a2, .int mt])), (a1, zI E n fT), (a2, zI E n fQ)] (zQv E (S := Nat × Nat) (fun _ => True) (fun u => [(h0, .inr (4, [.ref u.1, .ref u.2, .int mt])), (u.1, zI E k (fun _ => 0)), (u.2, zI E k (fun _ => 0))])) := by
  refine zz_met (by decide +kernel) (Nat.le_of_ble_eq_true rfl) ?_
  intro p e s m below meth c A ls C hin hA hK hst hP hD hl
  obtain ⟨hx, hb, hr, hml, hown, hts, hlk⟩ := id C
  have hS : va_S A s.heap s.heap [] := va_S.rf
  have hl : lv_has ls 2 [(0, .ref h0), (1, .int (nI k))] := hl
  refine lv_iload_n hx hb d_Se_makeRoom_0 rfl (lv_at hl 1 rfl) ?_
  refine lv_aload_n hx hb d_Se_makeRoom_1 rfl (lv_at hl 0 rfl) ?_
  refine zz_get C hK hP fl_Se_11 0 rfl rfl d_Se_makeRoom_2 ?_
  refine zz_alenI C hK hP 1 rfl d_Se_makeRoom_5 ?_
  refine lv_icmp_le (tgt := 30) hx hb d_Se_makeRoom_6 (by decide) (fun c_12 => ?_) (fun c_12 => ?_)
  · exact absurd c_12 (nI_ge hk (by omega))
  · refine lv_iload_n hx hb d_Se_makeRoom_9 rfl (lv_at hl 1 rfl) ?_
    refine lv_sipush (v := 10000) hx hb d_Se_makeRoom_10 (by decide) ?_
    refine lv_icmp_gt (tgt := 30) hx hb d_Se_makeRoom_13 (by decide) (fun c_13 => ?_) (fun c_13 => ?_)
    · exact absurd (nI_le (b := 10000) hk2 (by decide)) (zz_nle c_13)
    · refine lv_aload_n hx hb d_Se_makeRoom_16 rfl (lv_at hl 0 rfl) ?_
      refine lv_iload_n hx hb d_Se_makeRoom_17 rfl (lv_at hl 1 rfl) ?_
      refine zz_newI C hK hP hD hS hA (by omega) wd_ac_I (by dsimp only [zR]; omega) (by dsimp only [zR]; omega) d_Se_makeRoom_18 (fun q_14 H hP hD hS => ?_)
      have hP : va_P E.1 vwCl [(h0, .inr (4, [.ref a1, .ref a2, .int mt])), (a1, zI E n fT), (a2, zI E n fQ), (q_14, zI E k (fun _ => 0))] H := hP
      have hD : va_D A [(h0, .inr (4, [.ref a1, .ref a2, .int mt])), (a1, zI E n fT), (a2, zI E n fQ), (q_14, zI E k (fun _ => 0))] := hD
      refine zz_put C hK hP hD hS fl_Se_11 0 rfl rfl rfl (Nat.le_of_ble_eq_true rfl) d_Se_makeRoom_20 (fun H locs hP hD hS => ?_)
      have hP : va_P E.1 vwCl [(h0, .inr (4, [.ref q_14, .ref a2, .int mt])), (a1, zI E n fT), (a2, zI E n fQ), (q_14, zI E k (fun _ => 0))] H := hP
      have hD : va_D A [(h0, .inr (4, [.ref q_14, .ref a2, .int mt])), (a1, zI E n fT), (a2, zI E n fQ), (q_14, zI E k (fun _ => 0))] := hD
      refine lv_aload_n hx hb d_Se_makeRoom_23 rfl (lv_at hl 0 rfl) ?_
      refine lv_iload_n hx hb d_Se_makeRoom_24 rfl (lv_at hl 1 rfl) ?_
      refine zz_newI C hK hP hD hS hA (by omega) wd_ac_I (by dsimp only [zR]; omega) (by dsimp only [zR]; omega) d_Se_makeRoom_25 (fun q_15 H hP hD hS => ?_)
      have hP : va_P E.1 vwCl [(h0, .inr (4, [.ref q_14, .ref a2, .int mt])), (a1, zI E n fT), (a2, zI E n fQ), (q_14, zI E k (fun _ => 0)), (q_15, zI E k (fun _ => 0))] H := hP
      have hD : va_D A [(h0, .inr (4, [.ref q_14, .ref a2, .int mt])), (a1, zI E n fT), (a2, zI E n fQ), (q_14, zI E k (fun _ => 0)), (q_15, zI E k (fun _ => 0))] := hD
      refine zz_put C hK hP hD hS fl_Se_15 0 rfl rfl rfl (Nat.le_of_ble_eq_true rfl) d_Se_makeRoom_27 (fun H locs hP hD hS => ?_)
      have hP : va_P E.1 vwCl [(h0, .inr (4, [.ref q_14, .ref q_15, .int mt])), (a1, zI E n fT), (a2, zI E n fQ), (q_14, zI E k (fun _ => 0)), (q_15, zI E k (fun _ => 0))] H := hP
      have hD : va_D A [(h0, .inr (4, [.ref q_14, .ref q_15, .int mt])), (a1, zI E n fT), (a2, zI E n fQ), (q_14, zI E k (fun _ => 0)), (q_15, zI E k (fun _ => 0))] := hD
      have hP := hP.sub (ws' := [(h0, .inr (4, [.ref q_14, .ref q_15, .int mt])), (q_14, zI E k (fun _ => 0)), (q_15, zI E k (fun _ => 0))]) [0, 3, 4] rfl
      have hD := hD.sub (ws' := [(h0, .inr (4, [.ref q_14, .ref q_15, .int mt])), (q_14, zI E k (fun _ => 0)), (q_15, zI E k (fun _ => 0))]) [0, 3, 4] (by decide) rfl
      refine W.widen (k := 2) (n := k + k) (by omega) (by omega) ?_
      exact zz_retv C hS (q_14, q_15) (trivial) hP hD d_Se_makeRoom_30

set_option maxHeartbeats 4000000 in
set_option maxRecDepth 100000 in
theorem lp_Se_stepsTo {p : Program} {l : Launch} {e : Env} {s : State} {m : MethodId} {below : List Frame} {meth : Method} {c : Code} {A : Nat → Prop}  {E : zG} {h0 a1 a2 n : Nat} {fT fQ : Nat → Int32} {st : (Nat → Nat) × List Nat} {a : Nat} (hn : n ≤ 10000) (hR : bfs_RS n st fT fQ) (hWF : bfs_WF n st) (C : cx p s m #[.ref h0, .int (nI a)] meth c b_Se_stepsTo 5 y_Se_stepsTo.cls (some .int)) (hA : ∀ q, s.heap.size ≤ q → A q) (hK : kt E s) (hst : stt A s s.heap) :
    ∀ (f : Nat) (i x : Nat) (_ : x < n) (_ : st.1 x ≠ 0) (_ : i + f = 10000) (_ : i + bfs_cnt (bfs_bf st.1) f x = bfs_cnt (bfs_bf st.1) 10000 a) (H : Heap) (locs : List Loc) (ls : Array Slot), va_P E.1 vwCl [(h0, .inr (4, [.ref a1, .ref a2, .int (nI st.2.length)])), (a1, zI E n fT), (a2, zI E n fQ)] H → va_D A [(h0, .inr (4, [.ref a1, .ref a2, .int (nI st.2.length)])), (a1, zI E n fT), (a2, zI E n fQ)] → va_S A s.heap H locs → lv_has ls 5 [(0, .ref h0), (1, .int (nI a)), (2, .int (nI x)), (3, .int (nI i))] → W p l e (zR 1 21 0 0) s m #[.ref h0, .int (nI a)] below meth c H locs 0 0 (MQ below ((zQi E (S := Unit) (fun r _ => r = nI (bfs_cnt (bfs_bf st.1) 10000 a)) (fun _ => [(h0, .inr (4, [.ref a1, .ref a2, .int (nI st.2.length)])), (a1, zI E n fT), (a2, zI E n fQ)])) A) #[.ref h0, .int (nI a)] s 0 0 A) (F0 m 4 ls []) := by
  obtain ⟨hx, hb, hr, hml, hown, hts, hlk⟩ := id C
  intro f
  induction f with
  | zero =>
    intro i x hx0 hz0 hi hc H locs ls hP hD hS hl
    have hi : i = 10000 := by omega
    refine lv_iload_n hx hb d_Se_stepsTo_4 rfl (lv_at hl 3 rfl) ?_
    refine lv_sipush (v := 10000) hx hb d_Se_stepsTo_5 (by decide) ?_
    refine lv_icmp_ge (tgt := 35) hx hb d_Se_stepsTo_8 (by decide) (fun c_16 => ?_) (fun c_16 => ?_)
    · refine lv_sipush (v := 10000) hx hb d_Se_stepsTo_35 (by decide) ?_
      exact zz_reti C (rfl) hS () (by rw [← hc]; unfold bfs_cnt; rw [hi]; rfl) hP hD d_Se_stepsTo_38
    · exact absurd (by rw [hi]; exact nI_le (b := 10000) (Nat.le_refl _) (by decide)) c_16
  | succ f ih =>
    intro i x hx0 hz0 hi hc H locs ls hP hD hS hl
    refine lv_iload_n hx hb d_Se_stepsTo_4 rfl (lv_at hl 3 rfl) ?_
    refine lv_sipush (v := 10000) hx hb d_Se_stepsTo_5 (by decide) ?_
    refine lv_icmp_ge (tgt := 35) hx hb d_Se_stepsTo_8 (by decide) (fun c_17 => ?_) (fun c_17 => ?_)
    · exact absurd c_17 (nI_ge (b := 10000) (by omega) (by decide))
    · refine lv_aload_n hx hb d_Se_stepsTo_11 rfl (lv_at hl 0 rfl) ?_
      refine lv_iload_n hx hb d_Se_stepsTo_12 rfl (lv_at hl 2 rfl) ?_
      refine zz_goi (wr := []) [0, 1, 2] [] rfl rfl (by decide) (by decide) hA hP hD hS (zz_runV (wc := [(h0, .inr (4, [.ref a1, .ref a2, .int (nI st.2.length)])), (a1, zI E n fT), (a2, zI E n fQ)]) (As := [.int (nI x)]) (rest := []) C (c_Se_before l E h0 a1 a2 n fT fQ st x hn hx0 hz0 hR hWF) ym_Se_before wd_ml_Se_53 wd_im_Se_before wd_se_Se_before [0, 1, 2] (by decide) rfl hA hK hst hP hD hS (ci := 4) (q0 := 0) rfl rfl rfl rfl hl.1 rfl (Nat.le_of_ble_eq_true rfl) ⟨Nat.le_of_ble_eq_true rfl, Nat.le_of_ble_eq_true rfl⟩ ⟨Nat.le_of_ble_eq_true rfl, Nat.le_of_ble_eq_true rfl⟩ d_Se_stepsTo_13) (fun r_18 u H locs hw hP hD hS => ?_)
      have hP : va_P E.1 vwCl [(h0, .inr (4, [.ref a1, .ref a2, .int (nI st.2.length)])), (a1, zI E n fT), (a2, zI E n fQ)] H := hP
      have hD : va_D A [(h0, .inr (4, [.ref a1, .ref a2, .int (nI st.2.length)])), (a1, zI E n fT), (a2, zI E n fQ)] := hD
      subst hw
      obtain ⟨-, g1, g2, g3⟩ := hWF.2.2 x hx0 hz0
      refine lv_istore (lv' := [(4, .int (nI (bfs_bf st.1 x))), (0, .ref h0), (1, .int (nI a)), (2, .int (nI x)), (3, .int (nI i))]) hx hb d_Se_stepsTo_16 hl (by decide) rfl (fun ls hl => ?_)
      refine lv_iload hx hb d_Se_stepsTo_18 (lv_at hl 0 rfl) ?_
      refine lv_iload_n hx hb d_Se_stepsTo_20 rfl (lv_at hl 3 rfl) ?_
      refine lv_icmp_ne (tgt := 26) hx hb d_Se_stepsTo_21 (by decide) (fun c_19 => ?_) (fun c_19 => ?_)
      · refine lv_iload hx hb d_Se_stepsTo_26 (lv_at hl 0 rfl) ?_
        refine lv_istore_n (lv' := [(2, .int (nI (bfs_bf st.1 x))), (4, .int (nI (bfs_bf st.1 x))), (0, .ref h0), (1, .int (nI a)), (3, .int (nI i))]) hx hb d_Se_stepsTo_28 rfl hl (by decide) rfl (fun ls hl => ?_)
        refine lv_iinc (v := nI (i + 1)) (lv' := [(3, .int (nI (i + 1))), (2, .int (nI (bfs_bf st.1 x))), (4, .int (nI (bfs_bf st.1 x))), (0, .ref h0), (1, .int (nI a))]) hx hb d_Se_stepsTo_29 hl (k := 4) rfl (nI_1 _) (by decide) rfl (fun ls hl => ?_)
        refine lv_goto (tgt := 4) hx hb d_Se_stepsTo_32 (by decide) ?_
        have hne : ¬ bfs_bf st.1 x = x := fun z => c_19 (by rw [z])
        exact ih (i + 1) (bfs_bf st.1 x) g2 g3 (by omega) (by rw [← hc, bfs_cnt, if_neg hne]; omega) _ _ ls hP hD hS (lv_sub hl [3, 4, 1, 0] rfl)
      · have he : bfs_bf st.1 x = x := (nI_eq (by omega) (by omega)).mp c_19
        refine lv_iload_n hx hb d_Se_stepsTo_24 rfl (lv_at hl 4 rfl) ?_
        exact zz_reti C (rfl) hS () (by rw [← hc, bfs_cnt, if_pos he]; rfl) hP hD d_Se_stepsTo_25

set_option maxHeartbeats 4000000 in
set_option maxRecDepth 100000 in
theorem c_Se_stepsTo (l : Launch) (E : zG) (h0 a1 a2 n : Nat) (fT fQ : Nat → Int32) (st : (Nat → Nat) × List Nat) (a : Nat) (hn : n ≤ 10000) (ha : a < n) (hz : st.1 a ≠ 0) (hR : bfs_RS n st fT fQ) (hWF : bfs_WF n st) : zMet l y_Se_stepsTo b_Se_stepsTo 5 (some .int) 1 21 0 0 E [.ref h0, .int (nI a)] [(h0, .inr (4, [.ref a1, .ref a2, .int (nI st.2.length)])), (a1, zI E n fT), (a2, zI E n fQ)] (zQi E (S := Unit) (fun r _ => r = nI (bfs_cnt (bfs_bf st.1) 10000 a)) (fun _ => [(h0, .inr (4, [.ref a1, .ref a2, .int (nI st.2.length)])), (a1, zI E n fT), (a2, zI E n fQ)])) := by
  refine zz_met (by decide +kernel) (Nat.le_of_ble_eq_true rfl) ?_
  intro p e s m below meth c A ls C hin hA hK hst hP hD hl
  obtain ⟨hx, hb, hr, hml, hown, hts, hlk⟩ := id C
  have hS : va_S A s.heap s.heap [] := va_S.rf
  have hl : lv_has ls 5 [(0, .ref h0), (1, .int (nI a))] := hl
  refine lv_iload_n hx hb d_Se_stepsTo_0 rfl (lv_at hl 1 rfl) ?_
  refine lv_istore_n (lv' := [(2, .int (nI a)), (0, .ref h0), (1, .int (nI a))]) hx hb d_Se_stepsTo_1 rfl hl (by decide) rfl (fun ls hl => ?_)
  refine lv_iconst (v := 0) hx hb d_Se_stepsTo_2 (by decide) ?_
  refine lv_istore_n (lv' := [(3, .int 0), (2, .int (nI a)), (0, .ref h0), (1, .int (nI a))]) hx hb d_Se_stepsTo_3 rfl hl (by decide) rfl (fun ls hl => ?_)
  exact lp_Se_stepsTo hn hR hWF C hA hK hst 10000 0 a ha hz (by omega) (by omega) _ _ ls hP hD hS (lv_sub hl [2, 3, 1, 0] rfl)
end
section
set_option maxHeartbeats 4000000 in
set_option maxRecDepth 100000 in
theorem c_Pz_init (l : Launch) (E : zG) (h0 : Nat) (ci : Nat) (fs : List Value) : zMet l y_Pz_init b_Pz_init 1 none 1 20 0 0 E [.ref h0] [(h0, .inr (ci, fs))] (zQv E (S := Unit) (fun _ => True) (fun _ => [(h0, .inr (ci, fs))])) := by
  refine zz_met (by decide +kernel) (Nat.le_of_ble_eq_true rfl) ?_
  intro p e s m below meth c A ls C hin hA hK hst hP hD hl
  obtain ⟨hx, hb, hr, hml, hown, hts, hlk⟩ := id C
  have hS : va_S A s.heap s.heap [] := va_S.rf
  have hl : lv_has ls 1 [(0, .ref h0)] := hl
  refine lv_aload_n hx hb d_Pz_init_0 rfl (lv_at hl 0 rfl) ?_
  refine zz_oi C wd_ml_Pz_1 wd_im_obj wd_cd_obj hl.1 (Nat.le_of_ble_eq_true rfl) (Nat.le_of_ble_eq_true rfl) d_Pz_init_1 ?_
  exact zz_retv C hS () (trivial) hP hD d_Pz_init_4

set_option maxHeartbeats 4000000 in
set_option maxRecDepth 100000 in
theorem c_Js_init (l : Launch) (E : zG) (h0 : Nat) : zMet l y_Js_init b_Js_init 1 none 2 40 4 16 E [.ref h0] [(h0, .inr (1, [.null, .null, .null, .null, .int 0]))] (zQv E (S := Nat × Nat × Nat × Nat) (fun _ => True) (fun u => [(h0, .inr (1, [.ref u.1, .ref u.2.1, .ref u.2.2.1, .ref u.2.2.2, .int 0])), (u.1, zI E 4 (fun _ => 0)), (u.2.1, zI E 4 (fun _ => 0)), (u.2.2.1, zI E 4 (fun _ => 0)), (u.2.2.2, zI E 4 (fun _ => 0))])) := by
  refine zz_met (by decide +kernel) (Nat.le_of_ble_eq_true rfl) ?_
  intro p e s m below meth c A ls C hin hA hK hst hP hD hl
  obtain ⟨hx, hb, hr, hml, hown, hts, hlk⟩ := id C
  have hS : va_S A s.heap s.heap [] := va_S.rf
  have hl : lv_has ls 1 [(0, .ref h0)] := hl
  refine lv_aload_n hx hb d_Js_init_0 rfl (lv_at hl 0 rfl) ?_
  refine zz_gov (wr := []) [0] [] rfl rfl (by decide) (by decide) hA hP hD hS (zz_runIN (wc := [(h0, .inr (1, [.null, .null, .null, .null, .int 0]))]) (As := []) (rest := []) C (c_Pz_init l E h0 1 [.null, .null, .null, .null, .int 0]) ym_Pz_init wd_mn_Js_3 wd_im_Pz_init rfl [0] (by decide) rfl hA hK hst hP hD hS rfl hl.1 rfl (Nat.le_of_ble_eq_true rfl) ⟨Nat.le_of_ble_eq_true rfl, Nat.le_of_ble_eq_true rfl⟩ ⟨Nat.le_of_ble_eq_true rfl, Nat.le_of_ble_eq_true rfl⟩ d_Js_init_1) (fun u H locs hw hP hD hS => ?_)
  have hP : va_P E.1 vwCl [(h0, .inr (1, [.null, .null, .null, .null, .int 0]))] H := hP
  have hD : va_D A [(h0, .inr (1, [.null, .null, .null, .null, .int 0]))] := hD
  refine lv_aload_n hx hb d_Js_init_4 rfl (lv_at hl 0 rfl) ?_
  refine lv_iconst (v := 4) hx hb d_Js_init_5 (by decide) ?_
  refine zz_eqi (show (4 : Int32) = nI 4 from rfl) ?_
  refine zz_newI C hK hP hD hS hA (by decide) wd_ac_I (Nat.le_of_ble_eq_true rfl) (Nat.le_of_ble_eq_true rfl) d_Js_init_6 (fun q_2 H hP hD hS => ?_)
  have hP : va_P E.1 vwCl [(h0, .inr (1, [.null, .null, .null, .null, .int 0])), (q_2, zI E 4 (fun _ => 0))] H := hP
  have hD : va_D A [(h0, .inr (1, [.null, .null, .null, .null, .int 0])), (q_2, zI E 4 (fun _ => 0))] := hD
  refine zz_putF C hin hK hP hD hS fl_Js_11 (fun q h => by cases h; rfl) 0 rfl rfl rfl (Nat.le_of_ble_eq_true rfl) d_Js_init_8 (fun H locs hP hD hS => ?_)
  have hP : va_P E.1 vwCl [(h0, .inr (1, [.ref q_2, .null, .null, .null, .int 0])), (q_2, zI E 4 (fun _ => 0))] H := hP
  have hD : va_D A [(h0, .inr (1, [.ref q_2, .null, .null, .null, .int 0])), (q_2, zI E 4 (fun _ => 0))] := hD
  refine lv_aload_n hx hb d_Js_init_11 rfl (lv_at hl 0 rfl) ?_
  refine lv_iconst (v := 4) hx hb d_Js_init_12 (by decide) ?_
  refine zz_eqi (show (4 : Int32) = nI 4 from rfl) ?_
  refine zz_newI C hK hP hD hS hA (by decide) wd_ac_I (Nat.le_of_ble_eq_true rfl) (Nat.le_of_ble_eq_true rfl) d_Js_init_13 (fun q_3 H hP hD hS => ?_)
  have hP : va_P E.1 vwCl [(h0, .inr (1, [.ref q_2, .null, .null, .null, .int 0])), (q_2, zI E 4 (fun _ => 0)), (q_3, zI E 4 (fun _ => 0))] H := hP
  have hD : va_D A [(h0, .inr (1, [.ref q_2, .null, .null, .null, .int 0])), (q_2, zI E 4 (fun _ => 0)), (q_3, zI E 4 (fun _ => 0))] := hD
  refine zz_putF C hin hK hP hD hS fl_Js_15 (fun q h => by cases h; rfl) 0 rfl rfl rfl (Nat.le_of_ble_eq_true rfl) d_Js_init_15 (fun H locs hP hD hS => ?_)
  have hP : va_P E.1 vwCl [(h0, .inr (1, [.ref q_2, .ref q_3, .null, .null, .int 0])), (q_2, zI E 4 (fun _ => 0)), (q_3, zI E 4 (fun _ => 0))] H := hP
  have hD : va_D A [(h0, .inr (1, [.ref q_2, .ref q_3, .null, .null, .int 0])), (q_2, zI E 4 (fun _ => 0)), (q_3, zI E 4 (fun _ => 0))] := hD
  refine lv_aload_n hx hb d_Js_init_18 rfl (lv_at hl 0 rfl) ?_
  refine lv_iconst (v := 4) hx hb d_Js_init_19 (by decide) ?_
  refine zz_eqi (show (4 : Int32) = nI 4 from rfl) ?_
  refine zz_newI C hK hP hD hS hA (by decide) wd_ac_I (Nat.le_of_ble_eq_true rfl) (Nat.le_of_ble_eq_true rfl) d_Js_init_20 (fun q_4 H hP hD hS => ?_)
  have hP : va_P E.1 vwCl [(h0, .inr (1, [.ref q_2, .ref q_3, .null, .null, .int 0])), (q_2, zI E 4 (fun _ => 0)), (q_3, zI E 4 (fun _ => 0)), (q_4, zI E 4 (fun _ => 0))] H := hP
  have hD : va_D A [(h0, .inr (1, [.ref q_2, .ref q_3, .null, .null, .int 0])), (q_2, zI E 4 (fun _ => 0)), (q_3, zI E 4 (fun _ => 0)), (q_4, zI E 4 (fun _ => 0))] := hD
  refine zz_putF C hin hK hP hD hS fl_Js_18 (fun q h => by cases h; rfl) 0 rfl rfl rfl (Nat.le_of_ble_eq_true rfl) d_Js_init_22 (fun H locs hP hD hS => ?_)
  have hP : va_P E.1 vwCl [(h0, .inr (1, [.ref q_2, .ref q_3, .ref q_4, .null, .int 0])), (q_2, zI E 4 (fun _ => 0)), (q_3, zI E 4 (fun _ => 0)), (q_4, zI E 4 (fun _ => 0))] H := hP
  have hD : va_D A [(h0, .inr (1, [.ref q_2, .ref q_3, .ref q_4, .null, .int 0])), (q_2, zI E 4 (fun _ => 0)), (q_3, zI E 4 (fun _ => 0)), (q_4, zI E 4 (fun _ => 0))] := hD
  refine lv_aload_n hx hb d_Js_init_25 rfl (lv_at hl 0 rfl) ?_
  refine lv_iconst (v := 4) hx hb d_Js_init_26 (by decide) ?_
  refine zz_eqi (show (4 : Int32) = nI 4 from rfl) ?_
  refine zz_newI C hK hP hD hS hA (by decide) wd_ac_I (Nat.le_of_ble_eq_true rfl) (Nat.le_of_ble_eq_true rfl) d_Js_init_27 (fun q_5 H hP hD hS => ?_)
  have hP : va_P E.1 vwCl [(h0, .inr (1, [.ref q_2, .ref q_3, .ref q_4, .null, .int 0])), (q_2, zI E 4 (fun _ => 0)), (q_3, zI E 4 (fun _ => 0)), (q_4, zI E 4 (fun _ => 0)), (q_5, zI E 4 (fun _ => 0))] H := hP
  have hD : va_D A [(h0, .inr (1, [.ref q_2, .ref q_3, .ref q_4, .null, .int 0])), (q_2, zI E 4 (fun _ => 0)), (q_3, zI E 4 (fun _ => 0)), (q_4, zI E 4 (fun _ => 0)), (q_5, zI E 4 (fun _ => 0))] := hD
  refine zz_putF C hin hK hP hD hS fl_Js_21 (fun q h => by cases h; rfl) 0 rfl rfl rfl (Nat.le_of_ble_eq_true rfl) d_Js_init_29 (fun H locs hP hD hS => ?_)
  have hP : va_P E.1 vwCl [(h0, .inr (1, [.ref q_2, .ref q_3, .ref q_4, .ref q_5, .int 0])), (q_2, zI E 4 (fun _ => 0)), (q_3, zI E 4 (fun _ => 0)), (q_4, zI E 4 (fun _ => 0)), (q_5, zI E 4 (fun _ => 0))] H := hP
  have hD : va_D A [(h0, .inr (1, [.ref q_2, .ref q_3, .ref q_4, .ref q_5, .int 0])), (q_2, zI E 4 (fun _ => 0)), (q_3, zI E 4 (fun _ => 0)), (q_4, zI E 4 (fun _ => 0)), (q_5, zI E 4 (fun _ => 0))] := hD
  exact zz_retv C hS (q_2, q_3, q_4, q_5) (trivial) hP hD d_Js_init_32

set_option maxHeartbeats 4000000 in
set_option maxRecDepth 100000 in
theorem c_Js_add (l : Launch) (E : zG) (h0 b1 b2 b3 b4 jc : Nat) (fS fF fW fV : Nat → Int32) (x y : Int32) (hc : jc ≤ 4) : zMet l y_Js_add b_Js_add 3 (some .int) 0 0 0 0 E [.ref h0, .int x, .int y] [(h0, .inr (1, [.ref b1, .ref b2, .ref b3, .ref b4, .int (nI jc)])), (b1, zI E 4 fS), (b2, zI E 4 fF), (b3, zI E 4 fW), (b4, zI E 4 fV)] (zQi E (S := (Nat → Int32) × (Nat → Int32) × (Nat → Int32) × Nat) (fun r u => (¬ 4 ≤ nI jc ∧ ¬ x < 1 ∧ ¬ 9 < x ∧ ¬ y < 0 ∧ y ≤ x → r = nI jc ∧ u = (upd fS jc x, upd fF jc y, upd fW jc (-1), jc + 1)) ∧ (¬ (¬ 4 ≤ nI jc ∧ ¬ x < 1 ∧ ¬ 9 < x ∧ ¬ y < 0 ∧ y ≤ x) → r = -1 ∧ u = (fS, fF, fW, jc))) (fun u => [(h0, .inr (1, [.ref b1, .ref b2, .ref b3, .ref b4, .int (nI u.2.2.2)])), (b1, zI E 4 u.1), (b2, zI E 4 u.2.1), (b3, zI E 4 u.2.2.1), (b4, zI E 4 fV)])) := by
  refine zz_met (by decide +kernel) (Nat.le_of_ble_eq_true rfl) ?_
  intro p e s m below meth c A ls C hin hA hK hst hP hD hl
  obtain ⟨hx, hb, hr, hml, hown, hts, hlk⟩ := id C
  have hS : va_S A s.heap s.heap [] := va_S.rf
  have hl : lv_has ls 3 [(0, .ref h0), (1, .int x), (2, .int y)] := hl
  refine lv_aload_n hx hb d_Js_add_0 rfl (lv_at hl 0 rfl) ?_
  refine zz_get C hK hP fl_Js_24 0 rfl rfl d_Js_add_1 ?_
  refine lv_iconst (v := 4) hx hb d_Js_add_4 (by decide) ?_
  refine lv_icmp_ge (tgt := 28) hx hb d_Js_add_5 (by decide) (fun c_6 => ?_) (fun c_6 => ?_)
  · refine lv_iconst (v := (-1)) hx hb d_Js_add_28 (by decide) ?_
    exact zz_reti C (rfl) hS (fS, fF, fW, jc) (⟨fun h => absurd h (by simp_all), fun _ => ⟨rfl, rfl⟩⟩) hP hD d_Js_add_29
  · refine lv_iload_n hx hb d_Js_add_8 rfl (lv_at hl 1 rfl) ?_
    refine lv_iconst (v := 1) hx hb d_Js_add_9 (by decide) ?_
    refine lv_icmp_lt (tgt := 28) hx hb d_Js_add_10 (by decide) (fun c_7 => ?_) (fun c_7 => ?_)
    · refine lv_iconst (v := (-1)) hx hb d_Js_add_28 (by decide) ?_
      exact zz_reti C (rfl) hS (fS, fF, fW, jc) (⟨fun h => absurd h (by simp_all), fun _ => ⟨rfl, rfl⟩⟩) hP hD d_Js_add_29
    · refine lv_iload_n hx hb d_Js_add_13 rfl (lv_at hl 1 rfl) ?_
      refine lv_bipush (v := 9) hx hb d_Js_add_14 (by decide) ?_
      refine lv_icmp_gt (tgt := 28) hx hb d_Js_add_16 (by decide) (fun c_8 => ?_) (fun c_8 => ?_)
      · refine lv_iconst (v := (-1)) hx hb d_Js_add_28 (by decide) ?_
        exact zz_reti C (rfl) hS (fS, fF, fW, jc) (⟨fun h => absurd h (by simp_all), fun _ => ⟨rfl, rfl⟩⟩) hP hD d_Js_add_29
      · refine lv_iload_n hx hb d_Js_add_19 rfl (lv_at hl 2 rfl) ?_
        refine lv_if_lt (tgt := 28) hx hb d_Js_add_20 (by decide) (fun c_9 => ?_) (fun c_9 => ?_)
        · refine lv_iconst (v := (-1)) hx hb d_Js_add_28 (by decide) ?_
          exact zz_reti C (rfl) hS (fS, fF, fW, jc) (⟨fun h => absurd h (by simp_all), fun _ => ⟨rfl, rfl⟩⟩) hP hD d_Js_add_29
        · refine lv_iload_n hx hb d_Js_add_23 rfl (lv_at hl 2 rfl) ?_
          refine lv_iload_n hx hb d_Js_add_24 rfl (lv_at hl 1 rfl) ?_
          refine lv_icmp_le (tgt := 30) hx hb d_Js_add_25 (by decide) (fun c_10 => ?_) (fun c_10 => ?_)
          · refine lv_aload_n hx hb d_Js_add_30 rfl (lv_at hl 0 rfl) ?_
            refine zz_get C hK hP fl_Js_11 0 rfl rfl d_Js_add_31 ?_
            refine lv_aload_n hx hb d_Js_add_34 rfl (lv_at hl 0 rfl) ?_
            refine zz_get C hK hP fl_Js_24 0 rfl rfl d_Js_add_35 ?_
            refine lv_iload_n hx hb d_Js_add_38 rfl (lv_at hl 1 rfl) ?_
            have hc4 : jc < 4 := zz_ltc (n := 4) c_6 (by omega)
            refine zz_iastN C hK hP hD hS 1 rfl (j := jc) (hc4) (by omega) d_Js_add_39 (fun H locs hP hD hS => ?_)
            have hP : va_P E.1 vwCl [(h0, .inr (1, [.ref b1, .ref b2, .ref b3, .ref b4, .int (nI jc)])), (b1, zI E 4 (upd fS jc x)), (b2, zI E 4 fF), (b3, zI E 4 fW), (b4, zI E 4 fV)] H := hP
            have hD : va_D A [(h0, .inr (1, [.ref b1, .ref b2, .ref b3, .ref b4, .int (nI jc)])), (b1, zI E 4 (upd fS jc x)), (b2, zI E 4 fF), (b3, zI E 4 fW), (b4, zI E 4 fV)] := hD
            refine lv_aload_n hx hb d_Js_add_40 rfl (lv_at hl 0 rfl) ?_
            refine zz_get C hK hP fl_Js_15 0 rfl rfl d_Js_add_41 ?_
            refine lv_aload_n hx hb d_Js_add_44 rfl (lv_at hl 0 rfl) ?_
            refine zz_get C hK hP fl_Js_24 0 rfl rfl d_Js_add_45 ?_
            refine lv_iload_n hx hb d_Js_add_48 rfl (lv_at hl 2 rfl) ?_
            refine zz_iastN C hK hP hD hS 2 rfl (j := jc) (hc4) (by omega) d_Js_add_49 (fun H locs hP hD hS => ?_)
            have hP : va_P E.1 vwCl [(h0, .inr (1, [.ref b1, .ref b2, .ref b3, .ref b4, .int (nI jc)])), (b1, zI E 4 (upd fS jc x)), (b2, zI E 4 (upd fF jc y)), (b3, zI E 4 fW), (b4, zI E 4 fV)] H := hP
            have hD : va_D A [(h0, .inr (1, [.ref b1, .ref b2, .ref b3, .ref b4, .int (nI jc)])), (b1, zI E 4 (upd fS jc x)), (b2, zI E 4 (upd fF jc y)), (b3, zI E 4 fW), (b4, zI E 4 fV)] := hD
            refine lv_aload_n hx hb d_Js_add_50 rfl (lv_at hl 0 rfl) ?_
            refine zz_get C hK hP fl_Js_18 0 rfl rfl d_Js_add_51 ?_
            refine lv_aload_n hx hb d_Js_add_54 rfl (lv_at hl 0 rfl) ?_
            refine zz_get C hK hP fl_Js_24 0 rfl rfl d_Js_add_55 ?_
            refine lv_iconst (v := (-1)) hx hb d_Js_add_58 (by decide) ?_
            refine zz_iastN C hK hP hD hS 3 rfl (j := jc) (hc4) (by omega) d_Js_add_59 (fun H locs hP hD hS => ?_)
            have hP : va_P E.1 vwCl [(h0, .inr (1, [.ref b1, .ref b2, .ref b3, .ref b4, .int (nI jc)])), (b1, zI E 4 (upd fS jc x)), (b2, zI E 4 (upd fF jc y)), (b3, zI E 4 (upd fW jc (-1))), (b4, zI E 4 fV)] H := hP
            have hD : va_D A [(h0, .inr (1, [.ref b1, .ref b2, .ref b3, .ref b4, .int (nI jc)])), (b1, zI E 4 (upd fS jc x)), (b2, zI E 4 (upd fF jc y)), (b3, zI E 4 (upd fW jc (-1))), (b4, zI E 4 fV)] := hD
            refine lv_aload_n hx hb d_Js_add_60 rfl (lv_at hl 0 rfl) ?_
            refine lv_dup hx hb d_Js_add_61 rfl ?_
            refine zz_get C hK hP fl_Js_24 0 rfl rfl d_Js_add_62 ?_
            refine lv_iconst (v := 1) hx hb d_Js_add_65 (by decide) ?_
            refine lv_iadd hx hb d_Js_add_66 ?_
            refine zz_eqi (y := nI (jc + 1)) (nI_1 _) ?_
            refine zz_put C hK hP hD hS fl_Js_24 0 rfl rfl rfl (Nat.le_of_ble_eq_true rfl) d_Js_add_67 (fun H locs hP hD hS => ?_)
            have hP : va_P E.1 vwCl [(h0, .inr (1, [.ref b1, .ref b2, .ref b3, .ref b4, .int (nI (jc + 1))])), (b1, zI E 4 (upd fS jc x)), (b2, zI E 4 (upd fF jc y)), (b3, zI E 4 (upd fW jc (-1))), (b4, zI E 4 fV)] H := hP
            have hD : va_D A [(h0, .inr (1, [.ref b1, .ref b2, .ref b3, .ref b4, .int (nI (jc + 1))])), (b1, zI E 4 (upd fS jc x)), (b2, zI E 4 (upd fF jc y)), (b3, zI E 4 (upd fW jc (-1))), (b4, zI E 4 fV)] := hD
            refine lv_aload_n hx hb d_Js_add_70 rfl (lv_at hl 0 rfl) ?_
            refine zz_get C hK hP fl_Js_24 0 rfl rfl d_Js_add_71 ?_
            refine lv_iconst (v := 1) hx hb d_Js_add_74 (by decide) ?_
            refine lv_isub hx hb d_Js_add_75 ?_
            refine zz_eqi (y := nI jc) (nI_pred jc) ?_
            exact zz_reti C (rfl) hS (upd fS jc x, upd fF jc y, upd fW jc (-1), jc + 1) (⟨fun _ => ⟨rfl, rfl⟩, fun h => absurd h (by simp_all)⟩) hP hD d_Js_add_76
          · refine lv_iconst (v := (-1)) hx hb d_Js_add_28 (by decide) ?_
            exact zz_reti C (rfl) hS (fS, fF, fW, jc) (⟨fun h => absurd h (by simp_all), fun _ => ⟨rfl, rfl⟩⟩) hP hD d_Js_add_29

set_option maxHeartbeats 4000000 in
set_option maxRecDepth 100000 in
theorem c_Js_want (l : Launch) (E : zG) (h0 b1 b2 b3 b4 jc : Nat) (fS fF fW fV : Nat → Int32) (k v : Int32) (hc : jc ≤ 4) : zMet l y_Js_want b_Js_want 3 (some .boolean) 0 0 0 0 E [.ref h0, .int k, .int v] [(h0, .inr (1, [.ref b1, .ref b2, .ref b3, .ref b4, .int (nI jc)])), (b1, zI E 4 fS), (b2, zI E 4 fF), (b3, zI E 4 fW), (b4, zI E 4 fV)] (zQi E (S := Nat → Int32) (fun r u => (¬ k < 0 ∧ ¬ nI jc ≤ k ∧ ¬ v < (-1) ∧ v ≤ fS k.toNatClampNeg → r = 1 ∧ u = upd fW k.toNatClampNeg v) ∧ (¬ (¬ k < 0 ∧ ¬ nI jc ≤ k ∧ ¬ v < (-1) ∧ v ≤ fS k.toNatClampNeg) → r = 0 ∧ u = fW)) (fun u => [(h0, .inr (1, [.ref b1, .ref b2, .ref b3, .ref b4, .int (nI jc)])), (b1, zI E 4 fS), (b2, zI E 4 fF), (b3, zI E 4 u), (b4, zI E 4 fV)])) := by
  refine zz_met (by decide +kernel) (Nat.le_of_ble_eq_true rfl) ?_
  intro p e s m below meth c A ls C hin hA hK hst hP hD hl
  obtain ⟨hx, hb, hr, hml, hown, hts, hlk⟩ := id C
  have hS : va_S A s.heap s.heap [] := va_S.rf
  have hl : lv_has ls 3 [(0, .ref h0), (1, .int k), (2, .int v)] := hl
  refine lv_iload_n hx hb d_Js_want_0 rfl (lv_at hl 1 rfl) ?_
  refine lv_if_lt (tgt := 27) hx hb d_Js_want_1 (by decide) (fun c_11 => ?_) (fun c_11 => ?_)
  · refine lv_iconst (v := 0) hx hb d_Js_want_27 (by decide) ?_
    exact zz_reti C (rfl) hS fW (⟨fun h => absurd h (by simp_all), fun _ => ⟨rfl, rfl⟩⟩) hP hD d_Js_want_28
  · refine lv_iload_n hx hb d_Js_want_4 rfl (lv_at hl 1 rfl) ?_
    refine lv_aload_n hx hb d_Js_want_5 rfl (lv_at hl 0 rfl) ?_
    refine zz_get C hK hP fl_Js_24 0 rfl rfl d_Js_want_6 ?_
    refine lv_icmp_ge (tgt := 27) hx hb d_Js_want_9 (by decide) (fun c_12 => ?_) (fun c_12 => ?_)
    · refine lv_iconst (v := 0) hx hb d_Js_want_27 (by decide) ?_
      exact zz_reti C (rfl) hS fW (⟨fun h => absurd h (by simp_all), fun _ => ⟨rfl, rfl⟩⟩) hP hD d_Js_want_28
    · refine lv_iload_n hx hb d_Js_want_12 rfl (lv_at hl 2 rfl) ?_
      refine lv_iconst (v := (-1)) hx hb d_Js_want_13 (by decide) ?_
      refine lv_icmp_lt (tgt := 27) hx hb d_Js_want_14 (by decide) (fun c_13 => ?_) (fun c_13 => ?_)
      · refine lv_iconst (v := 0) hx hb d_Js_want_27 (by decide) ?_
        exact zz_reti C (rfl) hS fW (⟨fun h => absurd h (by simp_all), fun _ => ⟨rfl, rfl⟩⟩) hP hD d_Js_want_28
      · refine lv_iload_n hx hb d_Js_want_17 rfl (lv_at hl 2 rfl) ?_
        refine lv_aload_n hx hb d_Js_want_18 rfl (lv_at hl 0 rfl) ?_
        refine zz_get C hK hP fl_Js_11 0 rfl rfl d_Js_want_19 ?_
        refine lv_iload_n hx hb d_Js_want_22 rfl (lv_at hl 1 rfl) ?_
        refine zz_iald C hK hP 1 rfl (zz_vp4 hc c_11 c_12) d_Js_want_23 ?_
        refine lv_icmp_le (tgt := 29) hx hb d_Js_want_24 (by decide) (fun c_14 => ?_) (fun c_14 => ?_)
        · refine lv_aload_n hx hb d_Js_want_29 rfl (lv_at hl 0 rfl) ?_
          refine zz_get C hK hP fl_Js_18 0 rfl rfl d_Js_want_30 ?_
          refine lv_iload_n hx hb d_Js_want_33 rfl (lv_at hl 1 rfl) ?_
          refine lv_iload_n hx hb d_Js_want_34 rfl (lv_at hl 2 rfl) ?_
          refine zz_iast C hK hP hD hS 3 rfl (zz_vp4 hc c_11 c_12) d_Js_want_35 (fun H locs hP hD hS => ?_)
          have hP : va_P E.1 vwCl [(h0, .inr (1, [.ref b1, .ref b2, .ref b3, .ref b4, .int (nI jc)])), (b1, zI E 4 fS), (b2, zI E 4 fF), (b3, zI E 4 (upd fW k.toNatClampNeg v)), (b4, zI E 4 fV)] H := hP
          have hD : va_D A [(h0, .inr (1, [.ref b1, .ref b2, .ref b3, .ref b4, .int (nI jc)])), (b1, zI E 4 fS), (b2, zI E 4 fF), (b3, zI E 4 (upd fW k.toNatClampNeg v)), (b4, zI E 4 fV)] := hD
          refine lv_iconst (v := 1) hx hb d_Js_want_36 (by decide) ?_
          exact zz_reti C (rfl) hS (upd fW k.toNatClampNeg v) (⟨fun _ => ⟨rfl, rfl⟩, fun h => absurd h (by simp_all)⟩) hP hD d_Js_want_37
        · refine lv_iconst (v := 0) hx hb d_Js_want_27 (by decide) ?_
          exact zz_reti C (rfl) hS fW (⟨fun h => absurd h (by simp_all), fun _ => ⟨rfl, rfl⟩⟩) hP hD d_Js_want_28

set_option maxHeartbeats 4000000 in
set_option maxRecDepth 100000 in
theorem c_Js_stateCount (l : Launch) (E : zG) (h0 b1 b2 b3 b4 jc : Nat) (fS fF fW fV : Nat → Int32) (hc : jc ≤ 4) : zMet l y_Js_stateCount b_Js_stateCount 1 (some .int) 0 0 0 0 E [.ref h0] [(h0, .inr (1, [.ref b1, .ref b2, .ref b3, .ref b4, .int (nI jc)])), (b1, zI E 4 fS), (b2, zI E 4 fF), (b3, zI E 4 fW), (b4, zI E 4 fV)] (zQi E (S := Unit) (fun r _ => r = nI (10 ^ jc)) (fun _ => [(h0, .inr (1, [.ref b1, .ref b2, .ref b3, .ref b4, .int (nI jc)])), (b1, zI E 4 fS), (b2, zI E 4 fF), (b3, zI E 4 fW), (b4, zI E 4 fV)])) := by
  refine zz_met (by decide +kernel) (Nat.le_of_ble_eq_true rfl) ?_
  intro p e s m below meth c A ls C hin hA hK hst hP hD hl
  obtain ⟨hx, hb, hr, hml, hown, hts, hlk⟩ := id C
  have hS : va_S A s.heap s.heap [] := va_S.rf
  have hl : lv_has ls 1 [(0, .ref h0)] := hl
  obtain ⟨tD, tS, hZD, hTD, hZS, hTS⟩ := id hst
  refine va_gets hx hb hZS hS hown (hts _ wd_fs_Js_28) (fun _ h9 => h9) d_Js_stateCount_0 ?_
  refine lv_aload_n hx hb d_Js_stateCount_3 rfl (lv_at hl 0 rfl) ?_
  refine zz_get C hK hP fl_Js_24 0 rfl rfl d_Js_stateCount_4 ?_
  refine zz_tabI C hTS hS (j := jc) (by omega) (by decide) d_Js_stateCount_7 ?_
  exact zz_reti C (rfl) hS () (rfl) hP hD d_Js_stateCount_8

set_option maxHeartbeats 4000000 in
set_option maxRecDepth 100000 in
theorem lp_Js_startState {p : Program} {l : Launch} {e : Env} {s : State} {m : MethodId} {below : List Frame} {meth : Method} {c : Code} {A : Nat → Prop}  {E : zG} {h0 b1 b2 b3 b4 jc : Nat} {fS fF fW fV : Nat → Int32} {sz fl : Nat → Nat} (hJ : jg_ok jc sz fl fS fF) {tD : Nat} (hZD : va_Z "StatePuzzles$JugSet" "DIGIT" "[I" (.ref tD) A s s.heap) (hTD : va_T .int tD 4 (fun j => .int (nI (10 ^ j))) A s s.heap) (C : cx p s m #[.ref h0] meth c b_Js_startState 3 y_Js_startState.cls (some .int)) (hA : ∀ q, s.heap.size ≤ q → A q) (hK : kt E s) (hst : stt A s s.heap) :
    ∀ (f i : Nat) (_ : i + f = jc) (H : Heap) (locs : List Loc) (ls : Array Slot), va_P E.1 vwCl [(h0, .inr (1, [.ref b1, .ref b2, .ref b3, .ref b4, .int (nI jc)])), (b1, zI E 4 fS), (b2, zI E 4 fF), (b3, zI E 4 fW), (b4, zI E 4 fV)] H → va_D A [(h0, .inr (1, [.ref b1, .ref b2, .ref b3, .ref b4, .int (nI jc)])), (b1, zI E 4 fS), (b2, zI E 4 fF), (b3, zI E 4 fW), (b4, zI E 4 fV)] → va_S A s.heap H locs → lv_has ls 3 [(0, .ref h0), (1, .int (nI (jg_sum fl i))), (2, .int (nI i))] → W p l e (zR 0 0 0 0) s m #[.ref h0] below meth c H locs 0 0 (MQ below ((zQi E (S := Unit) (fun r _ => r = nI (jg_sum fl jc)) (fun _ => [(h0, .inr (1, [.ref b1, .ref b2, .ref b3, .ref b4, .int (nI jc)])), (b1, zI E 4 fS), (b2, zI E 4 fF), (b3, zI E 4 fW), (b4, zI E 4 fV)])) A) #[.ref h0] s 0 0 A) (F0 m 4 ls []) := by
  obtain ⟨hx, hb, hr, hml, hown, hts, hlk⟩ := id C
  have hc := hJ.1
  intro f
  induction f with
  | zero =>
    intro i hi H locs ls hP hD hS hl
    have hi : i = jc := by omega
    subst hi
    refine lv_iload_n hx hb d_Js_startState_4 rfl (lv_at hl 2 rfl) ?_
    refine lv_aload_n hx hb d_Js_startState_5 rfl (lv_at hl 0 rfl) ?_
    refine zz_get C hK hP fl_Js_24 0 rfl rfl d_Js_startState_6 ?_
    refine lv_icmp_ge (tgt := 33) hx hb d_Js_startState_9 (by decide) (fun c_15 => ?_) (fun c_15 => ?_)
    · refine lv_iload_n hx hb d_Js_startState_33 rfl (lv_at hl 1 rfl) ?_
      exact zz_reti C (rfl) hS () (rfl) hP hD d_Js_startState_34
    · exact absurd (nI_le (Nat.le_refl _) (by omega)) c_15
  | succ f ih =>
    intro i hi H locs ls hP hD hS hl
    have hic : i < jc := by omega
    have hj := hJ.2 i hic
    refine lv_iload_n hx hb d_Js_startState_4 rfl (lv_at hl 2 rfl) ?_
    refine lv_aload_n hx hb d_Js_startState_5 rfl (lv_at hl 0 rfl) ?_
    refine zz_get C hK hP fl_Js_24 0 rfl rfl d_Js_startState_6 ?_
    refine lv_icmp_ge (tgt := 33) hx hb d_Js_startState_9 (by decide) (fun c_16 => ?_) (fun c_16 => ?_)
    · exact absurd c_16 (nI_ge hic (by omega))
    · refine lv_iload_n hx hb d_Js_startState_12 rfl (lv_at hl 1 rfl) ?_
      refine lv_aload_n hx hb d_Js_startState_13 rfl (lv_at hl 0 rfl) ?_
      refine zz_get C hK hP fl_Js_15 0 rfl rfl d_Js_startState_14 ?_
      refine lv_iload_n hx hb d_Js_startState_17 rfl (lv_at hl 2 rfl) ?_
      refine zz_ialdN C hK hP 2 rfl (j := i) (by omega) (by omega) d_Js_startState_18 ?_
      refine va_gets hx hb hZD hS hown (hts _ wd_fs_Js_31) (fun _ h9 => h9) d_Js_startState_19 ?_
      refine lv_iload_n hx hb d_Js_startState_22 rfl (lv_at hl 2 rfl) ?_
      refine zz_tabI C hTD hS (j := i) (by omega) (by decide) d_Js_startState_23 ?_
      refine lv_imul hx hb d_Js_startState_24 ?_
      refine zz_eqi (y := nI (fl i * 10 ^ i)) (by rw [hj.2.2.2.1]; exact pk_mul _ _) ?_
      refine lv_iadd hx hb d_Js_startState_25 ?_
      refine zz_eqi (y := nI (jg_sum fl (i + 1))) (nI_add _ _) ?_
      refine lv_istore_n (lv' := [(1, .int (nI (jg_sum fl (i + 1)))), (0, .ref h0), (2, .int (nI i))]) hx hb d_Js_startState_26 rfl hl (by decide) rfl (fun ls hl => ?_)
      refine lv_iinc (v := nI (i + 1)) (lv' := [(2, .int (nI (i + 1))), (1, .int (nI (jg_sum fl (i + 1)))), (0, .ref h0)]) hx hb d_Js_startState_27 hl (k := 2) rfl (nI_1 _) (by decide) rfl (fun ls hl => ?_)
      refine lv_goto (tgt := 4) hx hb d_Js_startState_30 (by decide) ?_
      exact ih (i + 1) (by omega) _ _ ls hP hD hS (lv_sub hl [2, 1, 0] rfl)

set_option maxHeartbeats 4000000 in
set_option maxRecDepth 100000 in
theorem c_Js_startState (l : Launch) (E : zG) (h0 b1 b2 b3 b4 jc : Nat) (fS fF fW fV : Nat → Int32) (sz fl : Nat → Nat) (hJ : jg_ok jc sz fl fS fF) : zMet l y_Js_startState b_Js_startState 3 (some .int) 0 0 0 0 E [.ref h0] [(h0, .inr (1, [.ref b1, .ref b2, .ref b3, .ref b4, .int (nI jc)])), (b1, zI E 4 fS), (b2, zI E 4 fF), (b3, zI E 4 fW), (b4, zI E 4 fV)] (zQi E (S := Unit) (fun r _ => r = nI (jg_sum fl jc)) (fun _ => [(h0, .inr (1, [.ref b1, .ref b2, .ref b3, .ref b4, .int (nI jc)])), (b1, zI E 4 fS), (b2, zI E 4 fF), (b3, zI E 4 fW), (b4, zI E 4 fV)])) := by
  refine zz_met (by decide +kernel) (Nat.le_of_ble_eq_true rfl) ?_
  intro p e s m below meth c A ls C hin hA hK hst hP hD hl
  obtain ⟨hx, hb, hr, hml, hown, hts, hlk⟩ := id C
  have hS : va_S A s.heap s.heap [] := va_S.rf
  have hl : lv_has ls 3 [(0, .ref h0)] := hl
  obtain ⟨tD, tS, hZD, hTD, hZS, hTS⟩ := id hst
  refine lv_iconst (v := 0) hx hb d_Js_startState_0 (by decide) ?_
  refine lv_istore_n (lv' := [(1, .int 0), (0, .ref h0)]) hx hb d_Js_startState_1 rfl hl (by decide) rfl (fun ls hl => ?_)
  refine lv_iconst (v := 0) hx hb d_Js_startState_2 (by decide) ?_
  refine lv_istore_n (lv' := [(2, .int 0), (1, .int 0), (0, .ref h0)]) hx hb d_Js_startState_3 rfl hl (by decide) rfl (fun ls hl => ?_)
  have hl := lv_sub (l' := [(0, .ref h0), (1, .int (nI (jg_sum fl 0))), (2, .int (nI 0))]) hl [2, 1, 0] rfl
  exact lp_Js_startState hJ hZD hTD C hA hK hst jc 0 (by omega) _ _ ls hP hD hS hl

set_option maxHeartbeats 4000000 in
set_option maxRecDepth 100000 in
theorem lp_Js_readLevels {p : Program} {l : Launch} {e : Env} {s : State} {m : MethodId} {below : List Frame} {meth : Method} {c : Code} {A : Nat → Prop}  {E : zG} {h0 b1 b2 b3 b4 jc : Nat} {fS fF fW : Nat → Int32} {x : Nat} (hc : jc ≤ 4) (hx0 : x < 10000) (C : cx p s m #[.ref h0, .int (nI x)] meth c b_Js_readLevels 4 y_Js_readLevels.cls none) (hA : ∀ q, s.heap.size ≤ q → A q) (hK : kt E s) (hst : stt A s s.heap) :
    ∀ (f i : Nat) (g : Nat → Int32) (_ : i + f = jc) (_ : ∀ j, j < i → g j = nI (jg_d x j)) (H : Heap) (locs : List Loc) (ls : Array Slot), va_P E.1 vwCl [(h0, .inr (1, [.ref b1, .ref b2, .ref b3, .ref b4, .int (nI jc)])), (b1, zI E 4 fS), (b2, zI E 4 fF), (b3, zI E 4 fW), (b4, zI E 4 g)] H → va_D A [(h0, .inr (1, [.ref b1, .ref b2, .ref b3, .ref b4, .int (nI jc)])), (b1, zI E 4 fS), (b2, zI E 4 fF), (b3, zI E 4 fW), (b4, zI E 4 g)] → va_S A s.heap H locs → lv_has ls 4 [(0, .ref h0), (1, .int (nI x)), (2, .int (nI (x / 10 ^ i))), (3, .int (nI i))] → W p l e (zR 0 0 0 0) s m #[.ref h0, .int (nI x)] below meth c H locs 0 0 (MQ below ((zQv E (S := Nat → Int32) (fun u => ∀ j, j < jc → u j = nI (jg_d x j)) (fun u => [(h0, .inr (1, [.ref b1, .ref b2, .ref b3, .ref b4, .int (nI jc)])), (b1, zI E 4 fS), (b2, zI E 4 fF), (b3, zI E 4 fW), (b4, zI E 4 u)])) A) #[.ref h0, .int (nI x)] s 0 0 A) (F0 m 4 ls []) := by
  obtain ⟨hx, hb, hr, hml, hown, hts, hlk⟩ := id C
  intro f
  induction f with
  | zero =>
    intro i g hi hg H locs ls hP hD hS hl
    have hi : i = jc := by omega
    subst hi
    refine lv_iload_n hx hb d_Js_readLevels_4 rfl (lv_at hl 3 rfl) ?_
    refine lv_aload_n hx hb d_Js_readLevels_5 rfl (lv_at hl 0 rfl) ?_
    refine zz_get C hK hP fl_Js_24 0 rfl rfl d_Js_readLevels_6 ?_
    refine lv_icmp_ge (tgt := 33) hx hb d_Js_readLevels_9 (by decide) (fun c_17 => ?_) (fun c_17 => ?_)
    · exact zz_retv C hS g (hg) hP hD d_Js_readLevels_33
    · exact absurd (nI_le (Nat.le_refl _) (by omega)) c_17
  | succ f ih =>
    intro i g hi hg H locs ls hP hD hS hl
    have hic : i < jc := by omega
    have hy : x / 10 ^ i < 10000 := Nat.lt_of_le_of_lt (Nat.div_le_self _ _) hx0
    refine lv_iload_n hx hb d_Js_readLevels_4 rfl (lv_at hl 3 rfl) ?_
    refine lv_aload_n hx hb d_Js_readLevels_5 rfl (lv_at hl 0 rfl) ?_
    refine zz_get C hK hP fl_Js_24 0 rfl rfl d_Js_readLevels_6 ?_
    refine lv_icmp_ge (tgt := 33) hx hb d_Js_readLevels_9 (by decide) (fun c_18 => ?_) (fun c_18 => ?_)
    · exact absurd c_18 (nI_ge hic (by omega))
    · refine lv_aload_n hx hb d_Js_readLevels_12 rfl (lv_at hl 0 rfl) ?_
      refine zz_get C hK hP fl_Js_21 0 rfl rfl d_Js_readLevels_13 ?_
      refine lv_iload_n hx hb d_Js_readLevels_16 rfl (lv_at hl 3 rfl) ?_
      refine lv_iload_n hx hb d_Js_readLevels_17 rfl (lv_at hl 2 rfl) ?_
      refine lv_bipush (v := 10) hx hb d_Js_readLevels_18 (by decide) ?_
      refine lv_irem hx hb d_Js_readLevels_20 (by decide) ?_
      refine zz_eqi (y := nI (jg_d x i)) (pk_rem (by omega) (by decide) (by decide)) ?_
      refine zz_iastN C hK hP hD hS 4 rfl (j := i) (by omega) (by omega) d_Js_readLevels_21 (fun H locs hP hD hS => ?_)
      have hP : va_P E.1 vwCl [(h0, .inr (1, [.ref b1, .ref b2, .ref b3, .ref b4, .int (nI jc)])), (b1, zI E 4 fS), (b2, zI E 4 fF), (b3, zI E 4 fW), (b4, zI E 4 (upd g i (nI (jg_d x i))))] H := hP
      have hD : va_D A [(h0, .inr (1, [.ref b1, .ref b2, .ref b3, .ref b4, .int (nI jc)])), (b1, zI E 4 fS), (b2, zI E 4 fF), (b3, zI E 4 fW), (b4, zI E 4 (upd g i (nI (jg_d x i))))] := hD
      refine lv_iload_n hx hb d_Js_readLevels_22 rfl (lv_at hl 2 rfl) ?_
      refine lv_bipush (v := 10) hx hb d_Js_readLevels_23 (by decide) ?_
      refine lv_idiv hx hb d_Js_readLevels_25 (by decide) ?_
      refine zz_eqi (y := nI (x / 10 ^ (i + 1))) ((pk_div (d := 10) (by omega) (by decide) (by decide)).trans (by rw [Nat.div_div_eq_div_mul, ← Nat.pow_succ])) ?_
      refine lv_istore_n (lv' := [(2, .int (nI (x / 10 ^ (i + 1)))), (0, .ref h0), (1, .int (nI x)), (3, .int (nI i))]) hx hb d_Js_readLevels_26 rfl hl (by decide) rfl (fun ls hl => ?_)
      refine lv_iinc (v := nI (i + 1)) (lv' := [(3, .int (nI (i + 1))), (2, .int (nI (x / 10 ^ (i + 1)))), (0, .ref h0), (1, .int (nI x))]) hx hb d_Js_readLevels_27 hl (k := 3) rfl (nI_1 _) (by decide) rfl (fun ls hl => ?_)
      refine lv_goto (tgt := 4) hx hb d_Js_readLevels_30 (by decide) ?_
      exact ih (i + 1) (upd g i (nI (jg_d x i))) (by omega) (fun j hj => by
                  by_cases e : j = i
                  · subst e; exact pk_us
                  · rw [pk_un e]; exact hg j (by omega)) _ _ ls hP hD hS (lv_sub hl [2, 3, 1, 0] rfl)

set_option maxHeartbeats 4000000 in
set_option maxRecDepth 100000 in
theorem c_Js_readLevels (l : Launch) (E : zG) (h0 b1 b2 b3 b4 jc : Nat) (fS fF fW fV : Nat → Int32) (x : Nat) (hc : jc ≤ 4) (hx0 : x < 10000) : zMet l y_Js_readLevels b_Js_readLevels 4 none 0 0 0 0 E [.ref h0, .int (nI x)] [(h0, .inr (1, [.ref b1, .ref b2, .ref b3, .ref b4, .int (nI jc)])), (b1, zI E 4 fS), (b2, zI E 4 fF), (b3, zI E 4 fW), (b4, zI E 4 fV)] (zQv E (S := Nat → Int32) (fun u => ∀ j, j < jc → u j = nI (jg_d x j)) (fun u => [(h0, .inr (1, [.ref b1, .ref b2, .ref b3, .ref b4, .int (nI jc)])), (b1, zI E 4 fS), (b2, zI E 4 fF), (b3, zI E 4 fW), (b4, zI E 4 u)])) := by
  refine zz_met (by decide +kernel) (Nat.le_of_ble_eq_true rfl) ?_
  intro p e s m below meth c A ls C hin hA hK hst hP hD hl
  obtain ⟨hx, hb, hr, hml, hown, hts, hlk⟩ := id C
  have hS : va_S A s.heap s.heap [] := va_S.rf
  have hl : lv_has ls 4 [(0, .ref h0), (1, .int (nI x))] := hl
  refine lv_iload_n hx hb d_Js_readLevels_0 rfl (lv_at hl 1 rfl) ?_
  refine lv_istore_n (lv' := [(2, .int (nI x)), (0, .ref h0), (1, .int (nI x))]) hx hb d_Js_readLevels_1 rfl hl (by decide) rfl (fun ls hl => ?_)
  refine lv_iconst (v := 0) hx hb d_Js_readLevels_2 (by decide) ?_
  refine lv_istore_n (lv' := [(3, .int 0), (2, .int (nI x)), (0, .ref h0), (1, .int (nI x))]) hx hb d_Js_readLevels_3 rfl hl (by decide) rfl (fun ls hl => ?_)
  have hl := lv_sub (l' := [(0, .ref h0), (1, .int (nI x)), (2, .int (nI (x / 10 ^ 0))), (3, .int (nI 0))]) hl [2, 3, 1, 0] (by rw [Nat.pow_zero, Nat.div_one]; rfl)
  exact lp_Js_readLevels hc hx0 C hA hK hst jc 0 fV (by omega) (fun j hj => absurd hj (Nat.not_lt_zero j)) _ _ ls hP hD hS hl

set_option maxHeartbeats 4000000 in
set_option maxRecDepth 100000 in
theorem lp_Js_isDone {p : Program} {l : Launch} {e : Env} {s : State} {m : MethodId} {below : List Frame} {meth : Method} {c : Code} {A : Nat → Prop}  {E : zG} {h0 b1 b2 b3 b4 jc : Nat} {fS fF fW : Nat → Int32} {x : Nat} (hc : jc ≤ 4) (hx0 : x < 10000) {g : Nat → Int32} (hg : ∀ j, j < jc → g j = nI (jg_d x j)) (C : cx p s m #[.ref h0, .int (nI x)] meth c b_Js_isDone 3 y_Js_isDone.cls (some .boolean)) (hA : ∀ q, s.heap.size ≤ q → A q) (hK : kt E s) (hst : stt A s s.heap) :
    ∀ (f i : Nat) (_ : i + f = jc) (_ : ∀ j, j < i → fW j = -1 ∨ fW j = nI (jg_d x j)) (H : Heap) (locs : List Loc) (ls : Array Slot), va_P E.1 vwCl [(h0, .inr (1, [.ref b1, .ref b2, .ref b3, .ref b4, .int (nI jc)])), (b1, zI E 4 fS), (b2, zI E 4 fF), (b3, zI E 4 fW), (b4, zI E 4 g)] H → va_D A [(h0, .inr (1, [.ref b1, .ref b2, .ref b3, .ref b4, .int (nI jc)])), (b1, zI E 4 fS), (b2, zI E 4 fF), (b3, zI E 4 fW), (b4, zI E 4 g)] → va_S A s.heap H locs → lv_has ls 3 [(0, .ref h0), (1, .int (nI x)), (2, .int (nI i))] → W p l e (zR 1 23 0 0) s m #[.ref h0, .int (nI x)] below meth c H locs 0 0 (MQ below ((zQi E (S := Nat → Int32) (fun r u => (∀ j, j < jc → u j = nI (jg_d x j)) ∧ ((∀ i, i < jc → fW i = -1 ∨ fW i = nI (jg_d x i)) → r = 1) ∧ (¬ (∀ i, i < jc → fW i = -1 ∨ fW i = nI (jg_d x i)) → r = 0)) (fun u => [(h0, .inr (1, [.ref b1, .ref b2, .ref b3, .ref b4, .int (nI jc)])), (b1, zI E 4 fS), (b2, zI E 4 fF), (b3, zI E 4 fW), (b4, zI E 4 u)])) A) #[.ref h0, .int (nI x)] s 0 0 A) (F0 m 7 ls []) := by
  obtain ⟨hx, hb, hr, hml, hown, hts, hlk⟩ := id C
  intro f
  induction f with
  | zero =>
    intro i hi hd H locs ls hP hD hS hl
    have hi : i = jc := by omega
    subst hi
    refine lv_iload_n hx hb d_Js_isDone_7 rfl (lv_at hl 2 rfl) ?_
    refine lv_aload_n hx hb d_Js_isDone_8 rfl (lv_at hl 0 rfl) ?_
    refine zz_get C hK hP fl_Js_24 0 rfl rfl d_Js_isDone_9 ?_
    refine lv_icmp_ge (tgt := 48) hx hb d_Js_isDone_12 (by decide) (fun c_19 => ?_) (fun c_19 => ?_)
    · refine lv_iconst (v := 1) hx hb d_Js_isDone_48 (by decide) ?_
      exact zz_reti C (rfl) hS g (⟨hg, fun _ => rfl, fun h => absurd hd h⟩) hP hD d_Js_isDone_49
    · exact absurd (nI_le (Nat.le_refl _) (by omega)) c_19
  | succ f ih =>
    intro i hi hd H locs ls hP hD hS hl
    have hic : i < jc := by omega
    refine lv_iload_n hx hb d_Js_isDone_7 rfl (lv_at hl 2 rfl) ?_
    refine lv_aload_n hx hb d_Js_isDone_8 rfl (lv_at hl 0 rfl) ?_
    refine zz_get C hK hP fl_Js_24 0 rfl rfl d_Js_isDone_9 ?_
    refine lv_icmp_ge (tgt := 48) hx hb d_Js_isDone_12 (by decide) (fun c_20 => ?_) (fun c_20 => ?_)
    · exact absurd c_20 (nI_ge hic (by omega))
    · refine lv_aload_n hx hb d_Js_isDone_15 rfl (lv_at hl 0 rfl) ?_
      refine zz_get C hK hP fl_Js_18 0 rfl rfl d_Js_isDone_16 ?_
      refine lv_iload_n hx hb d_Js_isDone_19 rfl (lv_at hl 2 rfl) ?_
      refine zz_ialdN C hK hP 3 rfl (j := i) (by omega) (by omega) d_Js_isDone_20 ?_
      refine lv_iconst (v := (-1)) hx hb d_Js_isDone_21 (by decide) ?_
      refine lv_icmp_eq (tgt := 42) hx hb d_Js_isDone_22 (by decide) (fun c_21 => ?_) (fun c_21 => ?_)
      · refine lv_iinc (v := nI (i + 1)) (lv' := [(2, .int (nI (i + 1))), (0, .ref h0), (1, .int (nI x))]) hx hb d_Js_isDone_42 hl (k := 2) rfl (nI_1 _) (by decide) rfl (fun ls hl => ?_)
        refine lv_goto (tgt := 7) hx hb d_Js_isDone_45 (by decide) ?_
        exact ih (i + 1) (by omega) (lt_s hd (Or.inl c_21)) _ _ ls hP hD hS (lv_sub hl [1, 2, 0] rfl)
      · refine lv_aload_n hx hb d_Js_isDone_25 rfl (lv_at hl 0 rfl) ?_
        refine zz_get C hK hP fl_Js_18 0 rfl rfl d_Js_isDone_26 ?_
        refine lv_iload_n hx hb d_Js_isDone_29 rfl (lv_at hl 2 rfl) ?_
        refine zz_ialdN C hK hP 3 rfl (j := i) (by omega) (by omega) d_Js_isDone_30 ?_
        refine lv_aload_n hx hb d_Js_isDone_31 rfl (lv_at hl 0 rfl) ?_
        refine zz_get C hK hP fl_Js_21 0 rfl rfl d_Js_isDone_32 ?_
        refine lv_iload_n hx hb d_Js_isDone_35 rfl (lv_at hl 2 rfl) ?_
        refine zz_ialdN C hK hP 4 rfl (j := i) (by omega) (by omega) d_Js_isDone_36 ?_
        refine lv_icmp_eq (tgt := 42) hx hb d_Js_isDone_37 (by decide) (fun c_22 => ?_) (fun c_22 => ?_)
        · refine lv_iinc (v := nI (i + 1)) (lv' := [(2, .int (nI (i + 1))), (0, .ref h0), (1, .int (nI x))]) hx hb d_Js_isDone_42 hl (k := 2) rfl (nI_1 _) (by decide) rfl (fun ls hl => ?_)
          refine lv_goto (tgt := 7) hx hb d_Js_isDone_45 (by decide) ?_
          exact ih (i + 1) (by omega) (lt_s hd (Or.inr (c_22.trans (hg i hic)))) _ _ ls hP hD hS (lv_sub hl [1, 2, 0] rfl)
        · refine lv_iconst (v := 0) hx hb d_Js_isDone_40 (by decide) ?_
          exact zz_reti C (rfl) hS g (⟨hg, fun h => absurd (h i hic) (fun q => q.elim c_21 (fun z => c_22 (z.trans (hg i hic).symm))), fun _ => rfl⟩) hP hD d_Js_isDone_41

set_option maxHeartbeats 4000000 in
set_option maxRecDepth 100000 in
theorem c_Js_isDone (l : Launch) (E : zG) (h0 b1 b2 b3 b4 jc : Nat) (fS fF fW fV : Nat → Int32) (x : Nat) (hc : jc ≤ 4) (hx0 : x < 10000) : zMet l y_Js_isDone b_Js_isDone 3 (some .boolean) 1 23 0 0 E [.ref h0, .int (nI x)] [(h0, .inr (1, [.ref b1, .ref b2, .ref b3, .ref b4, .int (nI jc)])), (b1, zI E 4 fS), (b2, zI E 4 fF), (b3, zI E 4 fW), (b4, zI E 4 fV)] (zQi E (S := Nat → Int32) (fun r u => (∀ j, j < jc → u j = nI (jg_d x j)) ∧ ((∀ i, i < jc → fW i = -1 ∨ fW i = nI (jg_d x i)) → r = 1) ∧ (¬ (∀ i, i < jc → fW i = -1 ∨ fW i = nI (jg_d x i)) → r = 0)) (fun u => [(h0, .inr (1, [.ref b1, .ref b2, .ref b3, .ref b4, .int (nI jc)])), (b1, zI E 4 fS), (b2, zI E 4 fF), (b3, zI E 4 fW), (b4, zI E 4 u)])) := by
  refine zz_met (by decide +kernel) (Nat.le_of_ble_eq_true rfl) ?_
  intro p e s m below meth c A ls C hin hA hK hst hP hD hl
  obtain ⟨hx, hb, hr, hml, hown, hts, hlk⟩ := id C
  have hS : va_S A s.heap s.heap [] := va_S.rf
  have hl : lv_has ls 3 [(0, .ref h0), (1, .int (nI x))] := hl
  refine lv_aload_n hx hb d_Js_isDone_0 rfl (lv_at hl 0 rfl) ?_
  refine lv_iload_n hx hb d_Js_isDone_1 rfl (lv_at hl 1 rfl) ?_
  refine zz_gov (wr := []) [0, 1, 2, 3, 4] [] rfl rfl (by decide) (by decide) hA hP hD hS (zz_runV (wc := [(h0, .inr (1, [.ref b1, .ref b2, .ref b3, .ref b4, .int (nI jc)])), (b1, zI E 4 fS), (b2, zI E 4 fF), (b3, zI E 4 fW), (b4, zI E 4 fV)]) (As := [.int (nI x)]) (rest := []) C (c_Js_readLevels l E h0 b1 b2 b3 b4 jc fS fF fW fV x hc hx0) ym_Js_readLevels wd_ml_Js_34 wd_im_Js_readLevels wd_se_Js_readLevels [0, 1, 2, 3, 4] (by decide) rfl hA hK hst hP hD hS (ci := 1) (q0 := 0) rfl rfl rfl rfl hl.1 rfl (Nat.le_of_ble_eq_true rfl) ⟨Nat.le_of_ble_eq_true rfl, Nat.le_of_ble_eq_true rfl⟩ ⟨Nat.le_of_ble_eq_true rfl, Nat.le_of_ble_eq_true rfl⟩ d_Js_isDone_2) (fun u H locs hw hP hD hS => ?_)
  have hP : va_P E.1 vwCl [(h0, .inr (1, [.ref b1, .ref b2, .ref b3, .ref b4, .int (nI jc)])), (b1, zI E 4 fS), (b2, zI E 4 fF), (b3, zI E 4 fW), (b4, zI E 4 u)] H := hP
  have hD : va_D A [(h0, .inr (1, [.ref b1, .ref b2, .ref b3, .ref b4, .int (nI jc)])), (b1, zI E 4 fS), (b2, zI E 4 fF), (b3, zI E 4 fW), (b4, zI E 4 u)] := hD
  refine lv_iconst (v := 0) hx hb d_Js_isDone_5 (by decide) ?_
  refine lv_istore_n (lv' := [(2, .int 0), (0, .ref h0), (1, .int (nI x))]) hx hb d_Js_isDone_6 rfl hl (by decide) rfl (fun ls hl => ?_)
  have hl := lv_sub (l' := [(0, .ref h0), (1, .int (nI x)), (2, .int (nI 0))]) hl [1, 2, 0] (rfl)
  exact lp_Js_isDone hc hx0 hw C hA hK hst jc 0 (by omega) lt_0 _ _ ls hP hD hS hl

set_option maxHeartbeats 4000000 in
set_option maxRecDepth 100000 in
theorem c_Js_roomIn (l : Launch) (E : zG) (h0 b1 b2 b3 b4 jc : Nat) (fS fF fW fV : Nat → Int32) (i a b : Nat) (hi : i < 4) (ha : fS i = nI a) (hb0 : fV i = nI b) (hab : b ≤ a) : zMet l y_Js_roomIn b_Js_roomIn 2 (some .int) 0 0 0 0 E [.ref h0, .int (nI i)] [(h0, .inr (1, [.ref b1, .ref b2, .ref b3, .ref b4, .int (nI jc)])), (b1, zI E 4 fS), (b2, zI E 4 fF), (b3, zI E 4 fW), (b4, zI E 4 fV)] (zQi E (S := Unit) (fun r _ => r = nI (a - b)) (fun _ => [(h0, .inr (1, [.ref b1, .ref b2, .ref b3, .ref b4, .int (nI jc)])), (b1, zI E 4 fS), (b2, zI E 4 fF), (b3, zI E 4 fW), (b4, zI E 4 fV)])) := by
  refine zz_met (by decide +kernel) (Nat.le_of_ble_eq_true rfl) ?_
  intro p e s m below meth c A ls C hin hA hK hst hP hD hl
  obtain ⟨hx, hb, hr, hml, hown, hts, hlk⟩ := id C
  have hS : va_S A s.heap s.heap [] := va_S.rf
  have hl : lv_has ls 2 [(0, .ref h0), (1, .int (nI i))] := hl
  refine lv_aload_n hx hb d_Js_roomIn_0 rfl (lv_at hl 0 rfl) ?_
  refine zz_get C hK hP fl_Js_11 0 rfl rfl d_Js_roomIn_1 ?_
  refine lv_iload_n hx hb d_Js_roomIn_4 rfl (lv_at hl 1 rfl) ?_
  refine zz_ialdN C hK hP 1 rfl (j := i) (by omega) (by omega) d_Js_roomIn_5 ?_
  refine lv_aload_n hx hb d_Js_roomIn_6 rfl (lv_at hl 0 rfl) ?_
  refine zz_get C hK hP fl_Js_21 0 rfl rfl d_Js_roomIn_7 ?_
  refine lv_iload_n hx hb d_Js_roomIn_10 rfl (lv_at hl 1 rfl) ?_
  refine zz_ialdN C hK hP 4 rfl (j := i) (by omega) (by omega) d_Js_roomIn_11 ?_
  refine lv_isub hx hb d_Js_roomIn_12 ?_
  exact zz_reti C (rfl) hS () (by rw [ha, hb0]; exact pk_sub hab) hP hD d_Js_roomIn_13

set_option maxHeartbeats 4000000 in
set_option maxRecDepth 100000 in
theorem c_Js_codeOf (l : Launch) (E : zG) (a b : Nat) (ha : a < 5) (hb0 : b < 5) : zMet l y_Js_codeOf b_Js_codeOf 2 (some .int) 0 0 0 0 E [.int (nI a - 1), .int (nI b - 1)] [] (zQi E (S := Unit) (fun r _ => r = nI (a * 8 + b)) (fun _ => [])) := by
  refine zz_met (by decide +kernel) (Nat.le_of_ble_eq_true rfl) ?_
  intro p e s m below meth c A ls C hin hA hK hst hP hD hl
  obtain ⟨hx, hb, hr, hml, hown, hts, hlk⟩ := id C
  have hS : va_S A s.heap s.heap [] := va_S.rf
  have hl : lv_has ls 2 [(0, .int (nI a - 1)), (1, .int (nI b - 1))] := hl
  refine lv_iload_n hx hb d_Js_codeOf_0 rfl (lv_at hl 0 rfl) ?_
  refine lv_iconst (v := 1) hx hb d_Js_codeOf_1 (by decide) ?_
  refine lv_iadd hx hb d_Js_codeOf_2 ?_
  refine lv_iconst (v := 3) hx hb d_Js_codeOf_3 (by decide) ?_
  refine lv_ishl hx hb d_Js_codeOf_4 ?_
  refine lv_iload_n hx hb d_Js_codeOf_5 rfl (lv_at hl 1 rfl) ?_
  refine lv_iconst (v := 1) hx hb d_Js_codeOf_6 (by decide) ?_
  refine lv_iadd hx hb d_Js_codeOf_7 ?_
  refine lv_ior hx hb d_Js_codeOf_8 ?_
  exact zz_reti C (rfl) hS () (jg_code a ha b hb0) hP hD d_Js_codeOf_9

set_option maxHeartbeats 4000000 in
set_option maxRecDepth 100000 in
theorem c_Js_firstTold (l : Launch) (E : zG) (h0 b1 b2 b3 b4 jc : Nat) (fS fF fW fV : Nat → Int32) (k : Int32) : zMet l y_Js_firstTold b_Js_firstTold 2 (some .int) 0 0 0 0 E [.ref h0, .int k] [(h0, .inr (1, [.ref b1, .ref b2, .ref b3, .ref b4, .int (nI jc)])), (b1, zI E 4 fS), (b2, zI E 4 fF), (b3, zI E 4 fW), (b4, zI E 4 fV)] (zQi E (S := Unit) (fun r _ => r = (k >>> ((3 : Int32) &&& 31)) - 1) (fun _ => [(h0, .inr (1, [.ref b1, .ref b2, .ref b3, .ref b4, .int (nI jc)])), (b1, zI E 4 fS), (b2, zI E 4 fF), (b3, zI E 4 fW), (b4, zI E 4 fV)])) := by
  refine zz_met (by decide +kernel) (Nat.le_of_ble_eq_true rfl) ?_
  intro p e s m below meth c A ls C hin hA hK hst hP hD hl
  obtain ⟨hx, hb, hr, hml, hown, hts, hlk⟩ := id C
  have hS : va_S A s.heap s.heap [] := va_S.rf
  have hl : lv_has ls 2 [(0, .ref h0), (1, .int k)] := hl
  refine lv_iload_n hx hb d_Js_firstTold_0 rfl (lv_at hl 1 rfl) ?_
  refine lv_iconst (v := 3) hx hb d_Js_firstTold_1 (by decide) ?_
  refine lv_ishr hx hb d_Js_firstTold_2 ?_
  refine lv_iconst (v := 1) hx hb d_Js_firstTold_3 (by decide) ?_
  refine lv_isub hx hb d_Js_firstTold_4 ?_
  exact zz_reti C (rfl) hS () (rfl) hP hD d_Js_firstTold_5

set_option maxHeartbeats 4000000 in
set_option maxRecDepth 100000 in
theorem c_Js_secondTold (l : Launch) (E : zG) (h0 b1 b2 b3 b4 jc : Nat) (fS fF fW fV : Nat → Int32) (k z : Int32) : zMet l y_Js_secondTold b_Js_secondTold 3 (some .int) 0 0 0 0 E [.ref h0, .int k, .int z] [(h0, .inr (1, [.ref b1, .ref b2, .ref b3, .ref b4, .int (nI jc)])), (b1, zI E 4 fS), (b2, zI E 4 fF), (b3, zI E 4 fW), (b4, zI E 4 fV)] (zQi E (S := Unit) (fun r _ => r = (k &&& 7) - 1) (fun _ => [(h0, .inr (1, [.ref b1, .ref b2, .ref b3, .ref b4, .int (nI jc)])), (b1, zI E 4 fS), (b2, zI E 4 fF), (b3, zI E 4 fW), (b4, zI E 4 fV)])) := by
  refine zz_met (by decide +kernel) (Nat.le_of_ble_eq_true rfl) ?_
  intro p e s m below meth c A ls C hin hA hK hst hP hD hl
  obtain ⟨hx, hb, hr, hml, hown, hts, hlk⟩ := id C
  have hS : va_S A s.heap s.heap [] := va_S.rf
  have hl : lv_has ls 3 [(0, .ref h0), (1, .int k), (2, .int z)] := hl
  refine lv_iload_n hx hb d_Js_secondTold_0 rfl (lv_at hl 1 rfl) ?_
  refine lv_bipush (v := 7) hx hb d_Js_secondTold_1 (by decide) ?_
  refine lv_iand hx hb d_Js_secondTold_3 ?_
  refine lv_iconst (v := 1) hx hb d_Js_secondTold_4 (by decide) ?_
  refine lv_isub hx hb d_Js_secondTold_5 ?_
  exact zz_reti C (rfl) hS () (rfl) hP hD d_Js_secondTold_6

set_option maxHeartbeats 4000000 in
set_option maxRecDepth 100000 in
theorem lp_Js_meet3 {p : Program} {l : Launch} {e : Env} {s : State} {m : MethodId} {below : List Frame} {meth : Method} {c : Code} {A : Nat → Prop}  {E : zG} {h0 b1 b2 b3 b4 jc : Nat} {fS fF fW fV : Nat → Int32} {sz fl : Nat → Nat} {g0 a1 a2 n : Nat} {st : (Nat → Nat) × List Nat} {x : Nat} (hJ : jg_ok jc sz fl fS fF) (hG : jg_good jc sz x) (hn : n ≤ 10000) (hnc : 10 ^ jc ≤ n) (hV : ∀ j, j < jc → fV j = nI (jg_d x j)) {tD : Nat} (hZD : va_Z "StatePuzzles$JugSet" "DIGIT" "[I" (.ref tD) A s s.heap) (hTD : va_T .int tD 4 (fun j => .int (nI (10 ^ j))) A s s.heap) {i : Nat} (hic : i < jc) {S0 : (Nat → Nat) × List Nat} (C : cx p s m #[.ref h0, .int (nI x), .ref g0] meth c b_Js_meetNext 6 y_Js_meetNext.cls none) (hA : ∀ q, s.heap.size ≤ q → A q) (hK : kt E s) (hst : stt A s s.heap) :
    ∀ (f j : Nat) (fT fQ : Nat → Int32) (_ : j + f = jc) (_ : bfs_RS n (jg_l3 sz x i S0 j) fT fQ) (_ : bfs_I n x (jg_l3 sz x i S0 j)) (kk : ∀ (fT fQ : Nat → Int32) (H : Heap) (locs : List Loc) (ls : Array Slot), bfs_RS n (jg_l3 sz x i S0 jc) fT fQ → bfs_I n x (jg_l3 sz x i S0 jc) → va_P E.1 vwCl [(h0, .inr (1, [.ref b1, .ref b2, .ref b3, .ref b4, .int (nI jc)])), (b1, zI E 4 fS), (b2, zI E 4 fF), (b3, zI E 4 fW), (b4, zI E 4 fV), (g0, .inr (4, [.ref a1, .ref a2, .int (nI (jg_l3 sz x i S0 jc).2.length)])), (a1, zI E n fT), (a2, zI E n fQ)] H → va_D A [(h0, .inr (1, [.ref b1, .ref b2, .ref b3, .ref b4, .int (nI jc)])), (b1, zI E 4 fS), (b2, zI E 4 fF), (b3, zI E 4 fW), (b4, zI E 4 fV), (g0, .inr (4, [.ref a1, .ref a2, .int (nI (jg_l3 sz x i S0 jc).2.length)])), (a1, zI E n fT), (a2, zI E n fQ)] → va_S A s.heap H locs → lv_has ls 6 [(0, .ref h0), (1, .int (nI x)), (2, .ref g0), (3, .int (nI i))] → W p l e (zR 1 23 0 0) s m #[.ref h0, .int (nI x), .ref g0] below meth c H locs 0 0 (MQ below ((zQv E (S := (Nat → Int32) × (Nat → Int32) × (Nat → Int32)) (fun u => bfs_RS n (jg_next jc sz x st) u.2.1 u.2.2) (fun u => [(h0, .inr (1, [.ref b1, .ref b2, .ref b3, .ref b4, .int (nI jc)])), (b1, zI E 4 fS), (b2, zI E 4 fF), (b3, zI E 4 fW), (b4, zI E 4 u.1), (g0, .inr (4, [.ref a1, .ref a2, .int (nI (jg_next jc sz x st).2.length)])), (a1, zI E n u.2.1), (a2, zI E n u.2.2)])) A) #[.ref h0, .int (nI x), .ref g0] s 0 0 A) (F0 m 141 ls [])) (H : Heap) (locs : List Loc) (ls : Array Slot), va_P E.1 vwCl [(h0, .inr (1, [.ref b1, .ref b2, .ref b3, .ref b4, .int (nI jc)])), (b1, zI E 4 fS), (b2, zI E 4 fF), (b3, zI E 4 fW), (b4, zI E 4 fV), (g0, .inr (4, [.ref a1, .ref a2, .int (nI (jg_l3 sz x i S0 j).2.length)])), (a1, zI E n fT), (a2, zI E n fQ)] H → va_D A [(h0, .inr (1, [.ref b1, .ref b2, .ref b3, .ref b4, .int (nI jc)])), (b1, zI E 4 fS), (b2, zI E 4 fF), (b3, zI E 4 fW), (b4, zI E 4 fV), (g0, .inr (4, [.ref a1, .ref a2, .int (nI (jg_l3 sz x i S0 j).2.length)])), (a1, zI E n fT), (a2, zI E n fQ)] → va_S A s.heap H locs → lv_has ls 6 [(0, .ref h0), (1, .int (nI x)), (2, .ref g0), (3, .int (nI i)), (4, .int (nI j))] → W p l e (zR 1 23 0 0) s m #[.ref h0, .int (nI x), .ref g0] below meth c H locs 0 0 (MQ below ((zQv E (S := (Nat → Int32) × (Nat → Int32) × (Nat → Int32)) (fun u => bfs_RS n (jg_next jc sz x st) u.2.1 u.2.2) (fun u => [(h0, .inr (1, [.ref b1, .ref b2, .ref b3, .ref b4, .int (nI jc)])), (b1, zI E 4 fS), (b2, zI E 4 fF), (b3, zI E 4 fW), (b4, zI E 4 u.1), (g0, .inr (4, [.ref a1, .ref a2, .int (nI (jg_next jc sz x st).2.length)])), (a1, zI E n u.2.1), (a2, zI E n u.2.2)])) A) #[.ref h0, .int (nI x), .ref g0] s 0 0 A) (F0 m 81 ls []) := by
  obtain ⟨hx, hb, hr, hml, hown, hts, hlk⟩ := id C
  have hc := hJ.1
  have hxn : x < n := Nat.lt_of_lt_of_le hG.1 hnc
  have hi := hJ.2 i hic
  intro f
  induction f with
  | zero =>
    intro j fT fQ hj hR hI kk H locs ls hP hD hS hl
    have hj : j = jc := by omega
    subst hj
    refine lv_iload hx hb d_Js_meetNext_81 (lv_at hl 4 rfl) ?_
    refine lv_aload_n hx hb d_Js_meetNext_83 rfl (lv_at hl 0 rfl) ?_
    refine zz_get C hK hP fl_Js_24 0 rfl rfl d_Js_meetNext_84 ?_
    refine lv_icmp_ge (tgt := 141) hx hb d_Js_meetNext_87 (by decide) (fun c_24 => ?_) (fun c_24 => ?_)
    · exact kk fT fQ _ _ ls hR hI hP hD hS (lv_sub hl [0, 1, 2, 3] rfl)
    · exact absurd (nI_le (Nat.le_refl _) (by omega)) c_24
  | succ f ih =>
    intro j fT fQ hj hR hI kk H locs ls hP hD hS hl
    have hjc : j < jc := by omega
    have hq := hJ.2 j hjc
    refine lv_iload hx hb d_Js_meetNext_81 (lv_at hl 4 rfl) ?_
    refine lv_aload_n hx hb d_Js_meetNext_83 rfl (lv_at hl 0 rfl) ?_
    refine zz_get C hK hP fl_Js_24 0 rfl rfl d_Js_meetNext_84 ?_
    refine lv_icmp_ge (tgt := 141) hx hb d_Js_meetNext_87 (by decide) (fun c_25 => ?_) (fun c_25 => ?_)
    · exact absurd c_25 (nI_ge hjc (by omega))
    · refine lv_aload_n hx hb d_Js_meetNext_90 rfl (lv_at hl 0 rfl) ?_
      refine zz_get C hK hP fl_Js_21 0 rfl rfl d_Js_meetNext_91 ?_
      refine lv_iload_n hx hb d_Js_meetNext_94 rfl (lv_at hl 3 rfl) ?_
      refine zz_ialdN C hK hP 4 rfl (j := i) (by omega) (by omega) d_Js_meetNext_95 ?_
      refine lv_aload_n hx hb d_Js_meetNext_96 rfl (lv_at hl 0 rfl) ?_
      refine lv_iload hx hb d_Js_meetNext_97 (lv_at hl 4 rfl) ?_
      refine zz_goi (wr := [(g0, .inr (4, [.ref a1, .ref a2, .int (nI (jg_l3 sz x i S0 j).2.length)])), (a1, zI E n fT), (a2, zI E n fQ)]) [0, 1, 2, 3, 4] [5, 6, 7] rfl rfl (by decide) (by decide) hA hP hD hS (zz_runV (wc := [(h0, .inr (1, [.ref b1, .ref b2, .ref b3, .ref b4, .int (nI jc)])), (b1, zI E 4 fS), (b2, zI E 4 fF), (b3, zI E 4 fW), (b4, zI E 4 fV)]) (As := [.int (nI j)]) (rest := [.int (fV i)]) C (c_Js_roomIn l E h0 b1 b2 b3 b4 jc fS fF fW fV j (sz j) (jg_d x j) (by omega) hq.1 (hV j hjc) (hG.2 j hjc)) ym_Js_roomIn wd_ml_Js_38 wd_im_Js_roomIn wd_se_Js_roomIn [0, 1, 2, 3, 4] (by decide) rfl hA hK hst hP hD hS (ci := 1) (q0 := 0) rfl rfl rfl rfl hl.1 rfl (Nat.le_of_ble_eq_true rfl) ⟨Nat.le_of_ble_eq_true rfl, Nat.le_of_ble_eq_true rfl⟩ ⟨Nat.le_of_ble_eq_true rfl, Nat.le_of_ble_eq_true rfl⟩ d_Js_meetNext_99) (fun r_26 u H locs hw hP hD hS => ?_)
      have hP : va_P E.1 vwCl [(g0, .inr (4, [.ref a1, .ref a2, .int (nI (jg_l3 sz x i S0 j).2.length)])), (a1, zI E n fT), (a2, zI E n fQ), (h0, .inr (1, [.ref b1, .ref b2, .ref b3, .ref b4, .int (nI jc)])), (b1, zI E 4 fS), (b2, zI E 4 fF), (b3, zI E 4 fW), (b4, zI E 4 fV)] H := hP
      have hD : va_D A [(g0, .inr (4, [.ref a1, .ref a2, .int (nI (jg_l3 sz x i S0 j).2.length)])), (a1, zI E n fT), (a2, zI E n fQ), (h0, .inr (1, [.ref b1, .ref b2, .ref b3, .ref b4, .int (nI jc)])), (b1, zI E 4 fS), (b2, zI E 4 fF), (b3, zI E 4 fW), (b4, zI E 4 fV)] := hD
      subst hw
      rw [hV i hic]
      refine zz_min C wd_ml_Js_52 wd_st_min wd_in_math wd_cd_min hl.1 (Nat.le_of_ble_eq_true rfl) (Nat.le_of_ble_eq_true rfl) (Nat.le_of_ble_eq_true rfl) (Nat.le_of_ble_eq_true rfl) d_Js_meetNext_102 ?_
      refine zz_eqi (y := nI (jg_p sz x i j)) (jg_p_i32 hq.2.2.1) ?_
      refine lv_istore (lv' := [(5, .int (nI (jg_p sz x i j))), (0, .ref h0), (1, .int (nI x)), (2, .ref g0), (3, .int (nI i)), (4, .int (nI j))]) hx hb d_Js_meetNext_105 hl (by decide) rfl (fun ls hl => ?_)
      refine lv_aload_n hx hb d_Js_meetNext_107 rfl (lv_at hl 3 rfl) ?_
      refine lv_iload_n hx hb d_Js_meetNext_108 rfl (lv_at hl 2 rfl) ?_
      refine lv_iload hx hb d_Js_meetNext_109 (lv_at hl 0 rfl) ?_
      refine va_gets hx hb hZD hS hown (hts _ wd_fs_Js_31) (fun _ h9 => h9) d_Js_meetNext_111 ?_
      refine lv_iload hx hb d_Js_meetNext_114 (lv_at hl 5 rfl) ?_
      refine zz_tabI C hTD hS (j := j) (by omega) (by decide) d_Js_meetNext_116 ?_
      refine va_gets hx hb hZD hS hown (hts _ wd_fs_Js_31) (fun _ h9 => h9) d_Js_meetNext_117 ?_
      refine lv_iload_n hx hb d_Js_meetNext_120 rfl (lv_at hl 4 rfl) ?_
      refine zz_tabI C hTD hS (j := i) (by omega) (by decide) d_Js_meetNext_121 ?_
      refine lv_isub hx hb d_Js_meetNext_122 ?_
      refine lv_imul hx hb d_Js_meetNext_123 ?_
      refine lv_iadd hx hb d_Js_meetNext_124 ?_
      refine zz_eqi (y := nI (x + jg_p sz x i j * 10 ^ j - jg_p sz x i j * 10 ^ i)) (jg_ring jg_pour_sub) ?_
      refine lv_iload_n hx hb d_Js_meetNext_125 rfl (lv_at hl 2 rfl) ?_
      refine lv_iload_n hx hb d_Js_meetNext_126 rfl (lv_at hl 4 rfl) ?_
      refine lv_iload hx hb d_Js_meetNext_127 (lv_at hl 5 rfl) ?_
      refine zz_eqi (y := nI (j + 1) - 1) (nI_pred j).symm ?_
      rw [show (F0 m 129 ls (.int (nI (j + 1) - 1) :: .int (nI i) :: [.int (nI x), .int (nI (x + jg_p sz x i j * 10 ^ j - jg_p sz x i j * 10 ^ i)), .ref g0])) = F0 m 129 ls (.int (nI (j + 1) - 1) :: .int (nI (i + 1) - 1) :: [.int (nI x), .int (nI (x + jg_p sz x i j * 10 ^ j - jg_p sz x i j * 10 ^ i)), .ref g0]) from by rw [nI_pred i]]
      refine zz_goi (wr := [(g0, .inr (4, [.ref a1, .ref a2, .int (nI (jg_l3 sz x i S0 j).2.length)])), (a1, zI E n fT), (a2, zI E n fQ), (h0, .inr (1, [.ref b1, .ref b2, .ref b3, .ref b4, .int (nI jc)])), (b1, zI E 4 fS), (b2, zI E 4 fF), (b3, zI E 4 fW), (b4, zI E 4 fV)]) [] [0, 1, 2, 3, 4, 5, 6, 7] rfl rfl (by decide) (by decide) hA hP hD hS (zz_runS (wc := []) (As := [.int (nI (i + 1) - 1), .int (nI (j + 1) - 1)]) (rest := [.int (nI x), .int (nI (x + jg_p sz x i j * 10 ^ j - jg_p sz x i j * 10 ^ i)), .ref g0]) C (c_Js_codeOf l E (i + 1) (j + 1) (by omega) (by omega)) ym_Js_codeOf wd_ml_Js_42 wd_st_Js_codeOf [] (by decide) rfl hA hK hst hP hD hS rfl hl.1 rfl (Nat.le_of_ble_eq_true rfl) ⟨Nat.le_of_ble_eq_true rfl, Nat.le_of_ble_eq_true rfl⟩ ⟨Nat.le_of_ble_eq_true rfl, Nat.le_of_ble_eq_true rfl⟩ d_Js_meetNext_129) (fun r_27 u H locs hw hP hD hS => ?_)
      have hP : va_P E.1 vwCl [(g0, .inr (4, [.ref a1, .ref a2, .int (nI (jg_l3 sz x i S0 j).2.length)])), (a1, zI E n fT), (a2, zI E n fQ), (h0, .inr (1, [.ref b1, .ref b2, .ref b3, .ref b4, .int (nI jc)])), (b1, zI E 4 fS), (b2, zI E 4 fF), (b3, zI E 4 fW), (b4, zI E 4 fV)] H := hP
      have hD : va_D A [(g0, .inr (4, [.ref a1, .ref a2, .int (nI (jg_l3 sz x i S0 j).2.length)])), (a1, zI E n fT), (a2, zI E n fQ), (h0, .inr (1, [.ref b1, .ref b2, .ref b3, .ref b4, .int (nI jc)])), (b1, zI E 4 fS), (b2, zI E 4 fF), (b3, zI E 4 fW), (b4, zI E 4 fV)] := hD
      subst hw
      refine zz_gov (wr := [(h0, .inr (1, [.ref b1, .ref b2, .ref b3, .ref b4, .int (nI jc)])), (b1, zI E 4 fS), (b2, zI E 4 fF), (b3, zI E 4 fW), (b4, zI E 4 fV)]) [0, 1, 2] [3, 4, 5, 6, 7] rfl rfl (by decide) (by decide) hA hP hD hS (zz_runV (wc := [(g0, .inr (4, [.ref a1, .ref a2, .int (nI (jg_l3 sz x i S0 j).2.length)])), (a1, zI E n fT), (a2, zI E n fQ)]) (As := [.int (nI (x + jg_p sz x i j * 10 ^ j - jg_p sz x i j * 10 ^ i)), .int (nI x), .int (nI ((i + 1) * 8 + (j + 1)))]) (rest := []) C (c_Se_meet l E g0 a1 a2 n fT fQ (jg_l3 sz x i S0 j) (x + jg_p sz x i j * 10 ^ j - jg_p sz x i j * 10 ^ i) x ((i + 1) * 8 + (j + 1)) hn (Nat.lt_of_lt_of_le (jg_pour_lt (i := i) hc hjc hG.1 hq.2.2.1 (hG.2 j hjc)) hnc) hxn (by omega) hR hI.1) ym_Se_meet wd_ml_Js_46 wd_im_Se_meet wd_se_Se_meet [0, 1, 2] (by decide) rfl hA hK hst hP hD hS (ci := 4) (q0 := 0) rfl rfl rfl rfl hl.1 rfl (Nat.le_of_ble_eq_true rfl) ⟨Nat.le_of_ble_eq_true rfl, Nat.le_of_ble_eq_true rfl⟩ ⟨Nat.le_of_ble_eq_true rfl, Nat.le_of_ble_eq_true rfl⟩ d_Js_meetNext_132) (fun u_28 H locs hR hP hD hS => ?_)
      have hP : va_P E.1 vwCl [(h0, .inr (1, [.ref b1, .ref b2, .ref b3, .ref b4, .int (nI jc)])), (b1, zI E 4 fS), (b2, zI E 4 fF), (b3, zI E 4 fW), (b4, zI E 4 fV), (g0, .inr (4, [.ref a1, .ref a2, .int (nI (bfs_mt (jg_l3 sz x i S0 j) x (x + jg_p sz x i j * 10 ^ j - jg_p sz x i j * 10 ^ i, (i + 1) * 8 + (j + 1))).2.length)])), (a1, zI E n u_28.1), (a2, zI E n u_28.2)] H := hP
      have hD : va_D A [(h0, .inr (1, [.ref b1, .ref b2, .ref b3, .ref b4, .int (nI jc)])), (b1, zI E 4 fS), (b2, zI E 4 fF), (b3, zI E 4 fW), (b4, zI E 4 fV), (g0, .inr (4, [.ref a1, .ref a2, .int (nI (bfs_mt (jg_l3 sz x i S0 j) x (x + jg_p sz x i j * 10 ^ j - jg_p sz x i j * 10 ^ i, (i + 1) * 8 + (j + 1))).2.length)])), (a1, zI E n u_28.1), (a2, zI E n u_28.2)] := hD
      refine lv_iinc (v := nI (j + 1)) (lv' := [(4, .int (nI (j + 1))), (5, .int (nI (jg_p sz x i j))), (0, .ref h0), (1, .int (nI x)), (2, .ref g0), (3, .int (nI i))]) hx hb d_Js_meetNext_135 hl (k := 5) rfl (nI_1 _) (by decide) rfl (fun ls hl => ?_)
      refine lv_goto (tgt := 81) hx hb d_Js_meetNext_138 (by decide) ?_
      have hI2 : bfs_I n x (jg_l3 sz x i S0 (j + 1)) := bfs_mt_I hI hn hxn (Nat.lt_of_lt_of_le (jg_pour_lt (i := i) hc hjc hG.1 hq.2.2.1 (hG.2 j hjc)) hnc) (show (i + 1) * 8 + (j + 1) < 256 by omega)
      exact ih (j + 1) u_28.1 u_28.2 (by omega) hR hI2 kk _ _ ls hP hD hS (lv_sub hl [2, 3, 4, 5, 0] rfl)

set_option maxHeartbeats 4000000 in
set_option maxRecDepth 100000 in
theorem lp_Js_meet2 {p : Program} {l : Launch} {e : Env} {s : State} {m : MethodId} {below : List Frame} {meth : Method} {c : Code} {A : Nat → Prop}  {E : zG} {h0 b1 b2 b3 b4 jc : Nat} {fS fF fW fV : Nat → Int32} {sz fl : Nat → Nat} {g0 a1 a2 n : Nat} {st : (Nat → Nat) × List Nat} {x : Nat} (hJ : jg_ok jc sz fl fS fF) (hG : jg_good jc sz x) (hn : n ≤ 10000) (hnc : 10 ^ jc ≤ n) (hV : ∀ j, j < jc → fV j = nI (jg_d x j)) {tD : Nat} (hZD : va_Z "StatePuzzles$JugSet" "DIGIT" "[I" (.ref tD) A s s.heap) (hTD : va_T .int tD 4 (fun j => .int (nI (10 ^ j))) A s s.heap) {S1 : (Nat → Nat) × List Nat} (hS1 : S1 = jg_l1 sz x st jc) (C : cx p s m #[.ref h0, .int (nI x), .ref g0] meth c b_Js_meetNext 6 y_Js_meetNext.cls none) (hA : ∀ q, s.heap.size ≤ q → A q) (hK : kt E s) (hst : stt A s s.heap) :
    ∀ (f i : Nat) (fT fQ : Nat → Int32) (_ : i + f = jc) (_ : bfs_RS n (jg_l2 jc sz x S1 i) fT fQ) (_ : bfs_I n x (jg_l2 jc sz x S1 i)) (H : Heap) (locs : List Loc) (ls : Array Slot), va_P E.1 vwCl [(h0, .inr (1, [.ref b1, .ref b2, .ref b3, .ref b4, .int (nI jc)])), (b1, zI E 4 fS), (b2, zI E 4 fF), (b3, zI E 4 fW), (b4, zI E 4 fV), (g0, .inr (4, [.ref a1, .ref a2, .int (nI (jg_l2 jc sz x S1 i).2.length)])), (a1, zI E n fT), (a2, zI E n fQ)] H → va_D A [(h0, .inr (1, [.ref b1, .ref b2, .ref b3, .ref b4, .int (nI jc)])), (b1, zI E 4 fS), (b2, zI E 4 fF), (b3, zI E 4 fW), (b4, zI E 4 fV), (g0, .inr (4, [.ref a1, .ref a2, .int (nI (jg_l2 jc sz x S1 i).2.length)])), (a1, zI E n fT), (a2, zI E n fQ)] → va_S A s.heap H locs → lv_has ls 6 [(0, .ref h0), (1, .int (nI x)), (2, .ref g0), (3, .int (nI i))] → W p l e (zR 1 23 0 0) s m #[.ref h0, .int (nI x), .ref g0] below meth c H locs 0 0 (MQ below ((zQv E (S := (Nat → Int32) × (Nat → Int32) × (Nat → Int32)) (fun u => bfs_RS n (jg_next jc sz x st) u.2.1 u.2.2) (fun u => [(h0, .inr (1, [.ref b1, .ref b2, .ref b3, .ref b4, .int (nI jc)])), (b1, zI E 4 fS), (b2, zI E 4 fF), (b3, zI E 4 fW), (b4, zI E 4 u.1), (g0, .inr (4, [.ref a1, .ref a2, .int (nI (jg_next jc sz x st).2.length)])), (a1, zI E n u.2.1), (a2, zI E n u.2.2)])) A) #[.ref h0, .int (nI x), .ref g0] s 0 0 A) (F0 m 46 ls []) := by
  obtain ⟨hx, hb, hr, hml, hown, hts, hlk⟩ := id C
  have hc := hJ.1
  have hxn : x < n := Nat.lt_of_lt_of_le hG.1 hnc
  intro f
  induction f with
  | zero =>
    intro i fT fQ hi hR hI H locs ls hP hD hS hl
    have hi : i = jc := by omega
    subst hi
    refine lv_iload_n hx hb d_Js_meetNext_46 rfl (lv_at hl 3 rfl) ?_
    refine lv_aload_n hx hb d_Js_meetNext_47 rfl (lv_at hl 0 rfl) ?_
    refine zz_get C hK hP fl_Js_24 0 rfl rfl d_Js_meetNext_48 ?_
    refine lv_icmp_ge (tgt := 147) hx hb d_Js_meetNext_51 (by decide) (fun c_30 => ?_) (fun c_30 => ?_)
    · subst hS1
      exact zz_retv C hS (fV, fT, fQ) (hR) hP hD d_Js_meetNext_147
    · exact absurd (nI_le (Nat.le_refl _) (by omega)) c_30
  | succ f ih =>
    intro i fT fQ hi hR hI H locs ls hP hD hS hl
    have hic : i < jc := by omega
    have hq := hJ.2 i hic
    refine lv_iload_n hx hb d_Js_meetNext_46 rfl (lv_at hl 3 rfl) ?_
    refine lv_aload_n hx hb d_Js_meetNext_47 rfl (lv_at hl 0 rfl) ?_
    refine zz_get C hK hP fl_Js_24 0 rfl rfl d_Js_meetNext_48 ?_
    refine lv_icmp_ge (tgt := 147) hx hb d_Js_meetNext_51 (by decide) (fun c_31 => ?_) (fun c_31 => ?_)
    · exact absurd c_31 (nI_ge hic (by omega))
    · refine lv_aload_n hx hb d_Js_meetNext_54 rfl (lv_at hl 2 rfl) ?_
      refine lv_iload_n hx hb d_Js_meetNext_55 rfl (lv_at hl 1 rfl) ?_
      refine lv_aload_n hx hb d_Js_meetNext_56 rfl (lv_at hl 0 rfl) ?_
      refine zz_get C hK hP fl_Js_21 0 rfl rfl d_Js_meetNext_57 ?_
      refine lv_iload_n hx hb d_Js_meetNext_60 rfl (lv_at hl 3 rfl) ?_
      refine zz_ialdN C hK hP 4 rfl (j := i) (by omega) (by omega) d_Js_meetNext_61 ?_
      refine va_gets hx hb hZD hS hown (hts _ wd_fs_Js_31) (fun _ h9 => h9) d_Js_meetNext_62 ?_
      refine lv_iload_n hx hb d_Js_meetNext_65 rfl (lv_at hl 3 rfl) ?_
      refine zz_tabI C hTD hS (j := i) (by omega) (by decide) d_Js_meetNext_66 ?_
      refine lv_imul hx hb d_Js_meetNext_67 ?_
      refine zz_eqi (y := nI (jg_d x i * 10 ^ i)) (by rw [hV i hic]; exact pk_mul _ _) ?_
      refine lv_isub hx hb d_Js_meetNext_68 ?_
      refine zz_eqi (y := nI (x - jg_d x i * 10 ^ i)) (pk_sub (jg_d_mul_le x i)) ?_
      refine lv_iload_n hx hb d_Js_meetNext_69 rfl (lv_at hl 1 rfl) ?_
      refine lv_iload_n hx hb d_Js_meetNext_70 rfl (lv_at hl 3 rfl) ?_
      refine lv_iconst (v := (-1)) hx hb d_Js_meetNext_71 (by decide) ?_
      refine zz_eqi (y := nI 0 - 1) (by decide) ?_
      rw [show (F0 m 72 ls (.int (nI 0 - 1) :: .int (nI i) :: [.int (nI x), .int (nI (x - jg_d x i * 10 ^ i)), .ref g0])) = F0 m 72 ls (.int (nI 0 - 1) :: .int (nI (i + 1) - 1) :: [.int (nI x), .int (nI (x - jg_d x i * 10 ^ i)), .ref g0]) from by rw [nI_pred i]]
      refine zz_goi (wr := [(h0, .inr (1, [.ref b1, .ref b2, .ref b3, .ref b4, .int (nI jc)])), (b1, zI E 4 fS), (b2, zI E 4 fF), (b3, zI E 4 fW), (b4, zI E 4 fV), (g0, .inr (4, [.ref a1, .ref a2, .int (nI (jg_l2 jc sz x S1 i).2.length)])), (a1, zI E n fT), (a2, zI E n fQ)]) [] [0, 1, 2, 3, 4, 5, 6, 7] rfl rfl (by decide) (by decide) hA hP hD hS (zz_runS (wc := []) (As := [.int (nI (i + 1) - 1), .int (nI 0 - 1)]) (rest := [.int (nI x), .int (nI (x - jg_d x i * 10 ^ i)), .ref g0]) C (c_Js_codeOf l E (i + 1) 0 (by omega) (by omega)) ym_Js_codeOf wd_ml_Js_42 wd_st_Js_codeOf [] (by decide) rfl hA hK hst hP hD hS rfl hl.1 rfl (Nat.le_of_ble_eq_true rfl) ⟨Nat.le_of_ble_eq_true rfl, Nat.le_of_ble_eq_true rfl⟩ ⟨Nat.le_of_ble_eq_true rfl, Nat.le_of_ble_eq_true rfl⟩ d_Js_meetNext_72) (fun r_32 u H locs hw hP hD hS => ?_)
      have hP : va_P E.1 vwCl [(h0, .inr (1, [.ref b1, .ref b2, .ref b3, .ref b4, .int (nI jc)])), (b1, zI E 4 fS), (b2, zI E 4 fF), (b3, zI E 4 fW), (b4, zI E 4 fV), (g0, .inr (4, [.ref a1, .ref a2, .int (nI (jg_l2 jc sz x S1 i).2.length)])), (a1, zI E n fT), (a2, zI E n fQ)] H := hP
      have hD : va_D A [(h0, .inr (1, [.ref b1, .ref b2, .ref b3, .ref b4, .int (nI jc)])), (b1, zI E 4 fS), (b2, zI E 4 fF), (b3, zI E 4 fW), (b4, zI E 4 fV), (g0, .inr (4, [.ref a1, .ref a2, .int (nI (jg_l2 jc sz x S1 i).2.length)])), (a1, zI E n fT), (a2, zI E n fQ)] := hD
      subst hw
      refine zz_eqi (y := nI ((i + 1) * 8)) (rfl) ?_
      refine zz_gov (wr := [(h0, .inr (1, [.ref b1, .ref b2, .ref b3, .ref b4, .int (nI jc)])), (b1, zI E 4 fS), (b2, zI E 4 fF), (b3, zI E 4 fW), (b4, zI E 4 fV)]) [5, 6, 7] [0, 1, 2, 3, 4] rfl rfl (by decide) (by decide) hA hP hD hS (zz_runV (wc := [(g0, .inr (4, [.ref a1, .ref a2, .int (nI (jg_l2 jc sz x S1 i).2.length)])), (a1, zI E n fT), (a2, zI E n fQ)]) (As := [.int (nI (x - jg_d x i * 10 ^ i)), .int (nI x), .int (nI ((i + 1) * 8))]) (rest := []) C (c_Se_meet l E g0 a1 a2 n fT fQ (jg_l2 jc sz x S1 i) (x - jg_d x i * 10 ^ i) x ((i + 1) * 8) hn (Nat.lt_of_lt_of_le (jg_empt_lt (i := i) hG.1) hnc) hxn (by omega) hR hI.1) ym_Se_meet wd_ml_Js_46 wd_im_Se_meet wd_se_Se_meet [5, 6, 7] (by decide) rfl hA hK hst hP hD hS (ci := 4) (q0 := 0) rfl rfl rfl rfl hl.1 rfl (Nat.le_of_ble_eq_true rfl) ⟨Nat.le_of_ble_eq_true rfl, Nat.le_of_ble_eq_true rfl⟩ ⟨Nat.le_of_ble_eq_true rfl, Nat.le_of_ble_eq_true rfl⟩ d_Js_meetNext_75) (fun u_33 H locs hR hP hD hS => ?_)
      have hP : va_P E.1 vwCl [(h0, .inr (1, [.ref b1, .ref b2, .ref b3, .ref b4, .int (nI jc)])), (b1, zI E 4 fS), (b2, zI E 4 fF), (b3, zI E 4 fW), (b4, zI E 4 fV), (g0, .inr (4, [.ref a1, .ref a2, .int (nI (bfs_mt (jg_l2 jc sz x S1 i) x (x - jg_d x i * 10 ^ i, (i + 1) * 8)).2.length)])), (a1, zI E n u_33.1), (a2, zI E n u_33.2)] H := hP
      have hD : va_D A [(h0, .inr (1, [.ref b1, .ref b2, .ref b3, .ref b4, .int (nI jc)])), (b1, zI E 4 fS), (b2, zI E 4 fF), (b3, zI E 4 fW), (b4, zI E 4 fV), (g0, .inr (4, [.ref a1, .ref a2, .int (nI (bfs_mt (jg_l2 jc sz x S1 i) x (x - jg_d x i * 10 ^ i, (i + 1) * 8)).2.length)])), (a1, zI E n u_33.1), (a2, zI E n u_33.2)] := hD
      refine lv_iconst (v := 0) hx hb d_Js_meetNext_78 (by decide) ?_
      refine lv_istore (lv' := [(4, .int 0), (0, .ref h0), (1, .int (nI x)), (2, .ref g0), (3, .int (nI i))]) hx hb d_Js_meetNext_79 hl (by decide) rfl (fun ls hl => ?_)
      have hI2 : bfs_I n x (bfs_mt (jg_l2 jc sz x S1 i) x (x - jg_d x i * 10 ^ i, (i + 1) * 8)) := bfs_mt_I hI hn hxn (Nat.lt_of_lt_of_le (jg_empt_lt (i := i) hG.1) hnc) (show (i + 1) * 8 < 256 by omega)
      have hl := lv_sub (l' := [(0, .ref h0), (1, .int (nI x)), (2, .ref g0), (3, .int (nI i)), (4, .int (nI 0))]) hl [1, 2, 3, 4, 0] (rfl)
      refine lp_Js_meet3 hJ hG hn hnc hV hZD hTD hic (S0 := bfs_mt (jg_l2 jc sz x S1 i) x (x - jg_d x i * 10 ^ i, (i + 1) * 8)) C hA hK hst jc 0 u_33.1 u_33.2 (by omega) hR hI2 (fun fT fQ H locs ls hR hI hP hD hS hl => ?_) _ _ ls hP hD hS hl
      refine lv_iinc (v := nI (i + 1)) (lv' := [(3, .int (nI (i + 1))), (0, .ref h0), (1, .int (nI x)), (2, .ref g0)]) hx hb d_Js_meetNext_141 hl (k := 3) rfl (nI_1 _) (by decide) rfl (fun ls hl => ?_)
      refine lv_goto (tgt := 46) hx hb d_Js_meetNext_144 (by decide) ?_
      exact ih (i + 1) fT fQ (by omega) hR hI _ _ ls hP hD hS (lv_sub hl [1, 2, 3, 0] rfl)

set_option maxHeartbeats 4000000 in
set_option maxRecDepth 100000 in
theorem lp_Js_meet1 {p : Program} {l : Launch} {e : Env} {s : State} {m : MethodId} {below : List Frame} {meth : Method} {c : Code} {A : Nat → Prop}  {E : zG} {h0 b1 b2 b3 b4 jc : Nat} {fS fF fW fV : Nat → Int32} {sz fl : Nat → Nat} {g0 a1 a2 n : Nat} {st : (Nat → Nat) × List Nat} {x : Nat} (hJ : jg_ok jc sz fl fS fF) (hG : jg_good jc sz x) (hn : n ≤ 10000) (hnc : 10 ^ jc ≤ n) (hV : ∀ j, j < jc → fV j = nI (jg_d x j)) {tD : Nat} (hZD : va_Z "StatePuzzles$JugSet" "DIGIT" "[I" (.ref tD) A s s.heap) (hTD : va_T .int tD 4 (fun j => .int (nI (10 ^ j))) A s s.heap) (C : cx p s m #[.ref h0, .int (nI x), .ref g0] meth c b_Js_meetNext 6 y_Js_meetNext.cls none) (hA : ∀ q, s.heap.size ≤ q → A q) (hK : kt E s) (hst : stt A s s.heap) :
    ∀ (f i : Nat) (fT fQ : Nat → Int32) (_ : i + f = jc) (_ : bfs_RS n (jg_l1 sz x st i) fT fQ) (_ : bfs_I n x (jg_l1 sz x st i)) (H : Heap) (locs : List Loc) (ls : Array Slot), va_P E.1 vwCl [(h0, .inr (1, [.ref b1, .ref b2, .ref b3, .ref b4, .int (nI jc)])), (b1, zI E 4 fS), (b2, zI E 4 fF), (b3, zI E 4 fW), (b4, zI E 4 fV), (g0, .inr (4, [.ref a1, .ref a2, .int (nI (jg_l1 sz x st i).2.length)])), (a1, zI E n fT), (a2, zI E n fQ)] H → va_D A [(h0, .inr (1, [.ref b1, .ref b2, .ref b3, .ref b4, .int (nI jc)])), (b1, zI E 4 fS), (b2, zI E 4 fF), (b3, zI E 4 fW), (b4, zI E 4 fV), (g0, .inr (4, [.ref a1, .ref a2, .int (nI (jg_l1 sz x st i).2.length)])), (a1, zI E n fT), (a2, zI E n fQ)] → va_S A s.heap H locs → lv_has ls 6 [(0, .ref h0), (1, .int (nI x)), (2, .ref g0), (3, .int (nI i))] → W p l e (zR 1 23 0 0) s m #[.ref h0, .int (nI x), .ref g0] below meth c H locs 0 0 (MQ below ((zQv E (S := (Nat → Int32) × (Nat → Int32) × (Nat → Int32)) (fun u => bfs_RS n (jg_next jc sz x st) u.2.1 u.2.2) (fun u => [(h0, .inr (1, [.ref b1, .ref b2, .ref b3, .ref b4, .int (nI jc)])), (b1, zI E 4 fS), (b2, zI E 4 fF), (b3, zI E 4 fW), (b4, zI E 4 u.1), (g0, .inr (4, [.ref a1, .ref a2, .int (nI (jg_next jc sz x st).2.length)])), (a1, zI E n u.2.1), (a2, zI E n u.2.2)])) A) #[.ref h0, .int (nI x), .ref g0] s 0 0 A) (F0 m 7 ls []) := by
  obtain ⟨hx, hb, hr, hml, hown, hts, hlk⟩ := id C
  have hc := hJ.1
  have hxn : x < n := Nat.lt_of_lt_of_le hG.1 hnc
  intro f
  induction f with
  | zero =>
    intro i fT fQ hi hR hI H locs ls hP hD hS hl
    have hi : i = jc := by omega
    subst hi
    refine lv_iload_n hx hb d_Js_meetNext_7 rfl (lv_at hl 3 rfl) ?_
    refine lv_aload_n hx hb d_Js_meetNext_8 rfl (lv_at hl 0 rfl) ?_
    refine zz_get C hK hP fl_Js_24 0 rfl rfl d_Js_meetNext_9 ?_
    refine lv_icmp_ge (tgt := 44) hx hb d_Js_meetNext_12 (by decide) (fun c_35 => ?_) (fun c_35 => ?_)
    · refine lv_iconst (v := 0) hx hb d_Js_meetNext_44 (by decide) ?_
      refine lv_istore_n (lv' := [(3, .int 0), (0, .ref h0), (1, .int (nI x)), (2, .ref g0)]) hx hb d_Js_meetNext_45 rfl hl (by decide) rfl (fun ls hl => ?_)
      have hl := lv_sub (l' := [(0, .ref h0), (1, .int (nI x)), (2, .ref g0), (3, .int (nI 0))]) hl [1, 2, 3, 0] (rfl)
      exact lp_Js_meet2 hJ hG hn hnc hV hZD hTD rfl C hA hK hst i 0 fT fQ (by omega) hR hI _ _ ls hP hD hS hl
    · exact absurd (nI_le (Nat.le_refl _) (by omega)) c_35
  | succ f ih =>
    intro i fT fQ hi hR hI H locs ls hP hD hS hl
    have hic : i < jc := by omega
    have hq := hJ.2 i hic
    refine lv_iload_n hx hb d_Js_meetNext_7 rfl (lv_at hl 3 rfl) ?_
    refine lv_aload_n hx hb d_Js_meetNext_8 rfl (lv_at hl 0 rfl) ?_
    refine zz_get C hK hP fl_Js_24 0 rfl rfl d_Js_meetNext_9 ?_
    refine lv_icmp_ge (tgt := 44) hx hb d_Js_meetNext_12 (by decide) (fun c_36 => ?_) (fun c_36 => ?_)
    · exact absurd c_36 (nI_ge hic (by omega))
    · refine lv_aload_n hx hb d_Js_meetNext_15 rfl (lv_at hl 2 rfl) ?_
      refine lv_iload_n hx hb d_Js_meetNext_16 rfl (lv_at hl 1 rfl) ?_
      refine lv_aload_n hx hb d_Js_meetNext_17 rfl (lv_at hl 0 rfl) ?_
      refine lv_iload_n hx hb d_Js_meetNext_18 rfl (lv_at hl 3 rfl) ?_
      refine zz_goi (wr := [(g0, .inr (4, [.ref a1, .ref a2, .int (nI (jg_l1 sz x st i).2.length)])), (a1, zI E n fT), (a2, zI E n fQ)]) [0, 1, 2, 3, 4] [5, 6, 7] rfl rfl (by decide) (by decide) hA hP hD hS (zz_runV (wc := [(h0, .inr (1, [.ref b1, .ref b2, .ref b3, .ref b4, .int (nI jc)])), (b1, zI E 4 fS), (b2, zI E 4 fF), (b3, zI E 4 fW), (b4, zI E 4 fV)]) (As := [.int (nI i)]) (rest := [.int (nI x), .ref g0]) C (c_Js_roomIn l E h0 b1 b2 b3 b4 jc fS fF fW fV i (sz i) (jg_d x i) (by omega) hq.1 (hV i hic) (hG.2 i hic)) ym_Js_roomIn wd_ml_Js_38 wd_im_Js_roomIn wd_se_Js_roomIn [0, 1, 2, 3, 4] (by decide) rfl hA hK hst hP hD hS (ci := 1) (q0 := 0) rfl rfl rfl rfl hl.1 rfl (Nat.le_of_ble_eq_true rfl) ⟨Nat.le_of_ble_eq_true rfl, Nat.le_of_ble_eq_true rfl⟩ ⟨Nat.le_of_ble_eq_true rfl, Nat.le_of_ble_eq_true rfl⟩ d_Js_meetNext_19) (fun r_37 u H locs hw hP hD hS => ?_)
      have hP : va_P E.1 vwCl [(g0, .inr (4, [.ref a1, .ref a2, .int (nI (jg_l1 sz x st i).2.length)])), (a1, zI E n fT), (a2, zI E n fQ), (h0, .inr (1, [.ref b1, .ref b2, .ref b3, .ref b4, .int (nI jc)])), (b1, zI E 4 fS), (b2, zI E 4 fF), (b3, zI E 4 fW), (b4, zI E 4 fV)] H := hP
      have hD : va_D A [(g0, .inr (4, [.ref a1, .ref a2, .int (nI (jg_l1 sz x st i).2.length)])), (a1, zI E n fT), (a2, zI E n fQ), (h0, .inr (1, [.ref b1, .ref b2, .ref b3, .ref b4, .int (nI jc)])), (b1, zI E 4 fS), (b2, zI E 4 fF), (b3, zI E 4 fW), (b4, zI E 4 fV)] := hD
      subst hw
      refine va_gets hx hb hZD hS hown (hts _ wd_fs_Js_31) (fun _ h9 => h9) d_Js_meetNext_22 ?_
      refine lv_iload_n hx hb d_Js_meetNext_25 rfl (lv_at hl 3 rfl) ?_
      refine zz_tabI C hTD hS (j := i) (by omega) (by decide) d_Js_meetNext_26 ?_
      refine lv_imul hx hb d_Js_meetNext_27 ?_
      refine zz_eqi (y := nI ((sz i - jg_d x i) * 10 ^ i)) (pk_mul _ _) ?_
      refine lv_iadd hx hb d_Js_meetNext_28 ?_
      refine zz_eqi (y := nI (x + (sz i - jg_d x i) * 10 ^ i)) (nI_add _ _) ?_
      refine lv_iload_n hx hb d_Js_meetNext_29 rfl (lv_at hl 1 rfl) ?_
      refine lv_iconst (v := (-1)) hx hb d_Js_meetNext_30 (by decide) ?_
      refine lv_iload_n hx hb d_Js_meetNext_31 rfl (lv_at hl 3 rfl) ?_
      refine zz_eqi (y := nI (i + 1) - 1) (nI_pred i).symm ?_
      rw [show (F0 m 32 ls (.int (nI (i + 1) - 1) :: .int (-1) :: [.int (nI x), .int (nI (x + (sz i - jg_d x i) * 10 ^ i)), .ref g0])) = F0 m 32 ls (.int (nI (i + 1) - 1) :: .int (nI 0 - 1) :: [.int (nI x), .int (nI (x + (sz i - jg_d x i) * 10 ^ i)), .ref g0]) from rfl]
      refine zz_goi (wr := [(g0, .inr (4, [.ref a1, .ref a2, .int (nI (jg_l1 sz x st i).2.length)])), (a1, zI E n fT), (a2, zI E n fQ), (h0, .inr (1, [.ref b1, .ref b2, .ref b3, .ref b4, .int (nI jc)])), (b1, zI E 4 fS), (b2, zI E 4 fF), (b3, zI E 4 fW), (b4, zI E 4 fV)]) [] [0, 1, 2, 3, 4, 5, 6, 7] rfl rfl (by decide) (by decide) hA hP hD hS (zz_runS (wc := []) (As := [.int (nI 0 - 1), .int (nI (i + 1) - 1)]) (rest := [.int (nI x), .int (nI (x + (sz i - jg_d x i) * 10 ^ i)), .ref g0]) C (c_Js_codeOf l E 0 (i + 1) (by omega) (by omega)) ym_Js_codeOf wd_ml_Js_42 wd_st_Js_codeOf [] (by decide) rfl hA hK hst hP hD hS rfl hl.1 rfl (Nat.le_of_ble_eq_true rfl) ⟨Nat.le_of_ble_eq_true rfl, Nat.le_of_ble_eq_true rfl⟩ ⟨Nat.le_of_ble_eq_true rfl, Nat.le_of_ble_eq_true rfl⟩ d_Js_meetNext_32) (fun r_38 u H locs hw hP hD hS => ?_)
      have hP : va_P E.1 vwCl [(g0, .inr (4, [.ref a1, .ref a2, .int (nI (jg_l1 sz x st i).2.length)])), (a1, zI E n fT), (a2, zI E n fQ), (h0, .inr (1, [.ref b1, .ref b2, .ref b3, .ref b4, .int (nI jc)])), (b1, zI E 4 fS), (b2, zI E 4 fF), (b3, zI E 4 fW), (b4, zI E 4 fV)] H := hP
      have hD : va_D A [(g0, .inr (4, [.ref a1, .ref a2, .int (nI (jg_l1 sz x st i).2.length)])), (a1, zI E n fT), (a2, zI E n fQ), (h0, .inr (1, [.ref b1, .ref b2, .ref b3, .ref b4, .int (nI jc)])), (b1, zI E 4 fS), (b2, zI E 4 fF), (b3, zI E 4 fW), (b4, zI E 4 fV)] := hD
      subst hw
      refine zz_eqi (y := nI (i + 1)) (by rw [Nat.zero_mul, Nat.zero_add]) ?_
      refine zz_gov (wr := [(h0, .inr (1, [.ref b1, .ref b2, .ref b3, .ref b4, .int (nI jc)])), (b1, zI E 4 fS), (b2, zI E 4 fF), (b3, zI E 4 fW), (b4, zI E 4 fV)]) [0, 1, 2] [3, 4, 5, 6, 7] rfl rfl (by decide) (by decide) hA hP hD hS (zz_runV (wc := [(g0, .inr (4, [.ref a1, .ref a2, .int (nI (jg_l1 sz x st i).2.length)])), (a1, zI E n fT), (a2, zI E n fQ)]) (As := [.int (nI (x + (sz i - jg_d x i) * 10 ^ i)), .int (nI x), .int (nI (i + 1))]) (rest := []) C (c_Se_meet l E g0 a1 a2 n fT fQ (jg_l1 sz x st i) (x + (sz i - jg_d x i) * 10 ^ i) x (i + 1) hn (Nat.lt_of_lt_of_le (jg_fill_lt hc hic hG.1 hq.2.2.1 (hG.2 i hic)) hnc) hxn (by omega) hR hI.1) ym_Se_meet wd_ml_Js_46 wd_im_Se_meet wd_se_Se_meet [0, 1, 2] (by decide) rfl hA hK hst hP hD hS (ci := 4) (q0 := 0) rfl rfl rfl rfl hl.1 rfl (Nat.le_of_ble_eq_true rfl) ⟨Nat.le_of_ble_eq_true rfl, Nat.le_of_ble_eq_true rfl⟩ ⟨Nat.le_of_ble_eq_true rfl, Nat.le_of_ble_eq_true rfl⟩ d_Js_meetNext_35) (fun u_39 H locs hR hP hD hS => ?_)
      have hP : va_P E.1 vwCl [(h0, .inr (1, [.ref b1, .ref b2, .ref b3, .ref b4, .int (nI jc)])), (b1, zI E 4 fS), (b2, zI E 4 fF), (b3, zI E 4 fW), (b4, zI E 4 fV), (g0, .inr (4, [.ref a1, .ref a2, .int (nI (bfs_mt (jg_l1 sz x st i) x (x + (sz i - jg_d x i) * 10 ^ i, i + 1)).2.length)])), (a1, zI E n u_39.1), (a2, zI E n u_39.2)] H := hP
      have hD : va_D A [(h0, .inr (1, [.ref b1, .ref b2, .ref b3, .ref b4, .int (nI jc)])), (b1, zI E 4 fS), (b2, zI E 4 fF), (b3, zI E 4 fW), (b4, zI E 4 fV), (g0, .inr (4, [.ref a1, .ref a2, .int (nI (bfs_mt (jg_l1 sz x st i) x (x + (sz i - jg_d x i) * 10 ^ i, i + 1)).2.length)])), (a1, zI E n u_39.1), (a2, zI E n u_39.2)] := hD
      refine lv_iinc (v := nI (i + 1)) (lv' := [(3, .int (nI (i + 1))), (0, .ref h0), (1, .int (nI x)), (2, .ref g0)]) hx hb d_Js_meetNext_38 hl (k := 3) rfl (nI_1 _) (by decide) rfl (fun ls hl => ?_)
      refine lv_goto (tgt := 7) hx hb d_Js_meetNext_41 (by decide) ?_
      have hI2 : bfs_I n x (jg_l1 sz x st (i + 1)) := bfs_mt_I hI hn hxn (Nat.lt_of_lt_of_le (jg_fill_lt hc hic hG.1 hq.2.2.1 (hG.2 i hic)) hnc) (show i + 1 < 256 by omega)
      exact ih (i + 1) u_39.1 u_39.2 (by omega) hR hI2 _ _ ls hP hD hS (lv_sub hl [1, 2, 3, 0] rfl)

set_option maxHeartbeats 4000000 in
set_option maxRecDepth 100000 in
theorem c_Js_meetNext (l : Launch) (E : zG) (h0 b1 b2 b3 b4 jc : Nat) (fS fF fW fV : Nat → Int32) (sz fl : Nat → Nat) (g0 a1 a2 n : Nat) (fT fQ : Nat → Int32) (st : (Nat → Nat) × List Nat) (x : Nat) (hJ : jg_ok jc sz fl fS fF) (hG : jg_good jc sz x) (hn : n ≤ 10000) (hnc : 10 ^ jc ≤ n) (hR : bfs_RS n st fT fQ) (hI : bfs_I n x st) : zMet l y_Js_meetNext b_Js_meetNext 6 none 1 23 0 0 E [.ref h0, .int (nI x), .ref g0] [(h0, .inr (1, [.ref b1, .ref b2, .ref b3, .ref b4, .int (nI jc)])), (b1, zI E 4 fS), (b2, zI E 4 fF), (b3, zI E 4 fW), (b4, zI E 4 fV), (g0, .inr (4, [.ref a1, .ref a2, .int (nI st.2.length)])), (a1, zI E n fT), (a2, zI E n fQ)] (zQv E (S := (Nat → Int32) × (Nat → Int32) × (Nat → Int32)) (fun u => bfs_RS n (jg_next jc sz x st) u.2.1 u.2.2) (fun u => [(h0, .inr (1, [.ref b1, .ref b2, .ref b3, .ref b4, .int (nI jc)])), (b1, zI E 4 fS), (b2, zI E 4 fF), (b3, zI E 4 fW), (b4, zI E 4 u.1), (g0, .inr (4, [.ref a1, .ref a2, .int (nI (jg_next jc sz x st).2.length)])), (a1, zI E n u.2.1), (a2, zI E n u.2.2)])) := by
  refine zz_met (by decide +kernel) (Nat.le_of_ble_eq_true rfl) ?_
  intro p e s m below meth c A ls C hin hA hK hst hP hD hl
  obtain ⟨hx, hb, hr, hml, hown, hts, hlk⟩ := id C
  have hS : va_S A s.heap s.heap [] := va_S.rf
  have hl : lv_has ls 6 [(0, .ref h0), (1, .int (nI x)), (2, .ref g0)] := hl
  obtain ⟨tD, tS, hZD, hTD, hZS, hTS⟩ := id hst
  have hx0 : x < 10000 := by have := hG.1; omega
  refine lv_aload_n hx hb d_Js_meetNext_0 rfl (lv_at hl 0 rfl) ?_
  refine lv_iload_n hx hb d_Js_meetNext_1 rfl (lv_at hl 1 rfl) ?_
  refine zz_gov (wr := [(g0, .inr (4, [.ref a1, .ref a2, .int (nI st.2.length)])), (a1, zI E n fT), (a2, zI E n fQ)]) [0, 1, 2, 3, 4] [5, 6, 7] rfl rfl (by decide) (by decide) hA hP hD hS (zz_runV (wc := [(h0, .inr (1, [.ref b1, .ref b2, .ref b3, .ref b4, .int (nI jc)])), (b1, zI E 4 fS), (b2, zI E 4 fF), (b3, zI E 4 fW), (b4, zI E 4 fV)]) (As := [.int (nI x)]) (rest := []) C (c_Js_readLevels l E h0 b1 b2 b3 b4 jc fS fF fW fV x hJ.1 hx0) ym_Js_readLevels wd_ml_Js_34 wd_im_Js_readLevels wd_se_Js_readLevels [0, 1, 2, 3, 4] (by decide) rfl hA hK hst hP hD hS (ci := 1) (q0 := 0) rfl rfl rfl rfl hl.1 rfl (Nat.le_of_ble_eq_true rfl) ⟨Nat.le_of_ble_eq_true rfl, Nat.le_of_ble_eq_true rfl⟩ ⟨Nat.le_of_ble_eq_true rfl, Nat.le_of_ble_eq_true rfl⟩ d_Js_meetNext_2) (fun u H locs hw hP hD hS => ?_)
  have hP : va_P E.1 vwCl [(g0, .inr (4, [.ref a1, .ref a2, .int (nI st.2.length)])), (a1, zI E n fT), (a2, zI E n fQ), (h0, .inr (1, [.ref b1, .ref b2, .ref b3, .ref b4, .int (nI jc)])), (b1, zI E 4 fS), (b2, zI E 4 fF), (b3, zI E 4 fW), (b4, zI E 4 u)] H := hP
  have hD : va_D A [(g0, .inr (4, [.ref a1, .ref a2, .int (nI st.2.length)])), (a1, zI E n fT), (a2, zI E n fQ), (h0, .inr (1, [.ref b1, .ref b2, .ref b3, .ref b4, .int (nI jc)])), (b1, zI E 4 fS), (b2, zI E 4 fF), (b3, zI E 4 fW), (b4, zI E 4 u)] := hD
  have hP := hP.sub (ws' := [(h0, .inr (1, [.ref b1, .ref b2, .ref b3, .ref b4, .int (nI jc)])), (b1, zI E 4 fS), (b2, zI E 4 fF), (b3, zI E 4 fW), (b4, zI E 4 u), (g0, .inr (4, [.ref a1, .ref a2, .int (nI st.2.length)])), (a1, zI E n fT), (a2, zI E n fQ)]) [3, 4, 5, 6, 7, 0, 1, 2] rfl
  have hD := hD.sub (ws' := [(h0, .inr (1, [.ref b1, .ref b2, .ref b3, .ref b4, .int (nI jc)])), (b1, zI E 4 fS), (b2, zI E 4 fF), (b3, zI E 4 fW), (b4, zI E 4 u), (g0, .inr (4, [.ref a1, .ref a2, .int (nI st.2.length)])), (a1, zI E n fT), (a2, zI E n fQ)]) [3, 4, 5, 6, 7, 0, 1, 2] (by decide) rfl
  refine lv_iconst (v := 0) hx hb d_Js_meetNext_5 (by decide) ?_
  refine lv_istore_n (lv' := [(3, .int 0), (0, .ref h0), (1, .int (nI x)), (2, .ref g0)]) hx hb d_Js_meetNext_6 rfl hl (by decide) rfl (fun ls hl => ?_)
  have hl := lv_sub (l' := [(0, .ref h0), (1, .int (nI x)), (2, .ref g0), (3, .int (nI 0))]) hl [1, 2, 3, 0] (rfl)
  exact lp_Js_meet1 hJ hG hn hnc hw hZD hTD C hA hK hst jc 0 fT fQ (by omega) hR hI _ _ ls hP hD hS hl
end
section
set_option maxHeartbeats 4000000 in
set_option maxRecDepth 100000 in
theorem c_Rv_init (l : Launch) (E : zG) (h0 : Nat) : zMet l y_Rv_init b_Rv_init 1 none 2 40 2 16 E [.ref h0] [(h0, .inr (2, [.null, .null, .int 0, .int 0]))] (zQv E (S := Nat × Nat) (fun _ => True) (fun u => [(h0, .inr (2, [.ref u.1, .ref u.2, .int 0, .int 0])), (u.1, zI E 8 (fun _ => 0)), (u.2, zI E 8 (fun _ => 0))])) := by
  refine zz_met (by decide +kernel) (Nat.le_of_ble_eq_true rfl) ?_
  intro p e s m below meth c A ls C hin hA hK hst hP hD hl
  obtain ⟨hx, hb, hr, hml, hown, hts, hlk⟩ := id C
  have hS : va_S A s.heap s.heap [] := va_S.rf
  have hl : lv_has ls 1 [(0, .ref h0)] := hl
  refine lv_aload_n hx hb d_Rv_init_0 rfl (lv_at hl 0 rfl) ?_
  refine zz_gov (wr := []) [0] [] rfl rfl (by decide) (by decide) hA hP hD hS (zz_runIN (wc := [(h0, .inr (2, [.null, .null, .int 0, .int 0]))]) (As := []) (rest := []) C (c_Pz_init l E h0 2 [.null, .null, .int 0, .int 0]) ym_Pz_init wd_mn_Rv_3 wd_im_Pz_init rfl [0] (by decide) rfl hA hK hst hP hD hS rfl hl.1 rfl (Nat.le_of_ble_eq_true rfl) ⟨Nat.le_of_ble_eq_true rfl, Nat.le_of_ble_eq_true rfl⟩ ⟨Nat.le_of_ble_eq_true rfl, Nat.le_of_ble_eq_true rfl⟩ d_Rv_init_1) (fun u H locs hw hP hD hS => ?_)
  have hP : va_P E.1 vwCl [(h0, .inr (2, [.null, .null, .int 0, .int 0]))] H := hP
  have hD : va_D A [(h0, .inr (2, [.null, .null, .int 0, .int 0]))] := hD
  refine lv_aload_n hx hb d_Rv_init_4 rfl (lv_at hl 0 rfl) ?_
  refine lv_bipush (v := 8) hx hb d_Rv_init_5 (by decide) ?_
  refine zz_eqi (show (8 : Int32) = nI 8 from rfl) ?_
  refine zz_newI C hK hP hD hS hA (by decide) wd_ac_I (Nat.le_of_ble_eq_true rfl) (Nat.le_of_ble_eq_true rfl) d_Rv_init_7 (fun q_2 H hP hD hS => ?_)
  have hP : va_P E.1 vwCl [(h0, .inr (2, [.null, .null, .int 0, .int 0])), (q_2, zI E 8 (fun _ => 0))] H := hP
  have hD : va_D A [(h0, .inr (2, [.null, .null, .int 0, .int 0])), (q_2, zI E 8 (fun _ => 0))] := hD
  refine zz_putF C hin hK hP hD hS fl_Rv_11 (fun q h => by cases h; rfl) 0 rfl rfl rfl (Nat.le_of_ble_eq_true rfl) d_Rv_init_9 (fun H locs hP hD hS => ?_)
  have hP : va_P E.1 vwCl [(h0, .inr (2, [.ref q_2, .null, .int 0, .int 0])), (q_2, zI E 8 (fun _ => 0))] H := hP
  have hD : va_D A [(h0, .inr (2, [.ref q_2, .null, .int 0, .int 0])), (q_2, zI E 8 (fun _ => 0))] := hD
  refine lv_aload_n hx hb d_Rv_init_12 rfl (lv_at hl 0 rfl) ?_
  refine lv_bipush (v := 8) hx hb d_Rv_init_13 (by decide) ?_
  refine zz_eqi (show (8 : Int32) = nI 8 from rfl) ?_
  refine zz_newI C hK hP hD hS hA (by decide) wd_ac_I (Nat.le_of_ble_eq_true rfl) (Nat.le_of_ble_eq_true rfl) d_Rv_init_15 (fun q_3 H hP hD hS => ?_)
  have hP : va_P E.1 vwCl [(h0, .inr (2, [.ref q_2, .null, .int 0, .int 0])), (q_2, zI E 8 (fun _ => 0)), (q_3, zI E 8 (fun _ => 0))] H := hP
  have hD : va_D A [(h0, .inr (2, [.ref q_2, .null, .int 0, .int 0])), (q_2, zI E 8 (fun _ => 0)), (q_3, zI E 8 (fun _ => 0))] := hD
  refine zz_putF C hin hK hP hD hS fl_Rv_15 (fun q h => by cases h; rfl) 0 rfl rfl rfl (Nat.le_of_ble_eq_true rfl) d_Rv_init_17 (fun H locs hP hD hS => ?_)
  have hP : va_P E.1 vwCl [(h0, .inr (2, [.ref q_2, .ref q_3, .int 0, .int 0])), (q_2, zI E 8 (fun _ => 0)), (q_3, zI E 8 (fun _ => 0))] H := hP
  have hD : va_D A [(h0, .inr (2, [.ref q_2, .ref q_3, .int 0, .int 0])), (q_2, zI E 8 (fun _ => 0)), (q_3, zI E 8 (fun _ => 0))] := hD
  exact zz_retv C hS (q_2, q_3) (trivial) hP hD d_Rv_init_20

set_option maxHeartbeats 4000000 in
set_option maxRecDepth 100000 in
theorem c_Rv_clear (l : Launch) (E : zG) (h0 c1 c2 : Nat) (fL fN : Nat → Int32) (bo : Int32) (tt : Int32) : zMet l y_Rv_clear b_Rv_clear 1 none 1 23 0 0 E [.ref h0] [(h0, .inr (2, [.ref c1, .ref c2, .int tt, .int bo])), (c1, zI E 8 fL), (c2, zI E 8 fN)] (zQv E (S := (Nat → Int32) × (Nat → Int32)) (fun u => (∀ j, j < 8 → u.1 j = -1) ∧ (∀ j, j < 8 → u.2 j = 0)) (fun u => [(h0, .inr (2, [.ref c1, .ref c2, .int 0, .int 0])), (c1, zI E 8 u.1), (c2, zI E 8 u.2)])) := by
  refine zz_met (by decide +kernel) (Nat.le_of_ble_eq_true rfl) ?_
  intro p e s m below meth c A ls C hin hA hK hst hP hD hl
  obtain ⟨hx, hb, hr, hml, hown, hts, hlk⟩ := id C
  have hS : va_S A s.heap s.heap [] := va_S.rf
  have hl : lv_has ls 1 [(0, .ref h0)] := hl
  refine lv_aload_n hx hb d_Rv_clear_0 rfl (lv_at hl 0 rfl) ?_
  refine zz_get C hK hP fl_Rv_11 0 rfl rfl d_Rv_clear_1 ?_
  refine lv_iconst (v := (-1)) hx hb d_Rv_clear_4 (by decide) ?_
  refine zz_gov (wr := [(h0, .inr (2, [.ref c1, .ref c2, .int tt, .int bo])), (c2, zI E 8 fN)]) [1] [0, 2] rfl rfl (by decide) (by decide) hA hP hD hS (zz_runS (wc := [(c1, zI E 8 fL)]) (As := [.ref c1, .int (-1)]) (rest := []) C (c_Ar_fill l E c1 8 fL (-1) (by decide)) ym_Ar_fill wd_ml_Rv_18 wd_st_Ar_fill [1] (by decide) rfl hA hK hst hP hD hS rfl hl.1 rfl (Nat.le_of_ble_eq_true rfl) ⟨Nat.le_of_ble_eq_true rfl, Nat.le_of_ble_eq_true rfl⟩ ⟨Nat.le_of_ble_eq_true rfl, Nat.le_of_ble_eq_true rfl⟩ d_Rv_clear_5) (fun u1 H locs h1 hP hD hS => ?_)
  have hP : va_P E.1 vwCl [(h0, .inr (2, [.ref c1, .ref c2, .int tt, .int bo])), (c2, zI E 8 fN), (c1, zI E 8 u1)] H := hP
  have hD : va_D A [(h0, .inr (2, [.ref c1, .ref c2, .int tt, .int bo])), (c2, zI E 8 fN), (c1, zI E 8 u1)] := hD
  refine lv_aload_n hx hb d_Rv_clear_8 rfl (lv_at hl 0 rfl) ?_
  refine zz_get C hK hP fl_Rv_15 0 rfl rfl d_Rv_clear_9 ?_
  refine lv_iconst (v := 0) hx hb d_Rv_clear_12 (by decide) ?_
  refine zz_gov (wr := [(h0, .inr (2, [.ref c1, .ref c2, .int tt, .int bo])), (c1, zI E 8 u1)]) [1] [0, 2] rfl rfl (by decide) (by decide) hA hP hD hS (zz_runS (wc := [(c2, zI E 8 fN)]) (As := [.ref c2, .int 0]) (rest := []) C (c_Ar_fill l E c2 8 fN 0 (by decide)) ym_Ar_fill wd_ml_Rv_18 wd_st_Ar_fill [1] (by decide) rfl hA hK hst hP hD hS rfl hl.1 rfl (Nat.le_of_ble_eq_true rfl) ⟨Nat.le_of_ble_eq_true rfl, Nat.le_of_ble_eq_true rfl⟩ ⟨Nat.le_of_ble_eq_true rfl, Nat.le_of_ble_eq_true rfl⟩ d_Rv_clear_13) (fun u2 H locs h2 hP hD hS => ?_)
  have hP : va_P E.1 vwCl [(h0, .inr (2, [.ref c1, .ref c2, .int tt, .int bo])), (c1, zI E 8 u1), (c2, zI E 8 u2)] H := hP
  have hD : va_D A [(h0, .inr (2, [.ref c1, .ref c2, .int tt, .int bo])), (c1, zI E 8 u1), (c2, zI E 8 u2)] := hD
  refine lv_aload_n hx hb d_Rv_clear_16 rfl (lv_at hl 0 rfl) ?_
  refine lv_iconst (v := 0) hx hb d_Rv_clear_17 (by decide) ?_
  refine zz_put C hK hP hD hS fl_Rv_24 0 rfl rfl rfl (Nat.le_of_ble_eq_true rfl) d_Rv_clear_18 (fun H locs hP hD hS => ?_)
  have hP : va_P E.1 vwCl [(h0, .inr (2, [.ref c1, .ref c2, .int 0, .int bo])), (c1, zI E 8 u1), (c2, zI E 8 u2)] H := hP
  have hD : va_D A [(h0, .inr (2, [.ref c1, .ref c2, .int 0, .int bo])), (c1, zI E 8 u1), (c2, zI E 8 u2)] := hD
  refine lv_aload_n hx hb d_Rv_clear_21 rfl (lv_at hl 0 rfl) ?_
  refine lv_iconst (v := 0) hx hb d_Rv_clear_22 (by decide) ?_
  refine zz_put C hK hP hD hS fl_Rv_28 0 rfl rfl rfl (Nat.le_of_ble_eq_true rfl) d_Rv_clear_23 (fun H locs hP hD hS => ?_)
  have hP : va_P E.1 vwCl [(h0, .inr (2, [.ref c1, .ref c2, .int 0, .int 0])), (c1, zI E 8 u1), (c2, zI E 8 u2)] H := hP
  have hD : va_D A [(h0, .inr (2, [.ref c1, .ref c2, .int 0, .int 0])), (c1, zI E 8 u1), (c2, zI E 8 u2)] := hD
  have hP := hP.sub (ws' := [(h0, .inr (2, [.ref c1, .ref c2, .int 0, .int 0])), (c1, zI E 8 u1), (c2, zI E 8 u2)]) [0, 1, 2] rfl
  have hD := hD.sub (ws' := [(h0, .inr (2, [.ref c1, .ref c2, .int 0, .int 0])), (c1, zI E 8 u1), (c2, zI E 8 u2)]) [0, 1, 2] (by decide) rfl
  exact zz_retv C hS (u1, u2) (⟨h1, h2⟩) hP hD d_Rv_clear_26

set_option maxHeartbeats 4000000 in
set_option maxRecDepth 100000 in
theorem c_Rv_addThing (l : Launch) (E : zG) (h0 c1 c2 tn : Nat) (fL fN : Nat → Int32) (bo : Int32) (x : Int32) : zMet l y_Rv_addThing b_Rv_addThing 3 (some .boolean) 0 0 0 0 E [.ref h0, .int x] [(h0, .inr (2, [.ref c1, .ref c2, .int (nI tn), .int bo])), (c1, zI E 8 fL), (c2, zI E 8 fN)] (zQi E (S := (Nat → Int32) × Nat) (fun r u => (rv_addok fL x → r = 1 ∧ u = (upd fL (x - 97).toNatClampNeg (nI tn), tn + 1)) ∧ (¬ rv_addok fL x → r = 0 ∧ u = (fL, tn))) (fun u => [(h0, .inr (2, [.ref c1, .ref c2, .int (nI u.2), .int bo])), (c1, zI E 8 u.1), (c2, zI E 8 fN)])) := by
  refine zz_met (by decide +kernel) (Nat.le_of_ble_eq_true rfl) ?_
  intro p e s m below meth c A ls C hin hA hK hst hP hD hl
  obtain ⟨hx, hb, hr, hml, hown, hts, hlk⟩ := id C
  have hS : va_S A s.heap s.heap [] := va_S.rf
  have hl : lv_has ls 3 [(0, .ref h0), (1, .int x)] := hl
  refine lv_iload_n hx hb d_Rv_addThing_0 rfl (lv_at hl 1 rfl) ?_
  refine lv_bipush (v := 97) hx hb d_Rv_addThing_1 (by decide) ?_
  refine lv_isub hx hb d_Rv_addThing_3 ?_
  refine lv_istore_n (lv' := [(2, .int (x - 97)), (0, .ref h0), (1, .int x)]) hx hb d_Rv_addThing_4 rfl hl (by decide) rfl (fun ls hl => ?_)
  refine lv_iload_n hx hb d_Rv_addThing_5 rfl (lv_at hl 0 rfl) ?_
  refine lv_if_lt (tgt := 25) hx hb d_Rv_addThing_6 (by decide) (fun c_6 => ?_) (fun c_6 => ?_)
  · refine lv_iconst (v := 0) hx hb d_Rv_addThing_25 (by decide) ?_
    exact zz_reti C (rfl) hS (fL, tn) (⟨fun h => absurd h (by intro h; exact h.1 c_6), fun _ => ⟨rfl, rfl⟩⟩) hP hD d_Rv_addThing_26
  · refine lv_iload_n hx hb d_Rv_addThing_9 rfl (lv_at hl 0 rfl) ?_
    refine lv_bipush (v := 8) hx hb d_Rv_addThing_10 (by decide) ?_
    refine lv_icmp_ge (tgt := 25) hx hb d_Rv_addThing_12 (by decide) (fun c_7 => ?_) (fun c_7 => ?_)
    · refine lv_iconst (v := 0) hx hb d_Rv_addThing_25 (by decide) ?_
      exact zz_reti C (rfl) hS (fL, tn) (⟨fun h => absurd h (by intro h; exact h.2.1 c_7), fun _ => ⟨rfl, rfl⟩⟩) hP hD d_Rv_addThing_26
    · refine lv_aload_n hx hb d_Rv_addThing_15 rfl (lv_at hl 1 rfl) ?_
      refine zz_get C hK hP fl_Rv_11 0 rfl rfl d_Rv_addThing_16 ?_
      refine lv_iload_n hx hb d_Rv_addThing_19 rfl (lv_at hl 0 rfl) ?_
      refine zz_iald C hK hP 1 rfl (rv_vp8 c_6 c_7) d_Rv_addThing_20 ?_
      refine lv_iconst (v := (-1)) hx hb d_Rv_addThing_21 (by decide) ?_
      refine lv_icmp_eq (tgt := 27) hx hb d_Rv_addThing_22 (by decide) (fun c_8 => ?_) (fun c_8 => ?_)
      · refine lv_aload_n hx hb d_Rv_addThing_27 rfl (lv_at hl 1 rfl) ?_
        refine zz_get C hK hP fl_Rv_11 0 rfl rfl d_Rv_addThing_28 ?_
        refine lv_iload_n hx hb d_Rv_addThing_31 rfl (lv_at hl 0 rfl) ?_
        refine lv_aload_n hx hb d_Rv_addThing_32 rfl (lv_at hl 1 rfl) ?_
        refine zz_get C hK hP fl_Rv_24 0 rfl rfl d_Rv_addThing_33 ?_
        refine zz_iast C hK hP hD hS 1 rfl (rv_vp8 c_6 c_7) d_Rv_addThing_36 (fun H locs hP hD hS => ?_)
        have hP : va_P E.1 vwCl [(h0, .inr (2, [.ref c1, .ref c2, .int (nI tn), .int bo])), (c1, zI E 8 (upd fL (x - 97).toNatClampNeg (nI tn))), (c2, zI E 8 fN)] H := hP
        have hD : va_D A [(h0, .inr (2, [.ref c1, .ref c2, .int (nI tn), .int bo])), (c1, zI E 8 (upd fL (x - 97).toNatClampNeg (nI tn))), (c2, zI E 8 fN)] := hD
        refine lv_aload_n hx hb d_Rv_addThing_37 rfl (lv_at hl 1 rfl) ?_
        refine lv_dup hx hb d_Rv_addThing_38 rfl ?_
        refine zz_get C hK hP fl_Rv_24 0 rfl rfl d_Rv_addThing_39 ?_
        refine lv_iconst (v := 1) hx hb d_Rv_addThing_42 (by decide) ?_
        refine lv_iadd hx hb d_Rv_addThing_43 ?_
        refine zz_eqi (y := nI (tn + 1)) (nI_1 _) ?_
        refine zz_put C hK hP hD hS fl_Rv_24 0 rfl rfl rfl (Nat.le_of_ble_eq_true rfl) d_Rv_addThing_44 (fun H locs hP hD hS => ?_)
        have hP : va_P E.1 vwCl [(h0, .inr (2, [.ref c1, .ref c2, .int (nI (tn + 1)), .int bo])), (c1, zI E 8 (upd fL (x - 97).toNatClampNeg (nI tn))), (c2, zI E 8 fN)] H := hP
        have hD : va_D A [(h0, .inr (2, [.ref c1, .ref c2, .int (nI (tn + 1)), .int bo])), (c1, zI E 8 (upd fL (x - 97).toNatClampNeg (nI tn))), (c2, zI E 8 fN)] := hD
        refine lv_iconst (v := 1) hx hb d_Rv_addThing_47 (by decide) ?_
        exact zz_reti C (rfl) hS (upd fL (x - 97).toNatClampNeg (nI tn), tn + 1) (⟨fun _ => ⟨rfl, rfl⟩, fun h => absurd ⟨c_6, c_7, c_8⟩ h⟩) hP hD d_Rv_addThing_48
      · refine lv_iconst (v := 0) hx hb d_Rv_addThing_25 (by decide) ?_
        exact zz_reti C (rfl) hS (fL, tn) (⟨fun h => absurd h (by intro h; exact c_8 h.2.2), fun _ => ⟨rfl, rfl⟩⟩) hP hD d_Rv_addThing_26

set_option maxHeartbeats 4000000 in
set_option maxRecDepth 100000 in
theorem c_Rv_thingOf (l : Launch) (E : zG) (h0 c1 c2 tn : Nat) (fL fN : Nat → Int32) (bo : Int32) (x : Int32) : zMet l y_Rv_thingOf b_Rv_thingOf 3 (some .int) 0 0 0 0 E [.ref h0, .int x] [(h0, .inr (2, [.ref c1, .ref c2, .int (nI tn), .int bo])), (c1, zI E 8 fL), (c2, zI E 8 fN)] (zQi E (S := Unit) (fun r _ => r = rv_thing fL x) (fun _ => [(h0, .inr (2, [.ref c1, .ref c2, .int (nI tn), .int bo])), (c1, zI E 8 fL), (c2, zI E 8 fN)])) := by
  refine zz_met (by decide +kernel) (Nat.le_of_ble_eq_true rfl) ?_
  intro p e s m below meth c A ls C hin hA hK hst hP hD hl
  obtain ⟨hx, hb, hr, hml, hown, hts, hlk⟩ := id C
  have hS : va_S A s.heap s.heap [] := va_S.rf
  have hl : lv_has ls 3 [(0, .ref h0), (1, .int x)] := hl
  refine lv_iload_n hx hb d_Rv_thingOf_0 rfl (lv_at hl 1 rfl) ?_
  refine lv_bipush (v := 97) hx hb d_Rv_thingOf_1 (by decide) ?_
  refine lv_isub hx hb d_Rv_thingOf_3 ?_
  refine lv_istore_n (lv' := [(2, .int (x - 97)), (0, .ref h0), (1, .int x)]) hx hb d_Rv_thingOf_4 rfl hl (by decide) rfl (fun ls hl => ?_)
  refine lv_iload_n hx hb d_Rv_thingOf_5 rfl (lv_at hl 0 rfl) ?_
  refine lv_if_lt (tgt := 15) hx hb d_Rv_thingOf_6 (by decide) (fun c_9 => ?_) (fun c_9 => ?_)
  · refine lv_iconst (v := (-1)) hx hb d_Rv_thingOf_15 (by decide) ?_
    refine lv_goto (tgt := 25) hx hb d_Rv_thingOf_16 (by decide) ?_
    exact zz_reti C (rfl) hS () ((if_neg (fun h => h.1 c_9)).symm) hP hD d_Rv_thingOf_25
  · refine lv_iload_n hx hb d_Rv_thingOf_9 rfl (lv_at hl 0 rfl) ?_
    refine lv_bipush (v := 8) hx hb d_Rv_thingOf_10 (by decide) ?_
    refine lv_icmp_lt (tgt := 19) hx hb d_Rv_thingOf_12 (by decide) (fun c_10 => ?_) (fun c_10 => ?_)
    · refine lv_aload_n hx hb d_Rv_thingOf_19 rfl (lv_at hl 1 rfl) ?_
      refine zz_get C hK hP fl_Rv_11 0 rfl rfl d_Rv_thingOf_20 ?_
      refine lv_iload_n hx hb d_Rv_thingOf_23 rfl (lv_at hl 0 rfl) ?_
      refine zz_iald C hK hP 1 rfl (rv_vp8l c_9 c_10) d_Rv_thingOf_24 ?_
      exact zz_reti C (rfl) hS () ((if_pos (c := rv_lok x) ⟨c_9, c_10⟩).symm) hP hD d_Rv_thingOf_25
    · refine lv_iconst (v := (-1)) hx hb d_Rv_thingOf_15 (by decide) ?_
      refine lv_goto (tgt := 25) hx hb d_Rv_thingOf_16 (by decide) ?_
      exact zz_reti C (rfl) hS () ((if_neg (fun h => c_10 h.2)).symm) hP hD d_Rv_thingOf_25

set_option maxHeartbeats 4000000 in
set_option maxRecDepth 100000 in
theorem c_Rv_keepApart (l : Launch) (E : zG) (h0 c1 c2 tn : Nat) (fL fN : Nat → Int32) (bo : Int32) (x y : Int32) (ht : tn ≤ 8) : zMet l y_Rv_keepApart b_Rv_keepApart 3 (some .boolean) 0 0 0 0 E [.ref h0, .int x, .int y] [(h0, .inr (2, [.ref c1, .ref c2, .int (nI tn), .int bo])), (c1, zI E 8 fL), (c2, zI E 8 fN)] (zQi E (S := Nat → Int32) (fun r u => (rv_kok tn x y → r = 1 ∧ u = rv_keep fN x y) ∧ (¬ rv_kok tn x y → r = 0 ∧ u = fN)) (fun u => [(h0, .inr (2, [.ref c1, .ref c2, .int (nI tn), .int bo])), (c1, zI E 8 fL), (c2, zI E 8 u)])) := by
  refine zz_met (by decide +kernel) (Nat.le_of_ble_eq_true rfl) ?_
  intro p e s m below meth c A ls C hin hA hK hst hP hD hl
  obtain ⟨hx, hb, hr, hml, hown, hts, hlk⟩ := id C
  have hS : va_S A s.heap s.heap [] := va_S.rf
  have hl : lv_has ls 3 [(0, .ref h0), (1, .int x), (2, .int y)] := hl
  refine lv_iload_n hx hb d_Rv_keepApart_0 rfl (lv_at hl 1 rfl) ?_
  refine lv_if_lt (tgt := 29) hx hb d_Rv_keepApart_1 (by decide) (fun c_11 => ?_) (fun c_11 => ?_)
  · refine lv_iconst (v := 0) hx hb d_Rv_keepApart_29 (by decide) ?_
    exact zz_reti C (rfl) hS fN (⟨fun h => absurd h (by intro h; exact h.1 c_11), fun _ => ⟨rfl, rfl⟩⟩) hP hD d_Rv_keepApart_30
  · refine lv_iload_n hx hb d_Rv_keepApart_4 rfl (lv_at hl 1 rfl) ?_
    refine lv_aload_n hx hb d_Rv_keepApart_5 rfl (lv_at hl 0 rfl) ?_
    refine zz_get C hK hP fl_Rv_24 0 rfl rfl d_Rv_keepApart_6 ?_
    refine lv_icmp_ge (tgt := 29) hx hb d_Rv_keepApart_9 (by decide) (fun c_12 => ?_) (fun c_12 => ?_)
    · refine lv_iconst (v := 0) hx hb d_Rv_keepApart_29 (by decide) ?_
      exact zz_reti C (rfl) hS fN (⟨fun h => absurd h (by intro h; exact h.2.1 c_12), fun _ => ⟨rfl, rfl⟩⟩) hP hD d_Rv_keepApart_30
    · refine lv_iload_n hx hb d_Rv_keepApart_12 rfl (lv_at hl 2 rfl) ?_
      refine lv_if_lt (tgt := 29) hx hb d_Rv_keepApart_13 (by decide) (fun c_13 => ?_) (fun c_13 => ?_)
      · refine lv_iconst (v := 0) hx hb d_Rv_keepApart_29 (by decide) ?_
        exact zz_reti C (rfl) hS fN (⟨fun h => absurd h (by intro h; exact h.2.2.1 c_13), fun _ => ⟨rfl, rfl⟩⟩) hP hD d_Rv_keepApart_30
      · refine lv_iload_n hx hb d_Rv_keepApart_16 rfl (lv_at hl 2 rfl) ?_
        refine lv_aload_n hx hb d_Rv_keepApart_17 rfl (lv_at hl 0 rfl) ?_
        refine zz_get C hK hP fl_Rv_24 0 rfl rfl d_Rv_keepApart_18 ?_
        refine lv_icmp_ge (tgt := 29) hx hb d_Rv_keepApart_21 (by decide) (fun c_14 => ?_) (fun c_14 => ?_)
        · refine lv_iconst (v := 0) hx hb d_Rv_keepApart_29 (by decide) ?_
          exact zz_reti C (rfl) hS fN (⟨fun h => absurd h (by intro h; exact h.2.2.2.1 c_14), fun _ => ⟨rfl, rfl⟩⟩) hP hD d_Rv_keepApart_30
        · refine lv_iload_n hx hb d_Rv_keepApart_24 rfl (lv_at hl 1 rfl) ?_
          refine lv_iload_n hx hb d_Rv_keepApart_25 rfl (lv_at hl 2 rfl) ?_
          refine lv_icmp_ne (tgt := 31) hx hb d_Rv_keepApart_26 (by decide) (fun c_15 => ?_) (fun c_15 => ?_)
          · refine lv_aload_n hx hb d_Rv_keepApart_31 rfl (lv_at hl 0 rfl) ?_
            refine zz_get C hK hP fl_Rv_15 0 rfl rfl d_Rv_keepApart_32 ?_
            refine lv_iload_n hx hb d_Rv_keepApart_35 rfl (lv_at hl 1 rfl) ?_
            refine lv_dup2_11 hx hb d_Rv_keepApart_36 rfl rfl ?_
            refine zz_iald C hK hP 2 rfl (rv_vpt ht c_11 c_12) d_Rv_keepApart_37 ?_
            refine lv_iconst (v := 1) hx hb d_Rv_keepApart_38 (by decide) ?_
            refine lv_iload_n hx hb d_Rv_keepApart_39 rfl (lv_at hl 2 rfl) ?_
            refine lv_ishl hx hb d_Rv_keepApart_40 ?_
            refine lv_ior hx hb d_Rv_keepApart_41 ?_
            refine zz_iast C hK hP hD hS 2 rfl (rv_vpt ht c_11 c_12) d_Rv_keepApart_42 (fun H locs hP hD hS => ?_)
            have hP : va_P E.1 vwCl [(h0, .inr (2, [.ref c1, .ref c2, .int (nI tn), .int bo])), (c1, zI E 8 fL), (c2, zI E 8 (upd fN x.toNatClampNeg ((fN x.toNatClampNeg) ||| (1 <<< (y &&& 31)))))] H := hP
            have hD : va_D A [(h0, .inr (2, [.ref c1, .ref c2, .int (nI tn), .int bo])), (c1, zI E 8 fL), (c2, zI E 8 (upd fN x.toNatClampNeg ((fN x.toNatClampNeg) ||| (1 <<< (y &&& 31)))))] := hD
            refine lv_aload_n hx hb d_Rv_keepApart_43 rfl (lv_at hl 0 rfl) ?_
            refine zz_get C hK hP fl_Rv_15 0 rfl rfl d_Rv_keepApart_44 ?_
            refine lv_iload_n hx hb d_Rv_keepApart_47 rfl (lv_at hl 2 rfl) ?_
            refine lv_dup2_11 hx hb d_Rv_keepApart_48 rfl rfl ?_
            refine zz_iald C hK hP 2 rfl (rv_vpt ht c_13 c_14) d_Rv_keepApart_49 ?_
            refine lv_iconst (v := 1) hx hb d_Rv_keepApart_50 (by decide) ?_
            refine lv_iload_n hx hb d_Rv_keepApart_51 rfl (lv_at hl 1 rfl) ?_
            refine lv_ishl hx hb d_Rv_keepApart_52 ?_
            refine lv_ior hx hb d_Rv_keepApart_53 ?_
            refine zz_iast C hK hP hD hS 2 rfl (rv_vpt ht c_13 c_14) d_Rv_keepApart_54 (fun H locs hP hD hS => ?_)
            have hP : va_P E.1 vwCl [(h0, .inr (2, [.ref c1, .ref c2, .int (nI tn), .int bo])), (c1, zI E 8 fL), (c2, zI E 8 (upd (upd fN x.toNatClampNeg ((fN x.toNatClampNeg) ||| (1 <<< (y &&& 31)))) y.toNatClampNeg (((upd fN x.toNatClampNeg ((fN x.toNatClampNeg) ||| (1 <<< (y &&& 31)))) y.toNatClampNeg) ||| (1 <<< (x &&& 31)))))] H := hP
            have hD : va_D A [(h0, .inr (2, [.ref c1, .ref c2, .int (nI tn), .int bo])), (c1, zI E 8 fL), (c2, zI E 8 (upd (upd fN x.toNatClampNeg ((fN x.toNatClampNeg) ||| (1 <<< (y &&& 31)))) y.toNatClampNeg (((upd fN x.toNatClampNeg ((fN x.toNatClampNeg) ||| (1 <<< (y &&& 31)))) y.toNatClampNeg) ||| (1 <<< (x &&& 31)))))] := hD
            refine lv_iconst (v := 1) hx hb d_Rv_keepApart_55 (by decide) ?_
            exact zz_reti C (rfl) hS (rv_keep fN x y) (⟨fun _ => ⟨rfl, rfl⟩, fun h => absurd ⟨c_11, c_12, c_13, c_14, c_15⟩ h⟩) hP hD d_Rv_keepApart_56
          · refine lv_iconst (v := 0) hx hb d_Rv_keepApart_29 (by decide) ?_
            exact zz_reti C (rfl) hS fN (⟨fun h => absurd h (by intro h; exact h.2.2.2.2 c_15), fun _ => ⟨rfl, rfl⟩⟩) hP hD d_Rv_keepApart_30

set_option maxHeartbeats 4000000 in
set_option maxRecDepth 100000 in
theorem c_Rv_setBoat (l : Launch) (E : zG) (h0 c1 c2 tn : Nat) (fL fN : Nat → Int32) (bo : Int32) (x : Int32) : zMet l y_Rv_setBoat b_Rv_setBoat 2 (some .boolean) 0 0 0 0 E [.ref h0, .int x] [(h0, .inr (2, [.ref c1, .ref c2, .int (nI tn), .int bo])), (c1, zI E 8 fL), (c2, zI E 8 fN)] (zQi E (S := Int32) (fun r u => ((¬ x < 49 ∧ x ≤ 51) → r = 1 ∧ u = x - 48) ∧ (¬ (¬ x < 49 ∧ x ≤ 51) → r = 0 ∧ u = bo)) (fun u => [(h0, .inr (2, [.ref c1, .ref c2, .int (nI tn), .int u])), (c1, zI E 8 fL), (c2, zI E 8 fN)])) := by
  refine zz_met (by decide +kernel) (Nat.le_of_ble_eq_true rfl) ?_
  intro p e s m below meth c A ls C hin hA hK hst hP hD hl
  obtain ⟨hx, hb, hr, hml, hown, hts, hlk⟩ := id C
  have hS : va_S A s.heap s.heap [] := va_S.rf
  have hl : lv_has ls 2 [(0, .ref h0), (1, .int x)] := hl
  refine lv_iload_n hx hb d_Rv_setBoat_0 rfl (lv_at hl 1 rfl) ?_
  refine lv_bipush (v := 49) hx hb d_Rv_setBoat_1 (by decide) ?_
  refine lv_icmp_lt (tgt := 12) hx hb d_Rv_setBoat_3 (by decide) (fun c_16 => ?_) (fun c_16 => ?_)
  · refine lv_iconst (v := 0) hx hb d_Rv_setBoat_12 (by decide) ?_
    exact zz_reti C (rfl) hS bo (⟨fun h => absurd h (by intro h; exact h.1 c_16), fun _ => ⟨rfl, rfl⟩⟩) hP hD d_Rv_setBoat_13
  · refine lv_iload_n hx hb d_Rv_setBoat_6 rfl (lv_at hl 1 rfl) ?_
    refine lv_bipush (v := 51) hx hb d_Rv_setBoat_7 (by decide) ?_
    refine lv_icmp_le (tgt := 14) hx hb d_Rv_setBoat_9 (by decide) (fun c_17 => ?_) (fun c_17 => ?_)
    · refine lv_aload_n hx hb d_Rv_setBoat_14 rfl (lv_at hl 0 rfl) ?_
      refine lv_iload_n hx hb d_Rv_setBoat_15 rfl (lv_at hl 1 rfl) ?_
      refine lv_bipush (v := 48) hx hb d_Rv_setBoat_16 (by decide) ?_
      refine lv_isub hx hb d_Rv_setBoat_18 ?_
      refine zz_put C hK hP hD hS fl_Rv_28 0 rfl rfl rfl (Nat.le_of_ble_eq_true rfl) d_Rv_setBoat_19 (fun H locs hP hD hS => ?_)
      have hP : va_P E.1 vwCl [(h0, .inr (2, [.ref c1, .ref c2, .int (nI tn), .int (x - 48)])), (c1, zI E 8 fL), (c2, zI E 8 fN)] H := hP
      have hD : va_D A [(h0, .inr (2, [.ref c1, .ref c2, .int (nI tn), .int (x - 48)])), (c1, zI E 8 fL), (c2, zI E 8 fN)] := hD
      refine lv_iconst (v := 1) hx hb d_Rv_setBoat_22 (by decide) ?_
      exact zz_reti C (rfl) hS (x - 48) (⟨fun _ => ⟨rfl, rfl⟩, fun h => absurd ⟨c_16, c_17⟩ h⟩) hP hD d_Rv_setBoat_23
    · refine lv_iconst (v := 0) hx hb d_Rv_setBoat_12 (by decide) ?_
      exact zz_reti C (rfl) hS bo (⟨fun h => absurd h (by intro h; exact c_17 h.2), fun _ => ⟨rfl, rfl⟩⟩) hP hD d_Rv_setBoat_13

set_option maxHeartbeats 4000000 in
set_option maxRecDepth 100000 in
theorem c_Rv_stateCount (l : Launch) (E : zG) (h0 c1 c2 tn : Nat) (fL fN : Nat → Int32) (bo : Int32) : zMet l y_Rv_stateCount b_Rv_stateCount 1 (some .int) 0 0 0 0 E [.ref h0] [(h0, .inr (2, [.ref c1, .ref c2, .int (nI tn), .int bo])), (c1, zI E 8 fL), (c2, zI E 8 fN)] (zQi E (S := Unit) (fun r _ => r = nI 512) (fun _ => [(h0, .inr (2, [.ref c1, .ref c2, .int (nI tn), .int bo])), (c1, zI E 8 fL), (c2, zI E 8 fN)])) := by
  refine zz_met (by decide +kernel) (Nat.le_of_ble_eq_true rfl) ?_
  intro p e s m below meth c A ls C hin hA hK hst hP hD hl
  obtain ⟨hx, hb, hr, hml, hown, hts, hlk⟩ := id C
  have hS : va_S A s.heap s.heap [] := va_S.rf
  have hl : lv_has ls 1 [(0, .ref h0)] := hl
  refine lv_sipush (v := 512) hx hb d_Rv_stateCount_0 (by decide) ?_
  exact zz_reti C (rfl) hS () (rfl) hP hD d_Rv_stateCount_3

set_option maxHeartbeats 4000000 in
set_option maxRecDepth 100000 in
theorem c_Rv_startState (l : Launch) (E : zG) (h0 c1 c2 tn : Nat) (fL fN : Nat → Int32) (bo : Int32) : zMet l y_Rv_startState b_Rv_startState 1 (some .int) 0 0 0 0 E [.ref h0] [(h0, .inr (2, [.ref c1, .ref c2, .int (nI tn), .int bo])), (c1, zI E 8 fL), (c2, zI E 8 fN)] (zQi E (S := Unit) (fun r _ => r = nI 0) (fun _ => [(h0, .inr (2, [.ref c1, .ref c2, .int (nI tn), .int bo])), (c1, zI E 8 fL), (c2, zI E 8 fN)])) := by
  refine zz_met (by decide +kernel) (Nat.le_of_ble_eq_true rfl) ?_
  intro p e s m below meth c A ls C hin hA hK hst hP hD hl
  obtain ⟨hx, hb, hr, hml, hown, hts, hlk⟩ := id C
  have hS : va_S A s.heap s.heap [] := va_S.rf
  have hl : lv_has ls 1 [(0, .ref h0)] := hl
  refine lv_iconst (v := 0) hx hb d_Rv_startState_0 (by decide) ?_
  exact zz_reti C (rfl) hS () (rfl) hP hD d_Rv_startState_1

set_option maxHeartbeats 4000000 in
set_option maxRecDepth 100000 in
theorem c_Rv_allThings (l : Launch) (E : zG) (h0 c1 c2 tn : Nat) (fL fN : Nat → Int32) (bo : Int32) (ht : tn ≤ 8) : zMet l y_Rv_allThings b_Rv_allThings 1 (some .int) 0 0 0 0 E [.ref h0] [(h0, .inr (2, [.ref c1, .ref c2, .int (nI tn), .int bo])), (c1, zI E 8 fL), (c2, zI E 8 fN)] (zQi E (S := Unit) (fun r _ => r = nI (2 ^ tn - 1)) (fun _ => [(h0, .inr (2, [.ref c1, .ref c2, .int (nI tn), .int bo])), (c1, zI E 8 fL), (c2, zI E 8 fN)])) := by
  refine zz_met (by decide +kernel) (Nat.le_of_ble_eq_true rfl) ?_
  intro p e s m below meth c A ls C hin hA hK hst hP hD hl
  obtain ⟨hx, hb, hr, hml, hown, hts, hlk⟩ := id C
  have hS : va_S A s.heap s.heap [] := va_S.rf
  have hl : lv_has ls 1 [(0, .ref h0)] := hl
  refine lv_iconst (v := 1) hx hb d_Rv_allThings_0 (by decide) ?_
  refine lv_aload_n hx hb d_Rv_allThings_1 rfl (lv_at hl 0 rfl) ?_
  refine zz_get C hK hP fl_Rv_24 0 rfl rfl d_Rv_allThings_2 ?_
  refine lv_ishl hx hb d_Rv_allThings_5 ?_
  refine lv_iconst (v := 1) hx hb d_Rv_allThings_6 (by decide) ?_
  refine lv_isub hx hb d_Rv_allThings_7 ?_
  exact zz_reti C (rfl) hS () (rv_all tn (by omega)) hP hD d_Rv_allThings_8

set_option maxHeartbeats 4000000 in
set_option maxRecDepth 100000 in
theorem c_Rv_firstTold (l : Launch) (E : zG) (h0 c1 c2 tn : Nat) (fL fN : Nat → Int32) (bo : Int32) (k : Int32) : zMet l y_Rv_firstTold b_Rv_firstTold 2 (some .int) 0 0 0 0 E [.ref h0, .int k] [(h0, .inr (2, [.ref c1, .ref c2, .int (nI tn), .int bo])), (c1, zI E 8 fL), (c2, zI E 8 fN)] (zQi E (S := Unit) (fun r _ => r = k) (fun _ => [(h0, .inr (2, [.ref c1, .ref c2, .int (nI tn), .int bo])), (c1, zI E 8 fL), (c2, zI E 8 fN)])) := by
  refine zz_met (by decide +kernel) (Nat.le_of_ble_eq_true rfl) ?_
  intro p e s m below meth c A ls C hin hA hK hst hP hD hl
  obtain ⟨hx, hb, hr, hml, hown, hts, hlk⟩ := id C
  have hS : va_S A s.heap s.heap [] := va_S.rf
  have hl : lv_has ls 2 [(0, .ref h0), (1, .int k)] := hl
  refine lv_iload_n hx hb d_Rv_firstTold_0 rfl (lv_at hl 1 rfl) ?_
  exact zz_reti C (rfl) hS () (rfl) hP hD d_Rv_firstTold_1

set_option maxHeartbeats 4000000 in
set_option maxRecDepth 100000 in
theorem c_Rv_secondTold (l : Launch) (E : zG) (h0 c1 c2 tn : Nat) (fL fN : Nat → Int32) (bo : Int32) (k z : Int32) : zMet l y_Rv_secondTold b_Rv_secondTold 3 (some .int) 0 0 0 0 E [.ref h0, .int k, .int z] [(h0, .inr (2, [.ref c1, .ref c2, .int (nI tn), .int bo])), (c1, zI E 8 fL), (c2, zI E 8 fN)] (zQi E (S := Unit) (fun r _ => r = z &&& 255) (fun _ => [(h0, .inr (2, [.ref c1, .ref c2, .int (nI tn), .int bo])), (c1, zI E 8 fL), (c2, zI E 8 fN)])) := by
  refine zz_met (by decide +kernel) (Nat.le_of_ble_eq_true rfl) ?_
  intro p e s m below meth c A ls C hin hA hK hst hP hD hl
  obtain ⟨hx, hb, hr, hml, hown, hts, hlk⟩ := id C
  have hS : va_S A s.heap s.heap [] := va_S.rf
  have hl : lv_has ls 3 [(0, .ref h0), (1, .int k), (2, .int z)] := hl
  refine lv_iload_n hx hb d_Rv_secondTold_0 rfl (lv_at hl 2 rfl) ?_
  refine lv_sipush (v := 255) hx hb d_Rv_secondTold_1 (by decide) ?_
  refine lv_iand hx hb d_Rv_secondTold_4 ?_
  exact zz_reti C (rfl) hS () (rfl) hP hD d_Rv_secondTold_5

set_option maxHeartbeats 4000000 in
set_option maxRecDepth 100000 in
theorem c_Rv_isDone (l : Launch) (E : zG) (h0 c1 c2 tn : Nat) (fL fN : Nat → Int32) (bo : Int32) (x : Nat) (ht : tn ≤ 8) : zMet l y_Rv_isDone b_Rv_isDone 2 (some .boolean) 1 20 0 0 E [.ref h0, .int (nI x)] [(h0, .inr (2, [.ref c1, .ref c2, .int (nI tn), .int bo])), (c1, zI E 8 fL), (c2, zI E 8 fN)] (zQi E (S := Unit) (fun r _ => (x % 256 = 2 ^ tn - 1 → r = 1) ∧ (¬ x % 256 = 2 ^ tn - 1 → r = 0)) (fun _ => [(h0, .inr (2, [.ref c1, .ref c2, .int (nI tn), .int bo])), (c1, zI E 8 fL), (c2, zI E 8 fN)])) := by
  refine zz_met (by decide +kernel) (Nat.le_of_ble_eq_true rfl) ?_
  intro p e s m below meth c A ls C hin hA hK hst hP hD hl
  obtain ⟨hx, hb, hr, hml, hown, hts, hlk⟩ := id C
  have hS : va_S A s.heap s.heap [] := va_S.rf
  have hl : lv_has ls 2 [(0, .ref h0), (1, .int (nI x))] := hl
  refine lv_iload_n hx hb d_Rv_isDone_0 rfl (lv_at hl 1 rfl) ?_
  refine lv_sipush (v := 255) hx hb d_Rv_isDone_1 (by decide) ?_
  refine lv_iand hx hb d_Rv_isDone_4 ?_
  refine zz_eqi (y := nI (x % 256)) (rv_m255 x) ?_
  refine lv_aload_n hx hb d_Rv_isDone_5 rfl (lv_at hl 0 rfl) ?_
  refine zz_goi (wr := []) [0, 1, 2] [] rfl rfl (by decide) (by decide) hA hP hD hS (zz_runV (wc := [(h0, .inr (2, [.ref c1, .ref c2, .int (nI tn), .int bo])), (c1, zI E 8 fL), (c2, zI E 8 fN)]) (As := []) (rest := [.int (nI (x % 256))]) C (c_Rv_allThings l E h0 c1 c2 tn fL fN bo ht) ym_Rv_allThings wd_ml_Rv_31 wd_im_Rv_allThings wd_se_Rv_allThings [0, 1, 2] (by decide) rfl hA hK hst hP hD hS (ci := 2) (q0 := 0) rfl rfl rfl rfl hl.1 rfl (Nat.le_of_ble_eq_true rfl) ⟨Nat.le_of_ble_eq_true rfl, Nat.le_of_ble_eq_true rfl⟩ ⟨Nat.le_of_ble_eq_true rfl, Nat.le_of_ble_eq_true rfl⟩ d_Rv_isDone_6) (fun r_18 u H locs hw hP hD hS => ?_)
  have hP : va_P E.1 vwCl [(h0, .inr (2, [.ref c1, .ref c2, .int (nI tn), .int bo])), (c1, zI E 8 fL), (c2, zI E 8 fN)] H := hP
  have hD : va_D A [(h0, .inr (2, [.ref c1, .ref c2, .int (nI tn), .int bo])), (c1, zI E 8 fL), (c2, zI E 8 fN)] := hD
  subst hw
  have hp : 2 ^ tn ≤ 2 ^ 8 := Nat.pow_le_pow_right (by decide) ht
  refine lv_icmp_ne (tgt := 16) hx hb d_Rv_isDone_9 (by decide) (fun c_19 => ?_) (fun c_19 => ?_)
  · refine lv_iconst (v := 0) hx hb d_Rv_isDone_16 (by decide) ?_
    exact zz_reti C (rfl) hS () (⟨fun h => absurd (by rw [h]) c_19, fun _ => rfl⟩) hP hD d_Rv_isDone_17
  · refine lv_iconst (v := 1) hx hb d_Rv_isDone_12 (by decide) ?_
    refine lv_goto (tgt := 17) hx hb d_Rv_isDone_13 (by decide) ?_
    exact zz_reti C (rfl) hS () (⟨fun _ => rfl, fun h => absurd ((nI_eq (by omega) (by omega)).mp c_19) h⟩) hP hD d_Rv_isDone_17

set_option maxHeartbeats 4000000 in
set_option maxRecDepth 100000 in
theorem lp_Rv_mayBeLeft {p : Program} {l : Launch} {e : Env} {s : State} {m : MethodId} {below : List Frame} {meth : Method} {c : Code} {A : Nat → Prop}  {E : zG} {h0 c1 c2 tn : Nat} {fL fN : Nat → Int32} {bo : Int32} {nw : Nat → Nat} {m0 : Nat} (hm : m0 < 256) (hN : ∀ j, j < 8 → fN j = nI (nw j) ∧ nw j < 256) (C : cx p s m #[.ref h0, .int (nI m0)] meth c b_Rv_mayBeLeft 3 y_Rv_mayBeLeft.cls (some .boolean)) (hA : ∀ q, s.heap.size ≤ q → A q) (hK : kt E s) (hst : stt A s s.heap) :
    ∀ (f i : Nat) (_ : i + f = 8) (_ : ∀ j, j < i → m0 / 2 ^ j % 2 = 1 → nw j &&& m0 = 0) (H : Heap) (locs : List Loc) (ls : Array Slot), va_P E.1 vwCl [(h0, .inr (2, [.ref c1, .ref c2, .int (nI tn), .int bo])), (c1, zI E 8 fL), (c2, zI E 8 fN)] H → va_D A [(h0, .inr (2, [.ref c1, .ref c2, .int (nI tn), .int bo])), (c1, zI E 8 fL), (c2, zI E 8 fN)] → va_S A s.heap H locs → lv_has ls 3 [(0, .ref h0), (1, .int (nI m0)), (2, .int (nI i))] → W p l e (zR 0 0 0 0) s m #[.ref h0, .int (nI m0)] below meth c H locs 0 0 (MQ below ((zQi E (S := Unit) (fun r _ => (rv_stay nw m0 → r = 1) ∧ (¬ rv_stay nw m0 → r = 0)) (fun _ => [(h0, .inr (2, [.ref c1, .ref c2, .int (nI tn), .int bo])), (c1, zI E 8 fL), (c2, zI E 8 fN)])) A) #[.ref h0, .int (nI m0)] s 0 0 A) (F0 m 2 ls []) := by
  obtain ⟨hx, hb, hr, hml, hown, hts, hlk⟩ := id C
  intro f
  induction f with
  | zero =>
    intro i hi hd H locs ls hP hD hS hl
    have hi : i = 8 := by omega
    subst hi
    refine lv_iload_n hx hb d_Rv_mayBeLeft_2 rfl (lv_at hl 2 rfl) ?_
    refine lv_bipush (v := 8) hx hb d_Rv_mayBeLeft_3 (by decide) ?_
    refine lv_icmp_ge (tgt := 35) hx hb d_Rv_mayBeLeft_5 (by decide) (fun c_20 => ?_) (fun c_20 => ?_)
    · refine lv_iconst (v := 1) hx hb d_Rv_mayBeLeft_35 (by decide) ?_
      exact zz_reti C (rfl) hS () (⟨fun _ => rfl, fun h => absurd hd h⟩) hP hD d_Rv_mayBeLeft_36
    · exact absurd (nI_le (b := 8) (Nat.le_refl _) (by decide)) c_20
  | succ f ih =>
    intro i hi hd H locs ls hP hD hS hl
    have hic : i < 8 := by omega
    have hq := hN i hic
    refine lv_iload_n hx hb d_Rv_mayBeLeft_2 rfl (lv_at hl 2 rfl) ?_
    refine lv_bipush (v := 8) hx hb d_Rv_mayBeLeft_3 (by decide) ?_
    refine lv_icmp_ge (tgt := 35) hx hb d_Rv_mayBeLeft_5 (by decide) (fun c_21 => ?_) (fun c_21 => ?_)
    · exact absurd c_21 (nI_ge (b := 8) hic (by decide))
    · refine lv_iload_n hx hb d_Rv_mayBeLeft_8 rfl (lv_at hl 1 rfl) ?_
      refine lv_iload_n hx hb d_Rv_mayBeLeft_9 rfl (lv_at hl 2 rfl) ?_
      refine lv_ishr hx hb d_Rv_mayBeLeft_10 ?_
      refine lv_iconst (v := 1) hx hb d_Rv_mayBeLeft_11 (by decide) ?_
      refine lv_iand hx hb d_Rv_mayBeLeft_12 ?_
      refine zz_eqi (y := nI (m0 / 2 ^ i % 2)) (rv_bitE hm hic) ?_
      refine lv_if_eq (tgt := 29) hx hb d_Rv_mayBeLeft_13 (by decide) (fun c_22 => ?_) (fun c_22 => ?_)
      · refine lv_iinc (v := nI (i + 1)) (lv' := [(2, .int (nI (i + 1))), (0, .ref h0), (1, .int (nI m0))]) hx hb d_Rv_mayBeLeft_29 hl (k := 2) rfl (nI_1 _) (by decide) rfl (fun ls hl => ?_)
        refine lv_goto (tgt := 2) hx hb d_Rv_mayBeLeft_32 (by decide) ?_
        exact ih (i + 1) (by omega) (lt_s hd (fun h => absurd (c_22.symm.trans (by rw [h])) (by decide))) _ _ ls hP hD hS (lv_sub hl [1, 2, 0] rfl)
      · refine lv_aload_n hx hb d_Rv_mayBeLeft_16 rfl (lv_at hl 0 rfl) ?_
        refine zz_get C hK hP fl_Rv_15 0 rfl rfl d_Rv_mayBeLeft_17 ?_
        refine lv_iload_n hx hb d_Rv_mayBeLeft_20 rfl (lv_at hl 2 rfl) ?_
        refine zz_ialdN C hK hP 2 rfl (j := i) (hic) (by omega) d_Rv_mayBeLeft_21 ?_
        refine lv_iload_n hx hb d_Rv_mayBeLeft_22 rfl (lv_at hl 1 rfl) ?_
        refine lv_iand hx hb d_Rv_mayBeLeft_23 ?_
        refine zz_eqi (y := nI (nw i &&& m0)) (by rw [hq.1, nI_and]) ?_
        refine lv_if_eq (tgt := 29) hx hb d_Rv_mayBeLeft_24 (by decide) (fun c_23 => ?_) (fun c_23 => ?_)
        · refine lv_iinc (v := nI (i + 1)) (lv' := [(2, .int (nI (i + 1))), (0, .ref h0), (1, .int (nI m0))]) hx hb d_Rv_mayBeLeft_29 hl (k := 2) rfl (nI_1 _) (by decide) rfl (fun ls hl => ?_)
          refine lv_goto (tgt := 2) hx hb d_Rv_mayBeLeft_32 (by decide) ?_
          exact ih (i + 1) (by omega) (lt_s hd (fun _ => zz_nI0 c_23 (Nat.lt_of_le_of_lt Nat.and_le_right (by omega)))) _ _ ls hP hD hS (lv_sub hl [1, 2, 0] rfl)
        · refine lv_iconst (v := 0) hx hb d_Rv_mayBeLeft_27 (by decide) ?_
          exact zz_reti C (rfl) hS () (⟨fun h => absurd (h i hic (by
                    rcases Nat.mod_two_eq_zero_or_one (m0 / 2 ^ i) with z | z
                    · exact absurd (by rw [z]; rfl) c_22
                    · exact z)) (fun z => c_23 (by rw [z]; rfl)), fun _ => rfl⟩) hP hD d_Rv_mayBeLeft_28

set_option maxHeartbeats 4000000 in
set_option maxRecDepth 100000 in
theorem c_Rv_mayBeLeft (l : Launch) (E : zG) (h0 c1 c2 tn : Nat) (fL fN : Nat → Int32) (bo : Int32) (nw : Nat → Nat) (m0 : Nat) (hm : m0 < 256) (hN : ∀ j, j < 8 → fN j = nI (nw j) ∧ nw j < 256) : zMet l y_Rv_mayBeLeft b_Rv_mayBeLeft 3 (some .boolean) 0 0 0 0 E [.ref h0, .int (nI m0)] [(h0, .inr (2, [.ref c1, .ref c2, .int (nI tn), .int bo])), (c1, zI E 8 fL), (c2, zI E 8 fN)] (zQi E (S := Unit) (fun r _ => (rv_stay nw m0 → r = 1) ∧ (¬ rv_stay nw m0 → r = 0)) (fun _ => [(h0, .inr (2, [.ref c1, .ref c2, .int (nI tn), .int bo])), (c1, zI E 8 fL), (c2, zI E 8 fN)])) := by
  refine zz_met (by decide +kernel) (Nat.le_of_ble_eq_true rfl) ?_
  intro p e s m below meth c A ls C hin hA hK hst hP hD hl
  obtain ⟨hx, hb, hr, hml, hown, hts, hlk⟩ := id C
  have hS : va_S A s.heap s.heap [] := va_S.rf
  have hl : lv_has ls 3 [(0, .ref h0), (1, .int (nI m0))] := hl
  refine lv_iconst (v := 0) hx hb d_Rv_mayBeLeft_0 (by decide) ?_
  refine lv_istore_n (lv' := [(2, .int 0), (0, .ref h0), (1, .int (nI m0))]) hx hb d_Rv_mayBeLeft_1 rfl hl (by decide) rfl (fun ls hl => ?_)
  have hl := lv_sub (l' := [(0, .ref h0), (1, .int (nI m0)), (2, .int (nI 0))]) hl [1, 2, 0] (rfl)
  exact lp_Rv_mayBeLeft hm hN C hA hK hst 8 0 (by omega) lt_0 _ _ ls hP hD hS hl

set_option maxHeartbeats 4000000 in
set_option maxRecDepth 100000 in
theorem lp_Rv_meetNext {p : Program} {l : Launch} {e : Env} {s : State} {m : MethodId} {below : List Frame} {meth : Method} {c : Code} {A : Nat → Prop}  {E : zG} {h0 c1 c2 tn bt : Nat} {fL fN : Nat → Int32} {nw : Nat → Nat} {g0 a1 a2 n : Nat} {st : (Nat → Nat) × List Nat} {x : Nat} (ht : tn ≤ 8) (hbt : bt ≤ 3) (hN : ∀ j, j < 8 → fN j = nI (nw j) ∧ nw j < 256) (hx0 : x < 512) (hn : n ≤ 10000) (hn5 : 512 ≤ n) {v4 : Int32} {bank on : Nat} (hbank : bank < 256) (hon : on = 0 ∨ on = 256) (C : cx p s m #[.ref h0, .int (nI x), .ref g0] meth c b_Rv_meetNext 9 y_Rv_meetNext.cls none) (hA : ∀ q, s.heap.size ≤ q → A q) (hK : kt E s) (hst : stt A s s.heap) :
    ∀ (f i t : Nat) (S : (Nat → Nat) × List Nat) (fT fQ : Nat → Int32) (_ : i + f = 256) (_ : t < 256) (_ : rv_go nw bt x bank on f t S = rv_next tn nw bt x st) (_ : bfs_RS n S fT fQ) (_ : bfs_I n x S) (H : Heap) (locs : List Loc) (ls : Array Slot), va_P E.1 vwCl [(h0, .inr (2, [.ref c1, .ref c2, .int (nI tn), .int (nI bt)])), (c1, zI E 8 fL), (c2, zI E 8 fN), (g0, .inr (4, [.ref a1, .ref a2, .int (nI S.2.length)])), (a1, zI E n fT), (a2, zI E n fQ)] H → va_D A [(h0, .inr (2, [.ref c1, .ref c2, .int (nI tn), .int (nI bt)])), (c1, zI E 8 fL), (c2, zI E 8 fN), (g0, .inr (4, [.ref a1, .ref a2, .int (nI S.2.length)])), (a1, zI E n fT), (a2, zI E n fQ)] → va_S A s.heap H locs → lv_has ls 9 [(0, .ref h0), (1, .int (nI x)), (2, .ref g0), (3, .int (nI (x % 256))), (4, .int v4), (5, .int (nI bank)), (6, .int (nI on)), (7, .int (nI t)), (8, .int (nI i))] → W p l e (zR 1 23 0 0) s m #[.ref h0, .int (nI x), .ref g0] below meth c H locs 0 0 (MQ below ((zQv E (S := (Nat → Int32) × (Nat → Int32)) (fun u => bfs_RS n (rv_next tn nw bt x st) u.1 u.2) (fun u => [(h0, .inr (2, [.ref c1, .ref c2, .int (nI tn), .int (nI bt)])), (c1, zI E 8 fL), (c2, zI E 8 fN), (g0, .inr (4, [.ref a1, .ref a2, .int (nI (rv_next tn nw bt x st).2.length)])), (a1, zI E n u.1), (a2, zI E n u.2)])) A) #[.ref h0, .int (nI x), .ref g0] s 0 0 A) (F0 m 60 ls []) := by
  obtain ⟨hx, hb, hr, hml, hown, hts, hlk⟩ := id C
  have hxn : x < n := by omega
  intro f
  induction f with
  | zero =>
    intro i t S fT fQ hi ht2 hgo hR hI H locs ls hP hD hS hl
    have hi : i = 256 := by omega
    subst hi
    have hgo : S = rv_next tn nw bt x st := hgo
    subst hgo
    refine lv_iload hx hb d_Rv_meetNext_60 (lv_at hl 8 rfl) ?_
    refine lv_sipush (v := 256) hx hb d_Rv_meetNext_62 (by decide) ?_
    refine lv_icmp_ge (tgt := 132) hx hb d_Rv_meetNext_65 (by decide) (fun c_24 => ?_) (fun c_24 => ?_)
    · exact zz_retv C hS (fT, fQ) (hR) hP hD d_Rv_meetNext_132
    · exact absurd (nI_le (b := 256) (Nat.le_refl _) (by decide)) c_24
  | succ f ih =>
    intro i t S fT fQ hi ht2 hgo hR hI H locs ls hP hD hS hl
    refine lv_iload hx hb d_Rv_meetNext_60 (lv_at hl 8 rfl) ?_
    refine lv_sipush (v := 256) hx hb d_Rv_meetNext_62 (by decide) ?_
    refine lv_icmp_ge (tgt := 132) hx hb d_Rv_meetNext_65 (by decide) (fun c_25 => ?_) (fun c_25 => ?_)
    · exact absurd c_25 (nI_ge (b := 256) (by omega) (by decide))
    · refine lv_iload hx hb d_Rv_meetNext_68 (lv_at hl 7 rfl) ?_
      refine zz_goi (wr := [(h0, .inr (2, [.ref c1, .ref c2, .int (nI tn), .int (nI bt)])), (c1, zI E 8 fL), (c2, zI E 8 fN), (g0, .inr (4, [.ref a1, .ref a2, .int (nI S.2.length)])), (a1, zI E n fT), (a2, zI E n fQ)]) [] [0, 1, 2, 3, 4, 5] rfl rfl (by decide) (by decide) hA hP hD hS (zz_runS (wc := []) (As := [.int (nI t)]) (rest := []) C (c_Ig_bitCount l E t ht2) ym_Ig_bitCount wd_ml_Rv_35 wd_st_Ig_bitCount [] (by decide) rfl hA hK hst hP hD hS rfl hl.1 rfl (Nat.le_of_ble_eq_true rfl) ⟨Nat.le_of_ble_eq_true rfl, Nat.le_of_ble_eq_true rfl⟩ ⟨Nat.le_of_ble_eq_true rfl, Nat.le_of_ble_eq_true rfl⟩ d_Rv_meetNext_70) (fun r_26 u H locs hw hP hD hS => ?_)
      have hP : va_P E.1 vwCl [(h0, .inr (2, [.ref c1, .ref c2, .int (nI tn), .int (nI bt)])), (c1, zI E 8 fL), (c2, zI E 8 fN), (g0, .inr (4, [.ref a1, .ref a2, .int (nI S.2.length)])), (a1, zI E n fT), (a2, zI E n fQ)] H := hP
      have hD : va_D A [(h0, .inr (2, [.ref c1, .ref c2, .int (nI tn), .int (nI bt)])), (c1, zI E 8 fL), (c2, zI E 8 fN), (g0, .inr (4, [.ref a1, .ref a2, .int (nI S.2.length)])), (a1, zI E n fT), (a2, zI E n fQ)] := hD
      subst hw
      have hpl := rv_pop_le t
      refine lv_aload_n hx hb d_Rv_meetNext_73 rfl (lv_at hl 0 rfl) ?_
      refine zz_get C hK hP fl_Rv_28 0 rfl rfl d_Rv_meetNext_74 ?_
      refine lv_icmp_gt (tgt := 108) hx hb d_Rv_meetNext_77 (by decide) (fun c_27 => ?_) (fun c_27 => ?_)
      · have hc0 : ¬ (rv_pop t ≤ bt ∧ rv_stay nw (rv_wo bank t)) := fun h => absurd (nI_le h.1 (by omega)) (zz_nle c_27)
        have hgo1 : (if t = bank then S else rv_go nw bt x bank on f (rv_nx bank t) S) = rv_next tn nw bt x st := by rw [← hgo, rv_go, if_neg hc0]
        refine lv_iload hx hb d_Rv_meetNext_108 (lv_at hl 7 rfl) ?_
        refine lv_iload hx hb d_Rv_meetNext_110 (lv_at hl 5 rfl) ?_
        refine lv_icmp_ne (tgt := 116) hx hb d_Rv_meetNext_112 (by decide) (fun c_28 => ?_) (fun c_28 => ?_)
        · have hne : ¬ t = bank := fun z => c_28 (by rw [z])
          rw [if_neg hne] at hgo1
          refine lv_iload hx hb d_Rv_meetNext_116 (lv_at hl 7 rfl) ?_
          refine lv_iload hx hb d_Rv_meetNext_118 (lv_at hl 5 rfl) ?_
          refine lv_isub hx hb d_Rv_meetNext_120 ?_
          refine lv_iload hx hb d_Rv_meetNext_121 (lv_at hl 5 rfl) ?_
          refine lv_iand hx hb d_Rv_meetNext_123 ?_
          refine zz_eqi (y := nI (rv_nx bank t)) (rv_nxE hbank ht2) ?_
          refine lv_istore (lv' := [(7, .int (nI (rv_nx bank t))), (0, .ref h0), (1, .int (nI x)), (2, .ref g0), (3, .int (nI (x % 256))), (4, .int v4), (5, .int (nI bank)), (6, .int (nI on)), (8, .int (nI i))]) hx hb d_Rv_meetNext_124 hl (by decide) rfl (fun ls hl => ?_)
          refine lv_iinc (v := nI (i + 1)) (lv' := [(8, .int (nI (i + 1))), (7, .int (nI (rv_nx bank t))), (0, .ref h0), (1, .int (nI x)), (2, .ref g0), (3, .int (nI (x % 256))), (4, .int v4), (5, .int (nI bank)), (6, .int (nI on))]) hx hb d_Rv_meetNext_126 hl (k := 8) rfl (nI_1 _) (by decide) rfl (fun ls hl => ?_)
          refine lv_goto (tgt := 60) hx hb d_Rv_meetNext_129 (by decide) ?_
          exact ih (i + 1) (rv_nx bank t) S fT fQ (by omega) (rv_nx_lt hbank) hgo1 hR hI _ _ ls hP hD hS (lv_sub hl [2, 3, 4, 5, 6, 7, 8, 1, 0] rfl)
        · have he : t = bank := (nI_eq (by omega) (by omega)).mp c_28
          rw [if_pos he] at hgo1
          have hP : va_P E.1 vwCl [(h0, .inr (2, [.ref c1, .ref c2, .int (nI tn), .int (nI bt)])), (c1, zI E 8 fL), (c2, zI E 8 fN), (g0, .inr (4, [.ref a1, .ref a2, .int (nI (rv_next tn nw bt x st).2.length)])), (a1, zI E n fT), (a2, zI E n fQ)] H := by rw [← hgo1]; exact hP
          have hD : va_D A [(h0, .inr (2, [.ref c1, .ref c2, .int (nI tn), .int (nI bt)])), (c1, zI E 8 fL), (c2, zI E 8 fN), (g0, .inr (4, [.ref a1, .ref a2, .int (nI (rv_next tn nw bt x st).2.length)])), (a1, zI E n fT), (a2, zI E n fQ)] := by rw [← hgo1]; exact hD
          exact zz_retv C hS (fT, fQ) (by rw [← hgo1]; exact hR) hP hD d_Rv_meetNext_115
      · have hc1 : rv_pop t ≤ bt := by
          rcases Nat.lt_or_ge bt (rv_pop t) with q | q
          · exact absurd (nI_lt q (by omega)) c_27
          · exact q
        refine lv_aload_n hx hb d_Rv_meetNext_80 rfl (lv_at hl 0 rfl) ?_
        refine lv_iload hx hb d_Rv_meetNext_81 (lv_at hl 5 rfl) ?_
        refine lv_iload hx hb d_Rv_meetNext_83 (lv_at hl 7 rfl) ?_
        refine lv_iconst (v := (-1)) hx hb d_Rv_meetNext_85 (by decide) ?_
        refine lv_ixor hx hb d_Rv_meetNext_86 ?_
        refine lv_iand hx hb d_Rv_meetNext_87 ?_
        refine zz_eqi (y := nI (rv_wo bank t)) (rv_woE hbank) ?_
        refine zz_goi (wr := [(g0, .inr (4, [.ref a1, .ref a2, .int (nI S.2.length)])), (a1, zI E n fT), (a2, zI E n fQ)]) [0, 1, 2] [3, 4, 5] rfl rfl (by decide) (by decide) hA hP hD hS (zz_runV (wc := [(h0, .inr (2, [.ref c1, .ref c2, .int (nI tn), .int (nI bt)])), (c1, zI E 8 fL), (c2, zI E 8 fN)]) (As := [.int (nI (rv_wo bank t))]) (rest := []) C (c_Rv_mayBeLeft l E h0 c1 c2 tn fL fN (nI bt) nw (rv_wo bank t) (rv_wo_lt hbank) hN) ym_Rv_mayBeLeft wd_ml_Rv_41 wd_im_Rv_mayBeLeft wd_se_Rv_mayBeLeft [0, 1, 2] (by decide) rfl hA hK hst hP hD hS (ci := 2) (q0 := 0) rfl rfl rfl rfl hl.1 rfl (Nat.le_of_ble_eq_true rfl) ⟨Nat.le_of_ble_eq_true rfl, Nat.le_of_ble_eq_true rfl⟩ ⟨Nat.le_of_ble_eq_true rfl, Nat.le_of_ble_eq_true rfl⟩ d_Rv_meetNext_88) (fun rl u H locs hw hP hD hS => ?_)
        have hP : va_P E.1 vwCl [(g0, .inr (4, [.ref a1, .ref a2, .int (nI S.2.length)])), (a1, zI E n fT), (a2, zI E n fQ), (h0, .inr (2, [.ref c1, .ref c2, .int (nI tn), .int (nI bt)])), (c1, zI E 8 fL), (c2, zI E 8 fN)] H := hP
        have hD : va_D A [(g0, .inr (4, [.ref a1, .ref a2, .int (nI S.2.length)])), (a1, zI E n fT), (a2, zI E n fQ), (h0, .inr (2, [.ref c1, .ref c2, .int (nI tn), .int (nI bt)])), (c1, zI E 8 fL), (c2, zI E 8 fN)] := hD
        have hP := hP.sub (ws' := [(h0, .inr (2, [.ref c1, .ref c2, .int (nI tn), .int (nI bt)])), (c1, zI E 8 fL), (c2, zI E 8 fN), (g0, .inr (4, [.ref a1, .ref a2, .int (nI S.2.length)])), (a1, zI E n fT), (a2, zI E n fQ)]) [3, 4, 5, 0, 1, 2] rfl
        have hD := hD.sub (ws' := [(h0, .inr (2, [.ref c1, .ref c2, .int (nI tn), .int (nI bt)])), (c1, zI E 8 fL), (c2, zI E 8 fN), (g0, .inr (4, [.ref a1, .ref a2, .int (nI S.2.length)])), (a1, zI E n fT), (a2, zI E n fQ)]) [3, 4, 5, 0, 1, 2] (by decide) rfl
        refine lv_if_eq (tgt := 108) hx hb d_Rv_meetNext_91 (by decide) (fun c_29 => ?_) (fun c_29 => ?_)
        · have hc0 : ¬ (rv_pop t ≤ bt ∧ rv_stay nw (rv_wo bank t)) := fun h => absurd ((hw.1 h.2).symm.trans c_29) (by decide)
          have hgo1 : (if t = bank then S else rv_go nw bt x bank on f (rv_nx bank t) S) = rv_next tn nw bt x st := by rw [← hgo, rv_go, if_neg hc0]
          refine lv_iload hx hb d_Rv_meetNext_108 (lv_at hl 7 rfl) ?_
          refine lv_iload hx hb d_Rv_meetNext_110 (lv_at hl 5 rfl) ?_
          refine lv_icmp_ne (tgt := 116) hx hb d_Rv_meetNext_112 (by decide) (fun c_30 => ?_) (fun c_30 => ?_)
          · have hne : ¬ t = bank := fun z => c_30 (by rw [z])
            rw [if_neg hne] at hgo1
            refine lv_iload hx hb d_Rv_meetNext_116 (lv_at hl 7 rfl) ?_
            refine lv_iload hx hb d_Rv_meetNext_118 (lv_at hl 5 rfl) ?_
            refine lv_isub hx hb d_Rv_meetNext_120 ?_
            refine lv_iload hx hb d_Rv_meetNext_121 (lv_at hl 5 rfl) ?_
            refine lv_iand hx hb d_Rv_meetNext_123 ?_
            refine zz_eqi (y := nI (rv_nx bank t)) (rv_nxE hbank ht2) ?_
            refine lv_istore (lv' := [(7, .int (nI (rv_nx bank t))), (0, .ref h0), (1, .int (nI x)), (2, .ref g0), (3, .int (nI (x % 256))), (4, .int v4), (5, .int (nI bank)), (6, .int (nI on)), (8, .int (nI i))]) hx hb d_Rv_meetNext_124 hl (by decide) rfl (fun ls hl => ?_)
            refine lv_iinc (v := nI (i + 1)) (lv' := [(8, .int (nI (i + 1))), (7, .int (nI (rv_nx bank t))), (0, .ref h0), (1, .int (nI x)), (2, .ref g0), (3, .int (nI (x % 256))), (4, .int v4), (5, .int (nI bank)), (6, .int (nI on))]) hx hb d_Rv_meetNext_126 hl (k := 8) rfl (nI_1 _) (by decide) rfl (fun ls hl => ?_)
            refine lv_goto (tgt := 60) hx hb d_Rv_meetNext_129 (by decide) ?_
            exact ih (i + 1) (rv_nx bank t) S fT fQ (by omega) (rv_nx_lt hbank) hgo1 hR hI _ _ ls hP hD hS (lv_sub hl [2, 3, 4, 5, 6, 7, 8, 1, 0] rfl)
          · have he : t = bank := (nI_eq (by omega) (by omega)).mp c_30
            rw [if_pos he] at hgo1
            have hP : va_P E.1 vwCl [(h0, .inr (2, [.ref c1, .ref c2, .int (nI tn), .int (nI bt)])), (c1, zI E 8 fL), (c2, zI E 8 fN), (g0, .inr (4, [.ref a1, .ref a2, .int (nI (rv_next tn nw bt x st).2.length)])), (a1, zI E n fT), (a2, zI E n fQ)] H := by rw [← hgo1]; exact hP
            have hD : va_D A [(h0, .inr (2, [.ref c1, .ref c2, .int (nI tn), .int (nI bt)])), (c1, zI E 8 fL), (c2, zI E 8 fN), (g0, .inr (4, [.ref a1, .ref a2, .int (nI (rv_next tn nw bt x st).2.length)])), (a1, zI E n fT), (a2, zI E n fQ)] := by rw [← hgo1]; exact hD
            exact zz_retv C hS (fT, fQ) (by rw [← hgo1]; exact hR) hP hD d_Rv_meetNext_115
        · have hc0 : rv_pop t ≤ bt ∧ rv_stay nw (rv_wo bank t) := ⟨hc1, Classical.byContradiction (fun h => c_29 (hw.2 h))⟩
          refine lv_aload_n hx hb d_Rv_meetNext_94 rfl (lv_at hl 2 rfl) ?_
          refine lv_iload hx hb d_Rv_meetNext_95 (lv_at hl 6 rfl) ?_
          refine lv_iload_n hx hb d_Rv_meetNext_97 rfl (lv_at hl 3 rfl) ?_
          refine lv_iload hx hb d_Rv_meetNext_98 (lv_at hl 7 rfl) ?_
          refine lv_ixor hx hb d_Rv_meetNext_100 ?_
          refine zz_eqi (y := nI (x % 256 ^^^ t)) (nI_xor _ _) ?_
          refine lv_ior hx hb d_Rv_meetNext_101 ?_
          refine zz_eqi (y := nI (on ||| (x % 256 ^^^ t))) (nI_or _ _) ?_
          refine lv_iload_n hx hb d_Rv_meetNext_102 rfl (lv_at hl 1 rfl) ?_
          refine lv_iload hx hb d_Rv_meetNext_103 (lv_at hl 7 rfl) ?_
          refine zz_gov (wr := [(h0, .inr (2, [.ref c1, .ref c2, .int (nI tn), .int (nI bt)])), (c1, zI E 8 fL), (c2, zI E 8 fN)]) [3, 4, 5] [0, 1, 2] rfl rfl (by decide) (by decide) hA hP hD hS (zz_runV (wc := [(g0, .inr (4, [.ref a1, .ref a2, .int (nI S.2.length)])), (a1, zI E n fT), (a2, zI E n fQ)]) (As := [.int (nI (on ||| (x % 256 ^^^ t))), .int (nI x), .int (nI t)]) (rest := []) C (c_Se_meet l E g0 a1 a2 n fT fQ S (on ||| (x % 256 ^^^ t)) x t hn (Nat.lt_of_lt_of_le (rv_tgt_lt hon (by omega) ht2) hn5) hxn ht2 hR hI.1) ym_Se_meet wd_ml_Rv_45 wd_im_Se_meet wd_se_Se_meet [3, 4, 5] (by decide) rfl hA hK hst hP hD hS (ci := 4) (q0 := 0) rfl rfl rfl rfl hl.1 rfl (Nat.le_of_ble_eq_true rfl) ⟨Nat.le_of_ble_eq_true rfl, Nat.le_of_ble_eq_true rfl⟩ ⟨Nat.le_of_ble_eq_true rfl, Nat.le_of_ble_eq_true rfl⟩ d_Rv_meetNext_105) (fun u1 H locs hR hP hD hS => ?_)
          have hP : va_P E.1 vwCl [(h0, .inr (2, [.ref c1, .ref c2, .int (nI tn), .int (nI bt)])), (c1, zI E 8 fL), (c2, zI E 8 fN), (g0, .inr (4, [.ref a1, .ref a2, .int (nI (bfs_mt S x (on ||| (x % 256 ^^^ t), t)).2.length)])), (a1, zI E n u1.1), (a2, zI E n u1.2)] H := hP
          have hD : va_D A [(h0, .inr (2, [.ref c1, .ref c2, .int (nI tn), .int (nI bt)])), (c1, zI E 8 fL), (c2, zI E 8 fN), (g0, .inr (4, [.ref a1, .ref a2, .int (nI (bfs_mt S x (on ||| (x % 256 ^^^ t), t)).2.length)])), (a1, zI E n u1.1), (a2, zI E n u1.2)] := hD
          have hI : bfs_I n x (bfs_mt S x (on ||| (x % 256 ^^^ t), t)) := bfs_mt_I hI hn hxn (Nat.lt_of_lt_of_le (rv_tgt_lt hon (by omega) ht2) hn5) ht2
          have hgo1 : (if t = bank then (bfs_mt S x (on ||| (x % 256 ^^^ t), t)) else rv_go nw bt x bank on f (rv_nx bank t) (bfs_mt S x (on ||| (x % 256 ^^^ t), t))) = rv_next tn nw bt x st := by rw [← hgo, rv_go, if_pos hc0]
          refine lv_iload hx hb d_Rv_meetNext_108 (lv_at hl 7 rfl) ?_
          refine lv_iload hx hb d_Rv_meetNext_110 (lv_at hl 5 rfl) ?_
          refine lv_icmp_ne (tgt := 116) hx hb d_Rv_meetNext_112 (by decide) (fun c_32 => ?_) (fun c_32 => ?_)
          · have hne : ¬ t = bank := fun z => c_32 (by rw [z])
            rw [if_neg hne] at hgo1
            refine lv_iload hx hb d_Rv_meetNext_116 (lv_at hl 7 rfl) ?_
            refine lv_iload hx hb d_Rv_meetNext_118 (lv_at hl 5 rfl) ?_
            refine lv_isub hx hb d_Rv_meetNext_120 ?_
            refine lv_iload hx hb d_Rv_meetNext_121 (lv_at hl 5 rfl) ?_
            refine lv_iand hx hb d_Rv_meetNext_123 ?_
            refine zz_eqi (y := nI (rv_nx bank t)) (rv_nxE hbank ht2) ?_
            refine lv_istore (lv' := [(7, .int (nI (rv_nx bank t))), (0, .ref h0), (1, .int (nI x)), (2, .ref g0), (3, .int (nI (x % 256))), (4, .int v4), (5, .int (nI bank)), (6, .int (nI on)), (8, .int (nI i))]) hx hb d_Rv_meetNext_124 hl (by decide) rfl (fun ls hl => ?_)
            refine lv_iinc (v := nI (i + 1)) (lv' := [(8, .int (nI (i + 1))), (7, .int (nI (rv_nx bank t))), (0, .ref h0), (1, .int (nI x)), (2, .ref g0), (3, .int (nI (x % 256))), (4, .int v4), (5, .int (nI bank)), (6, .int (nI on))]) hx hb d_Rv_meetNext_126 hl (k := 8) rfl (nI_1 _) (by decide) rfl (fun ls hl => ?_)
            refine lv_goto (tgt := 60) hx hb d_Rv_meetNext_129 (by decide) ?_
            exact ih (i + 1) (rv_nx bank t) (bfs_mt S x (on ||| (x % 256 ^^^ t), t)) u1.1 u1.2 (by omega) (rv_nx_lt hbank) hgo1 hR hI _ _ ls hP hD hS (lv_sub hl [2, 3, 4, 5, 6, 7, 8, 1, 0] rfl)
          · have he : t = bank := (nI_eq (by omega) (by omega)).mp c_32
            rw [if_pos he] at hgo1
            have hP : va_P E.1 vwCl [(h0, .inr (2, [.ref c1, .ref c2, .int (nI tn), .int (nI bt)])), (c1, zI E 8 fL), (c2, zI E 8 fN), (g0, .inr (4, [.ref a1, .ref a2, .int (nI (rv_next tn nw bt x st).2.length)])), (a1, zI E n u1.1), (a2, zI E n u1.2)] H := by rw [← hgo1]; exact hP
            have hD : va_D A [(h0, .inr (2, [.ref c1, .ref c2, .int (nI tn), .int (nI bt)])), (c1, zI E 8 fL), (c2, zI E 8 fN), (g0, .inr (4, [.ref a1, .ref a2, .int (nI (rv_next tn nw bt x st).2.length)])), (a1, zI E n u1.1), (a2, zI E n u1.2)] := by rw [← hgo1]; exact hD
            exact zz_retv C hS (u1.1, u1.2) (by rw [← hgo1]; exact hR) hP hD d_Rv_meetNext_115

set_option maxHeartbeats 4000000 in
set_option maxRecDepth 100000 in
theorem c_Rv_meetNext (l : Launch) (E : zG) (h0 c1 c2 tn bt : Nat) (fL fN : Nat → Int32) (nw : Nat → Nat) (g0 a1 a2 n : Nat) (fT fQ : Nat → Int32) (st : (Nat → Nat) × List Nat) (x : Nat) (ht : tn ≤ 8) (hbt : bt ≤ 3) (hN : ∀ j, j < 8 → fN j = nI (nw j) ∧ nw j < 256) (hx0 : x < 512) (hn : n ≤ 10000) (hn5 : 512 ≤ n) (hR : bfs_RS n st fT fQ) (hI : bfs_I n x st) : zMet l y_Rv_meetNext b_Rv_meetNext 9 none 1 23 0 0 E [.ref h0, .int (nI x), .ref g0] [(h0, .inr (2, [.ref c1, .ref c2, .int (nI tn), .int (nI bt)])), (c1, zI E 8 fL), (c2, zI E 8 fN), (g0, .inr (4, [.ref a1, .ref a2, .int (nI st.2.length)])), (a1, zI E n fT), (a2, zI E n fQ)] (zQv E (S := (Nat → Int32) × (Nat → Int32)) (fun u => bfs_RS n (rv_next tn nw bt x st) u.1 u.2) (fun u => [(h0, .inr (2, [.ref c1, .ref c2, .int (nI tn), .int (nI bt)])), (c1, zI E 8 fL), (c2, zI E 8 fN), (g0, .inr (4, [.ref a1, .ref a2, .int (nI (rv_next tn nw bt x st).2.length)])), (a1, zI E n u.1), (a2, zI E n u.2)])) := by
  refine zz_met (by decide +kernel) (Nat.le_of_ble_eq_true rfl) ?_
  intro p e s m below meth c A ls C hin hA hK hst hP hD hl
  obtain ⟨hx, hb, hr, hml, hown, hts, hlk⟩ := id C
  have hS : va_S A s.heap s.heap [] := va_S.rf
  have hl : lv_has ls 9 [(0, .ref h0), (1, .int (nI x)), (2, .ref g0)] := hl
  have hp : 2 ^ tn ≤ 2 ^ 8 := Nat.pow_le_pow_right (by decide) ht
  rcases Nat.lt_or_ge x 256 with hq | hq
  · refine lv_iload_n hx hb d_Rv_meetNext_0 rfl (lv_at hl 1 rfl) ?_
    refine lv_sipush (v := 255) hx hb d_Rv_meetNext_1 (by decide) ?_
    refine lv_iand hx hb d_Rv_meetNext_4 ?_
    refine zz_eqi (y := nI (x % 256)) (rv_m255 x) ?_
    refine lv_istore_n (lv' := [(3, .int (nI (x % 256))), (0, .ref h0), (1, .int (nI x)), (2, .ref g0)]) hx hb d_Rv_meetNext_5 rfl hl (by decide) rfl (fun ls hl => ?_)
    refine lv_iload_n hx hb d_Rv_meetNext_6 rfl (lv_at hl 2 rfl) ?_
    refine lv_sipush (v := 256) hx hb d_Rv_meetNext_7 (by decide) ?_
    refine lv_iand hx hb d_Rv_meetNext_10 ?_
    refine zz_eqi (y := nI (x / 256 * 256)) (rv_m256 hx0) ?_
    refine lv_if_eq (tgt := 18) hx hb d_Rv_meetNext_11 (by decide) (fun c_33 => ?_) (fun c_33 => ?_)
    · refine lv_iconst (v := 0) hx hb d_Rv_meetNext_18 (by decide) ?_
      refine lv_istore (lv' := [(4, .int 0), (3, .int (nI (x % 256))), (0, .ref h0), (1, .int (nI x)), (2, .ref g0)]) hx hb d_Rv_meetNext_19 hl (by decide) rfl (fun ls hl => ?_)
      refine lv_iload hx hb d_Rv_meetNext_21 (lv_at hl 0 rfl) ?_
      refine lv_if_eq (tgt := 30) hx hb d_Rv_meetNext_23 (by decide) (fun c_34 => ?_) (fun c_34 => ?_)
      · refine lv_aload_n hx hb d_Rv_meetNext_30 rfl (lv_at hl 2 rfl) ?_
        refine zz_goi (wr := [(g0, .inr (4, [.ref a1, .ref a2, .int (nI st.2.length)])), (a1, zI E n fT), (a2, zI E n fQ)]) [0, 1, 2] [3, 4, 5] rfl rfl (by decide) (by decide) hA hP hD hS (zz_runV (wc := [(h0, .inr (2, [.ref c1, .ref c2, .int (nI tn), .int (nI bt)])), (c1, zI E 8 fL), (c2, zI E 8 fN)]) (As := []) (rest := []) C (c_Rv_allThings l E h0 c1 c2 tn fL fN (nI bt) ht) ym_Rv_allThings wd_ml_Rv_31 wd_im_Rv_allThings wd_se_Rv_allThings [0, 1, 2] (by decide) rfl hA hK hst hP hD hS (ci := 2) (q0 := 0) rfl rfl rfl rfl hl.1 rfl (Nat.le_of_ble_eq_true rfl) ⟨Nat.le_of_ble_eq_true rfl, Nat.le_of_ble_eq_true rfl⟩ ⟨Nat.le_of_ble_eq_true rfl, Nat.le_of_ble_eq_true rfl⟩ d_Rv_meetNext_31) (fun r_35 u H locs hw hP hD hS => ?_)
        have hP : va_P E.1 vwCl [(g0, .inr (4, [.ref a1, .ref a2, .int (nI st.2.length)])), (a1, zI E n fT), (a2, zI E n fQ), (h0, .inr (2, [.ref c1, .ref c2, .int (nI tn), .int (nI bt)])), (c1, zI E 8 fL), (c2, zI E 8 fN)] H := hP
        have hD : va_D A [(g0, .inr (4, [.ref a1, .ref a2, .int (nI st.2.length)])), (a1, zI E n fT), (a2, zI E n fQ), (h0, .inr (2, [.ref c1, .ref c2, .int (nI tn), .int (nI bt)])), (c1, zI E 8 fL), (c2, zI E 8 fN)] := hD
        subst hw
        have hP := hP.sub (ws' := [(h0, .inr (2, [.ref c1, .ref c2, .int (nI tn), .int (nI bt)])), (c1, zI E 8 fL), (c2, zI E 8 fN), (g0, .inr (4, [.ref a1, .ref a2, .int (nI st.2.length)])), (a1, zI E n fT), (a2, zI E n fQ)]) [3, 4, 5, 0, 1, 2] rfl
        have hD := hD.sub (ws' := [(h0, .inr (2, [.ref c1, .ref c2, .int (nI tn), .int (nI bt)])), (c1, zI E 8 fL), (c2, zI E 8 fN), (g0, .inr (4, [.ref a1, .ref a2, .int (nI st.2.length)])), (a1, zI E n fT), (a2, zI E n fQ)]) [3, 4, 5, 0, 1, 2] (by decide) rfl
        refine lv_iload_n hx hb d_Rv_meetNext_34 rfl (lv_at hl 1 rfl) ?_
        refine lv_iconst (v := (-1)) hx hb d_Rv_meetNext_35 (by decide) ?_
        refine lv_ixor hx hb d_Rv_meetNext_36 ?_
        refine lv_iand hx hb d_Rv_meetNext_37 ?_
        refine zz_eqi (y := nI (rv_wo (2 ^ tn - 1) (x % 256))) (rv_woE (by omega)) ?_
        refine lv_istore (lv' := [(5, .int (nI (rv_wo (2 ^ tn - 1) (x % 256)))), (4, .int 0), (3, .int (nI (x % 256))), (0, .ref h0), (1, .int (nI x)), (2, .ref g0)]) hx hb d_Rv_meetNext_38 hl (by decide) rfl (fun ls hl => ?_)
        refine lv_iload hx hb d_Rv_meetNext_40 (lv_at hl 1 rfl) ?_
        refine lv_if_eq (tgt := 49) hx hb d_Rv_meetNext_42 (by decide) (fun c_36 => ?_) (fun c_36 => ?_)
        · refine lv_sipush (v := 256) hx hb d_Rv_meetNext_49 (by decide) ?_
          refine lv_istore (lv' := [(6, .int 256), (5, .int (nI (rv_wo (2 ^ tn - 1) (x % 256)))), (4, .int 0), (3, .int (nI (x % 256))), (0, .ref h0), (1, .int (nI x)), (2, .ref g0)]) hx hb d_Rv_meetNext_52 hl (by decide) rfl (fun ls hl => ?_)
          refine lv_iconst (v := 0) hx hb d_Rv_meetNext_54 (by decide) ?_
          refine lv_istore (lv' := [(7, .int 0), (6, .int 256), (5, .int (nI (rv_wo (2 ^ tn - 1) (x % 256)))), (4, .int 0), (3, .int (nI (x % 256))), (0, .ref h0), (1, .int (nI x)), (2, .ref g0)]) hx hb d_Rv_meetNext_55 hl (by decide) rfl (fun ls hl => ?_)
          refine lv_iconst (v := 0) hx hb d_Rv_meetNext_57 (by decide) ?_
          refine lv_istore (lv' := [(8, .int 0), (7, .int 0), (6, .int 256), (5, .int (nI (rv_wo (2 ^ tn - 1) (x % 256)))), (4, .int 0), (3, .int (nI (x % 256))), (0, .ref h0), (1, .int (nI x)), (2, .ref g0)]) hx hb d_Rv_meetNext_58 hl (by decide) rfl (fun ls hl => ?_)
          have hl := lv_sub (l' := [(0, .ref h0), (1, .int (nI x)), (2, .ref g0), (3, .int (nI (x % 256))), (4, .int 0), (5, .int (nI (rv_wo (2 ^ tn - 1) (x % 256)))), (6, .int (nI 256)), (7, .int (nI 0)), (8, .int (nI 0))]) hl [6, 7, 8, 5, 4, 3, 2, 1, 0] (rfl)
          exact lp_Rv_meetNext ht hbt hN hx0 hn hn5 (bank := rv_wo (2 ^ tn - 1) (x % 256)) (on := 256) (rv_wo_lt (by omega)) (by decide) C hA hK hst 256 0 0 st fT fQ (by omega) (by decide) (by unfold rv_next rv_bank rv_on; rw [if_pos hq, if_pos hq]) hR hI _ _ ls hP hD hS hl
        · exact absurd rfl c_36
      · exact absurd rfl c_34
    · exact absurd (by rw [show x / 256 = 0 by omega]; rfl) c_33
  · refine lv_iload_n hx hb d_Rv_meetNext_0 rfl (lv_at hl 1 rfl) ?_
    refine lv_sipush (v := 255) hx hb d_Rv_meetNext_1 (by decide) ?_
    refine lv_iand hx hb d_Rv_meetNext_4 ?_
    refine zz_eqi (y := nI (x % 256)) (rv_m255 x) ?_
    refine lv_istore_n (lv' := [(3, .int (nI (x % 256))), (0, .ref h0), (1, .int (nI x)), (2, .ref g0)]) hx hb d_Rv_meetNext_5 rfl hl (by decide) rfl (fun ls hl => ?_)
    refine lv_iload_n hx hb d_Rv_meetNext_6 rfl (lv_at hl 2 rfl) ?_
    refine lv_sipush (v := 256) hx hb d_Rv_meetNext_7 (by decide) ?_
    refine lv_iand hx hb d_Rv_meetNext_10 ?_
    refine zz_eqi (y := nI (x / 256 * 256)) (rv_m256 hx0) ?_
    refine lv_if_eq (tgt := 18) hx hb d_Rv_meetNext_11 (by decide) (fun c_37 => ?_) (fun c_37 => ?_)
    · exact absurd (zz_nI0 c_37 (by omega)) (by omega)
    · refine lv_iconst (v := 1) hx hb d_Rv_meetNext_14 (by decide) ?_
      refine lv_goto (tgt := 19) hx hb d_Rv_meetNext_15 (by decide) ?_
      refine lv_istore (lv' := [(4, .int 1), (3, .int (nI (x % 256))), (0, .ref h0), (1, .int (nI x)), (2, .ref g0)]) hx hb d_Rv_meetNext_19 hl (by decide) rfl (fun ls hl => ?_)
      refine lv_iload hx hb d_Rv_meetNext_21 (lv_at hl 0 rfl) ?_
      refine lv_if_eq (tgt := 30) hx hb d_Rv_meetNext_23 (by decide) (fun c_38 => ?_) (fun c_38 => ?_)
      · exact absurd c_38 (by decide)
      · refine lv_iload_n hx hb d_Rv_meetNext_26 rfl (lv_at hl 1 rfl) ?_
        refine lv_goto (tgt := 38) hx hb d_Rv_meetNext_27 (by decide) ?_
        refine lv_istore (lv' := [(5, .int (nI (x % 256))), (4, .int 1), (3, .int (nI (x % 256))), (0, .ref h0), (1, .int (nI x)), (2, .ref g0)]) hx hb d_Rv_meetNext_38 hl (by decide) rfl (fun ls hl => ?_)
        refine lv_iload hx hb d_Rv_meetNext_40 (lv_at hl 1 rfl) ?_
        refine lv_if_eq (tgt := 49) hx hb d_Rv_meetNext_42 (by decide) (fun c_39 => ?_) (fun c_39 => ?_)
        · exact absurd c_39 (by decide)
        · refine lv_iconst (v := 0) hx hb d_Rv_meetNext_45 (by decide) ?_
          refine lv_goto (tgt := 52) hx hb d_Rv_meetNext_46 (by decide) ?_
          refine lv_istore (lv' := [(6, .int 0), (5, .int (nI (x % 256))), (4, .int 1), (3, .int (nI (x % 256))), (0, .ref h0), (1, .int (nI x)), (2, .ref g0)]) hx hb d_Rv_meetNext_52 hl (by decide) rfl (fun ls hl => ?_)
          refine lv_iconst (v := 0) hx hb d_Rv_meetNext_54 (by decide) ?_
          refine lv_istore (lv' := [(7, .int 0), (6, .int 0), (5, .int (nI (x % 256))), (4, .int 1), (3, .int (nI (x % 256))), (0, .ref h0), (1, .int (nI x)), (2, .ref g0)]) hx hb d_Rv_meetNext_55 hl (by decide) rfl (fun ls hl => ?_)
          refine lv_iconst (v := 0) hx hb d_Rv_meetNext_57 (by decide) ?_
          refine lv_istore (lv' := [(8, .int 0), (7, .int 0), (6, .int 0), (5, .int (nI (x % 256))), (4, .int 1), (3, .int (nI (x % 256))), (0, .ref h0), (1, .int (nI x)), (2, .ref g0)]) hx hb d_Rv_meetNext_58 hl (by decide) rfl (fun ls hl => ?_)
          have hl := lv_sub (l' := [(0, .ref h0), (1, .int (nI x)), (2, .ref g0), (3, .int (nI (x % 256))), (4, .int 1), (5, .int (nI (x % 256))), (6, .int (nI 0)), (7, .int (nI 0)), (8, .int (nI 0))]) hl [6, 7, 8, 5, 4, 3, 2, 1, 0] (rfl)
          exact lp_Rv_meetNext ht hbt hN hx0 hn hn5 (bank := x % 256) (on := 0) (by omega) (by decide) C hA hK hst 256 0 0 st fT fQ (by omega) (by decide) (by unfold rv_next rv_bank rv_on; rw [if_neg (Nat.not_lt.mpr hq), if_neg (Nat.not_lt.mpr hq)]) hR hI _ _ ls hP hD hS hl
end
section
set_option maxHeartbeats 4000000 in
set_option maxRecDepth 100000 in
theorem c_Rt_init (l : Launch) (E : zG) (h0 : Nat) : zMet l y_Rt_init b_Rt_init 1 none 1 20 1 100 E [.ref h0] [(h0, .inr (3, [.null, .int 0]))] (zQv E (S := Nat) (fun _ => True) (fun u => [(h0, .inr (3, [.ref u, .int 0])), (u, zI E 100 (fun _ => 0))])) := by
  refine zz_met (by decide +kernel) (Nat.le_of_ble_eq_true rfl) ?_
  intro p e s m below meth c A ls C hin hA hK hst hP hD hl
  obtain ⟨hx, hb, hr, hml, hown, hts, hlk⟩ := id C
  have hS : va_S A s.heap s.heap [] := va_S.rf
  have hl : lv_has ls 1 [(0, .ref h0)] := hl
  refine lv_aload_n hx hb d_Rt_init_0 rfl (lv_at hl 0 rfl) ?_
  refine zz_oi C wd_ml_Rt_3 wd_im_obj wd_cd_obj hl.1 (Nat.le_of_ble_eq_true rfl) (Nat.le_of_ble_eq_true rfl) d_Rt_init_1 ?_
  refine lv_aload_n hx hb d_Rt_init_4 rfl (lv_at hl 0 rfl) ?_
  refine lv_bipush (v := 100) hx hb d_Rt_init_5 (by decide) ?_
  refine zz_eqi (show (100 : Int32) = nI 100 from rfl) ?_
  refine zz_newI C hK hP hD hS hA (by decide) wd_ac_I (Nat.le_of_ble_eq_true rfl) (Nat.le_of_ble_eq_true rfl) d_Rt_init_7 (fun q_1 H hP hD hS => ?_)
  have hP : va_P E.1 vwCl [(h0, .inr (3, [.null, .int 0])), (q_1, zI E 100 (fun _ => 0))] H := hP
  have hD : va_D A [(h0, .inr (3, [.null, .int 0])), (q_1, zI E 100 (fun _ => 0))] := hD
  refine zz_putF C hin hK hP hD hS fl_Rt_11 (fun q h => by cases h; rfl) 0 rfl rfl rfl (Nat.le_of_ble_eq_true rfl) d_Rt_init_9 (fun H locs hP hD hS => ?_)
  have hP : va_P E.1 vwCl [(h0, .inr (3, [.ref q_1, .int 0])), (q_1, zI E 100 (fun _ => 0))] H := hP
  have hD : va_D A [(h0, .inr (3, [.ref q_1, .int 0])), (q_1, zI E 100 (fun _ => 0))] := hD
  exact zz_retv C hS q_1 (trivial) hP hD d_Rt_init_12

set_option maxHeartbeats 4000000 in
set_option maxRecDepth 100000 in
theorem c_Rt_add (l : Launch) (E : zG) (h0 d1 k : Nat) (fU : Nat → Int32) (x : Int32) (hk : k ≤ 100) : zMet l y_Rt_add b_Rt_add 2 (some .boolean) 0 0 0 0 E [.ref h0, .int x] [(h0, .inr (3, [.ref d1, .int (nI k)])), (d1, zI E 100 fU)] (zQi E (S := (Nat → Int32) × Nat) (fun r u => (¬ x < 0 ∧ ¬ 255 < x ∧ nI k < 100 → r = 1 ∧ u = (upd fU k x, k + 1)) ∧ (¬ (¬ x < 0 ∧ ¬ 255 < x ∧ nI k < 100) → r = 0 ∧ u = (fU, k))) (fun u => [(h0, .inr (3, [.ref d1, .int (nI u.2)])), (d1, zI E 100 u.1)])) := by
  refine zz_met (by decide +kernel) (Nat.le_of_ble_eq_true rfl) ?_
  intro p e s m below meth c A ls C hin hA hK hst hP hD hl
  obtain ⟨hx, hb, hr, hml, hown, hts, hlk⟩ := id C
  have hS : va_S A s.heap s.heap [] := va_S.rf
  have hl : lv_has ls 2 [(0, .ref h0), (1, .int x)] := hl
  refine lv_iload_n hx hb d_Rt_add_0 rfl (lv_at hl 1 rfl) ?_
  refine lv_if_lt (tgt := 20) hx hb d_Rt_add_1 (by decide) (fun c_2 => ?_) (fun c_2 => ?_)
  · refine lv_iconst (v := 0) hx hb d_Rt_add_20 (by decide) ?_
    exact zz_reti C (rfl) hS (fU, k) (⟨fun h => absurd h (by intro h; exact h.1 c_2), fun _ => ⟨rfl, rfl⟩⟩) hP hD d_Rt_add_21
  · refine lv_iload_n hx hb d_Rt_add_4 rfl (lv_at hl 1 rfl) ?_
    refine lv_sipush (v := 255) hx hb d_Rt_add_5 (by decide) ?_
    refine lv_icmp_gt (tgt := 20) hx hb d_Rt_add_8 (by decide) (fun c_3 => ?_) (fun c_3 => ?_)
    · refine lv_iconst (v := 0) hx hb d_Rt_add_20 (by decide) ?_
      exact zz_reti C (rfl) hS (fU, k) (⟨fun h => absurd h (by intro h; exact h.2.1 c_3), fun _ => ⟨rfl, rfl⟩⟩) hP hD d_Rt_add_21
    · refine lv_aload_n hx hb d_Rt_add_11 rfl (lv_at hl 0 rfl) ?_
      refine zz_get C hK hP fl_Rt_15 0 rfl rfl d_Rt_add_12 ?_
      refine lv_bipush (v := 100) hx hb d_Rt_add_15 (by decide) ?_
      refine lv_icmp_lt (tgt := 22) hx hb d_Rt_add_17 (by decide) (fun c_4 => ?_) (fun c_4 => ?_)
      · refine lv_aload_n hx hb d_Rt_add_22 rfl (lv_at hl 0 rfl) ?_
        refine zz_get C hK hP fl_Rt_11 0 rfl rfl d_Rt_add_23 ?_
        refine lv_aload_n hx hb d_Rt_add_26 rfl (lv_at hl 0 rfl) ?_
        refine zz_get C hK hP fl_Rt_15 0 rfl rfl d_Rt_add_27 ?_
        refine lv_iload_n hx hb d_Rt_add_30 rfl (lv_at hl 1 rfl) ?_
        have hk1 : k < 100 := zz_ltl (n := 100) c_4 (by omega)
        refine zz_iastN C hK hP hD hS 1 rfl (j := k) (hk1) (by omega) d_Rt_add_31 (fun H locs hP hD hS => ?_)
        have hP : va_P E.1 vwCl [(h0, .inr (3, [.ref d1, .int (nI k)])), (d1, zI E 100 (upd fU k x))] H := hP
        have hD : va_D A [(h0, .inr (3, [.ref d1, .int (nI k)])), (d1, zI E 100 (upd fU k x))] := hD
        refine lv_aload_n hx hb d_Rt_add_32 rfl (lv_at hl 0 rfl) ?_
        refine lv_dup hx hb d_Rt_add_33 rfl ?_
        refine zz_get C hK hP fl_Rt_15 0 rfl rfl d_Rt_add_34 ?_
        refine lv_iconst (v := 1) hx hb d_Rt_add_37 (by decide) ?_
        refine lv_iadd hx hb d_Rt_add_38 ?_
        refine zz_eqi (y := nI (k + 1)) (nI_1 _) ?_
        refine zz_put C hK hP hD hS fl_Rt_15 0 rfl rfl rfl (Nat.le_of_ble_eq_true rfl) d_Rt_add_39 (fun H locs hP hD hS => ?_)
        have hP : va_P E.1 vwCl [(h0, .inr (3, [.ref d1, .int (nI (k + 1))])), (d1, zI E 100 (upd fU k x))] H := hP
        have hD : va_D A [(h0, .inr (3, [.ref d1, .int (nI (k + 1))])), (d1, zI E 100 (upd fU k x))] := hD
        refine lv_iconst (v := 1) hx hb d_Rt_add_42 (by decide) ?_
        exact zz_reti C (rfl) hS (upd fU k x, k + 1) (⟨fun _ => ⟨rfl, rfl⟩, fun h => absurd ⟨c_2, c_3, c_4⟩ h⟩) hP hD d_Rt_add_43
      · refine lv_iconst (v := 0) hx hb d_Rt_add_20 (by decide) ?_
        exact zz_reti C (rfl) hS (fU, k) (⟨fun h => absurd h (by intro h; exact c_4 h.2.2), fun _ => ⟨rfl, rfl⟩⟩) hP hD d_Rt_add_21

set_option maxHeartbeats 4000000 in
set_option maxRecDepth 100000 in
theorem c_Rt_forget (l : Launch) (E : zG) (h0 d1 k : Nat) (fU : Nat → Int32) : zMet l y_Rt_forget b_Rt_forget 1 none 0 0 0 0 E [.ref h0] [(h0, .inr (3, [.ref d1, .int (nI k)])), (d1, zI E 100 fU)] (zQv E (S := Unit) (fun _ => True) (fun _ => [(h0, .inr (3, [.ref d1, .int 0])), (d1, zI E 100 fU)])) := by
  refine zz_met (by decide +kernel) (Nat.le_of_ble_eq_true rfl) ?_
  intro p e s m below meth c A ls C hin hA hK hst hP hD hl
  obtain ⟨hx, hb, hr, hml, hown, hts, hlk⟩ := id C
  have hS : va_S A s.heap s.heap [] := va_S.rf
  have hl : lv_has ls 1 [(0, .ref h0)] := hl
  refine lv_aload_n hx hb d_Rt_forget_0 rfl (lv_at hl 0 rfl) ?_
  refine lv_iconst (v := 0) hx hb d_Rt_forget_1 (by decide) ?_
  refine zz_put C hK hP hD hS fl_Rt_15 0 rfl rfl rfl (Nat.le_of_ble_eq_true rfl) d_Rt_forget_2 (fun H locs hP hD hS => ?_)
  have hP : va_P E.1 vwCl [(h0, .inr (3, [.ref d1, .int 0])), (d1, zI E 100 fU)] H := hP
  have hD : va_D A [(h0, .inr (3, [.ref d1, .int 0])), (d1, zI E 100 fU)] := hD
  exact zz_retv C hS () (trivial) hP hD d_Rt_forget_5

set_option maxHeartbeats 4000000 in
set_option maxRecDepth 100000 in
theorem c_Rt_unitAt (l : Launch) (E : zG) (h0 d1 k : Nat) (fU : Nat → Int32) (j : Nat) (hk : k ≤ 100) (hj : j < 1000) : zMet l y_Rt_unitAt b_Rt_unitAt 2 (some .int) 0 0 0 0 E [.ref h0, .int (nI j)] [(h0, .inr (3, [.ref d1, .int (nI k)])), (d1, zI E 100 fU)] (zQi E (S := Unit) (fun r _ => r = rt_u fU k j) (fun _ => [(h0, .inr (3, [.ref d1, .int (nI k)])), (d1, zI E 100 fU)])) := by
  refine zz_met (by decide +kernel) (Nat.le_of_ble_eq_true rfl) ?_
  intro p e s m below meth c A ls C hin hA hK hst hP hD hl
  obtain ⟨hx, hb, hr, hml, hown, hts, hlk⟩ := id C
  have hS : va_S A s.heap s.heap [] := va_S.rf
  have hl : lv_has ls 2 [(0, .ref h0), (1, .int (nI j))] := hl
  refine lv_iload_n hx hb d_Rt_unitAt_0 rfl (lv_at hl 1 rfl) ?_
  refine lv_if_lt (tgt := 21) hx hb d_Rt_unitAt_1 (by decide) (fun c_5 => ?_) (fun c_5 => ?_)
  · exact absurd c_5 (nI_pos (by omega))
  · refine lv_iload_n hx hb d_Rt_unitAt_4 rfl (lv_at hl 1 rfl) ?_
    refine lv_aload_n hx hb d_Rt_unitAt_5 rfl (lv_at hl 0 rfl) ?_
    refine zz_get C hK hP fl_Rt_15 0 rfl rfl d_Rt_unitAt_6 ?_
    refine lv_icmp_ge (tgt := 21) hx hb d_Rt_unitAt_9 (by decide) (fun c_6 => ?_) (fun c_6 => ?_)
    · refine lv_iconst (v := (-1)) hx hb d_Rt_unitAt_21 (by decide) ?_
      exact zz_reti C (rfl) hS () ((if_neg (fun h => absurd c_6 (nI_ge h (by omega)))).symm) hP hD d_Rt_unitAt_22
    · have hjk : j < k := zz_ltc c_6 (by omega)
      refine lv_aload_n hx hb d_Rt_unitAt_12 rfl (lv_at hl 0 rfl) ?_
      refine zz_get C hK hP fl_Rt_11 0 rfl rfl d_Rt_unitAt_13 ?_
      refine lv_iload_n hx hb d_Rt_unitAt_16 rfl (lv_at hl 1 rfl) ?_
      refine zz_ialdN C hK hP 1 rfl (j := j) (by omega) (by omega) d_Rt_unitAt_17 ?_
      refine lv_goto (tgt := 22) hx hb d_Rt_unitAt_18 (by decide) ?_
      exact zz_reti C (rfl) hS () ((if_pos hjk).symm) hP hD d_Rt_unitAt_22

set_option maxHeartbeats 4000000 in
set_option maxRecDepth 100000 in
theorem lp_Rt_readThings {p : Program} {l : Launch} {e : Env} {s : State} {m : MethodId} {below : List Frame} {meth : Method} {c : Code} {A : Nat → Prop}  {E : zG} {h0 d1 k : Nat} {fU : Nat → Int32} {r0 c1 c2 tn : Nat} {fL fN : Nat → Int32} {bo : Int32} (hk : k ≤ 100) (C : cx p s m #[.ref h0, .ref r0] meth c b_Rt_readThings 3 y_Rt_readThings.cls (some .int)) (hA : ∀ q, s.heap.size ≤ q → A q) (hK : kt E s) (hst : stt A s s.heap) :
    ∀ (f p0 : Nat) (gL : Nat → Int32) (t : Nat) (_ : p0 + f = 100) (_ : rt_things (rt_u fU k) f p0 (gL, t) = rt_things (rt_u fU k) 100 0 (fL, tn)) (H : Heap) (locs : List Loc) (ls : Array Slot), va_P E.1 vwCl [(h0, .inr (3, [.ref d1, .int (nI k)])), (d1, zI E 100 fU), (r0, .inr (2, [.ref c1, .ref c2, .int (nI t), .int bo])), (c1, zI E 8 gL), (c2, zI E 8 fN)] H → va_D A [(h0, .inr (3, [.ref d1, .int (nI k)])), (d1, zI E 100 fU), (r0, .inr (2, [.ref c1, .ref c2, .int (nI t), .int bo])), (c1, zI E 8 gL), (c2, zI E 8 fN)] → va_S A s.heap H locs → lv_has ls 3 [(0, .ref h0), (1, .ref r0), (2, .int (nI p0))] → W p l e (zR 1 22 0 0) s m #[.ref h0, .ref r0] below meth c H locs 0 0 (MQ below ((zQi E (S := (Nat → Int32) × Nat) (fun r u => r = nI (rt_things (rt_u fU k) 100 0 (fL, tn)).1 ∧ u = (rt_things (rt_u fU k) 100 0 (fL, tn)).2) (fun u => [(h0, .inr (3, [.ref d1, .int (nI k)])), (d1, zI E 100 fU), (r0, .inr (2, [.ref c1, .ref c2, .int (nI u.2), .int bo])), (c1, zI E 8 u.1), (c2, zI E 8 fN)])) A) #[.ref h0, .ref r0] s 0 0 A) (F0 m 2 ls []) := by
  obtain ⟨hx, hb, hr, hml, hown, hts, hlk⟩ := id C
  intro f
  induction f with
  | zero =>
    intro p0 gL t hi hgo H locs ls hP hD hS hl
    have hi : p0 = 100 := by omega
    subst hi
    refine lv_iload_n hx hb d_Rt_readThings_2 rfl (lv_at hl 2 rfl) ?_
    refine lv_bipush (v := 100) hx hb d_Rt_readThings_3 (by decide) ?_
    refine lv_icmp_ge (tgt := 28) hx hb d_Rt_readThings_5 (by decide) (fun c_7 => ?_) (fun c_7 => ?_)
    · refine lv_bipush (v := 100) hx hb d_Rt_readThings_28 (by decide) ?_
      exact zz_reti C (rfl) hS (gL, t) (by rw [← hgo]; exact ⟨rfl, rfl⟩) hP hD d_Rt_readThings_30
    · exact absurd (nI_le (b := 100) (Nat.le_refl _) (by decide)) c_7
  | succ f ih =>
    intro p0 gL t hi hgo H locs ls hP hD hS hl
    refine lv_iload_n hx hb d_Rt_readThings_2 rfl (lv_at hl 2 rfl) ?_
    refine lv_bipush (v := 100) hx hb d_Rt_readThings_3 (by decide) ?_
    refine lv_icmp_ge (tgt := 28) hx hb d_Rt_readThings_5 (by decide) (fun c_8 => ?_) (fun c_8 => ?_)
    · exact absurd c_8 (nI_ge (b := 100) (by omega) (by decide))
    · refine lv_aload_n hx hb d_Rt_readThings_8 rfl (lv_at hl 1 rfl) ?_
      refine lv_aload_n hx hb d_Rt_readThings_9 rfl (lv_at hl 0 rfl) ?_
      refine lv_iload_n hx hb d_Rt_readThings_10 rfl (lv_at hl 2 rfl) ?_
      refine zz_goi (wr := [(r0, .inr (2, [.ref c1, .ref c2, .int (nI t), .int bo])), (c1, zI E 8 gL), (c2, zI E 8 fN)]) [0, 1] [2, 3, 4] rfl rfl (by decide) (by decide) hA hP hD hS (zz_runV (wc := [(h0, .inr (3, [.ref d1, .int (nI k)])), (d1, zI E 100 fU)]) (As := [.int (nI p0)]) (rest := [.ref r0]) C (c_Rt_unitAt l E h0 d1 k fU p0 hk (by omega)) ym_Rt_unitAt wd_ml_Rt_28 wd_im_Rt_unitAt wd_se_Rt_unitAt [0, 1] (by decide) rfl hA hK hst hP hD hS (ci := 3) (q0 := 0) rfl rfl rfl rfl hl.1 rfl (Nat.le_of_ble_eq_true rfl) ⟨Nat.le_of_ble_eq_true rfl, Nat.le_of_ble_eq_true rfl⟩ ⟨Nat.le_of_ble_eq_true rfl, Nat.le_of_ble_eq_true rfl⟩ d_Rt_readThings_11) (fun r_9 u H locs hw hP hD hS => ?_)
      have hP : va_P E.1 vwCl [(r0, .inr (2, [.ref c1, .ref c2, .int (nI t), .int bo])), (c1, zI E 8 gL), (c2, zI E 8 fN), (h0, .inr (3, [.ref d1, .int (nI k)])), (d1, zI E 100 fU)] H := hP
      have hD : va_D A [(r0, .inr (2, [.ref c1, .ref c2, .int (nI t), .int bo])), (c1, zI E 8 gL), (c2, zI E 8 fN), (h0, .inr (3, [.ref d1, .int (nI k)])), (d1, zI E 100 fU)] := hD
      subst hw
      have hP := hP.sub (ws' := [(h0, .inr (3, [.ref d1, .int (nI k)])), (d1, zI E 100 fU), (r0, .inr (2, [.ref c1, .ref c2, .int (nI t), .int bo])), (c1, zI E 8 gL), (c2, zI E 8 fN)]) [3, 4, 0, 1, 2] rfl
      have hD := hD.sub (ws' := [(h0, .inr (3, [.ref d1, .int (nI k)])), (d1, zI E 100 fU), (r0, .inr (2, [.ref c1, .ref c2, .int (nI t), .int bo])), (c1, zI E 8 gL), (c2, zI E 8 fN)]) [3, 4, 0, 1, 2] (by decide) rfl
      refine zz_goi (wr := [(h0, .inr (3, [.ref d1, .int (nI k)])), (d1, zI E 100 fU)]) [2, 3, 4] [0, 1] rfl rfl (by decide) (by decide) hA hP hD hS (zz_runV (wc := [(r0, .inr (2, [.ref c1, .ref c2, .int (nI t), .int bo])), (c1, zI E 8 gL), (c2, zI E 8 fN)]) (As := [.int (rt_u fU k p0)]) (rest := []) C (c_Rv_addThing l E r0 c1 c2 t gL fN bo (rt_u fU k p0)) ym_Rv_addThing wd_ml_Rt_43 wd_im_Rv_addThing wd_se_Rv_addThing [2, 3, 4] (by decide) rfl hA hK hst hP hD hS (ci := 2) (q0 := 0) rfl rfl rfl rfl hl.1 rfl (Nat.le_of_ble_eq_true rfl) ⟨Nat.le_of_ble_eq_true rfl, Nat.le_of_ble_eq_true rfl⟩ ⟨Nat.le_of_ble_eq_true rfl, Nat.le_of_ble_eq_true rfl⟩ d_Rt_readThings_14) (fun r1 u1 H locs hw hP hD hS => ?_)
      have hP : va_P E.1 vwCl [(h0, .inr (3, [.ref d1, .int (nI k)])), (d1, zI E 100 fU), (r0, .inr (2, [.ref c1, .ref c2, .int (nI u1.2), .int bo])), (c1, zI E 8 u1.1), (c2, zI E 8 fN)] H := hP
      have hD : va_D A [(h0, .inr (3, [.ref d1, .int (nI k)])), (d1, zI E 100 fU), (r0, .inr (2, [.ref c1, .ref c2, .int (nI u1.2), .int bo])), (c1, zI E 8 u1.1), (c2, zI E 8 fN)] := hD
      refine lv_if_ne (tgt := 22) hx hb d_Rt_readThings_17 (by decide) (fun c_10 => ?_) (fun c_10 => ?_)
      · have hok : rv_addok gL (rt_u fU k p0) := Classical.byContradiction (fun h => c_10 (hw.2 h).1)
        obtain ⟨-, hu⟩ := hw.1 hok
        subst hu
        have hP : va_P E.1 vwCl [(h0, .inr (3, [.ref d1, .int (nI k)])), (d1, zI E 100 fU), (r0, .inr (2, [.ref c1, .ref c2, .int (nI (t + 1)), .int bo])), (c1, zI E 8 (upd gL (rt_u fU k p0 - 97).toNatClampNeg (nI t))), (c2, zI E 8 fN)] H := hP
        have hD : va_D A [(h0, .inr (3, [.ref d1, .int (nI k)])), (d1, zI E 100 fU), (r0, .inr (2, [.ref c1, .ref c2, .int (nI (t + 1)), .int bo])), (c1, zI E 8 (upd gL (rt_u fU k p0 - 97).toNatClampNeg (nI t))), (c2, zI E 8 fN)] := hD
        refine lv_iinc (v := nI (p0 + 1)) (lv' := [(2, .int (nI (p0 + 1))), (0, .ref h0), (1, .ref r0)]) hx hb d_Rt_readThings_22 hl (k := 2) rfl (nI_1 _) (by decide) rfl (fun ls hl => ?_)
        refine lv_goto (tgt := 2) hx hb d_Rt_readThings_25 (by decide) ?_
        exact ih (p0 + 1) (upd gL (rt_u fU k p0 - 97).toNatClampNeg (nI t)) (t + 1) (by omega) (by rw [← hgo, rt_things_pos (S := (gL, t)) hok]) _ _ ls hP hD hS (lv_sub hl [1, 2, 0] rfl)
      · have hok : ¬ rv_addok gL (rt_u fU k p0) := fun h => absurd ((hw.1 h).1.symm.trans c_10) (by decide)
        obtain ⟨-, hu⟩ := hw.2 hok
        subst hu
        have hP : va_P E.1 vwCl [(h0, .inr (3, [.ref d1, .int (nI k)])), (d1, zI E 100 fU), (r0, .inr (2, [.ref c1, .ref c2, .int (nI t), .int bo])), (c1, zI E 8 gL), (c2, zI E 8 fN)] H := hP
        have hD : va_D A [(h0, .inr (3, [.ref d1, .int (nI k)])), (d1, zI E 100 fU), (r0, .inr (2, [.ref c1, .ref c2, .int (nI t), .int bo])), (c1, zI E 8 gL), (c2, zI E 8 fN)] := hD
        refine lv_iload_n hx hb d_Rt_readThings_20 rfl (lv_at hl 2 rfl) ?_
        exact zz_reti C (rfl) hS (gL, t) (by rw [← hgo, rt_things_neg (S := (gL, t)) hok]; exact ⟨rfl, rfl⟩) hP hD d_Rt_readThings_21

set_option maxHeartbeats 4000000 in
set_option maxRecDepth 100000 in
theorem c_Rt_readThings (l : Launch) (E : zG) (h0 d1 k : Nat) (fU : Nat → Int32) (r0 c1 c2 tn : Nat) (fL fN : Nat → Int32) (bo : Int32) (hk : k ≤ 100) : zMet l y_Rt_readThings b_Rt_readThings 3 (some .int) 1 22 0 0 E [.ref h0, .ref r0] [(h0, .inr (3, [.ref d1, .int (nI k)])), (d1, zI E 100 fU), (r0, .inr (2, [.ref c1, .ref c2, .int (nI tn), .int bo])), (c1, zI E 8 fL), (c2, zI E 8 fN)] (zQi E (S := (Nat → Int32) × Nat) (fun r u => r = nI (rt_things (rt_u fU k) 100 0 (fL, tn)).1 ∧ u = (rt_things (rt_u fU k) 100 0 (fL, tn)).2) (fun u => [(h0, .inr (3, [.ref d1, .int (nI k)])), (d1, zI E 100 fU), (r0, .inr (2, [.ref c1, .ref c2, .int (nI u.2), .int bo])), (c1, zI E 8 u.1), (c2, zI E 8 fN)])) := by
  refine zz_met (by decide +kernel) (Nat.le_of_ble_eq_true rfl) ?_
  intro p e s m below meth c A ls C hin hA hK hst hP hD hl
  obtain ⟨hx, hb, hr, hml, hown, hts, hlk⟩ := id C
  have hS : va_S A s.heap s.heap [] := va_S.rf
  have hl : lv_has ls 3 [(0, .ref h0), (1, .ref r0)] := hl
  refine lv_iconst (v := 0) hx hb d_Rt_readThings_0 (by decide) ?_
  refine lv_istore_n (lv' := [(2, .int 0), (0, .ref h0), (1, .ref r0)]) hx hb d_Rt_readThings_1 rfl hl (by decide) rfl (fun ls hl => ?_)
  have hl := lv_sub (l' := [(0, .ref h0), (1, .ref r0), (2, .int (nI 0))]) hl [1, 2, 0] (rfl)
  exact lp_Rt_readThings hk C hA hK hst 100 0 fL tn (by omega) rfl _ _ ls hP hD hS hl

set_option maxHeartbeats 4000000 in
set_option maxRecDepth 100000 in
theorem lp_Rt_readInto {p : Program} {l : Launch} {e : Env} {s : State} {m : MethodId} {below : List Frame} {meth : Method} {c : Code} {A : Nat → Prop}  {E : zG} {h0 d1 k : Nat} {fU : Nat → Int32} {r0 c1 c2 : Nat} (hk : k ≤ 100) {fL0 fN0 : Nat → Int32} (h1 : ∀ j, j < 8 → fL0 j = -1) (h2 : ∀ j, j < 8 → fN0 j = 0) {gL : Nat → Int32} {t p1 : Nat} (ht : t ≤ 8) (hp1 : ¬ p1 = 0) (hT : rt_things (rt_u fU k) 100 0 (fL0, 0) = (p1, gL, t)) (C : cx p s m #[.ref h0, .ref r0] meth c b_Rt_readInto 5 y_Rt_readInto.cls (some .int)) (hA : ∀ q, s.heap.size ≤ q → A q) (hK : kt E s) (hst : stt A s s.heap) :
    ∀ (f i p0 : Nat) (gN : Nat → Int32) (b0 : Int32) (_ : i + f = 100) (_ : p0 ≤ 100 + 3 * i) (_ : rt_pairs (rt_u fU k) k gL t f p0 (gN, b0) = rt_pairs (rt_u fU k) k gL t 100 p1 (fN0, 0)) (H : Heap) (locs : List Loc) (ls : Array Slot), va_P E.1 vwCl [(h0, .inr (3, [.ref d1, .int (nI k)])), (d1, zI E 100 fU), (r0, .inr (2, [.ref c1, .ref c2, .int (nI t), .int b0])), (c1, zI E 8 gL), (c2, zI E 8 gN)] H → va_D A [(h0, .inr (3, [.ref d1, .int (nI k)])), (d1, zI E 100 fU), (r0, .inr (2, [.ref c1, .ref c2, .int (nI t), .int b0])), (c1, zI E 8 gL), (c2, zI E 8 gN)] → va_S A s.heap H locs → lv_has ls 5 [(0, .ref h0), (1, .ref r0), (2, .int (nI p0)), (3, .int (nI i))] → W p l e (zR 2 44 0 0) s m #[.ref h0, .ref r0] below meth c H locs 0 0 (MQ below ((zQi E (S := (Nat → Int32) × (Nat → Int32) × Nat × Int32) (fun r u => ∃ fL0 fN0 : Nat → Int32, (∀ j, j < 8 → fL0 j = -1) ∧ (∀ j, j < 8 → fN0 j = 0) ∧ u.1 = (rt_things (rt_u fU k) 100 0 (fL0, 0)).2.1 ∧ u.2.2.1 = (rt_things (rt_u fU k) 100 0 (fL0, 0)).2.2 ∧ ((rt_things (rt_u fU k) 100 0 (fL0, 0)).1 = 0 → r = 0 ∧ u.2.1 = fN0 ∧ u.2.2.2 = 0) ∧ (¬ (rt_things (rt_u fU k) 100 0 (fL0, 0)).1 = 0 → (r, u.2.1, u.2.2.2) = rt_pairs (rt_u fU k) k (rt_things (rt_u fU k) 100 0 (fL0, 0)).2.1 (rt_things (rt_u fU k) 100 0 (fL0, 0)).2.2 100 (rt_things (rt_u fU k) 100 0 (fL0, 0)).1 (fN0, 0))) (fun u => [(h0, .inr (3, [.ref d1, .int (nI k)])), (d1, zI E 100 fU), (r0, .inr (2, [.ref c1, .ref c2, .int (nI u.2.2.1), .int u.2.2.2])), (c1, zI E 8 u.1), (c2, zI E 8 u.2.1)])) A) #[.ref h0, .ref r0] s 0 0 A) (F0 m 18 ls []) := by
  obtain ⟨hx, hb, hr, hml, hown, hts, hlk⟩ := id C
  intro f
  induction f with
  | zero =>
    intro i p0 gN b0 hi hp hgo H locs ls hP hD hS hl
    have hi : i = 100 := by omega
    subst hi
    refine lv_iload_n hx hb d_Rt_readInto_18 rfl (lv_at hl 3 rfl) ?_
    refine lv_bipush (v := 100) hx hb d_Rt_readInto_19 (by decide) ?_
    refine lv_icmp_ge (tgt := 124) hx hb d_Rt_readInto_21 (by decide) (fun c_11 => ?_) (fun c_11 => ?_)
    · refine lv_iload_n hx hb d_Rt_readInto_124 rfl (lv_at hl 2 rfl) ?_
      exact zz_reti C (rfl) hS (gL, gN, t, b0) (⟨fL0, fN0, h1, h2, by rw [hT], by rw [hT], fun h => absurd (by rw [hT] at h; exact h) hp1, fun _ => by rw [hT]; show (_, _, _) = rt_pairs (rt_u fU k) k gL t 100 p1 (fN0, 0); rw [← hgo]; exact rfl⟩) hP hD d_Rt_readInto_125
    · exact absurd (nI_le (b := 100) (Nat.le_refl _) (by decide)) c_11
  | succ f ih =>
    intro i p0 gN b0 hi hp hgo H locs ls hP hD hS hl
    refine lv_iload_n hx hb d_Rt_readInto_18 rfl (lv_at hl 3 rfl) ?_
    refine lv_bipush (v := 100) hx hb d_Rt_readInto_19 (by decide) ?_
    refine lv_icmp_ge (tgt := 124) hx hb d_Rt_readInto_21 (by decide) (fun c_12 => ?_) (fun c_12 => ?_)
    · exact absurd c_12 (nI_ge (b := 100) (by omega) (by decide))
    · refine lv_aload_n hx hb d_Rt_readInto_24 rfl (lv_at hl 0 rfl) ?_
      refine lv_iload_n hx hb d_Rt_readInto_25 rfl (lv_at hl 2 rfl) ?_
      refine zz_goi (wr := [(r0, .inr (2, [.ref c1, .ref c2, .int (nI t), .int b0])), (c1, zI E 8 gL), (c2, zI E 8 gN)]) [0, 1] [2, 3, 4] rfl rfl (by decide) (by decide) hA hP hD hS (zz_runV (wc := [(h0, .inr (3, [.ref d1, .int (nI k)])), (d1, zI E 100 fU)]) (As := [.int (nI p0)]) (rest := []) C (c_Rt_unitAt l E h0 d1 k fU p0 hk (by omega)) ym_Rt_unitAt wd_ml_Rt_28 wd_im_Rt_unitAt wd_se_Rt_unitAt [0, 1] (by decide) rfl hA hK hst hP hD hS (ci := 3) (q0 := 0) rfl rfl rfl rfl hl.1 rfl (Nat.le_of_ble_eq_true rfl) ⟨Nat.le_of_ble_eq_true rfl, Nat.le_of_ble_eq_true rfl⟩ ⟨Nat.le_of_ble_eq_true rfl, Nat.le_of_ble_eq_true rfl⟩ d_Rt_readInto_26) (fun r_13 u H locs hw hP hD hS => ?_)
      have hP : va_P E.1 vwCl [(r0, .inr (2, [.ref c1, .ref c2, .int (nI t), .int b0])), (c1, zI E 8 gL), (c2, zI E 8 gN), (h0, .inr (3, [.ref d1, .int (nI k)])), (d1, zI E 100 fU)] H := hP
      have hD : va_D A [(r0, .inr (2, [.ref c1, .ref c2, .int (nI t), .int b0])), (c1, zI E 8 gL), (c2, zI E 8 gN), (h0, .inr (3, [.ref d1, .int (nI k)])), (d1, zI E 100 fU)] := hD
      subst hw
      have hP := hP.sub (ws' := [(h0, .inr (3, [.ref d1, .int (nI k)])), (d1, zI E 100 fU), (r0, .inr (2, [.ref c1, .ref c2, .int (nI t), .int b0])), (c1, zI E 8 gL), (c2, zI E 8 gN)]) [3, 4, 0, 1, 2] rfl
      have hD := hD.sub (ws' := [(h0, .inr (3, [.ref d1, .int (nI k)])), (d1, zI E 100 fU), (r0, .inr (2, [.ref c1, .ref c2, .int (nI t), .int b0])), (c1, zI E 8 gL), (c2, zI E 8 gN)]) [3, 4, 0, 1, 2] (by decide) rfl
      refine lv_bipush (v := 32) hx hb d_Rt_readInto_29 (by decide) ?_
      refine lv_icmp_eq (tgt := 36) hx hb d_Rt_readInto_31 (by decide) (fun c_14 => ?_) (fun c_14 => ?_)
      · refine lv_aload_n hx hb d_Rt_readInto_36 rfl (lv_at hl 1 rfl) ?_
        refine lv_aload_n hx hb d_Rt_readInto_37 rfl (lv_at hl 0 rfl) ?_
        refine lv_iload_n hx hb d_Rt_readInto_38 rfl (lv_at hl 2 rfl) ?_
        refine lv_iconst (v := 1) hx hb d_Rt_readInto_39 (by decide) ?_
        refine lv_iadd hx hb d_Rt_readInto_40 ?_
        refine zz_eqi (y := nI (p0 + 1)) (nI_1 _) ?_
        refine zz_goi (wr := [(r0, .inr (2, [.ref c1, .ref c2, .int (nI t), .int b0])), (c1, zI E 8 gL), (c2, zI E 8 gN)]) [0, 1] [2, 3, 4] rfl rfl (by decide) (by decide) hA hP hD hS (zz_runV (wc := [(h0, .inr (3, [.ref d1, .int (nI k)])), (d1, zI E 100 fU)]) (As := [.int (nI (p0 + 1))]) (rest := [.ref r0]) C (c_Rt_unitAt l E h0 d1 k fU (p0 + 1) hk (by omega)) ym_Rt_unitAt wd_ml_Rt_28 wd_im_Rt_unitAt wd_se_Rt_unitAt [0, 1] (by decide) rfl hA hK hst hP hD hS (ci := 3) (q0 := 0) rfl rfl rfl rfl hl.1 rfl (Nat.le_of_ble_eq_true rfl) ⟨Nat.le_of_ble_eq_true rfl, Nat.le_of_ble_eq_true rfl⟩ ⟨Nat.le_of_ble_eq_true rfl, Nat.le_of_ble_eq_true rfl⟩ d_Rt_readInto_41) (fun r_15 u H locs hw hP hD hS => ?_)
        have hP : va_P E.1 vwCl [(r0, .inr (2, [.ref c1, .ref c2, .int (nI t), .int b0])), (c1, zI E 8 gL), (c2, zI E 8 gN), (h0, .inr (3, [.ref d1, .int (nI k)])), (d1, zI E 100 fU)] H := hP
        have hD : va_D A [(r0, .inr (2, [.ref c1, .ref c2, .int (nI t), .int b0])), (c1, zI E 8 gL), (c2, zI E 8 gN), (h0, .inr (3, [.ref d1, .int (nI k)])), (d1, zI E 100 fU)] := hD
        subst hw
        have hP := hP.sub (ws' := [(h0, .inr (3, [.ref d1, .int (nI k)])), (d1, zI E 100 fU), (r0, .inr (2, [.ref c1, .ref c2, .int (nI t), .int b0])), (c1, zI E 8 gL), (c2, zI E 8 gN)]) [3, 4, 0, 1, 2] rfl
        have hD := hD.sub (ws' := [(h0, .inr (3, [.ref d1, .int (nI k)])), (d1, zI E 100 fU), (r0, .inr (2, [.ref c1, .ref c2, .int (nI t), .int b0])), (c1, zI E 8 gL), (c2, zI E 8 gN)]) [3, 4, 0, 1, 2] (by decide) rfl
        refine zz_goi (wr := [(h0, .inr (3, [.ref d1, .int (nI k)])), (d1, zI E 100 fU)]) [2, 3, 4] [0, 1] rfl rfl (by decide) (by decide) hA hP hD hS (zz_runV (wc := [(r0, .inr (2, [.ref c1, .ref c2, .int (nI t), .int b0])), (c1, zI E 8 gL), (c2, zI E 8 gN)]) (As := [.int (rt_u fU k (p0 + 1))]) (rest := []) C (c_Rv_setBoat l E r0 c1 c2 t gL gN b0 (rt_u fU k (p0 + 1))) ym_Rv_setBoat wd_ml_Rt_32 wd_im_Rv_setBoat wd_se_Rv_setBoat [2, 3, 4] (by decide) rfl hA hK hst hP hD hS (ci := 2) (q0 := 0) rfl rfl rfl rfl hl.1 rfl (Nat.le_of_ble_eq_true rfl) ⟨Nat.le_of_ble_eq_true rfl, Nat.le_of_ble_eq_true rfl⟩ ⟨Nat.le_of_ble_eq_true rfl, Nat.le_of_ble_eq_true rfl⟩ d_Rt_readInto_44) (fun r1 u1 H locs hwb hP hD hS => ?_)
        have hP : va_P E.1 vwCl [(h0, .inr (3, [.ref d1, .int (nI k)])), (d1, zI E 100 fU), (r0, .inr (2, [.ref c1, .ref c2, .int (nI t), .int u1])), (c1, zI E 8 gL), (c2, zI E 8 gN)] H := hP
        have hD : va_D A [(h0, .inr (3, [.ref d1, .int (nI k)])), (d1, zI E 100 fU), (r0, .inr (2, [.ref c1, .ref c2, .int (nI t), .int u1])), (c1, zI E 8 gL), (c2, zI E 8 gN)] := hD
        refine lv_if_eq (tgt := 68) hx hb d_Rt_readInto_47 (by decide) (fun c_16 => ?_) (fun c_16 => ?_)
        · have hb1 : ¬ (¬ rt_u fU k (p0 + 1) < 49 ∧ rt_u fU k (p0 + 1) ≤ 51) := fun h => absurd ((hwb.1 h).1.symm.trans c_16) (by decide)
          obtain ⟨-, hu⟩ := hwb.2 hb1
          have hP : va_P E.1 vwCl [(h0, .inr (3, [.ref d1, .int (nI k)])), (d1, zI E 100 fU), (r0, .inr (2, [.ref c1, .ref c2, .int (nI t), .int b0])), (c1, zI E 8 gL), (c2, zI E 8 gN)] H := by
            have h9 := hP
            rw [hu] at h9
            exact h9
          have hD : va_D A [(h0, .inr (3, [.ref d1, .int (nI k)])), (d1, zI E 100 fU), (r0, .inr (2, [.ref c1, .ref c2, .int (nI t), .int b0])), (c1, zI E 8 gL), (c2, zI E 8 gN)] := by
            have h9 := hD
            rw [hu] at h9
            exact h9
          refine lv_aload_n hx hb d_Rt_readInto_68 rfl (lv_at hl 1 rfl) ?_
          refine lv_aload_n hx hb d_Rt_readInto_69 rfl (lv_at hl 0 rfl) ?_
          refine lv_iload_n hx hb d_Rt_readInto_70 rfl (lv_at hl 2 rfl) ?_
          refine lv_iconst (v := 1) hx hb d_Rt_readInto_71 (by decide) ?_
          refine lv_iadd hx hb d_Rt_readInto_72 ?_
          refine zz_eqi (y := nI (p0 + 1)) (nI_1 _) ?_
          refine zz_goi (wr := [(r0, .inr (2, [.ref c1, .ref c2, .int (nI t), .int b0])), (c1, zI E 8 gL), (c2, zI E 8 gN)]) [0, 1] [2, 3, 4] rfl rfl (by decide) (by decide) hA hP hD hS (zz_runV (wc := [(h0, .inr (3, [.ref d1, .int (nI k)])), (d1, zI E 100 fU)]) (As := [.int (nI (p0 + 1))]) (rest := [.ref r0]) C (c_Rt_unitAt l E h0 d1 k fU (p0 + 1) hk (by omega)) ym_Rt_unitAt wd_ml_Rt_28 wd_im_Rt_unitAt wd_se_Rt_unitAt [0, 1] (by decide) rfl hA hK hst hP hD hS (ci := 3) (q0 := 0) rfl rfl rfl rfl hl.1 rfl (Nat.le_of_ble_eq_true rfl) ⟨Nat.le_of_ble_eq_true rfl, Nat.le_of_ble_eq_true rfl⟩ ⟨Nat.le_of_ble_eq_true rfl, Nat.le_of_ble_eq_true rfl⟩ d_Rt_readInto_73) (fun r_18 u H locs hw hP hD hS => ?_)
          have hP : va_P E.1 vwCl [(r0, .inr (2, [.ref c1, .ref c2, .int (nI t), .int b0])), (c1, zI E 8 gL), (c2, zI E 8 gN), (h0, .inr (3, [.ref d1, .int (nI k)])), (d1, zI E 100 fU)] H := hP
          have hD : va_D A [(r0, .inr (2, [.ref c1, .ref c2, .int (nI t), .int b0])), (c1, zI E 8 gL), (c2, zI E 8 gN), (h0, .inr (3, [.ref d1, .int (nI k)])), (d1, zI E 100 fU)] := hD
          subst hw
          have hP := hP.sub (ws' := [(h0, .inr (3, [.ref d1, .int (nI k)])), (d1, zI E 100 fU), (r0, .inr (2, [.ref c1, .ref c2, .int (nI t), .int b0])), (c1, zI E 8 gL), (c2, zI E 8 gN)]) [3, 4, 0, 1, 2] rfl
          have hD := hD.sub (ws' := [(h0, .inr (3, [.ref d1, .int (nI k)])), (d1, zI E 100 fU), (r0, .inr (2, [.ref c1, .ref c2, .int (nI t), .int b0])), (c1, zI E 8 gL), (c2, zI E 8 gN)]) [3, 4, 0, 1, 2] (by decide) rfl
          refine zz_goi (wr := [(h0, .inr (3, [.ref d1, .int (nI k)])), (d1, zI E 100 fU)]) [2, 3, 4] [0, 1] rfl rfl (by decide) (by decide) hA hP hD hS (zz_runV (wc := [(r0, .inr (2, [.ref c1, .ref c2, .int (nI t), .int b0])), (c1, zI E 8 gL), (c2, zI E 8 gN)]) (As := [.int (rt_u fU k (p0 + 1))]) (rest := []) C (c_Rv_thingOf l E r0 c1 c2 t gL gN b0 (rt_u fU k (p0 + 1))) ym_Rv_thingOf wd_ml_Rt_36 wd_im_Rv_thingOf wd_se_Rv_thingOf [2, 3, 4] (by decide) rfl hA hK hst hP hD hS (ci := 2) (q0 := 0) rfl rfl rfl rfl hl.1 rfl (Nat.le_of_ble_eq_true rfl) ⟨Nat.le_of_ble_eq_true rfl, Nat.le_of_ble_eq_true rfl⟩ ⟨Nat.le_of_ble_eq_true rfl, Nat.le_of_ble_eq_true rfl⟩ d_Rt_readInto_76) (fun r_19 u H locs hw hP hD hS => ?_)
          have hP : va_P E.1 vwCl [(h0, .inr (3, [.ref d1, .int (nI k)])), (d1, zI E 100 fU), (r0, .inr (2, [.ref c1, .ref c2, .int (nI t), .int b0])), (c1, zI E 8 gL), (c2, zI E 8 gN)] H := hP
          have hD : va_D A [(h0, .inr (3, [.ref d1, .int (nI k)])), (d1, zI E 100 fU), (r0, .inr (2, [.ref c1, .ref c2, .int (nI t), .int b0])), (c1, zI E 8 gL), (c2, zI E 8 gN)] := hD
          subst hw
          refine lv_istore (lv' := [(4, .int (rv_thing gL (rt_u fU k (p0 + 1)))), (0, .ref h0), (1, .ref r0), (2, .int (nI p0)), (3, .int (nI i))]) hx hb d_Rt_readInto_79 hl (by decide) rfl (fun ls hl => ?_)
          refine lv_iload hx hb d_Rt_readInto_81 (lv_at hl 0 rfl) ?_
          refine lv_iconst (v := (-1)) hx hb d_Rt_readInto_83 (by decide) ?_
          refine lv_icmp_ne (tgt := 91) hx hb d_Rt_readInto_84 (by decide) (fun c_20 => ?_) (fun c_20 => ?_)
          · refine lv_aload_n hx hb d_Rt_readInto_91 rfl (lv_at hl 2 rfl) ?_
            refine lv_iload hx hb d_Rt_readInto_92 (lv_at hl 0 rfl) ?_
            refine lv_aload_n hx hb d_Rt_readInto_94 rfl (lv_at hl 2 rfl) ?_
            refine lv_aload_n hx hb d_Rt_readInto_95 rfl (lv_at hl 1 rfl) ?_
            refine lv_iload_n hx hb d_Rt_readInto_96 rfl (lv_at hl 3 rfl) ?_
            refine lv_iconst (v := 2) hx hb d_Rt_readInto_97 (by decide) ?_
            refine lv_iadd hx hb d_Rt_readInto_98 ?_
            refine zz_eqi (y := nI (p0 + 2)) (nI_add p0 2) ?_
            refine zz_goi (wr := [(r0, .inr (2, [.ref c1, .ref c2, .int (nI t), .int b0])), (c1, zI E 8 gL), (c2, zI E 8 gN)]) [0, 1] [2, 3, 4] rfl rfl (by decide) (by decide) hA hP hD hS (zz_runV (wc := [(h0, .inr (3, [.ref d1, .int (nI k)])), (d1, zI E 100 fU)]) (As := [.int (nI (p0 + 2))]) (rest := [.ref r0, .int (rv_thing gL (rt_u fU k (p0 + 1))), .ref r0]) C (c_Rt_unitAt l E h0 d1 k fU (p0 + 2) hk (by omega)) ym_Rt_unitAt wd_ml_Rt_28 wd_im_Rt_unitAt wd_se_Rt_unitAt [0, 1] (by decide) rfl hA hK hst hP hD hS (ci := 3) (q0 := 0) rfl rfl rfl rfl hl.1 rfl (Nat.le_of_ble_eq_true rfl) ⟨Nat.le_of_ble_eq_true rfl, Nat.le_of_ble_eq_true rfl⟩ ⟨Nat.le_of_ble_eq_true rfl, Nat.le_of_ble_eq_true rfl⟩ d_Rt_readInto_99) (fun r_21 u H locs hw hP hD hS => ?_)
            have hP : va_P E.1 vwCl [(r0, .inr (2, [.ref c1, .ref c2, .int (nI t), .int b0])), (c1, zI E 8 gL), (c2, zI E 8 gN), (h0, .inr (3, [.ref d1, .int (nI k)])), (d1, zI E 100 fU)] H := hP
            have hD : va_D A [(r0, .inr (2, [.ref c1, .ref c2, .int (nI t), .int b0])), (c1, zI E 8 gL), (c2, zI E 8 gN), (h0, .inr (3, [.ref d1, .int (nI k)])), (d1, zI E 100 fU)] := hD
            subst hw
            have hP := hP.sub (ws' := [(h0, .inr (3, [.ref d1, .int (nI k)])), (d1, zI E 100 fU), (r0, .inr (2, [.ref c1, .ref c2, .int (nI t), .int b0])), (c1, zI E 8 gL), (c2, zI E 8 gN)]) [3, 4, 0, 1, 2] rfl
            have hD := hD.sub (ws' := [(h0, .inr (3, [.ref d1, .int (nI k)])), (d1, zI E 100 fU), (r0, .inr (2, [.ref c1, .ref c2, .int (nI t), .int b0])), (c1, zI E 8 gL), (c2, zI E 8 gN)]) [3, 4, 0, 1, 2] (by decide) rfl
            refine zz_goi (wr := [(h0, .inr (3, [.ref d1, .int (nI k)])), (d1, zI E 100 fU)]) [2, 3, 4] [0, 1] rfl rfl (by decide) (by decide) hA hP hD hS (zz_runV (wc := [(r0, .inr (2, [.ref c1, .ref c2, .int (nI t), .int b0])), (c1, zI E 8 gL), (c2, zI E 8 gN)]) (As := [.int (rt_u fU k (p0 + 2))]) (rest := [.int (rv_thing gL (rt_u fU k (p0 + 1))), .ref r0]) C (c_Rv_thingOf l E r0 c1 c2 t gL gN b0 (rt_u fU k (p0 + 2))) ym_Rv_thingOf wd_ml_Rt_36 wd_im_Rv_thingOf wd_se_Rv_thingOf [2, 3, 4] (by decide) rfl hA hK hst hP hD hS (ci := 2) (q0 := 0) rfl rfl rfl rfl hl.1 rfl (Nat.le_of_ble_eq_true rfl) ⟨Nat.le_of_ble_eq_true rfl, Nat.le_of_ble_eq_true rfl⟩ ⟨Nat.le_of_ble_eq_true rfl, Nat.le_of_ble_eq_true rfl⟩ d_Rt_readInto_102) (fun r_22 u H locs hw hP hD hS => ?_)
            have hP : va_P E.1 vwCl [(h0, .inr (3, [.ref d1, .int (nI k)])), (d1, zI E 100 fU), (r0, .inr (2, [.ref c1, .ref c2, .int (nI t), .int b0])), (c1, zI E 8 gL), (c2, zI E 8 gN)] H := hP
            have hD : va_D A [(h0, .inr (3, [.ref d1, .int (nI k)])), (d1, zI E 100 fU), (r0, .inr (2, [.ref c1, .ref c2, .int (nI t), .int b0])), (c1, zI E 8 gL), (c2, zI E 8 gN)] := hD
            subst hw
            refine zz_goi (wr := [(h0, .inr (3, [.ref d1, .int (nI k)])), (d1, zI E 100 fU)]) [2, 3, 4] [0, 1] rfl rfl (by decide) (by decide) hA hP hD hS (zz_runV (wc := [(r0, .inr (2, [.ref c1, .ref c2, .int (nI t), .int b0])), (c1, zI E 8 gL), (c2, zI E 8 gN)]) (As := [.int (rv_thing gL (rt_u fU k (p0 + 1))), .int (rv_thing gL (rt_u fU k (p0 + 2)))]) (rest := []) C (c_Rv_keepApart l E r0 c1 c2 t gL gN b0 (rv_thing gL (rt_u fU k (p0 + 1))) (rv_thing gL (rt_u fU k (p0 + 2))) ht) ym_Rv_keepApart wd_ml_Rt_39 wd_im_Rv_keepApart wd_se_Rv_keepApart [2, 3, 4] (by decide) rfl hA hK hst hP hD hS (ci := 2) (q0 := 0) rfl rfl rfl rfl hl.1 rfl (Nat.le_of_ble_eq_true rfl) ⟨Nat.le_of_ble_eq_true rfl, Nat.le_of_ble_eq_true rfl⟩ ⟨Nat.le_of_ble_eq_true rfl, Nat.le_of_ble_eq_true rfl⟩ d_Rt_readInto_105) (fun r2 u2 H locs hwk hP hD hS => ?_)
            have hP : va_P E.1 vwCl [(h0, .inr (3, [.ref d1, .int (nI k)])), (d1, zI E 100 fU), (r0, .inr (2, [.ref c1, .ref c2, .int (nI t), .int b0])), (c1, zI E 8 gL), (c2, zI E 8 u2)] H := hP
            have hD : va_D A [(h0, .inr (3, [.ref d1, .int (nI k)])), (d1, zI E 100 fU), (r0, .inr (2, [.ref c1, .ref c2, .int (nI t), .int b0])), (c1, zI E 8 gL), (c2, zI E 8 u2)] := hD
            refine lv_if_ne (tgt := 115) hx hb d_Rt_readInto_108 (by decide) (fun c_23 => ?_) (fun c_23 => ?_)
            · have hk1 : rv_kok t (rv_thing gL (rt_u fU k (p0 + 1))) (rv_thing gL (rt_u fU k (p0 + 2))) := Classical.byContradiction (fun h => c_23 (hwk.2 h).1)
              obtain ⟨-, hu⟩ := hwk.1 hk1
              subst hu
              have hP : va_P E.1 vwCl [(h0, .inr (3, [.ref d1, .int (nI k)])), (d1, zI E 100 fU), (r0, .inr (2, [.ref c1, .ref c2, .int (nI t), .int b0])), (c1, zI E 8 gL), (c2, zI E 8 (rv_keep gN (rv_thing gL (rt_u fU k (p0 + 1))) (rv_thing gL (rt_u fU k (p0 + 2)))))] H := hP
              have hD : va_D A [(h0, .inr (3, [.ref d1, .int (nI k)])), (d1, zI E 100 fU), (r0, .inr (2, [.ref c1, .ref c2, .int (nI t), .int b0])), (c1, zI E 8 gL), (c2, zI E 8 (rv_keep gN (rv_thing gL (rt_u fU k (p0 + 1))) (rv_thing gL (rt_u fU k (p0 + 2)))))] := hD
              refine lv_iinc (v := nI (p0 + 3)) (lv' := [(2, .int (nI (p0 + 3))), (4, .int (rv_thing gL (rt_u fU k (p0 + 1)))), (0, .ref h0), (1, .ref r0), (3, .int (nI i))]) hx hb d_Rt_readInto_115 hl (k := 3) rfl (nI_add p0 3) (by decide) rfl (fun ls hl => ?_)
              refine lv_iinc (v := nI (i + 1)) (lv' := [(3, .int (nI (i + 1))), (2, .int (nI (p0 + 3))), (4, .int (rv_thing gL (rt_u fU k (p0 + 1)))), (0, .ref h0), (1, .ref r0)]) hx hb d_Rt_readInto_118 hl (k := 4) rfl (nI_1 _) (by decide) rfl (fun ls hl => ?_)
              refine lv_goto (tgt := 18) hx hb d_Rt_readInto_121 (by decide) ?_
              exact ih (i + 1) (p0 + 3) (rv_keep gN (rv_thing gL (rt_u fU k (p0 + 1))) (rv_thing gL (rt_u fU k (p0 + 2)))) b0 (by omega) (by omega) (by rw [← hgo]; conv => rhs; rw [rt_pairs, if_pos c_14, if_neg hb1, if_neg c_20, if_pos hk1]) _ _ ls hP hD hS (lv_sub hl [3, 4, 1, 0] rfl)
            · have hk1 : ¬ rv_kok t (rv_thing gL (rt_u fU k (p0 + 1))) (rv_thing gL (rt_u fU k (p0 + 2))) := fun h => absurd ((hwk.1 h).1.symm.trans c_23) (by decide)
              obtain ⟨-, hu⟩ := hwk.2 hk1
              have hP : va_P E.1 vwCl [(h0, .inr (3, [.ref d1, .int (nI k)])), (d1, zI E 100 fU), (r0, .inr (2, [.ref c1, .ref c2, .int (nI t), .int b0])), (c1, zI E 8 gL), (c2, zI E 8 gN)] H := by
                have h9 := hP
                rw [hu] at h9
                exact h9
              have hD : va_D A [(h0, .inr (3, [.ref d1, .int (nI k)])), (d1, zI E 100 fU), (r0, .inr (2, [.ref c1, .ref c2, .int (nI t), .int b0])), (c1, zI E 8 gL), (c2, zI E 8 gN)] := by
                have h9 := hD
                rw [hu] at h9
                exact h9
              refine lv_iload_n hx hb d_Rt_readInto_111 rfl (lv_at hl 3 rfl) ?_
              refine lv_iconst (v := 2) hx hb d_Rt_readInto_112 (by decide) ?_
              refine lv_iadd hx hb d_Rt_readInto_113 ?_
              refine zz_eqi (y := nI (p0 + 2)) (nI_add p0 2) ?_
              exact zz_reti C (rfl) hS (gL, gN, t, b0) (⟨fL0, fN0, h1, h2, by rw [hT], by rw [hT], fun h => absurd (by rw [hT] at h; exact h) hp1, fun _ => by rw [hT]; show (_, _, _) = rt_pairs (rt_u fU k) k gL t 100 p1 (fN0, 0); rw [← hgo]; exact (by rw [rt_pairs, if_pos c_14, if_neg hb1, if_neg c_20, if_neg hk1])⟩) hP hD d_Rt_readInto_114
          · refine lv_iload_n hx hb d_Rt_readInto_87 rfl (lv_at hl 3 rfl) ?_
            refine lv_iconst (v := 1) hx hb d_Rt_readInto_88 (by decide) ?_
            refine lv_iadd hx hb d_Rt_readInto_89 ?_
            refine zz_eqi (y := nI (p0 + 1)) (nI_1 _) ?_
            exact zz_reti C (rfl) hS (gL, gN, t, b0) (⟨fL0, fN0, h1, h2, by rw [hT], by rw [hT], fun h => absurd (by rw [hT] at h; exact h) hp1, fun _ => by rw [hT]; show (_, _, _) = rt_pairs (rt_u fU k) k gL t 100 p1 (fN0, 0); rw [← hgo]; exact (by rw [rt_pairs, if_pos c_14, if_neg hb1, if_pos c_20])⟩) hP hD d_Rt_readInto_90
        · have hb1 : ¬ rt_u fU k (p0 + 1) < 49 ∧ rt_u fU k (p0 + 1) ≤ 51 := Classical.byContradiction (fun h => c_16 (hwb.2 h).1)
          obtain ⟨-, hu⟩ := hwb.1 hb1
          subst hu
          have hP : va_P E.1 vwCl [(h0, .inr (3, [.ref d1, .int (nI k)])), (d1, zI E 100 fU), (r0, .inr (2, [.ref c1, .ref c2, .int (nI t), .int (rt_u fU k (p0 + 1) - 48)])), (c1, zI E 8 gL), (c2, zI E 8 gN)] H := hP
          have hD : va_D A [(h0, .inr (3, [.ref d1, .int (nI k)])), (d1, zI E 100 fU), (r0, .inr (2, [.ref c1, .ref c2, .int (nI t), .int (rt_u fU k (p0 + 1) - 48)])), (c1, zI E 8 gL), (c2, zI E 8 gN)] := hD
          refine lv_iload_n hx hb d_Rt_readInto_50 rfl (lv_at hl 2 rfl) ?_
          refine lv_iconst (v := 2) hx hb d_Rt_readInto_51 (by decide) ?_
          refine lv_iadd hx hb d_Rt_readInto_52 ?_
          refine zz_eqi (y := nI (p0 + 2)) (nI_add p0 2) ?_
          refine lv_aload_n hx hb d_Rt_readInto_53 rfl (lv_at hl 0 rfl) ?_
          refine zz_get C hK hP fl_Rt_15 0 rfl rfl d_Rt_readInto_54 ?_
          refine lv_icmp_ne (tgt := 64) hx hb d_Rt_readInto_57 (by decide) (fun c_17 => ?_) (fun c_17 => ?_)
          · refine lv_iload_n hx hb d_Rt_readInto_64 rfl (lv_at hl 2 rfl) ?_
            refine lv_iconst (v := 2) hx hb d_Rt_readInto_65 (by decide) ?_
            refine lv_iadd hx hb d_Rt_readInto_66 ?_
            refine zz_eqi (y := nI (p0 + 2)) (nI_add p0 2) ?_
            exact zz_reti C (rfl) hS (gL, gN, t, rt_u fU k (p0 + 1) - 48) (⟨fL0, fN0, h1, h2, by rw [hT], by rw [hT], fun h => absurd (by rw [hT] at h; exact h) hp1, fun _ => by rw [hT]; show (_, _, _) = rt_pairs (rt_u fU k) k gL t 100 p1 (fN0, 0); rw [← hgo]; exact (by rw [rt_pairs, if_pos c_14, if_pos hb1, if_neg (fun z => c_17 (by rw [z]))])⟩) hP hD d_Rt_readInto_67
          · refine lv_iconst (v := (-1)) hx hb d_Rt_readInto_60 (by decide) ?_
            refine lv_goto (tgt := 67) hx hb d_Rt_readInto_61 (by decide) ?_
            exact zz_reti C (rfl) hS (gL, gN, t, rt_u fU k (p0 + 1) - 48) (⟨fL0, fN0, h1, h2, by rw [hT], by rw [hT], fun h => absurd (by rw [hT] at h; exact h) hp1, fun _ => by rw [hT]; show (_, _, _) = rt_pairs (rt_u fU k) k gL t 100 p1 (fN0, 0); rw [← hgo]; exact (by rw [rt_pairs, if_pos c_14, if_pos hb1, if_pos ((nI_eq (by omega) (by omega)).mp c_17)])⟩) hP hD d_Rt_readInto_67
      · refine lv_iload_n hx hb d_Rt_readInto_34 rfl (lv_at hl 2 rfl) ?_
        exact zz_reti C (rfl) hS (gL, gN, t, b0) (⟨fL0, fN0, h1, h2, by rw [hT], by rw [hT], fun h => absurd (by rw [hT] at h; exact h) hp1, fun _ => by rw [hT]; show (_, _, _) = rt_pairs (rt_u fU k) k gL t 100 p1 (fN0, 0); rw [← hgo]; exact (by rw [rt_pairs, if_neg c_14])⟩) hP hD d_Rt_readInto_35

set_option maxHeartbeats 4000000 in
set_option maxRecDepth 100000 in
theorem c_Rt_readInto (l : Launch) (E : zG) (h0 d1 k : Nat) (fU : Nat → Int32) (r0 c1 c2 : Nat) (fL fN : Nat → Int32) (bo : Int32) (tt : Int32) (hk : k ≤ 100) : zMet l y_Rt_readInto b_Rt_readInto 5 (some .int) 2 44 0 0 E [.ref h0, .ref r0] [(h0, .inr (3, [.ref d1, .int (nI k)])), (d1, zI E 100 fU), (r0, .inr (2, [.ref c1, .ref c2, .int tt, .int bo])), (c1, zI E 8 fL), (c2, zI E 8 fN)] (zQi E (S := (Nat → Int32) × (Nat → Int32) × Nat × Int32) (fun r u => ∃ fL0 fN0 : Nat → Int32, (∀ j, j < 8 → fL0 j = -1) ∧ (∀ j, j < 8 → fN0 j = 0) ∧ u.1 = (rt_things (rt_u fU k) 100 0 (fL0, 0)).2.1 ∧ u.2.2.1 = (rt_things (rt_u fU k) 100 0 (fL0, 0)).2.2 ∧ ((rt_things (rt_u fU k) 100 0 (fL0, 0)).1 = 0 → r = 0 ∧ u.2.1 = fN0 ∧ u.2.2.2 = 0) ∧ (¬ (rt_things (rt_u fU k) 100 0 (fL0, 0)).1 = 0 → (r, u.2.1, u.2.2.2) = rt_pairs (rt_u fU k) k (rt_things (rt_u fU k) 100 0 (fL0, 0)).2.1 (rt_things (rt_u fU k) 100 0 (fL0, 0)).2.2 100 (rt_things (rt_u fU k) 100 0 (fL0, 0)).1 (fN0, 0))) (fun u => [(h0, .inr (3, [.ref d1, .int (nI k)])), (d1, zI E 100 fU), (r0, .inr (2, [.ref c1, .ref c2, .int (nI u.2.2.1), .int u.2.2.2])), (c1, zI E 8 u.1), (c2, zI E 8 u.2.1)])) := by
  refine zz_met (by decide +kernel) (Nat.le_of_ble_eq_true rfl) ?_
  intro p e s m below meth c A ls C hin hA hK hst hP hD hl
  obtain ⟨hx, hb, hr, hml, hown, hts, hlk⟩ := id C
  have hS : va_S A s.heap s.heap [] := va_S.rf
  have hl : lv_has ls 5 [(0, .ref h0), (1, .ref r0)] := hl
  refine lv_aload_n hx hb d_Rt_readInto_0 rfl (lv_at hl 1 rfl) ?_
  refine zz_gov (wr := [(h0, .inr (3, [.ref d1, .int (nI k)])), (d1, zI E 100 fU)]) [2, 3, 4] [0, 1] rfl rfl (by decide) (by decide) hA hP hD hS (zz_runV (wc := [(r0, .inr (2, [.ref c1, .ref c2, .int tt, .int bo])), (c1, zI E 8 fL), (c2, zI E 8 fN)]) (As := []) (rest := []) C (c_Rv_clear l E r0 c1 c2 fL fN bo tt) ym_Rv_clear wd_ml_Rt_19 wd_im_Rv_clear wd_se_Rv_clear [2, 3, 4] (by decide) rfl hA hK hst hP hD hS (ci := 2) (q0 := 0) rfl rfl rfl rfl hl.1 rfl (Nat.le_of_ble_eq_true rfl) ⟨Nat.le_of_ble_eq_true rfl, Nat.le_of_ble_eq_true rfl⟩ ⟨Nat.le_of_ble_eq_true rfl, Nat.le_of_ble_eq_true rfl⟩ d_Rt_readInto_1) (fun u0 H locs h0c hP hD hS => ?_)
  have hP : va_P E.1 vwCl [(h0, .inr (3, [.ref d1, .int (nI k)])), (d1, zI E 100 fU), (r0, .inr (2, [.ref c1, .ref c2, .int 0, .int 0])), (c1, zI E 8 u0.1), (c2, zI E 8 u0.2)] H := hP
  have hD : va_D A [(h0, .inr (3, [.ref d1, .int (nI k)])), (d1, zI E 100 fU), (r0, .inr (2, [.ref c1, .ref c2, .int 0, .int 0])), (c1, zI E 8 u0.1), (c2, zI E 8 u0.2)] := hD
  obtain ⟨fL0, fN0⟩ := u0
  obtain ⟨h1, h2⟩ := h0c
  have hP : va_P E.1 vwCl [(h0, .inr (3, [.ref d1, .int (nI k)])), (d1, zI E 100 fU), (r0, .inr (2, [.ref c1, .ref c2, .int (nI 0), .int 0])), (c1, zI E 8 fL0), (c2, zI E 8 fN0)] H := hP
  have hD : va_D A [(h0, .inr (3, [.ref d1, .int (nI k)])), (d1, zI E 100 fU), (r0, .inr (2, [.ref c1, .ref c2, .int (nI 0), .int 0])), (c1, zI E 8 fL0), (c2, zI E 8 fN0)] := hD
  refine lv_aload_n hx hb d_Rt_readInto_4 rfl (lv_at hl 0 rfl) ?_
  refine lv_aload_n hx hb d_Rt_readInto_5 rfl (lv_at hl 1 rfl) ?_
  refine zz_goi (wr := []) [0, 1, 2, 3, 4] [] rfl rfl (by decide) (by decide) hA hP hD hS (zz_runV (wc := [(h0, .inr (3, [.ref d1, .int (nI k)])), (d1, zI E 100 fU), (r0, .inr (2, [.ref c1, .ref c2, .int (nI 0), .int 0])), (c1, zI E 8 fL0), (c2, zI E 8 fN0)]) (As := [.ref r0]) (rest := []) C (c_Rt_readThings l E h0 d1 k fU r0 c1 c2 0 fL0 fN0 0 hk) ym_Rt_readThings wd_ml_Rt_24 wd_im_Rt_readThings wd_se_Rt_readThings [0, 1, 2, 3, 4] (by decide) rfl hA hK hst hP hD hS (ci := 3) (q0 := 0) rfl rfl rfl rfl hl.1 rfl (Nat.le_of_ble_eq_true rfl) ⟨Nat.le_of_ble_eq_true rfl, Nat.le_of_ble_eq_true rfl⟩ ⟨Nat.le_of_ble_eq_true rfl, Nat.le_of_ble_eq_true rfl⟩ d_Rt_readInto_6) (fun r1 u1 H locs hw1 hP hD hS => ?_)
  have hP : va_P E.1 vwCl [(h0, .inr (3, [.ref d1, .int (nI k)])), (d1, zI E 100 fU), (r0, .inr (2, [.ref c1, .ref c2, .int (nI u1.2), .int 0])), (c1, zI E 8 u1.1), (c2, zI E 8 fN0)] H := hP
  have hD : va_D A [(h0, .inr (3, [.ref d1, .int (nI k)])), (d1, zI E 100 fU), (r0, .inr (2, [.ref c1, .ref c2, .int (nI u1.2), .int 0])), (c1, zI E 8 u1.1), (c2, zI E 8 fN0)] := hD
  obtain ⟨gL, t⟩ := u1
  obtain ⟨p1, hp1⟩ : ∃ p1, p1 = (rt_things (rt_u fU k) 100 0 (fL0, 0)).1 := ⟨_, rfl⟩
  have hT : rt_things (rt_u fU k) 100 0 (fL0, 0) = (p1, gL, t) := by rw [hp1, hw1.2]
  have er : r1 = nI p1 := by rw [hp1]; exact hw1.1
  subst er
  have hP : va_P E.1 vwCl [(h0, .inr (3, [.ref d1, .int (nI k)])), (d1, zI E 100 fU), (r0, .inr (2, [.ref c1, .ref c2, .int (nI t), .int 0])), (c1, zI E 8 gL), (c2, zI E 8 fN0)] H := hP
  have hD : va_D A [(h0, .inr (3, [.ref d1, .int (nI k)])), (d1, zI E 100 fU), (r0, .inr (2, [.ref c1, .ref c2, .int (nI t), .int 0])), (c1, zI E 8 gL), (c2, zI E 8 fN0)] := hD
  have ht : t ≤ 8 := by have := rt_things_le (U := rt_u fU k) h1; rw [hT] at this; exact this
  have hpl : p1 ≤ 100 := by have := rt_things_p (rt_u fU k) 100 0 (fL0, 0); rw [hT] at this; simpa using this
  refine lv_istore_n (lv' := [(2, .int (nI p1)), (0, .ref h0), (1, .ref r0)]) hx hb d_Rt_readInto_9 rfl hl (by decide) rfl (fun ls hl => ?_)
  refine lv_iload_n hx hb d_Rt_readInto_10 rfl (lv_at hl 0 rfl) ?_
  refine lv_if_ne (tgt := 16) hx hb d_Rt_readInto_11 (by decide) (fun c_25 => ?_) (fun c_25 => ?_)
  · have hz : ¬ p1 = 0 := fun z => c_25 (by rw [z]; rfl)
    refine lv_iconst (v := 0) hx hb d_Rt_readInto_16 (by decide) ?_
    refine lv_istore_n (lv' := [(3, .int 0), (2, .int (nI p1)), (0, .ref h0), (1, .ref r0)]) hx hb d_Rt_readInto_17 rfl hl (by decide) rfl (fun ls hl => ?_)
    have hl := lv_sub (l' := [(0, .ref h0), (1, .ref r0), (2, .int (nI p1)), (3, .int (nI 0))]) hl [2, 3, 1, 0] (rfl)
    exact lp_Rt_readInto hk h1 h2 ht hz hT C hA hK hst 100 0 p1 fN0 0 (by omega) (by omega) rfl _ _ ls hP hD hS hl
  · have hz : p1 = 0 := zz_nI0 c_25 (by omega)
    refine lv_iload_n hx hb d_Rt_readInto_14 rfl (lv_at hl 0 rfl) ?_
    exact zz_reti C (rfl) hS (gL, fN0, t, 0) (⟨fL0, fN0, h1, h2, by rw [hT], by rw [hT], fun _ => ⟨by rw [hz]; rfl, rfl, rfl⟩, fun h => absurd (by rw [hT]; exact hz) h⟩) hP hD d_Rt_readInto_15
end
section
set_option maxHeartbeats 4000000 in
set_option maxRecDepth 100000 in
theorem lp_Se_endOf_J {p : Program} {l : Launch} {e : Env} {s : State} {m : MethodId} {below : List Frame} {meth : Method} {c : Code} {A : Nat → Prop}  {E : zG} {h0 b1 b2 b3 b4 jc : Nat} {fS fF fW : Nat → Int32} {sz fl : Nat → Nat} {g0 a1 a2 n : Nat} (hJ : jg_ok jc sz fl fS fF) (hn : n ≤ 10000) (hnc : 10 ^ jc ≤ n) (C : cx p s m #[.ref g0, .ref h0] meth c b_Se_endOf 5 y_Se_endOf.cls (some .int)) (hA : ∀ q, s.heap.size ≤ q → A q) (hK : kt E s) (hst : stt A s s.heap) :
    ∀ (f hd : Nat) (fV : Nat → Int32) (fT fQ : Nat → Int32) (S : (Nat → Nat) × List Nat) (_ : hd + f = 10000) (_ : bfs_run (jg_dn jc fW) (jg_next jc sz) f hd S = bfs_run (jg_dn jc fW) (jg_next jc sz) 10000 0 (bfs_mt bfs_0 (jg_sum fl jc) (jg_sum fl jc, 0))) (_ : bfs_RS n S fT fQ) (_ : bfs_J n (jg_good jc sz) S) (H : Heap) (locs : List Loc) (ls : Array Slot), va_P E.1 vwCl [(h0, .inr (1, [.ref b1, .ref b2, .ref b3, .ref b4, .int (nI jc)])), (b1, zI E 4 fS), (b2, zI E 4 fF), (b3, zI E 4 fW), (b4, zI E 4 fV), (g0, .inr (4, [.ref a1, .ref a2, .int (nI S.2.length)])), (a1, zI E n fT), (a2, zI E n fQ)] H → va_D A [(h0, .inr (1, [.ref b1, .ref b2, .ref b3, .ref b4, .int (nI jc)])), (b1, zI E 4 fS), (b2, zI E 4 fF), (b3, zI E 4 fW), (b4, zI E 4 fV), (g0, .inr (4, [.ref a1, .ref a2, .int (nI S.2.length)])), (a1, zI E n fT), (a2, zI E n fQ)] → va_S A s.heap H locs → lv_has ls 5 [(0, .ref g0), (1, .ref h0), (2, .int (nI (jg_sum fl jc))), (3, .int (nI hd))] → W p l e (zR 2 51 0 0) s m #[.ref g0, .ref h0] below meth c H locs 0 0 (MQ below ((zQi E (S := (Nat → Int32) × (Nat → Int32) × (Nat → Int32) × Nat × Nat) (fun r u => r = bfs_o (bfs_run (jg_dn jc fW) (jg_next jc sz) 10000 0 (bfs_mt bfs_0 (jg_sum fl jc) (jg_sum fl jc, 0))).1 ∧ bfs_RS n (bfs_run (jg_dn jc fW) (jg_next jc sz) 10000 0 (bfs_mt bfs_0 (jg_sum fl jc) (jg_sum fl jc, 0))).2 u.2.1 u.2.2.1 ∧ u.2.2.2.1 = a1 ∧ u.2.2.2.2 = a2) (fun u => [(h0, .inr (1, [.ref b1, .ref b2, .ref b3, .ref b4, .int (nI jc)])), (b1, zI E 4 fS), (b2, zI E 4 fF), (b3, zI E 4 fW), (b4, zI E 4 u.1), (g0, .inr (4, [.ref u.2.2.2.1, .ref u.2.2.2.2, .int (nI ((bfs_run (jg_dn jc fW) (jg_next jc sz) 10000 0 (bfs_mt bfs_0 (jg_sum fl jc) (jg_sum fl jc, 0))).2).2.length)])), (u.2.2.2.1, zI E n u.2.1), (u.2.2.2.2, zI E n u.2.2.1)])) A) #[.ref g0, .ref h0] s 0 0 A) (F0 m 35 ls []) := by
  obtain ⟨hx, hb, hr, hml, hown, hts, hlk⟩ := id C
  intro f
  induction f with
  | zero =>
    intro hd fV fT fQ S hi hgo hR hJS H locs ls hP hD hS hl
    have hi : hd = 10000 := by omega
    subst hi
    refine lv_iload_n hx hb d_Se_endOf_35 rfl (lv_at hl 3 rfl) ?_
    refine lv_sipush (v := 10000) hx hb d_Se_endOf_36 (by decide) ?_
    refine lv_icmp_ge (tgt := 94) hx hb d_Se_endOf_39 (by decide) (fun c_1 => ?_) (fun c_1 => ?_)
    · refine lv_iconst (v := (-1)) hx hb d_Se_endOf_94 (by decide) ?_
      have p1 : (-1 : Int32) = bfs_o (bfs_run (jg_dn jc fW) (jg_next jc sz) 0 10000 S).1 := rfl
      have p2 : S = (bfs_run (jg_dn jc fW) (jg_next jc sz) 0 10000 S).2 := rfl
      have eS : S = (bfs_run (jg_dn jc fW) (jg_next jc sz) 10000 0 (bfs_mt bfs_0 (jg_sum fl jc) (jg_sum fl jc, 0))).2 := by rw [← hgo]; exact p2
      have hP : va_P E.1 vwCl [(h0, .inr (1, [.ref b1, .ref b2, .ref b3, .ref b4, .int (nI jc)])), (b1, zI E 4 fS), (b2, zI E 4 fF), (b3, zI E 4 fW), (b4, zI E 4 fV), (g0, .inr (4, [.ref a1, .ref a2, .int (nI ((bfs_run (jg_dn jc fW) (jg_next jc sz) 10000 0 (bfs_mt bfs_0 (jg_sum fl jc) (jg_sum fl jc, 0))).2).2.length)])), (a1, zI E n fT), (a2, zI E n fQ)] H := by rw [← eS]; exact hP
      have hD : va_D A [(h0, .inr (1, [.ref b1, .ref b2, .ref b3, .ref b4, .int (nI jc)])), (b1, zI E 4 fS), (b2, zI E 4 fF), (b3, zI E 4 fW), (b4, zI E 4 fV), (g0, .inr (4, [.ref a1, .ref a2, .int (nI ((bfs_run (jg_dn jc fW) (jg_next jc sz) 10000 0 (bfs_mt bfs_0 (jg_sum fl jc) (jg_sum fl jc, 0))).2).2.length)])), (a1, zI E n fT), (a2, zI E n fQ)] := by rw [← eS]; exact hD
      exact zz_reti C (rfl) hS (fV, fT, fQ, a1, a2) (⟨by rw [← hgo]; exact p1, by rw [← eS]; exact hR, rfl, rfl⟩) hP hD d_Se_endOf_95
    · exact absurd (nI_le (b := 10000) (Nat.le_refl _) (by decide)) c_1
  | succ f ih =>
    intro hd fV fT fQ S hi hgo hR hJS H locs ls hP hD hS hl
    have hlen := bfs_le hJS.1
    refine lv_iload_n hx hb d_Se_endOf_35 rfl (lv_at hl 3 rfl) ?_
    refine lv_sipush (v := 10000) hx hb d_Se_endOf_36 (by decide) ?_
    refine lv_icmp_ge (tgt := 94) hx hb d_Se_endOf_39 (by decide) (fun c_2 => ?_) (fun c_2 => ?_)
    · exact absurd c_2 (nI_ge (b := 10000) (by omega) (by decide))
    · refine lv_iload_n hx hb d_Se_endOf_42 rfl (lv_at hl 3 rfl) ?_
      refine lv_aload_n hx hb d_Se_endOf_43 rfl (lv_at hl 0 rfl) ?_
      refine zz_get C hK hP fl_Se_34 5 rfl rfl d_Se_endOf_44 ?_
      refine lv_icmp_ge (tgt := 59) hx hb d_Se_endOf_47 (by decide) (fun c_3 => ?_) (fun c_3 => ?_)
      · have hge : ¬ hd < S.2.length := fun z => absurd c_3 (nI_ge z (by omega))
        have hrf : bfs_run (jg_dn jc fW) (jg_next jc sz) (f + 1) hd S = (none, S) := by rw [bfs_run, if_neg hge]
        have p1 : (-1 : Int32) = bfs_o (bfs_run (jg_dn jc fW) (jg_next jc sz) (f + 1) hd S).1 := by rw [hrf]; rfl
        have p2 : S = (bfs_run (jg_dn jc fW) (jg_next jc sz) (f + 1) hd S).2 := by rw [hrf]
        refine lv_iconst (v := (-1)) hx hb d_Se_endOf_59 (by decide) ?_
        have eS : S = (bfs_run (jg_dn jc fW) (jg_next jc sz) 10000 0 (bfs_mt bfs_0 (jg_sum fl jc) (jg_sum fl jc, 0))).2 := by rw [← hgo]; exact p2
        have hP : va_P E.1 vwCl [(h0, .inr (1, [.ref b1, .ref b2, .ref b3, .ref b4, .int (nI jc)])), (b1, zI E 4 fS), (b2, zI E 4 fF), (b3, zI E 4 fW), (b4, zI E 4 fV), (g0, .inr (4, [.ref a1, .ref a2, .int (nI ((bfs_run (jg_dn jc fW) (jg_next jc sz) 10000 0 (bfs_mt bfs_0 (jg_sum fl jc) (jg_sum fl jc, 0))).2).2.length)])), (a1, zI E n fT), (a2, zI E n fQ)] H := by rw [← eS]; exact hP
        have hD : va_D A [(h0, .inr (1, [.ref b1, .ref b2, .ref b3, .ref b4, .int (nI jc)])), (b1, zI E 4 fS), (b2, zI E 4 fF), (b3, zI E 4 fW), (b4, zI E 4 fV), (g0, .inr (4, [.ref a1, .ref a2, .int (nI ((bfs_run (jg_dn jc fW) (jg_next jc sz) 10000 0 (bfs_mt bfs_0 (jg_sum fl jc) (jg_sum fl jc, 0))).2).2.length)])), (a1, zI E n fT), (a2, zI E n fQ)] := by rw [← eS]; exact hD
        exact zz_reti C (rfl) hS (fV, fT, fQ, a1, a2) (⟨by rw [← hgo]; exact p1, by rw [← eS]; exact hR, rfl, rfl⟩) hP hD d_Se_endOf_60
      · have hlt : hd < S.2.length := zz_ltc c_3 (by omega)
        refine lv_iload_n hx hb d_Se_endOf_50 rfl (lv_at hl 3 rfl) ?_
        refine lv_aload_n hx hb d_Se_endOf_51 rfl (lv_at hl 0 rfl) ?_
        refine zz_get C hK hP fl_Se_15 5 rfl rfl d_Se_endOf_52 ?_
        refine zz_alenI C hK hP 7 rfl d_Se_endOf_55 ?_
        refine lv_icmp_lt (tgt := 61) hx hb d_Se_endOf_56 (by decide) (fun c_4 => ?_) (fun c_4 => ?_)
        · obtain ⟨x, hxe⟩ : ∃ x, x = S.2.getD hd 0 := ⟨_, rfl⟩
          have hxm : x ∈ S.2 := by rw [hxe]; exact bfs_getD hlt
          have hxP : (jg_good jc sz) x := hJS.2 x hxm
          have hxn := (hJS.1.1 x hxm).1
          have hxz := (hJS.1.1 x hxm).2
          refine lv_aload_n hx hb d_Se_endOf_61 rfl (lv_at hl 0 rfl) ?_
          refine zz_get C hK hP fl_Se_15 5 rfl rfl d_Se_endOf_62 ?_
          refine lv_iload_n hx hb d_Se_endOf_65 rfl (lv_at hl 3 rfl) ?_
          refine zz_ialdN C hK hP 7 rfl (j := hd) (Nat.lt_of_lt_of_le hlt hlen) (by omega) d_Se_endOf_66 ?_
          refine zz_eqi (y := nI x) (by rw [hxe]; exact hR.2 hd hlt) ?_
          refine lv_istore (lv' := [(4, .int (nI x)), (0, .ref g0), (1, .ref h0), (2, .int (nI (jg_sum fl jc))), (3, .int (nI hd))]) hx hb d_Se_endOf_67 hl (by decide) rfl (fun ls hl => ?_)
          refine lv_aload_n hx hb d_Se_endOf_69 rfl (lv_at hl 2 rfl) ?_
          refine lv_iload hx hb d_Se_endOf_70 (lv_at hl 0 rfl) ?_
          have hx4 : x < 10000 := Nat.lt_of_lt_of_le hxP.1 (jg_pow hJ.1)
          refine zz_goi (wr := [(g0, .inr (4, [.ref a1, .ref a2, .int (nI S.2.length)])), (a1, zI E n fT), (a2, zI E n fQ)]) [0, 1, 2, 3, 4] [5, 6, 7] rfl rfl (by decide) (by decide) hA hP hD hS (zz_runA (wc := [(h0, .inr (1, [.ref b1, .ref b2, .ref b3, .ref b4, .int (nI jc)])), (b1, zI E 4 fS), (b2, zI E 4 fF), (b3, zI E 4 fW), (b4, zI E 4 fV)]) (As := [.int (nI x)]) (rest := []) C (c_Js_isDone l E h0 b1 b2 b3 b4 jc fS fF fW fV x hJ.1 hx4) ym_Js_isDone wd_ml_Se_45 wd_sm_isDone wd_se_Js_isDone wd_im_Js_isDone wd_de_isDone (by decide +kernel) [0, 1, 2, 3, 4] (by decide) rfl hA hK hst hP hD hS (ci := 1) (q0 := 0) rfl rfl rfl rfl hl.1 rfl (Nat.le_of_ble_eq_true rfl) ⟨Nat.le_of_ble_eq_true rfl, Nat.le_of_ble_eq_true rfl⟩ ⟨Nat.le_of_ble_eq_true rfl, Nat.le_of_ble_eq_true rfl⟩ d_Se_endOf_72) (fun r1 u1 H locs hw1 hP hD hS => ?_)
          have hP : va_P E.1 vwCl [(g0, .inr (4, [.ref a1, .ref a2, .int (nI S.2.length)])), (a1, zI E n fT), (a2, zI E n fQ), (h0, .inr (1, [.ref b1, .ref b2, .ref b3, .ref b4, .int (nI jc)])), (b1, zI E 4 fS), (b2, zI E 4 fF), (b3, zI E 4 fW), (b4, zI E 4 u1)] H := hP
          have hD : va_D A [(g0, .inr (4, [.ref a1, .ref a2, .int (nI S.2.length)])), (a1, zI E n fT), (a2, zI E n fQ), (h0, .inr (1, [.ref b1, .ref b2, .ref b3, .ref b4, .int (nI jc)])), (b1, zI E 4 fS), (b2, zI E 4 fF), (b3, zI E 4 fW), (b4, zI E 4 u1)] := hD
          have hd1 : (jg_dn jc fW x = true → r1 = 1) ∧ (¬ jg_dn jc fW x = true → r1 = 0) := ⟨fun h => hw1.2.1 (of_decide_eq_true h), fun h => hw1.2.2 (fun z => h (decide_eq_true z))⟩
          have hP := hP.sub (ws' := [(h0, .inr (1, [.ref b1, .ref b2, .ref b3, .ref b4, .int (nI jc)])), (b1, zI E 4 fS), (b2, zI E 4 fF), (b3, zI E 4 fW), (b4, zI E 4 u1), (g0, .inr (4, [.ref a1, .ref a2, .int (nI S.2.length)])), (a1, zI E n fT), (a2, zI E n fQ)]) [3, 4, 5, 6, 7, 0, 1, 2] rfl
          have hD := hD.sub (ws' := [(h0, .inr (1, [.ref b1, .ref b2, .ref b3, .ref b4, .int (nI jc)])), (b1, zI E 4 fS), (b2, zI E 4 fF), (b3, zI E 4 fW), (b4, zI E 4 u1), (g0, .inr (4, [.ref a1, .ref a2, .int (nI S.2.length)])), (a1, zI E n fT), (a2, zI E n fQ)]) [3, 4, 5, 6, 7, 0, 1, 2] (by decide) rfl
          refine lv_if_eq (tgt := 81) hx hb d_Se_endOf_75 (by decide) (fun c_5 => ?_) (fun c_5 => ?_)
          · have hdn : ¬ (jg_dn jc fW) x = true := fun h => absurd ((hd1.1 h).symm.trans c_5) (by decide)
            have hrf : bfs_run (jg_dn jc fW) (jg_next jc sz) (f + 1) hd S = bfs_run (jg_dn jc fW) (jg_next jc sz) f (hd + 1) (jg_next jc sz x S) := by rw [bfs_run, if_pos hlt, ← hxe, if_neg hdn]
            refine lv_aload_n hx hb d_Se_endOf_81 rfl (lv_at hl 2 rfl) ?_
            refine lv_iload hx hb d_Se_endOf_82 (lv_at hl 0 rfl) ?_
            refine lv_aload_n hx hb d_Se_endOf_84 rfl (lv_at hl 1 rfl) ?_
            refine zz_gov (wr := []) [0, 1, 2, 3, 4, 5, 6, 7] [] rfl rfl (by decide) (by decide) hA hP hD hS (zz_runA (wc := [(h0, .inr (1, [.ref b1, .ref b2, .ref b3, .ref b4, .int (nI jc)])), (b1, zI E 4 fS), (b2, zI E 4 fF), (b3, zI E 4 fW), (b4, zI E 4 u1), (g0, .inr (4, [.ref a1, .ref a2, .int (nI S.2.length)])), (a1, zI E n fT), (a2, zI E n fQ)]) (As := [.int (nI x), .ref g0]) (rest := []) C (c_Js_meetNext l E h0 b1 b2 b3 b4 jc fS fF fW u1 sz fl g0 a1 a2 n fT fQ S x hJ hxP hn hnc hR ⟨hJS.1, hxz⟩) ym_Js_meetNext wd_ml_Se_49 wd_sm_meetNext wd_se_Js_meetNext wd_im_Js_meetNext wd_de_meetNext (by decide +kernel) [0, 1, 2, 3, 4, 5, 6, 7] (by decide) rfl hA hK hst hP hD hS (ci := 1) (q0 := 0) rfl rfl rfl rfl hl.1 rfl (Nat.le_of_ble_eq_true rfl) ⟨Nat.le_of_ble_eq_true rfl, Nat.le_of_ble_eq_true rfl⟩ ⟨Nat.le_of_ble_eq_true rfl, Nat.le_of_ble_eq_true rfl⟩ d_Se_endOf_85) (fun u2 H locs hR hP hD hS => ?_)
            have hP : va_P E.1 vwCl [(h0, .inr (1, [.ref b1, .ref b2, .ref b3, .ref b4, .int (nI jc)])), (b1, zI E 4 fS), (b2, zI E 4 fF), (b3, zI E 4 fW), (b4, zI E 4 u2.1), (g0, .inr (4, [.ref a1, .ref a2, .int (nI (jg_next jc sz x S).2.length)])), (a1, zI E n u2.2.1), (a2, zI E n u2.2.2)] H := hP
            have hD : va_D A [(h0, .inr (1, [.ref b1, .ref b2, .ref b3, .ref b4, .int (nI jc)])), (b1, zI E 4 fS), (b2, zI E 4 fF), (b3, zI E 4 fW), (b4, zI E 4 u2.1), (g0, .inr (4, [.ref a1, .ref a2, .int (nI (jg_next jc sz x S).2.length)])), (a1, zI E n u2.2.1), (a2, zI E n u2.2.2)] := hD
            have hJ2 := jg_next_J hJ hxP hn hnc ⟨hJS, hxz⟩
            refine lv_iinc (v := nI (hd + 1)) (lv' := [(3, .int (nI (hd + 1))), (4, .int (nI x)), (0, .ref g0), (1, .ref h0), (2, .int (nI (jg_sum fl jc)))]) hx hb d_Se_endOf_88 hl (k := 4) rfl (nI_1 _) (by decide) rfl (fun ls hl => ?_)
            refine lv_goto (tgt := 35) hx hb d_Se_endOf_91 (by decide) ?_
            exact ih (hd + 1) u2.1 u2.2.1 u2.2.2 (jg_next jc sz x S) (by omega) (by rw [← hgo, hrf]) hR hJ2.1 _ _ ls hP hD hS (lv_sub hl [2, 3, 4, 0] rfl)
          · have hdn : (jg_dn jc fW) x = true := Classical.byContradiction (fun h => c_5 (hd1.2 h))
            have hrf : bfs_run (jg_dn jc fW) (jg_next jc sz) (f + 1) hd S = (some x, S) := by rw [bfs_run, if_pos hlt, ← hxe, if_pos hdn]
            have p1 : nI x = bfs_o (bfs_run (jg_dn jc fW) (jg_next jc sz) (f + 1) hd S).1 := by rw [hrf]; rfl
            have p2 : S = (bfs_run (jg_dn jc fW) (jg_next jc sz) (f + 1) hd S).2 := by rw [hrf]
            refine lv_iload hx hb d_Se_endOf_78 (lv_at hl 0 rfl) ?_
            have eS : S = (bfs_run (jg_dn jc fW) (jg_next jc sz) 10000 0 (bfs_mt bfs_0 (jg_sum fl jc) (jg_sum fl jc, 0))).2 := by rw [← hgo]; exact p2
            have hP : va_P E.1 vwCl [(h0, .inr (1, [.ref b1, .ref b2, .ref b3, .ref b4, .int (nI jc)])), (b1, zI E 4 fS), (b2, zI E 4 fF), (b3, zI E 4 fW), (b4, zI E 4 u1), (g0, .inr (4, [.ref a1, .ref a2, .int (nI ((bfs_run (jg_dn jc fW) (jg_next jc sz) 10000 0 (bfs_mt bfs_0 (jg_sum fl jc) (jg_sum fl jc, 0))).2).2.length)])), (a1, zI E n fT), (a2, zI E n fQ)] H := by rw [← eS]; exact hP
            have hD : va_D A [(h0, .inr (1, [.ref b1, .ref b2, .ref b3, .ref b4, .int (nI jc)])), (b1, zI E 4 fS), (b2, zI E 4 fF), (b3, zI E 4 fW), (b4, zI E 4 u1), (g0, .inr (4, [.ref a1, .ref a2, .int (nI ((bfs_run (jg_dn jc fW) (jg_next jc sz) 10000 0 (bfs_mt bfs_0 (jg_sum fl jc) (jg_sum fl jc, 0))).2).2.length)])), (a1, zI E n fT), (a2, zI E n fQ)] := by rw [← eS]; exact hD
            exact zz_reti C (rfl) hS (u1, fT, fQ, a1, a2) (⟨by rw [← hgo]; exact p1, by rw [← eS]; exact hR, rfl, rfl⟩) hP hD d_Se_endOf_80
        · exact absurd (nI_lt (Nat.lt_of_lt_of_le hlt hlen) (by omega)) c_4

set_option maxHeartbeats 4000000 in
set_option maxRecDepth 100000 in
theorem c_Se_endOf_J (l : Launch) (E : zG) (h0 b1 b2 b3 b4 jc : Nat) (fS fF fW fV : Nat → Int32) (sz fl : Nat → Nat) (g0 a1 a2 n : Nat) (fT fQ : Nat → Int32) (mt : Int32) (hJ : jg_ok jc sz fl fS fF) (hn : n ≤ 10000) (hnc : 10 ^ jc ≤ n) : zMet l y_Se_endOf b_Se_endOf 5 (some .int) 2 51 0 0 E [.ref g0, .ref h0] [(h0, .inr (1, [.ref b1, .ref b2, .ref b3, .ref b4, .int (nI jc)])), (b1, zI E 4 fS), (b2, zI E 4 fF), (b3, zI E 4 fW), (b4, zI E 4 fV), (g0, .inr (4, [.ref a1, .ref a2, .int mt])), (a1, zI E n fT), (a2, zI E n fQ)] (zQi E (S := (Nat → Int32) × (Nat → Int32) × (Nat → Int32) × Nat × Nat) (fun r u => r = bfs_o (bfs_run (jg_dn jc fW) (jg_next jc sz) 10000 0 (bfs_mt bfs_0 (jg_sum fl jc) (jg_sum fl jc, 0))).1 ∧ bfs_RS n (bfs_run (jg_dn jc fW) (jg_next jc sz) 10000 0 (bfs_mt bfs_0 (jg_sum fl jc) (jg_sum fl jc, 0))).2 u.2.1 u.2.2.1 ∧ u.2.2.2.1 = a1 ∧ u.2.2.2.2 = a2) (fun u => [(h0, .inr (1, [.ref b1, .ref b2, .ref b3, .ref b4, .int (nI jc)])), (b1, zI E 4 fS), (b2, zI E 4 fF), (b3, zI E 4 fW), (b4, zI E 4 u.1), (g0, .inr (4, [.ref u.2.2.2.1, .ref u.2.2.2.2, .int (nI ((bfs_run (jg_dn jc fW) (jg_next jc sz) 10000 0 (bfs_mt bfs_0 (jg_sum fl jc) (jg_sum fl jc, 0))).2).2.length)])), (u.2.2.2.1, zI E n u.2.1), (u.2.2.2.2, zI E n u.2.2.1)])) := by
  refine zz_met (by decide +kernel) (Nat.le_of_ble_eq_true rfl) ?_
  intro p e s m below meth c A ls C hin hA hK hst hP hD hl
  obtain ⟨hx, hb, hr, hml, hown, hts, hlk⟩ := id C
  have hS : va_S A s.heap s.heap [] := va_S.rf
  have hl : lv_has ls 5 [(0, .ref g0), (1, .ref h0)] := hl
  refine lv_aload_n hx hb d_Se_endOf_0 rfl (lv_at hl 0 rfl) ?_
  refine lv_aload_n hx hb d_Se_endOf_1 rfl (lv_at hl 1 rfl) ?_
  refine zz_goi (wr := [(g0, .inr (4, [.ref a1, .ref a2, .int mt])), (a1, zI E n fT), (a2, zI E n fQ)]) [0, 1, 2, 3, 4] [5, 6, 7] rfl rfl (by decide) (by decide) hA hP hD hS (zz_runA (wc := [(h0, .inr (1, [.ref b1, .ref b2, .ref b3, .ref b4, .int (nI jc)])), (b1, zI E 4 fS), (b2, zI E 4 fF), (b3, zI E 4 fW), (b4, zI E 4 fV)]) (As := []) (rest := [.ref g0]) C (c_Js_stateCount l E h0 b1 b2 b3 b4 jc fS fF fW fV hJ.1) ym_Js_stateCount wd_ml_Se_18 wd_sm_stateCount wd_se_Js_stateCount wd_im_Js_stateCount wd_de_stateCount (by decide +kernel) [0, 1, 2, 3, 4] (by decide) rfl hA hK hst hP hD hS (ci := 1) (q0 := 0) rfl rfl rfl rfl hl.1 rfl (Nat.le_of_ble_eq_true rfl) ⟨Nat.le_of_ble_eq_true rfl, Nat.le_of_ble_eq_true rfl⟩ ⟨Nat.le_of_ble_eq_true rfl, Nat.le_of_ble_eq_true rfl⟩ d_Se_endOf_2) (fun r_7 u H locs hw hP hD hS => ?_)
  have hP : va_P E.1 vwCl [(g0, .inr (4, [.ref a1, .ref a2, .int mt])), (a1, zI E n fT), (a2, zI E n fQ), (h0, .inr (1, [.ref b1, .ref b2, .ref b3, .ref b4, .int (nI jc)])), (b1, zI E 4 fS), (b2, zI E 4 fF), (b3, zI E 4 fW), (b4, zI E 4 fV)] H := hP
  have hD : va_D A [(g0, .inr (4, [.ref a1, .ref a2, .int mt])), (a1, zI E n fT), (a2, zI E n fQ), (h0, .inr (1, [.ref b1, .ref b2, .ref b3, .ref b4, .int (nI jc)])), (b1, zI E 4 fS), (b2, zI E 4 fF), (b3, zI E 4 fW), (b4, zI E 4 fV)] := hD
  subst hw
  have hP := hP.sub (ws' := [(h0, .inr (1, [.ref b1, .ref b2, .ref b3, .ref b4, .int (nI jc)])), (b1, zI E 4 fS), (b2, zI E 4 fF), (b3, zI E 4 fW), (b4, zI E 4 fV), (g0, .inr (4, [.ref a1, .ref a2, .int mt])), (a1, zI E n fT), (a2, zI E n fQ)]) [3, 4, 5, 6, 7, 0, 1, 2] rfl
  have hD := hD.sub (ws' := [(h0, .inr (1, [.ref b1, .ref b2, .ref b3, .ref b4, .int (nI jc)])), (b1, zI E 4 fS), (b2, zI E 4 fF), (b3, zI E 4 fW), (b4, zI E 4 fV), (g0, .inr (4, [.ref a1, .ref a2, .int mt])), (a1, zI E n fT), (a2, zI E n fQ)]) [3, 4, 5, 6, 7, 0, 1, 2] (by decide) rfl
  refine zz_gov (wr := [(h0, .inr (1, [.ref b1, .ref b2, .ref b3, .ref b4, .int (nI jc)])), (b1, zI E 4 fS), (b2, zI E 4 fF), (b3, zI E 4 fW), (b4, zI E 4 fV)]) [5, 6, 7] [0, 1, 2, 3, 4] rfl rfl (by decide) (by decide) hA hP hD hS (zz_runV (wc := [(g0, .inr (4, [.ref a1, .ref a2, .int mt])), (a1, zI E n fT), (a2, zI E n fQ)]) (As := [.int (nI (10 ^ jc))]) (rest := []) C (c_Se_makeRoom_keep l E g0 a1 a2 n (10 ^ jc) fT fQ mt hnc hn) ym_Se_makeRoom wd_ml_Se_24 wd_im_Se_makeRoom wd_se_Se_makeRoom [5, 6, 7] (by decide) rfl hA hK hst hP hD hS (ci := 4) (q0 := 0) rfl rfl rfl rfl hl.1 rfl (Nat.le_of_ble_eq_true rfl) ⟨Nat.le_of_ble_eq_true rfl, Nat.le_of_ble_eq_true rfl⟩ ⟨Nat.le_of_ble_eq_true rfl, Nat.le_of_ble_eq_true rfl⟩ d_Se_endOf_5) (fun u H locs _ hP hD hS => ?_)
  have hP : va_P E.1 vwCl [(h0, .inr (1, [.ref b1, .ref b2, .ref b3, .ref b4, .int (nI jc)])), (b1, zI E 4 fS), (b2, zI E 4 fF), (b3, zI E 4 fW), (b4, zI E 4 fV), (g0, .inr (4, [.ref a1, .ref a2, .int mt])), (a1, zI E n fT), (a2, zI E n fQ)] H := hP
  have hD : va_D A [(h0, .inr (1, [.ref b1, .ref b2, .ref b3, .ref b4, .int (nI jc)])), (b1, zI E 4 fS), (b2, zI E 4 fF), (b3, zI E 4 fW), (b4, zI E 4 fV), (g0, .inr (4, [.ref a1, .ref a2, .int mt])), (a1, zI E n fT), (a2, zI E n fQ)] := hD
  refine lv_aload_n hx hb d_Se_endOf_8 rfl (lv_at hl 0 rfl) ?_
  refine zz_get C hK hP fl_Se_11 5 rfl rfl d_Se_endOf_9 ?_
  refine lv_iconst (v := 0) hx hb d_Se_endOf_12 (by decide) ?_
  refine zz_gov (wr := [(h0, .inr (1, [.ref b1, .ref b2, .ref b3, .ref b4, .int (nI jc)])), (b1, zI E 4 fS), (b2, zI E 4 fF), (b3, zI E 4 fW), (b4, zI E 4 fV), (g0, .inr (4, [.ref a1, .ref a2, .int mt])), (a2, zI E n fQ)]) [6] [0, 1, 2, 3, 4, 5, 7] rfl rfl (by decide) (by decide) hA hP hD hS (zz_runS (wc := [(a1, zI E n fT)]) (As := [.ref a1, .int 0]) (rest := []) C (c_Ar_fill l E a1 n fT 0 hn) ym_Ar_fill wd_ml_Se_28 wd_st_Ar_fill [6] (by decide) rfl hA hK hst hP hD hS rfl hl.1 rfl (Nat.le_of_ble_eq_true rfl) ⟨Nat.le_of_ble_eq_true rfl, Nat.le_of_ble_eq_true rfl⟩ ⟨Nat.le_of_ble_eq_true rfl, Nat.le_of_ble_eq_true rfl⟩ d_Se_endOf_13) (fun u3 H locs hz3 hP hD hS => ?_)
  have hP : va_P E.1 vwCl [(h0, .inr (1, [.ref b1, .ref b2, .ref b3, .ref b4, .int (nI jc)])), (b1, zI E 4 fS), (b2, zI E 4 fF), (b3, zI E 4 fW), (b4, zI E 4 fV), (g0, .inr (4, [.ref a1, .ref a2, .int mt])), (a2, zI E n fQ), (a1, zI E n u3)] H := hP
  have hD : va_D A [(h0, .inr (1, [.ref b1, .ref b2, .ref b3, .ref b4, .int (nI jc)])), (b1, zI E 4 fS), (b2, zI E 4 fF), (b3, zI E 4 fW), (b4, zI E 4 fV), (g0, .inr (4, [.ref a1, .ref a2, .int mt])), (a2, zI E n fQ), (a1, zI E n u3)] := hD
  have hP := hP.sub (ws' := [(h0, .inr (1, [.ref b1, .ref b2, .ref b3, .ref b4, .int (nI jc)])), (b1, zI E 4 fS), (b2, zI E 4 fF), (b3, zI E 4 fW), (b4, zI E 4 fV), (g0, .inr (4, [.ref a1, .ref a2, .int mt])), (a1, zI E n u3), (a2, zI E n fQ)]) [0, 1, 2, 3, 4, 5, 7, 6] rfl
  have hD := hD.sub (ws' := [(h0, .inr (1, [.ref b1, .ref b2, .ref b3, .ref b4, .int (nI jc)])), (b1, zI E 4 fS), (b2, zI E 4 fF), (b3, zI E 4 fW), (b4, zI E 4 fV), (g0, .inr (4, [.ref a1, .ref a2, .int mt])), (a1, zI E n u3), (a2, zI E n fQ)]) [0, 1, 2, 3, 4, 5, 7, 6] (by decide) rfl
  refine lv_aload_n hx hb d_Se_endOf_16 rfl (lv_at hl 0 rfl) ?_
  refine lv_iconst (v := 0) hx hb d_Se_endOf_17 (by decide) ?_
  refine zz_put C hK hP hD hS fl_Se_34 5 rfl rfl rfl (Nat.le_of_ble_eq_true rfl) d_Se_endOf_18 (fun H locs hP hD hS => ?_)
  have hP : va_P E.1 vwCl [(h0, .inr (1, [.ref b1, .ref b2, .ref b3, .ref b4, .int (nI jc)])), (b1, zI E 4 fS), (b2, zI E 4 fF), (b3, zI E 4 fW), (b4, zI E 4 fV), (g0, .inr (4, [.ref a1, .ref a2, .int 0])), (a1, zI E n u3), (a2, zI E n fQ)] H := hP
  have hD : va_D A [(h0, .inr (1, [.ref b1, .ref b2, .ref b3, .ref b4, .int (nI jc)])), (b1, zI E 4 fS), (b2, zI E 4 fF), (b3, zI E 4 fW), (b4, zI E 4 fV), (g0, .inr (4, [.ref a1, .ref a2, .int 0])), (a1, zI E n u3), (a2, zI E n fQ)] := hD
  refine lv_aload_n hx hb d_Se_endOf_21 rfl (lv_at hl 1 rfl) ?_
  refine zz_goi (wr := [(g0, .inr (4, [.ref a1, .ref a2, .int 0])), (a1, zI E n u3), (a2, zI E n fQ)]) [0, 1, 2, 3, 4] [5, 6, 7] rfl rfl (by decide) (by decide) hA hP hD hS (zz_runA (wc := [(h0, .inr (1, [.ref b1, .ref b2, .ref b3, .ref b4, .int (nI jc)])), (b1, zI E 4 fS), (b2, zI E 4 fF), (b3, zI E 4 fW), (b4, zI E 4 fV)]) (As := []) (rest := []) C (c_Js_startState l E h0 b1 b2 b3 b4 jc fS fF fW fV sz fl hJ) ym_Js_startState wd_ml_Se_38 wd_sm_startState wd_se_Js_startState wd_im_Js_startState wd_de_startState (by decide +kernel) [0, 1, 2, 3, 4] (by decide) rfl hA hK hst hP hD hS (ci := 1) (q0 := 0) rfl rfl rfl rfl hl.1 rfl (Nat.le_of_ble_eq_true rfl) ⟨Nat.le_of_ble_eq_true rfl, Nat.le_of_ble_eq_true rfl⟩ ⟨Nat.le_of_ble_eq_true rfl, Nat.le_of_ble_eq_true rfl⟩ d_Se_endOf_22) (fun r_10 u H locs hw hP hD hS => ?_)
  have hP : va_P E.1 vwCl [(g0, .inr (4, [.ref a1, .ref a2, .int 0])), (a1, zI E n u3), (a2, zI E n fQ), (h0, .inr (1, [.ref b1, .ref b2, .ref b3, .ref b4, .int (nI jc)])), (b1, zI E 4 fS), (b2, zI E 4 fF), (b3, zI E 4 fW), (b4, zI E 4 fV)] H := hP
  have hD : va_D A [(g0, .inr (4, [.ref a1, .ref a2, .int 0])), (a1, zI E n u3), (a2, zI E n fQ), (h0, .inr (1, [.ref b1, .ref b2, .ref b3, .ref b4, .int (nI jc)])), (b1, zI E 4 fS), (b2, zI E 4 fF), (b3, zI E 4 fW), (b4, zI E 4 fV)] := hD
  subst hw
  have hP := hP.sub (ws' := [(h0, .inr (1, [.ref b1, .ref b2, .ref b3, .ref b4, .int (nI jc)])), (b1, zI E 4 fS), (b2, zI E 4 fF), (b3, zI E 4 fW), (b4, zI E 4 fV), (g0, .inr (4, [.ref a1, .ref a2, .int 0])), (a1, zI E n u3), (a2, zI E n fQ)]) [3, 4, 5, 6, 7, 0, 1, 2] rfl
  have hD := hD.sub (ws' := [(h0, .inr (1, [.ref b1, .ref b2, .ref b3, .ref b4, .int (nI jc)])), (b1, zI E 4 fS), (b2, zI E 4 fF), (b3, zI E 4 fW), (b4, zI E 4 fV), (g0, .inr (4, [.ref a1, .ref a2, .int 0])), (a1, zI E n u3), (a2, zI E n fQ)]) [3, 4, 5, 6, 7, 0, 1, 2] (by decide) rfl
  have hP : va_P E.1 vwCl [(h0, .inr (1, [.ref b1, .ref b2, .ref b3, .ref b4, .int (nI jc)])), (b1, zI E 4 fS), (b2, zI E 4 fF), (b3, zI E 4 fW), (b4, zI E 4 fV), (g0, .inr (4, [.ref a1, .ref a2, .int (nI bfs_0.2.length)])), (a1, zI E n u3), (a2, zI E n fQ)] H := hP
  have hD : va_D A [(h0, .inr (1, [.ref b1, .ref b2, .ref b3, .ref b4, .int (nI jc)])), (b1, zI E 4 fS), (b2, zI E 4 fF), (b3, zI E 4 fW), (b4, zI E 4 fV), (g0, .inr (4, [.ref a1, .ref a2, .int (nI bfs_0.2.length)])), (a1, zI E n u3), (a2, zI E n fQ)] := hD
  have hsP : (jg_good jc sz) (jg_sum fl jc) := jg_sum_good hJ
  refine lv_istore_n (lv' := [(2, .int (nI (jg_sum fl jc))), (0, .ref g0), (1, .ref h0)]) hx hb d_Se_endOf_25 rfl hl (by decide) rfl (fun ls hl => ?_)
  refine lv_aload_n hx hb d_Se_endOf_26 rfl (lv_at hl 1 rfl) ?_
  refine lv_iload_n hx hb d_Se_endOf_27 rfl (lv_at hl 0 rfl) ?_
  refine lv_iload_n hx hb d_Se_endOf_28 rfl (lv_at hl 0 rfl) ?_
  refine lv_iconst (v := 0) hx hb d_Se_endOf_29 (by decide) ?_
  refine zz_eqi (y := nI 0) rfl ?_
  refine zz_gov (wr := [(h0, .inr (1, [.ref b1, .ref b2, .ref b3, .ref b4, .int (nI jc)])), (b1, zI E 4 fS), (b2, zI E 4 fF), (b3, zI E 4 fW), (b4, zI E 4 fV)]) [5, 6, 7] [0, 1, 2, 3, 4] rfl rfl (by decide) (by decide) hA hP hD hS (zz_runV (wc := [(g0, .inr (4, [.ref a1, .ref a2, .int (nI bfs_0.2.length)])), (a1, zI E n u3), (a2, zI E n fQ)]) (As := [.int (nI (jg_sum fl jc)), .int (nI (jg_sum fl jc)), .int (nI 0)]) (rest := []) C (c_Se_meet l E g0 a1 a2 n u3 fQ bfs_0 (jg_sum fl jc) (jg_sum fl jc) 0 hn (Nat.lt_of_lt_of_le hsP.1 hnc) (Nat.lt_of_lt_of_le hsP.1 hnc) (by decide) (bfs_0_RS hz3) (bfs_0_WF _)) ym_Se_meet wd_ml_Se_41 wd_im_Se_meet wd_se_Se_meet [5, 6, 7] (by decide) rfl hA hK hst hP hD hS (ci := 4) (q0 := 0) rfl rfl rfl rfl hl.1 rfl (Nat.le_of_ble_eq_true rfl) ⟨Nat.le_of_ble_eq_true rfl, Nat.le_of_ble_eq_true rfl⟩ ⟨Nat.le_of_ble_eq_true rfl, Nat.le_of_ble_eq_true rfl⟩ d_Se_endOf_30) (fun u4 H locs hR4 hP hD hS => ?_)
  have hP : va_P E.1 vwCl [(h0, .inr (1, [.ref b1, .ref b2, .ref b3, .ref b4, .int (nI jc)])), (b1, zI E 4 fS), (b2, zI E 4 fF), (b3, zI E 4 fW), (b4, zI E 4 fV), (g0, .inr (4, [.ref a1, .ref a2, .int (nI (bfs_mt bfs_0 (jg_sum fl jc) (jg_sum fl jc, 0)).2.length)])), (a1, zI E n u4.1), (a2, zI E n u4.2)] H := hP
  have hD : va_D A [(h0, .inr (1, [.ref b1, .ref b2, .ref b3, .ref b4, .int (nI jc)])), (b1, zI E 4 fS), (b2, zI E 4 fF), (b3, zI E 4 fW), (b4, zI E 4 fV), (g0, .inr (4, [.ref a1, .ref a2, .int (nI (bfs_mt bfs_0 (jg_sum fl jc) (jg_sum fl jc, 0)).2.length)])), (a1, zI E n u4.1), (a2, zI E n u4.2)] := hD
  refine lv_iconst (v := 0) hx hb d_Se_endOf_33 (by decide) ?_
  refine lv_istore_n (lv' := [(3, .int 0), (2, .int (nI (jg_sum fl jc))), (0, .ref g0), (1, .ref h0)]) hx hb d_Se_endOf_34 rfl hl (by decide) rfl (fun ls hl => ?_)
  have hl := lv_sub (l' := [(0, .ref g0), (1, .ref h0), (2, .int (nI (jg_sum fl jc))), (3, .int (nI 0))]) hl [2, 3, 1, 0] (rfl)
  exact lp_Se_endOf_J hJ hn hnc C hA hK hst 10000 0 fV u4.1 u4.2 (bfs_mt bfs_0 (jg_sum fl jc) (jg_sum fl jc, 0)) (by omega) rfl hR4 (bfs_st_J hn (Nat.lt_of_lt_of_le hsP.1 hnc) hsP) _ _ ls hP hD hS hl

set_option maxHeartbeats 4000000 in
set_option maxRecDepth 100000 in
theorem lp_Se_endOf_Jn {p : Program} {l : Launch} {e : Env} {s : State} {m : MethodId} {below : List Frame} {meth : Method} {c : Code} {A : Nat → Prop}  {E : zG} {h0 b1 b2 b3 b4 jc : Nat} {fS fF fW : Nat → Int32} {sz fl : Nat → Nat} {g0 : Nat} (hJ : jg_ok jc sz fl fS fF) {e1 e2 : Nat} (hn : 10 ^ jc ≤ 10000) (hnc : 10 ^ jc ≤ 10 ^ jc) (C : cx p s m #[.ref g0, .ref h0] meth c b_Se_endOf 5 y_Se_endOf.cls (some .int)) (hA : ∀ q, s.heap.size ≤ q → A q) (hK : kt E s) (hst : stt A s s.heap) :
    ∀ (f hd : Nat) (fV : Nat → Int32) (fT fQ : Nat → Int32) (S : (Nat → Nat) × List Nat) (_ : hd + f = 10000) (_ : bfs_run (jg_dn jc fW) (jg_next jc sz) f hd S = bfs_run (jg_dn jc fW) (jg_next jc sz) 10000 0 (bfs_mt bfs_0 (jg_sum fl jc) (jg_sum fl jc, 0))) (_ : bfs_RS (10 ^ jc) S fT fQ) (_ : bfs_J (10 ^ jc) (jg_good jc sz) S) (H : Heap) (locs : List Loc) (ls : Array Slot), va_P E.1 vwCl [(h0, .inr (1, [.ref b1, .ref b2, .ref b3, .ref b4, .int (nI jc)])), (b1, zI E 4 fS), (b2, zI E 4 fF), (b3, zI E 4 fW), (b4, zI E 4 fV), (g0, .inr (4, [.ref e1, .ref e2, .int (nI S.2.length)])), (e1, zI E (10 ^ jc) fT), (e2, zI E (10 ^ jc) fQ)] H → va_D A [(h0, .inr (1, [.ref b1, .ref b2, .ref b3, .ref b4, .int (nI jc)])), (b1, zI E 4 fS), (b2, zI E 4 fF), (b3, zI E 4 fW), (b4, zI E 4 fV), (g0, .inr (4, [.ref e1, .ref e2, .int (nI S.2.length)])), (e1, zI E (10 ^ jc) fT), (e2, zI E (10 ^ jc) fQ)] → va_S A s.heap H locs → lv_has ls 5 [(0, .ref g0), (1, .ref h0), (2, .int (nI (jg_sum fl jc))), (3, .int (nI hd))] → W p l e (zR 2 51 2 (10 ^ jc + 10 ^ jc)) s m #[.ref g0, .ref h0] below meth c H locs 2 (10 ^ jc + 10 ^ jc) (MQ below ((zQi E (S := (Nat → Int32) × (Nat → Int32) × (Nat → Int32) × Nat × Nat) (fun r u => r = bfs_o (bfs_run (jg_dn jc fW) (jg_next jc sz) 10000 0 (bfs_mt bfs_0 (jg_sum fl jc) (jg_sum fl jc, 0))).1 ∧ bfs_RS (10 ^ jc) (bfs_run (jg_dn jc fW) (jg_next jc sz) 10000 0 (bfs_mt bfs_0 (jg_sum fl jc) (jg_sum fl jc, 0))).2 u.2.1 u.2.2.1) (fun u => [(h0, .inr (1, [.ref b1, .ref b2, .ref b3, .ref b4, .int (nI jc)])), (b1, zI E 4 fS), (b2, zI E 4 fF), (b3, zI E 4 fW), (b4, zI E 4 u.1), (g0, .inr (4, [.ref u.2.2.2.1, .ref u.2.2.2.2, .int (nI ((bfs_run (jg_dn jc fW) (jg_next jc sz) 10000 0 (bfs_mt bfs_0 (jg_sum fl jc) (jg_sum fl jc, 0))).2).2.length)])), (u.2.2.2.1, zI E (10 ^ jc) u.2.1), (u.2.2.2.2, zI E (10 ^ jc) u.2.2.1)])) A) #[.ref g0, .ref h0] s 2 (10 ^ jc + 10 ^ jc) A) (F0 m 35 ls []) := by
  obtain ⟨hx, hb, hr, hml, hown, hts, hlk⟩ := id C
  intro f
  induction f with
  | zero =>
    intro hd fV fT fQ S hi hgo hR hJS H locs ls hP hD hS hl
    have hi : hd = 10000 := by omega
    subst hi
    refine lv_iload_n hx hb d_Se_endOf_35 rfl (lv_at hl 3 rfl) ?_
    refine lv_sipush (v := 10000) hx hb d_Se_endOf_36 (by decide) ?_
    refine lv_icmp_ge (tgt := 94) hx hb d_Se_endOf_39 (by decide) (fun c_12 => ?_) (fun c_12 => ?_)
    · refine lv_iconst (v := (-1)) hx hb d_Se_endOf_94 (by decide) ?_
      have p1 : (-1 : Int32) = bfs_o (bfs_run (jg_dn jc fW) (jg_next jc sz) 0 10000 S).1 := rfl
      have p2 : S = (bfs_run (jg_dn jc fW) (jg_next jc sz) 0 10000 S).2 := rfl
      have eS : S = (bfs_run (jg_dn jc fW) (jg_next jc sz) 10000 0 (bfs_mt bfs_0 (jg_sum fl jc) (jg_sum fl jc, 0))).2 := by rw [← hgo]; exact p2
      have hP : va_P E.1 vwCl [(h0, .inr (1, [.ref b1, .ref b2, .ref b3, .ref b4, .int (nI jc)])), (b1, zI E 4 fS), (b2, zI E 4 fF), (b3, zI E 4 fW), (b4, zI E 4 fV), (g0, .inr (4, [.ref e1, .ref e2, .int (nI ((bfs_run (jg_dn jc fW) (jg_next jc sz) 10000 0 (bfs_mt bfs_0 (jg_sum fl jc) (jg_sum fl jc, 0))).2).2.length)])), (e1, zI E (10 ^ jc) fT), (e2, zI E (10 ^ jc) fQ)] H := by rw [← eS]; exact hP
      have hD : va_D A [(h0, .inr (1, [.ref b1, .ref b2, .ref b3, .ref b4, .int (nI jc)])), (b1, zI E 4 fS), (b2, zI E 4 fF), (b3, zI E 4 fW), (b4, zI E 4 fV), (g0, .inr (4, [.ref e1, .ref e2, .int (nI ((bfs_run (jg_dn jc fW) (jg_next jc sz) 10000 0 (bfs_mt bfs_0 (jg_sum fl jc) (jg_sum fl jc, 0))).2).2.length)])), (e1, zI E (10 ^ jc) fT), (e2, zI E (10 ^ jc) fQ)] := by rw [← eS]; exact hD
      exact zz_reti C (rfl) hS (fV, fT, fQ, e1, e2) (⟨by rw [← hgo]; exact p1, by rw [← eS]; exact hR⟩) hP hD d_Se_endOf_95
    · exact absurd (nI_le (b := 10000) (Nat.le_refl _) (by decide)) c_12
  | succ f ih =>
    intro hd fV fT fQ S hi hgo hR hJS H locs ls hP hD hS hl
    have hlen := bfs_le hJS.1
    refine lv_iload_n hx hb d_Se_endOf_35 rfl (lv_at hl 3 rfl) ?_
    refine lv_sipush (v := 10000) hx hb d_Se_endOf_36 (by decide) ?_
    refine lv_icmp_ge (tgt := 94) hx hb d_Se_endOf_39 (by decide) (fun c_13 => ?_) (fun c_13 => ?_)
    · exact absurd c_13 (nI_ge (b := 10000) (by omega) (by decide))
    · refine lv_iload_n hx hb d_Se_endOf_42 rfl (lv_at hl 3 rfl) ?_
      refine lv_aload_n hx hb d_Se_endOf_43 rfl (lv_at hl 0 rfl) ?_
      refine zz_get C hK hP fl_Se_34 5 rfl rfl d_Se_endOf_44 ?_
      refine lv_icmp_ge (tgt := 59) hx hb d_Se_endOf_47 (by decide) (fun c_14 => ?_) (fun c_14 => ?_)
      · have hge : ¬ hd < S.2.length := fun z => absurd c_14 (nI_ge z (by omega))
        have hrf : bfs_run (jg_dn jc fW) (jg_next jc sz) (f + 1) hd S = (none, S) := by rw [bfs_run, if_neg hge]
        have p1 : (-1 : Int32) = bfs_o (bfs_run (jg_dn jc fW) (jg_next jc sz) (f + 1) hd S).1 := by rw [hrf]; rfl
        have p2 : S = (bfs_run (jg_dn jc fW) (jg_next jc sz) (f + 1) hd S).2 := by rw [hrf]
        refine lv_iconst (v := (-1)) hx hb d_Se_endOf_59 (by decide) ?_
        have eS : S = (bfs_run (jg_dn jc fW) (jg_next jc sz) 10000 0 (bfs_mt bfs_0 (jg_sum fl jc) (jg_sum fl jc, 0))).2 := by rw [← hgo]; exact p2
        have hP : va_P E.1 vwCl [(h0, .inr (1, [.ref b1, .ref b2, .ref b3, .ref b4, .int (nI jc)])), (b1, zI E 4 fS), (b2, zI E 4 fF), (b3, zI E 4 fW), (b4, zI E 4 fV), (g0, .inr (4, [.ref e1, .ref e2, .int (nI ((bfs_run (jg_dn jc fW) (jg_next jc sz) 10000 0 (bfs_mt bfs_0 (jg_sum fl jc) (jg_sum fl jc, 0))).2).2.length)])), (e1, zI E (10 ^ jc) fT), (e2, zI E (10 ^ jc) fQ)] H := by rw [← eS]; exact hP
        have hD : va_D A [(h0, .inr (1, [.ref b1, .ref b2, .ref b3, .ref b4, .int (nI jc)])), (b1, zI E 4 fS), (b2, zI E 4 fF), (b3, zI E 4 fW), (b4, zI E 4 fV), (g0, .inr (4, [.ref e1, .ref e2, .int (nI ((bfs_run (jg_dn jc fW) (jg_next jc sz) 10000 0 (bfs_mt bfs_0 (jg_sum fl jc) (jg_sum fl jc, 0))).2).2.length)])), (e1, zI E (10 ^ jc) fT), (e2, zI E (10 ^ jc) fQ)] := by rw [← eS]; exact hD
        exact zz_reti C (rfl) hS (fV, fT, fQ, e1, e2) (⟨by rw [← hgo]; exact p1, by rw [← eS]; exact hR⟩) hP hD d_Se_endOf_60
      · have hlt : hd < S.2.length := zz_ltc c_14 (by omega)
        refine lv_iload_n hx hb d_Se_endOf_50 rfl (lv_at hl 3 rfl) ?_
        refine lv_aload_n hx hb d_Se_endOf_51 rfl (lv_at hl 0 rfl) ?_
        refine zz_get C hK hP fl_Se_15 5 rfl rfl d_Se_endOf_52 ?_
        refine zz_alenI C hK hP 7 rfl d_Se_endOf_55 ?_
        refine lv_icmp_lt (tgt := 61) hx hb d_Se_endOf_56 (by decide) (fun c_15 => ?_) (fun c_15 => ?_)
        · obtain ⟨x, hxe⟩ : ∃ x, x = S.2.getD hd 0 := ⟨_, rfl⟩
          have hxm : x ∈ S.2 := by rw [hxe]; exact bfs_getD hlt
          have hxP : (jg_good jc sz) x := hJS.2 x hxm
          have hxn := (hJS.1.1 x hxm).1
          have hxz := (hJS.1.1 x hxm).2
          refine lv_aload_n hx hb d_Se_endOf_61 rfl (lv_at hl 0 rfl) ?_
          refine zz_get C hK hP fl_Se_15 5 rfl rfl d_Se_endOf_62 ?_
          refine lv_iload_n hx hb d_Se_endOf_65 rfl (lv_at hl 3 rfl) ?_
          refine zz_ialdN C hK hP 7 rfl (j := hd) (Nat.lt_of_lt_of_le hlt hlen) (by omega) d_Se_endOf_66 ?_
          refine zz_eqi (y := nI x) (by rw [hxe]; exact hR.2 hd hlt) ?_
          refine lv_istore (lv' := [(4, .int (nI x)), (0, .ref g0), (1, .ref h0), (2, .int (nI (jg_sum fl jc))), (3, .int (nI hd))]) hx hb d_Se_endOf_67 hl (by decide) rfl (fun ls hl => ?_)
          refine lv_aload_n hx hb d_Se_endOf_69 rfl (lv_at hl 2 rfl) ?_
          refine lv_iload hx hb d_Se_endOf_70 (lv_at hl 0 rfl) ?_
          have hx4 : x < 10000 := Nat.lt_of_lt_of_le hxP.1 (jg_pow hJ.1)
          refine zz_goi (wr := [(g0, .inr (4, [.ref e1, .ref e2, .int (nI S.2.length)])), (e1, zI E (10 ^ jc) fT), (e2, zI E (10 ^ jc) fQ)]) [0, 1, 2, 3, 4] [5, 6, 7] rfl rfl (by decide) (by decide) hA hP hD hS (zz_runA (wc := [(h0, .inr (1, [.ref b1, .ref b2, .ref b3, .ref b4, .int (nI jc)])), (b1, zI E 4 fS), (b2, zI E 4 fF), (b3, zI E 4 fW), (b4, zI E 4 fV)]) (As := [.int (nI x)]) (rest := []) C (c_Js_isDone l E h0 b1 b2 b3 b4 jc fS fF fW fV x hJ.1 hx4) ym_Js_isDone wd_ml_Se_45 wd_sm_isDone wd_se_Js_isDone wd_im_Js_isDone wd_de_isDone (by decide +kernel) [0, 1, 2, 3, 4] (by decide) rfl hA hK hst hP hD hS (ci := 1) (q0 := 0) rfl rfl rfl rfl hl.1 rfl (Nat.le_of_ble_eq_true rfl) ⟨Nat.le_of_ble_eq_true rfl, Nat.le_of_ble_eq_true rfl⟩ ⟨by dsimp only [zR]; omega, by dsimp only [zR]; omega⟩ d_Se_endOf_72) (fun r1 u1 H locs hw1 hP hD hS => ?_)
          have hP : va_P E.1 vwCl [(g0, .inr (4, [.ref e1, .ref e2, .int (nI S.2.length)])), (e1, zI E (10 ^ jc) fT), (e2, zI E (10 ^ jc) fQ), (h0, .inr (1, [.ref b1, .ref b2, .ref b3, .ref b4, .int (nI jc)])), (b1, zI E 4 fS), (b2, zI E 4 fF), (b3, zI E 4 fW), (b4, zI E 4 u1)] H := hP
          have hD : va_D A [(g0, .inr (4, [.ref e1, .ref e2, .int (nI S.2.length)])), (e1, zI E (10 ^ jc) fT), (e2, zI E (10 ^ jc) fQ), (h0, .inr (1, [.ref b1, .ref b2, .ref b3, .ref b4, .int (nI jc)])), (b1, zI E 4 fS), (b2, zI E 4 fF), (b3, zI E 4 fW), (b4, zI E 4 u1)] := hD
          have hd1 : (jg_dn jc fW x = true → r1 = 1) ∧ (¬ jg_dn jc fW x = true → r1 = 0) := ⟨fun h => hw1.2.1 (of_decide_eq_true h), fun h => hw1.2.2 (fun z => h (decide_eq_true z))⟩
          have hP := hP.sub (ws' := [(h0, .inr (1, [.ref b1, .ref b2, .ref b3, .ref b4, .int (nI jc)])), (b1, zI E 4 fS), (b2, zI E 4 fF), (b3, zI E 4 fW), (b4, zI E 4 u1), (g0, .inr (4, [.ref e1, .ref e2, .int (nI S.2.length)])), (e1, zI E (10 ^ jc) fT), (e2, zI E (10 ^ jc) fQ)]) [3, 4, 5, 6, 7, 0, 1, 2] rfl
          have hD := hD.sub (ws' := [(h0, .inr (1, [.ref b1, .ref b2, .ref b3, .ref b4, .int (nI jc)])), (b1, zI E 4 fS), (b2, zI E 4 fF), (b3, zI E 4 fW), (b4, zI E 4 u1), (g0, .inr (4, [.ref e1, .ref e2, .int (nI S.2.length)])), (e1, zI E (10 ^ jc) fT), (e2, zI E (10 ^ jc) fQ)]) [3, 4, 5, 6, 7, 0, 1, 2] (by decide) rfl
          refine lv_if_eq (tgt := 81) hx hb d_Se_endOf_75 (by decide) (fun c_16 => ?_) (fun c_16 => ?_)
          · have hdn : ¬ (jg_dn jc fW) x = true := fun h => absurd ((hd1.1 h).symm.trans c_16) (by decide)
            have hrf : bfs_run (jg_dn jc fW) (jg_next jc sz) (f + 1) hd S = bfs_run (jg_dn jc fW) (jg_next jc sz) f (hd + 1) (jg_next jc sz x S) := by rw [bfs_run, if_pos hlt, ← hxe, if_neg hdn]
            refine lv_aload_n hx hb d_Se_endOf_81 rfl (lv_at hl 2 rfl) ?_
            refine lv_iload hx hb d_Se_endOf_82 (lv_at hl 0 rfl) ?_
            refine lv_aload_n hx hb d_Se_endOf_84 rfl (lv_at hl 1 rfl) ?_
            refine zz_gov (wr := []) [0, 1, 2, 3, 4, 5, 6, 7] [] rfl rfl (by decide) (by decide) hA hP hD hS (zz_runA (wc := [(h0, .inr (1, [.ref b1, .ref b2, .ref b3, .ref b4, .int (nI jc)])), (b1, zI E 4 fS), (b2, zI E 4 fF), (b3, zI E 4 fW), (b4, zI E 4 u1), (g0, .inr (4, [.ref e1, .ref e2, .int (nI S.2.length)])), (e1, zI E (10 ^ jc) fT), (e2, zI E (10 ^ jc) fQ)]) (As := [.int (nI x), .ref g0]) (rest := []) C (c_Js_meetNext l E h0 b1 b2 b3 b4 jc fS fF fW u1 sz fl g0 e1 e2 (10 ^ jc) fT fQ S x hJ hxP hn hnc hR ⟨hJS.1, hxz⟩) ym_Js_meetNext wd_ml_Se_49 wd_sm_meetNext wd_se_Js_meetNext wd_im_Js_meetNext wd_de_meetNext (by decide +kernel) [0, 1, 2, 3, 4, 5, 6, 7] (by decide) rfl hA hK hst hP hD hS (ci := 1) (q0 := 0) rfl rfl rfl rfl hl.1 rfl (Nat.le_of_ble_eq_true rfl) ⟨Nat.le_of_ble_eq_true rfl, Nat.le_of_ble_eq_true rfl⟩ ⟨by dsimp only [zR]; omega, by dsimp only [zR]; omega⟩ d_Se_endOf_85) (fun u2 H locs hR hP hD hS => ?_)
            have hP : va_P E.1 vwCl [(h0, .inr (1, [.ref b1, .ref b2, .ref b3, .ref b4, .int (nI jc)])), (b1, zI E 4 fS), (b2, zI E 4 fF), (b3, zI E 4 fW), (b4, zI E 4 u2.1), (g0, .inr (4, [.ref e1, .ref e2, .int (nI (jg_next jc sz x S).2.length)])), (e1, zI E (10 ^ jc) u2.2.1), (e2, zI E (10 ^ jc) u2.2.2)] H := hP
            have hD : va_D A [(h0, .inr (1, [.ref b1, .ref b2, .ref b3, .ref b4, .int (nI jc)])), (b1, zI E 4 fS), (b2, zI E 4 fF), (b3, zI E 4 fW), (b4, zI E 4 u2.1), (g0, .inr (4, [.ref e1, .ref e2, .int (nI (jg_next jc sz x S).2.length)])), (e1, zI E (10 ^ jc) u2.2.1), (e2, zI E (10 ^ jc) u2.2.2)] := hD
            have hJ2 := jg_next_J hJ hxP hn hnc ⟨hJS, hxz⟩
            refine lv_iinc (v := nI (hd + 1)) (lv' := [(3, .int (nI (hd + 1))), (4, .int (nI x)), (0, .ref g0), (1, .ref h0), (2, .int (nI (jg_sum fl jc)))]) hx hb d_Se_endOf_88 hl (k := 4) rfl (nI_1 _) (by decide) rfl (fun ls hl => ?_)
            refine lv_goto (tgt := 35) hx hb d_Se_endOf_91 (by decide) ?_
            exact ih (hd + 1) u2.1 u2.2.1 u2.2.2 (jg_next jc sz x S) (by omega) (by rw [← hgo, hrf]) hR hJ2.1 _ _ ls hP hD hS (lv_sub hl [2, 3, 4, 0] rfl)
          · have hdn : (jg_dn jc fW) x = true := Classical.byContradiction (fun h => c_16 (hd1.2 h))
            have hrf : bfs_run (jg_dn jc fW) (jg_next jc sz) (f + 1) hd S = (some x, S) := by rw [bfs_run, if_pos hlt, ← hxe, if_pos hdn]
            have p1 : nI x = bfs_o (bfs_run (jg_dn jc fW) (jg_next jc sz) (f + 1) hd S).1 := by rw [hrf]; rfl
            have p2 : S = (bfs_run (jg_dn jc fW) (jg_next jc sz) (f + 1) hd S).2 := by rw [hrf]
            refine lv_iload hx hb d_Se_endOf_78 (lv_at hl 0 rfl) ?_
            have eS : S = (bfs_run (jg_dn jc fW) (jg_next jc sz) 10000 0 (bfs_mt bfs_0 (jg_sum fl jc) (jg_sum fl jc, 0))).2 := by rw [← hgo]; exact p2
            have hP : va_P E.1 vwCl [(h0, .inr (1, [.ref b1, .ref b2, .ref b3, .ref b4, .int (nI jc)])), (b1, zI E 4 fS), (b2, zI E 4 fF), (b3, zI E 4 fW), (b4, zI E 4 u1), (g0, .inr (4, [.ref e1, .ref e2, .int (nI ((bfs_run (jg_dn jc fW) (jg_next jc sz) 10000 0 (bfs_mt bfs_0 (jg_sum fl jc) (jg_sum fl jc, 0))).2).2.length)])), (e1, zI E (10 ^ jc) fT), (e2, zI E (10 ^ jc) fQ)] H := by rw [← eS]; exact hP
            have hD : va_D A [(h0, .inr (1, [.ref b1, .ref b2, .ref b3, .ref b4, .int (nI jc)])), (b1, zI E 4 fS), (b2, zI E 4 fF), (b3, zI E 4 fW), (b4, zI E 4 u1), (g0, .inr (4, [.ref e1, .ref e2, .int (nI ((bfs_run (jg_dn jc fW) (jg_next jc sz) 10000 0 (bfs_mt bfs_0 (jg_sum fl jc) (jg_sum fl jc, 0))).2).2.length)])), (e1, zI E (10 ^ jc) fT), (e2, zI E (10 ^ jc) fQ)] := by rw [← eS]; exact hD
            exact zz_reti C (rfl) hS (u1, fT, fQ, e1, e2) (⟨by rw [← hgo]; exact p1, by rw [← eS]; exact hR⟩) hP hD d_Se_endOf_80
        · exact absurd (nI_lt (Nat.lt_of_lt_of_le hlt hlen) (by omega)) c_15

set_option maxHeartbeats 4000000 in
set_option maxRecDepth 100000 in
theorem c_Se_endOf_Jn (l : Launch) (E : zG) (h0 b1 b2 b3 b4 jc : Nat) (fS fF fW fV : Nat → Int32) (sz fl : Nat → Nat) (g0 a1 a2 n : Nat) (fT fQ : Nat → Int32) (mt : Int32) (hJ : jg_ok jc sz fl fS fF) (hnc : n < 10 ^ jc) : zMet l y_Se_endOf b_Se_endOf 5 (some .int) 2 51 2 (10 ^ jc + 10 ^ jc) E [.ref g0, .ref h0] [(h0, .inr (1, [.ref b1, .ref b2, .ref b3, .ref b4, .int (nI jc)])), (b1, zI E 4 fS), (b2, zI E 4 fF), (b3, zI E 4 fW), (b4, zI E 4 fV), (g0, .inr (4, [.ref a1, .ref a2, .int mt])), (a1, zI E n fT), (a2, zI E n fQ)] (zQi E (S := (Nat → Int32) × (Nat → Int32) × (Nat → Int32) × Nat × Nat) (fun r u => r = bfs_o (bfs_run (jg_dn jc fW) (jg_next jc sz) 10000 0 (bfs_mt bfs_0 (jg_sum fl jc) (jg_sum fl jc, 0))).1 ∧ bfs_RS (10 ^ jc) (bfs_run (jg_dn jc fW) (jg_next jc sz) 10000 0 (bfs_mt bfs_0 (jg_sum fl jc) (jg_sum fl jc, 0))).2 u.2.1 u.2.2.1) (fun u => [(h0, .inr (1, [.ref b1, .ref b2, .ref b3, .ref b4, .int (nI jc)])), (b1, zI E 4 fS), (b2, zI E 4 fF), (b3, zI E 4 fW), (b4, zI E 4 u.1), (g0, .inr (4, [.ref u.2.2.2.1, .ref u.2.2.2.2, .int (nI ((bfs_run (jg_dn jc fW) (jg_next jc sz) 10000 0 (bfs_mt bfs_0 (jg_sum fl jc) (jg_sum fl jc, 0))).2).2.length)])), (u.2.2.2.1, zI E (10 ^ jc) u.2.1), (u.2.2.2.2, zI E (10 ^ jc) u.2.2.1)])) := by
  refine zz_met (by decide +kernel) (Nat.le_of_ble_eq_true rfl) ?_
  intro p e s m below meth c A ls C hin hA hK hst hP hD hl
  obtain ⟨hx, hb, hr, hml, hown, hts, hlk⟩ := id C
  have hS : va_S A s.heap s.heap [] := va_S.rf
  have hl : lv_has ls 5 [(0, .ref g0), (1, .ref h0)] := hl
  refine lv_aload_n hx hb d_Se_endOf_0 rfl (lv_at hl 0 rfl) ?_
  refine lv_aload_n hx hb d_Se_endOf_1 rfl (lv_at hl 1 rfl) ?_
  refine zz_goi (wr := [(g0, .inr (4, [.ref a1, .ref a2, .int mt])), (a1, zI E n fT), (a2, zI E n fQ)]) [0, 1, 2, 3, 4] [5, 6, 7] rfl rfl (by decide) (by decide) hA hP hD hS (zz_runA (wc := [(h0, .inr (1, [.ref b1, .ref b2, .ref b3, .ref b4, .int (nI jc)])), (b1, zI E 4 fS), (b2, zI E 4 fF), (b3, zI E 4 fW), (b4, zI E 4 fV)]) (As := []) (rest := [.ref g0]) C (c_Js_stateCount l E h0 b1 b2 b3 b4 jc fS fF fW fV hJ.1) ym_Js_stateCount wd_ml_Se_18 wd_sm_stateCount wd_se_Js_stateCount wd_im_Js_stateCount wd_de_stateCount (by decide +kernel) [0, 1, 2, 3, 4] (by decide) rfl hA hK hst hP hD hS (ci := 1) (q0 := 0) rfl rfl rfl rfl hl.1 rfl (Nat.le_of_ble_eq_true rfl) ⟨Nat.le_of_ble_eq_true rfl, Nat.le_of_ble_eq_true rfl⟩ ⟨by dsimp only [zR]; omega, by dsimp only [zR]; omega⟩ d_Se_endOf_2) (fun r_18 u H locs hw hP hD hS => ?_)
  have hP : va_P E.1 vwCl [(g0, .inr (4, [.ref a1, .ref a2, .int mt])), (a1, zI E n fT), (a2, zI E n fQ), (h0, .inr (1, [.ref b1, .ref b2, .ref b3, .ref b4, .int (nI jc)])), (b1, zI E 4 fS), (b2, zI E 4 fF), (b3, zI E 4 fW), (b4, zI E 4 fV)] H := hP
  have hD : va_D A [(g0, .inr (4, [.ref a1, .ref a2, .int mt])), (a1, zI E n fT), (a2, zI E n fQ), (h0, .inr (1, [.ref b1, .ref b2, .ref b3, .ref b4, .int (nI jc)])), (b1, zI E 4 fS), (b2, zI E 4 fF), (b3, zI E 4 fW), (b4, zI E 4 fV)] := hD
  subst hw
  have hP := hP.sub (ws' := [(h0, .inr (1, [.ref b1, .ref b2, .ref b3, .ref b4, .int (nI jc)])), (b1, zI E 4 fS), (b2, zI E 4 fF), (b3, zI E 4 fW), (b4, zI E 4 fV), (g0, .inr (4, [.ref a1, .ref a2, .int mt])), (a1, zI E n fT), (a2, zI E n fQ)]) [3, 4, 5, 6, 7, 0, 1, 2] rfl
  have hD := hD.sub (ws' := [(h0, .inr (1, [.ref b1, .ref b2, .ref b3, .ref b4, .int (nI jc)])), (b1, zI E 4 fS), (b2, zI E 4 fF), (b3, zI E 4 fW), (b4, zI E 4 fV), (g0, .inr (4, [.ref a1, .ref a2, .int mt])), (a1, zI E n fT), (a2, zI E n fQ)]) [3, 4, 5, 6, 7, 0, 1, 2] (by decide) rfl
  have hp4 := jg_pow hJ.1
  refine zz_gov (wr := [(h0, .inr (1, [.ref b1, .ref b2, .ref b3, .ref b4, .int (nI jc)])), (b1, zI E 4 fS), (b2, zI E 4 fF), (b3, zI E 4 fW), (b4, zI E 4 fV)]) [5, 6, 7] [0, 1, 2, 3, 4] rfl rfl (by decide) (by decide) hA hP hD hS (zz_runV (wc := [(g0, .inr (4, [.ref a1, .ref a2, .int mt])), (a1, zI E n fT), (a2, zI E n fQ)]) (As := [.int (nI (10 ^ jc))]) (rest := []) C (c_Se_makeRoom_new l E g0 a1 a2 n (10 ^ jc) fT fQ mt hnc hp4) ym_Se_makeRoom wd_ml_Se_24 wd_im_Se_makeRoom wd_se_Se_makeRoom [5, 6, 7] (by decide) rfl hA hK hst hP hD hS (ci := 4) (q0 := 0) rfl rfl rfl rfl hl.1 rfl (Nat.le_of_ble_eq_true rfl) ⟨Nat.le_of_ble_eq_true rfl, Nat.le_of_ble_eq_true rfl⟩ ⟨by dsimp only [zR]; omega, by dsimp only [zR]; omega⟩ d_Se_endOf_5) (fun e H locs _ hP hD hS => ?_)
  have hP : va_P E.1 vwCl [(h0, .inr (1, [.ref b1, .ref b2, .ref b3, .ref b4, .int (nI jc)])), (b1, zI E 4 fS), (b2, zI E 4 fF), (b3, zI E 4 fW), (b4, zI E 4 fV), (g0, .inr (4, [.ref e.1, .ref e.2, .int mt])), (e.1, zI E (10 ^ jc) (fun _ => 0)), (e.2, zI E (10 ^ jc) (fun _ => 0))] H := hP
  have hD : va_D A [(h0, .inr (1, [.ref b1, .ref b2, .ref b3, .ref b4, .int (nI jc)])), (b1, zI E 4 fS), (b2, zI E 4 fF), (b3, zI E 4 fW), (b4, zI E 4 fV), (g0, .inr (4, [.ref e.1, .ref e.2, .int mt])), (e.1, zI E (10 ^ jc) (fun _ => 0)), (e.2, zI E (10 ^ jc) (fun _ => 0))] := hD
  obtain ⟨e1, e2⟩ := e
  have hP : va_P E.1 vwCl [(h0, .inr (1, [.ref b1, .ref b2, .ref b3, .ref b4, .int (nI jc)])), (b1, zI E 4 fS), (b2, zI E 4 fF), (b3, zI E 4 fW), (b4, zI E 4 fV), (g0, .inr (4, [.ref e1, .ref e2, .int mt])), (e1, zI E (10 ^ jc) (fun _ => 0)), (e2, zI E (10 ^ jc) (fun _ => 0))] H := hP
  have hD : va_D A [(h0, .inr (1, [.ref b1, .ref b2, .ref b3, .ref b4, .int (nI jc)])), (b1, zI E 4 fS), (b2, zI E 4 fF), (b3, zI E 4 fW), (b4, zI E 4 fV), (g0, .inr (4, [.ref e1, .ref e2, .int mt])), (e1, zI E (10 ^ jc) (fun _ => 0)), (e2, zI E (10 ^ jc) (fun _ => 0))] := hD
  refine lv_aload_n hx hb d_Se_endOf_8 rfl (lv_at hl 0 rfl) ?_
  refine zz_get C hK hP fl_Se_11 5 rfl rfl d_Se_endOf_9 ?_
  refine lv_iconst (v := 0) hx hb d_Se_endOf_12 (by decide) ?_
  refine zz_gov (wr := [(h0, .inr (1, [.ref b1, .ref b2, .ref b3, .ref b4, .int (nI jc)])), (b1, zI E 4 fS), (b2, zI E 4 fF), (b3, zI E 4 fW), (b4, zI E 4 fV), (g0, .inr (4, [.ref e1, .ref e2, .int mt])), (e2, zI E (10 ^ jc) (fun _ => 0))]) [6] [0, 1, 2, 3, 4, 5, 7] rfl rfl (by decide) (by decide) hA hP hD hS (zz_runS (wc := [(e1, zI E (10 ^ jc) (fun _ => 0))]) (As := [.ref e1, .int 0]) (rest := []) C (c_Ar_fill l E e1 (10 ^ jc) (fun _ => 0) 0 hp4) ym_Ar_fill wd_ml_Se_28 wd_st_Ar_fill [6] (by decide) rfl hA hK hst hP hD hS rfl hl.1 rfl (Nat.le_of_ble_eq_true rfl) ⟨Nat.le_of_ble_eq_true rfl, Nat.le_of_ble_eq_true rfl⟩ ⟨by dsimp only [zR]; omega, by dsimp only [zR]; omega⟩ d_Se_endOf_13) (fun u3 H locs hz3 hP hD hS => ?_)
  have hP : va_P E.1 vwCl [(h0, .inr (1, [.ref b1, .ref b2, .ref b3, .ref b4, .int (nI jc)])), (b1, zI E 4 fS), (b2, zI E 4 fF), (b3, zI E 4 fW), (b4, zI E 4 fV), (g0, .inr (4, [.ref e1, .ref e2, .int mt])), (e2, zI E (10 ^ jc) (fun _ => 0)), (e1, zI E (10 ^ jc) u3)] H := hP
  have hD : va_D A [(h0, .inr (1, [.ref b1, .ref b2, .ref b3, .ref b4, .int (nI jc)])), (b1, zI E 4 fS), (b2, zI E 4 fF), (b3, zI E 4 fW), (b4, zI E 4 fV), (g0, .inr (4, [.ref e1, .ref e2, .int mt])), (e2, zI E (10 ^ jc) (fun _ => 0)), (e1, zI E (10 ^ jc) u3)] := hD
  have hP := hP.sub (ws' := [(h0, .inr (1, [.ref b1, .ref b2, .ref b3, .ref b4, .int (nI jc)])), (b1, zI E 4 fS), (b2, zI E 4 fF), (b3, zI E 4 fW), (b4, zI E 4 fV), (g0, .inr (4, [.ref e1, .ref e2, .int mt])), (e1, zI E (10 ^ jc) u3), (e2, zI E (10 ^ jc) (fun _ => 0))]) [0, 1, 2, 3, 4, 5, 7, 6] rfl
  have hD := hD.sub (ws' := [(h0, .inr (1, [.ref b1, .ref b2, .ref b3, .ref b4, .int (nI jc)])), (b1, zI E 4 fS), (b2, zI E 4 fF), (b3, zI E 4 fW), (b4, zI E 4 fV), (g0, .inr (4, [.ref e1, .ref e2, .int mt])), (e1, zI E (10 ^ jc) u3), (e2, zI E (10 ^ jc) (fun _ => 0))]) [0, 1, 2, 3, 4, 5, 7, 6] (by decide) rfl
  refine lv_aload_n hx hb d_Se_endOf_16 rfl (lv_at hl 0 rfl) ?_
  refine lv_iconst (v := 0) hx hb d_Se_endOf_17 (by decide) ?_
  refine zz_put C hK hP hD hS fl_Se_34 5 rfl rfl rfl (Nat.le_of_ble_eq_true rfl) d_Se_endOf_18 (fun H locs hP hD hS => ?_)
  have hP : va_P E.1 vwCl [(h0, .inr (1, [.ref b1, .ref b2, .ref b3, .ref b4, .int (nI jc)])), (b1, zI E 4 fS), (b2, zI E 4 fF), (b3, zI E 4 fW), (b4, zI E 4 fV), (g0, .inr (4, [.ref e1, .ref e2, .int 0])), (e1, zI E (10 ^ jc) u3), (e2, zI E (10 ^ jc) (fun _ => 0))] H := hP
  have hD : va_D A [(h0, .inr (1, [.ref b1, .ref b2, .ref b3, .ref b4, .int (nI jc)])), (b1, zI E 4 fS), (b2, zI E 4 fF), (b3, zI E 4 fW), (b4, zI E 4 fV), (g0, .inr (4, [.ref e1, .ref e2, .int 0])), (e1, zI E (10 ^ jc) u3), (e2, zI E (10 ^ jc) (fun _ => 0))] := hD
  refine lv_aload_n hx hb d_Se_endOf_21 rfl (lv_at hl 1 rfl) ?_
  refine zz_goi (wr := [(g0, .inr (4, [.ref e1, .ref e2, .int 0])), (e1, zI E (10 ^ jc) u3), (e2, zI E (10 ^ jc) (fun _ => 0))]) [0, 1, 2, 3, 4] [5, 6, 7] rfl rfl (by decide) (by decide) hA hP hD hS (zz_runA (wc := [(h0, .inr (1, [.ref b1, .ref b2, .ref b3, .ref b4, .int (nI jc)])), (b1, zI E 4 fS), (b2, zI E 4 fF), (b3, zI E 4 fW), (b4, zI E 4 fV)]) (As := []) (rest := []) C (c_Js_startState l E h0 b1 b2 b3 b4 jc fS fF fW fV sz fl hJ) ym_Js_startState wd_ml_Se_38 wd_sm_startState wd_se_Js_startState wd_im_Js_startState wd_de_startState (by decide +kernel) [0, 1, 2, 3, 4] (by decide) rfl hA hK hst hP hD hS (ci := 1) (q0 := 0) rfl rfl rfl rfl hl.1 rfl (Nat.le_of_ble_eq_true rfl) ⟨Nat.le_of_ble_eq_true rfl, Nat.le_of_ble_eq_true rfl⟩ ⟨by dsimp only [zR]; omega, by dsimp only [zR]; omega⟩ d_Se_endOf_22) (fun r_21 u H locs hw hP hD hS => ?_)
  have hP : va_P E.1 vwCl [(g0, .inr (4, [.ref e1, .ref e2, .int 0])), (e1, zI E (10 ^ jc) u3), (e2, zI E (10 ^ jc) (fun _ => 0)), (h0, .inr (1, [.ref b1, .ref b2, .ref b3, .ref b4, .int (nI jc)])), (b1, zI E 4 fS), (b2, zI E 4 fF), (b3, zI E 4 fW), (b4, zI E 4 fV)] H := hP
  have hD : va_D A [(g0, .inr (4, [.ref e1, .ref e2, .int 0])), (e1, zI E (10 ^ jc) u3), (e2, zI E (10 ^ jc) (fun _ => 0)), (h0, .inr (1, [.ref b1, .ref b2, .ref b3, .ref b4, .int (nI jc)])), (b1, zI E 4 fS), (b2, zI E 4 fF), (b3, zI E 4 fW), (b4, zI E 4 fV)] := hD
  subst hw
  have hP := hP.sub (ws' := [(h0, .inr (1, [.ref b1, .ref b2, .ref b3, .ref b4, .int (nI jc)])), (b1, zI E 4 fS), (b2, zI E 4 fF), (b3, zI E 4 fW), (b4, zI E 4 fV), (g0, .inr (4, [.ref e1, .ref e2, .int 0])), (e1, zI E (10 ^ jc) u3), (e2, zI E (10 ^ jc) (fun _ => 0))]) [3, 4, 5, 6, 7, 0, 1, 2] rfl
  have hD := hD.sub (ws' := [(h0, .inr (1, [.ref b1, .ref b2, .ref b3, .ref b4, .int (nI jc)])), (b1, zI E 4 fS), (b2, zI E 4 fF), (b3, zI E 4 fW), (b4, zI E 4 fV), (g0, .inr (4, [.ref e1, .ref e2, .int 0])), (e1, zI E (10 ^ jc) u3), (e2, zI E (10 ^ jc) (fun _ => 0))]) [3, 4, 5, 6, 7, 0, 1, 2] (by decide) rfl
  have hP : va_P E.1 vwCl [(h0, .inr (1, [.ref b1, .ref b2, .ref b3, .ref b4, .int (nI jc)])), (b1, zI E 4 fS), (b2, zI E 4 fF), (b3, zI E 4 fW), (b4, zI E 4 fV), (g0, .inr (4, [.ref e1, .ref e2, .int (nI bfs_0.2.length)])), (e1, zI E (10 ^ jc) u3), (e2, zI E (10 ^ jc) (fun _ => 0))] H := hP
  have hD : va_D A [(h0, .inr (1, [.ref b1, .ref b2, .ref b3, .ref b4, .int (nI jc)])), (b1, zI E 4 fS), (b2, zI E 4 fF), (b3, zI E 4 fW), (b4, zI E 4 fV), (g0, .inr (4, [.ref e1, .ref e2, .int (nI bfs_0.2.length)])), (e1, zI E (10 ^ jc) u3), (e2, zI E (10 ^ jc) (fun _ => 0))] := hD
  have hsP : (jg_good jc sz) (jg_sum fl jc) := jg_sum_good hJ
  refine lv_istore_n (lv' := [(2, .int (nI (jg_sum fl jc))), (0, .ref g0), (1, .ref h0)]) hx hb d_Se_endOf_25 rfl hl (by decide) rfl (fun ls hl => ?_)
  refine lv_aload_n hx hb d_Se_endOf_26 rfl (lv_at hl 1 rfl) ?_
  refine lv_iload_n hx hb d_Se_endOf_27 rfl (lv_at hl 0 rfl) ?_
  refine lv_iload_n hx hb d_Se_endOf_28 rfl (lv_at hl 0 rfl) ?_
  refine lv_iconst (v := 0) hx hb d_Se_endOf_29 (by decide) ?_
  refine zz_eqi (y := nI 0) rfl ?_
  refine zz_gov (wr := [(h0, .inr (1, [.ref b1, .ref b2, .ref b3, .ref b4, .int (nI jc)])), (b1, zI E 4 fS), (b2, zI E 4 fF), (b3, zI E 4 fW), (b4, zI E 4 fV)]) [5, 6, 7] [0, 1, 2, 3, 4] rfl rfl (by decide) (by decide) hA hP hD hS (zz_runV (wc := [(g0, .inr (4, [.ref e1, .ref e2, .int (nI bfs_0.2.length)])), (e1, zI E (10 ^ jc) u3), (e2, zI E (10 ^ jc) (fun _ => 0))]) (As := [.int (nI (jg_sum fl jc)), .int (nI (jg_sum fl jc)), .int (nI 0)]) (rest := []) C (c_Se_meet l E g0 e1 e2 (10 ^ jc) u3 (fun _ => 0) bfs_0 (jg_sum fl jc) (jg_sum fl jc) 0 hp4 (Nat.lt_of_lt_of_le hsP.1 (Nat.le_refl _)) (Nat.lt_of_lt_of_le hsP.1 (Nat.le_refl _)) (by decide) (bfs_0_RS hz3) (bfs_0_WF _)) ym_Se_meet wd_ml_Se_41 wd_im_Se_meet wd_se_Se_meet [5, 6, 7] (by decide) rfl hA hK hst hP hD hS (ci := 4) (q0 := 0) rfl rfl rfl rfl hl.1 rfl (Nat.le_of_ble_eq_true rfl) ⟨Nat.le_of_ble_eq_true rfl, Nat.le_of_ble_eq_true rfl⟩ ⟨by dsimp only [zR]; omega, by dsimp only [zR]; omega⟩ d_Se_endOf_30) (fun u4 H locs hR4 hP hD hS => ?_)
  have hP : va_P E.1 vwCl [(h0, .inr (1, [.ref b1, .ref b2, .ref b3, .ref b4, .int (nI jc)])), (b1, zI E 4 fS), (b2, zI E 4 fF), (b3, zI E 4 fW), (b4, zI E 4 fV), (g0, .inr (4, [.ref e1, .ref e2, .int (nI (bfs_mt bfs_0 (jg_sum fl jc) (jg_sum fl jc, 0)).2.length)])), (e1, zI E (10 ^ jc) u4.1), (e2, zI E (10 ^ jc) u4.2)] H := hP
  have hD : va_D A [(h0, .inr (1, [.ref b1, .ref b2, .ref b3, .ref b4, .int (nI jc)])), (b1, zI E 4 fS), (b2, zI E 4 fF), (b3, zI E 4 fW), (b4, zI E 4 fV), (g0, .inr (4, [.ref e1, .ref e2, .int (nI (bfs_mt bfs_0 (jg_sum fl jc) (jg_sum fl jc, 0)).2.length)])), (e1, zI E (10 ^ jc) u4.1), (e2, zI E (10 ^ jc) u4.2)] := hD
  refine lv_iconst (v := 0) hx hb d_Se_endOf_33 (by decide) ?_
  refine lv_istore_n (lv' := [(3, .int 0), (2, .int (nI (jg_sum fl jc))), (0, .ref g0), (1, .ref h0)]) hx hb d_Se_endOf_34 rfl hl (by decide) rfl (fun ls hl => ?_)
  have hl := lv_sub (l' := [(0, .ref g0), (1, .ref h0), (2, .int (nI (jg_sum fl jc))), (3, .int (nI 0))]) hl [2, 3, 1, 0] (rfl)
  refine W.widen (k := 2) (n := 10 ^ jc + 10 ^ jc) (by omega) (by omega) ?_
  exact lp_Se_endOf_Jn hJ hp4 (Nat.le_refl _) C hA hK hst 10000 0 fV u4.1 u4.2 (bfs_mt bfs_0 (jg_sum fl jc) (jg_sum fl jc, 0)) (by omega) rfl hR4 (bfs_st_J hp4 (Nat.lt_of_lt_of_le hsP.1 (Nat.le_refl _)) hsP) _ _ ls hP hD hS hl

set_option maxHeartbeats 4000000 in
set_option maxRecDepth 100000 in
theorem lp_Se_endOf_R {p : Program} {l : Launch} {e : Env} {s : State} {m : MethodId} {below : List Frame} {meth : Method} {c : Code} {A : Nat → Prop}  {E : zG} {h0 c1 c2 tn bt : Nat} {fL fN : Nat → Int32} {nw : Nat → Nat} {g0 a1 a2 n : Nat} (ht : tn ≤ 8) (hbt : bt ≤ 3) (hN : ∀ j, j < 8 → fN j = nI (nw j) ∧ nw j < 256) (hn : n ≤ 10000) (hnc : 512 ≤ n) (C : cx p s m #[.ref g0, .ref h0] meth c b_Se_endOf 5 y_Se_endOf.cls (some .int)) (hA : ∀ q, s.heap.size ≤ q → A q) (hK : kt E s) (hst : stt A s s.heap) :
    ∀ (f hd : Nat) (fT fQ : Nat → Int32) (S : (Nat → Nat) × List Nat) (_ : hd + f = 10000) (_ : bfs_run (rv_dn tn) (rv_next tn nw bt) f hd S = bfs_run (rv_dn tn) (rv_next tn nw bt) 10000 0 (bfs_mt bfs_0 (0) (0, 0))) (_ : bfs_RS n S fT fQ) (_ : bfs_J n (fun y => y < 512) S) (H : Heap) (locs : List Loc) (ls : Array Slot), va_P E.1 vwCl [(h0, .inr (2, [.ref c1, .ref c2, .int (nI tn), .int (nI bt)])), (c1, zI E 8 fL), (c2, zI E 8 fN), (g0, .inr (4, [.ref a1, .ref a2, .int (nI S.2.length)])), (a1, zI E n fT), (a2, zI E n fQ)] H → va_D A [(h0, .inr (2, [.ref c1, .ref c2, .int (nI tn), .int (nI bt)])), (c1, zI E 8 fL), (c2, zI E 8 fN), (g0, .inr (4, [.ref a1, .ref a2, .int (nI S.2.length)])), (a1, zI E n fT), (a2, zI E n fQ)] → va_S A s.heap H locs → lv_has ls 5 [(0, .ref g0), (1, .ref h0), (2, .int (nI (0))), (3, .int (nI hd))] → W p l e (zR 2 51 0 0) s m #[.ref g0, .ref h0] below meth c H locs 0 0 (MQ below ((zQi E (S := (Nat → Int32) × (Nat → Int32) × (Nat → Int32) × Nat × Nat) (fun r u => r = bfs_o (bfs_run (rv_dn tn) (rv_next tn nw bt) 10000 0 (bfs_mt bfs_0 (0) (0, 0))).1 ∧ bfs_RS n (bfs_run (rv_dn tn) (rv_next tn nw bt) 10000 0 (bfs_mt bfs_0 (0) (0, 0))).2 u.2.1 u.2.2.1 ∧ u.2.2.2.1 = a1 ∧ u.2.2.2.2 = a2) (fun u => [(h0, .inr (2, [.ref c1, .ref c2, .int (nI tn), .int (nI bt)])), (c1, zI E 8 fL), (c2, zI E 8 fN), (g0, .inr (4, [.ref u.2.2.2.1, .ref u.2.2.2.2, .int (nI ((bfs_run (rv_dn tn) (rv_next tn nw bt) 10000 0 (bfs_mt bfs_0 (0) (0, 0))).2).2.length)])), (u.2.2.2.1, zI E n u.2.1), (u.2.2.2.2, zI E n u.2.2.1)])) A) #[.ref g0, .ref h0] s 0 0 A) (F0 m 35 ls []) := by
  obtain ⟨hx, hb, hr, hml, hown, hts, hlk⟩ := id C
  intro f
  induction f with
  | zero =>
    intro hd fT fQ S hi hgo hR hJS H locs ls hP hD hS hl
    have hi : hd = 10000 := by omega
    subst hi
    refine lv_iload_n hx hb d_Se_endOf_35 rfl (lv_at hl 3 rfl) ?_
    refine lv_sipush (v := 10000) hx hb d_Se_endOf_36 (by decide) ?_
    refine lv_icmp_ge (tgt := 94) hx hb d_Se_endOf_39 (by decide) (fun c_23 => ?_) (fun c_23 => ?_)
    · refine lv_iconst (v := (-1)) hx hb d_Se_endOf_94 (by decide) ?_
      have p1 : (-1 : Int32) = bfs_o (bfs_run (rv_dn tn) (rv_next tn nw bt) 0 10000 S).1 := rfl
      have p2 : S = (bfs_run (rv_dn tn) (rv_next tn nw bt) 0 10000 S).2 := rfl
      have eS : S = (bfs_run (rv_dn tn) (rv_next tn nw bt) 10000 0 (bfs_mt bfs_0 (0) (0, 0))).2 := by rw [← hgo]; exact p2
      have hP : va_P E.1 vwCl [(h0, .inr (2, [.ref c1, .ref c2, .int (nI tn), .int (nI bt)])), (c1, zI E 8 fL), (c2, zI E 8 fN), (g0, .inr (4, [.ref a1, .ref a2, .int (nI ((bfs_run (rv_dn tn) (rv_next tn nw bt) 10000 0 (bfs_mt bfs_0 (0) (0, 0))).2).2.length)])), (a1, zI E n fT), (a2, zI E n fQ)] H := by rw [← eS]; exact hP
      have hD : va_D A [(h0, .inr (2, [.ref c1, .ref c2, .int (nI tn), .int (nI bt)])), (c1, zI E 8 fL), (c2, zI E 8 fN), (g0, .inr (4, [.ref a1, .ref a2, .int (nI ((bfs_run (rv_dn tn) (rv_next tn nw bt) 10000 0 (bfs_mt bfs_0 (0) (0, 0))).2).2.length)])), (a1, zI E n fT), (a2, zI E n fQ)] := by rw [← eS]; exact hD
      exact zz_reti C (rfl) hS (fun _ => 0, fT, fQ, a1, a2) (⟨by rw [← hgo]; exact p1, by rw [← eS]; exact hR, rfl, rfl⟩) hP hD d_Se_endOf_95
    · exact absurd (nI_le (b := 10000) (Nat.le_refl _) (by decide)) c_23
  | succ f ih =>
    intro hd fT fQ S hi hgo hR hJS H locs ls hP hD hS hl
    have hlen := bfs_le hJS.1
    refine lv_iload_n hx hb d_Se_endOf_35 rfl (lv_at hl 3 rfl) ?_
    refine lv_sipush (v := 10000) hx hb d_Se_endOf_36 (by decide) ?_
    refine lv_icmp_ge (tgt := 94) hx hb d_Se_endOf_39 (by decide) (fun c_24 => ?_) (fun c_24 => ?_)
    · exact absurd c_24 (nI_ge (b := 10000) (by omega) (by decide))
    · refine lv_iload_n hx hb d_Se_endOf_42 rfl (lv_at hl 3 rfl) ?_
      refine lv_aload_n hx hb d_Se_endOf_43 rfl (lv_at hl 0 rfl) ?_
      refine zz_get C hK hP fl_Se_34 3 rfl rfl d_Se_endOf_44 ?_
      refine lv_icmp_ge (tgt := 59) hx hb d_Se_endOf_47 (by decide) (fun c_25 => ?_) (fun c_25 => ?_)
      · have hge : ¬ hd < S.2.length := fun z => absurd c_25 (nI_ge z (by omega))
        have hrf : bfs_run (rv_dn tn) (rv_next tn nw bt) (f + 1) hd S = (none, S) := by rw [bfs_run, if_neg hge]
        have p1 : (-1 : Int32) = bfs_o (bfs_run (rv_dn tn) (rv_next tn nw bt) (f + 1) hd S).1 := by rw [hrf]; rfl
        have p2 : S = (bfs_run (rv_dn tn) (rv_next tn nw bt) (f + 1) hd S).2 := by rw [hrf]
        refine lv_iconst (v := (-1)) hx hb d_Se_endOf_59 (by decide) ?_
        have eS : S = (bfs_run (rv_dn tn) (rv_next tn nw bt) 10000 0 (bfs_mt bfs_0 (0) (0, 0))).2 := by rw [← hgo]; exact p2
        have hP : va_P E.1 vwCl [(h0, .inr (2, [.ref c1, .ref c2, .int (nI tn), .int (nI bt)])), (c1, zI E 8 fL), (c2, zI E 8 fN), (g0, .inr (4, [.ref a1, .ref a2, .int (nI ((bfs_run (rv_dn tn) (rv_next tn nw bt) 10000 0 (bfs_mt bfs_0 (0) (0, 0))).2).2.length)])), (a1, zI E n fT), (a2, zI E n fQ)] H := by rw [← eS]; exact hP
        have hD : va_D A [(h0, .inr (2, [.ref c1, .ref c2, .int (nI tn), .int (nI bt)])), (c1, zI E 8 fL), (c2, zI E 8 fN), (g0, .inr (4, [.ref a1, .ref a2, .int (nI ((bfs_run (rv_dn tn) (rv_next tn nw bt) 10000 0 (bfs_mt bfs_0 (0) (0, 0))).2).2.length)])), (a1, zI E n fT), (a2, zI E n fQ)] := by rw [← eS]; exact hD
        exact zz_reti C (rfl) hS (fun _ => 0, fT, fQ, a1, a2) (⟨by rw [← hgo]; exact p1, by rw [← eS]; exact hR, rfl, rfl⟩) hP hD d_Se_endOf_60
      · have hlt : hd < S.2.length := zz_ltc c_25 (by omega)
        refine lv_iload_n hx hb d_Se_endOf_50 rfl (lv_at hl 3 rfl) ?_
        refine lv_aload_n hx hb d_Se_endOf_51 rfl (lv_at hl 0 rfl) ?_
        refine zz_get C hK hP fl_Se_15 3 rfl rfl d_Se_endOf_52 ?_
        refine zz_alenI C hK hP 5 rfl d_Se_endOf_55 ?_
        refine lv_icmp_lt (tgt := 61) hx hb d_Se_endOf_56 (by decide) (fun c_26 => ?_) (fun c_26 => ?_)
        · obtain ⟨x, hxe⟩ : ∃ x, x = S.2.getD hd 0 := ⟨_, rfl⟩
          have hxm : x ∈ S.2 := by rw [hxe]; exact bfs_getD hlt
          have hxP : (fun y => y < 512) x := hJS.2 x hxm
          have hxn := (hJS.1.1 x hxm).1
          have hxz := (hJS.1.1 x hxm).2
          refine lv_aload_n hx hb d_Se_endOf_61 rfl (lv_at hl 0 rfl) ?_
          refine zz_get C hK hP fl_Se_15 3 rfl rfl d_Se_endOf_62 ?_
          refine lv_iload_n hx hb d_Se_endOf_65 rfl (lv_at hl 3 rfl) ?_
          refine zz_ialdN C hK hP 5 rfl (j := hd) (Nat.lt_of_lt_of_le hlt hlen) (by omega) d_Se_endOf_66 ?_
          refine zz_eqi (y := nI x) (by rw [hxe]; exact hR.2 hd hlt) ?_
          refine lv_istore (lv' := [(4, .int (nI x)), (0, .ref g0), (1, .ref h0), (2, .int (nI (0))), (3, .int (nI hd))]) hx hb d_Se_endOf_67 hl (by decide) rfl (fun ls hl => ?_)
          refine lv_aload_n hx hb d_Se_endOf_69 rfl (lv_at hl 2 rfl) ?_
          refine lv_iload hx hb d_Se_endOf_70 (lv_at hl 0 rfl) ?_
          have hx5 : x < 512 := hxP
          refine zz_goi (wr := [(g0, .inr (4, [.ref a1, .ref a2, .int (nI S.2.length)])), (a1, zI E n fT), (a2, zI E n fQ)]) [0, 1, 2] [3, 4, 5] rfl rfl (by decide) (by decide) hA hP hD hS (zz_runA (wc := [(h0, .inr (2, [.ref c1, .ref c2, .int (nI tn), .int (nI bt)])), (c1, zI E 8 fL), (c2, zI E 8 fN)]) (As := [.int (nI x)]) (rest := []) C (c_Rv_isDone l E h0 c1 c2 tn fL fN (nI bt) x ht) ym_Rv_isDone wd_ml_Se_45 wd_sm_isDone wd_se_Rv_isDone wd_im_Rv_isDone wd_de_isDone (by decide +kernel) [0, 1, 2] (by decide) rfl hA hK hst hP hD hS (ci := 2) (q0 := 0) rfl rfl rfl rfl hl.1 rfl (Nat.le_of_ble_eq_true rfl) ⟨Nat.le_of_ble_eq_true rfl, Nat.le_of_ble_eq_true rfl⟩ ⟨Nat.le_of_ble_eq_true rfl, Nat.le_of_ble_eq_true rfl⟩ d_Se_endOf_72) (fun r1 u H locs hw1 hP hD hS => ?_)
          have hP : va_P E.1 vwCl [(g0, .inr (4, [.ref a1, .ref a2, .int (nI S.2.length)])), (a1, zI E n fT), (a2, zI E n fQ), (h0, .inr (2, [.ref c1, .ref c2, .int (nI tn), .int (nI bt)])), (c1, zI E 8 fL), (c2, zI E 8 fN)] H := hP
          have hD : va_D A [(g0, .inr (4, [.ref a1, .ref a2, .int (nI S.2.length)])), (a1, zI E n fT), (a2, zI E n fQ), (h0, .inr (2, [.ref c1, .ref c2, .int (nI tn), .int (nI bt)])), (c1, zI E 8 fL), (c2, zI E 8 fN)] := hD
          have hd1 : (rv_dn tn x = true → r1 = 1) ∧ (¬ rv_dn tn x = true → r1 = 0) := ⟨fun h => hw1.1 (of_decide_eq_true h), fun h => hw1.2 (fun z => h (decide_eq_true z))⟩
          have hP := hP.sub (ws' := [(h0, .inr (2, [.ref c1, .ref c2, .int (nI tn), .int (nI bt)])), (c1, zI E 8 fL), (c2, zI E 8 fN), (g0, .inr (4, [.ref a1, .ref a2, .int (nI S.2.length)])), (a1, zI E n fT), (a2, zI E n fQ)]) [3, 4, 5, 0, 1, 2] rfl
          have hD := hD.sub (ws' := [(h0, .inr (2, [.ref c1, .ref c2, .int (nI tn), .int (nI bt)])), (c1, zI E 8 fL), (c2, zI E 8 fN), (g0, .inr (4, [.ref a1, .ref a2, .int (nI S.2.length)])), (a1, zI E n fT), (a2, zI E n fQ)]) [3, 4, 5, 0, 1, 2] (by decide) rfl
          refine lv_if_eq (tgt := 81) hx hb d_Se_endOf_75 (by decide) (fun c_27 => ?_) (fun c_27 => ?_)
          · have hdn : ¬ (rv_dn tn) x = true := fun h => absurd ((hd1.1 h).symm.trans c_27) (by decide)
            have hrf : bfs_run (rv_dn tn) (rv_next tn nw bt) (f + 1) hd S = bfs_run (rv_dn tn) (rv_next tn nw bt) f (hd + 1) (rv_next tn nw bt x S) := by rw [bfs_run, if_pos hlt, ← hxe, if_neg hdn]
            refine lv_aload_n hx hb d_Se_endOf_81 rfl (lv_at hl 2 rfl) ?_
            refine lv_iload hx hb d_Se_endOf_82 (lv_at hl 0 rfl) ?_
            refine lv_aload_n hx hb d_Se_endOf_84 rfl (lv_at hl 1 rfl) ?_
            refine zz_gov (wr := []) [0, 1, 2, 3, 4, 5] [] rfl rfl (by decide) (by decide) hA hP hD hS (zz_runA (wc := [(h0, .inr (2, [.ref c1, .ref c2, .int (nI tn), .int (nI bt)])), (c1, zI E 8 fL), (c2, zI E 8 fN), (g0, .inr (4, [.ref a1, .ref a2, .int (nI S.2.length)])), (a1, zI E n fT), (a2, zI E n fQ)]) (As := [.int (nI x), .ref g0]) (rest := []) C (c_Rv_meetNext l E h0 c1 c2 tn bt fL fN nw g0 a1 a2 n fT fQ S x ht hbt hN hx5 hn hnc hR ⟨hJS.1, hxz⟩) ym_Rv_meetNext wd_ml_Se_49 wd_sm_meetNext wd_se_Rv_meetNext wd_im_Rv_meetNext wd_de_meetNext (by decide +kernel) [0, 1, 2, 3, 4, 5] (by decide) rfl hA hK hst hP hD hS (ci := 2) (q0 := 0) rfl rfl rfl rfl hl.1 rfl (Nat.le_of_ble_eq_true rfl) ⟨Nat.le_of_ble_eq_true rfl, Nat.le_of_ble_eq_true rfl⟩ ⟨Nat.le_of_ble_eq_true rfl, Nat.le_of_ble_eq_true rfl⟩ d_Se_endOf_85) (fun u2 H locs hR hP hD hS => ?_)
            have hP : va_P E.1 vwCl [(h0, .inr (2, [.ref c1, .ref c2, .int (nI tn), .int (nI bt)])), (c1, zI E 8 fL), (c2, zI E 8 fN), (g0, .inr (4, [.ref a1, .ref a2, .int (nI (rv_next tn nw bt x S).2.length)])), (a1, zI E n u2.1), (a2, zI E n u2.2)] H := hP
            have hD : va_D A [(h0, .inr (2, [.ref c1, .ref c2, .int (nI tn), .int (nI bt)])), (c1, zI E 8 fL), (c2, zI E 8 fN), (g0, .inr (4, [.ref a1, .ref a2, .int (nI (rv_next tn nw bt x S).2.length)])), (a1, zI E n u2.1), (a2, zI E n u2.2)] := hD
            have hJ2 := rv_next_J (bt := bt) (nw := nw) ht hx5 hn hnc ⟨hJS, hxz⟩
            refine lv_iinc (v := nI (hd + 1)) (lv' := [(3, .int (nI (hd + 1))), (4, .int (nI x)), (0, .ref g0), (1, .ref h0), (2, .int (nI (0)))]) hx hb d_Se_endOf_88 hl (k := 4) rfl (nI_1 _) (by decide) rfl (fun ls hl => ?_)
            refine lv_goto (tgt := 35) hx hb d_Se_endOf_91 (by decide) ?_
            exact ih (hd + 1) u2.1 u2.2 (rv_next tn nw bt x S) (by omega) (by rw [← hgo, hrf]) hR hJ2.1 _ _ ls hP hD hS (lv_sub hl [2, 3, 4, 0] rfl)
          · have hdn : (rv_dn tn) x = true := Classical.byContradiction (fun h => c_27 (hd1.2 h))
            have hrf : bfs_run (rv_dn tn) (rv_next tn nw bt) (f + 1) hd S = (some x, S) := by rw [bfs_run, if_pos hlt, ← hxe, if_pos hdn]
            have p1 : nI x = bfs_o (bfs_run (rv_dn tn) (rv_next tn nw bt) (f + 1) hd S).1 := by rw [hrf]; rfl
            have p2 : S = (bfs_run (rv_dn tn) (rv_next tn nw bt) (f + 1) hd S).2 := by rw [hrf]
            refine lv_iload hx hb d_Se_endOf_78 (lv_at hl 0 rfl) ?_
            have eS : S = (bfs_run (rv_dn tn) (rv_next tn nw bt) 10000 0 (bfs_mt bfs_0 (0) (0, 0))).2 := by rw [← hgo]; exact p2
            have hP : va_P E.1 vwCl [(h0, .inr (2, [.ref c1, .ref c2, .int (nI tn), .int (nI bt)])), (c1, zI E 8 fL), (c2, zI E 8 fN), (g0, .inr (4, [.ref a1, .ref a2, .int (nI ((bfs_run (rv_dn tn) (rv_next tn nw bt) 10000 0 (bfs_mt bfs_0 (0) (0, 0))).2).2.length)])), (a1, zI E n fT), (a2, zI E n fQ)] H := by rw [← eS]; exact hP
            have hD : va_D A [(h0, .inr (2, [.ref c1, .ref c2, .int (nI tn), .int (nI bt)])), (c1, zI E 8 fL), (c2, zI E 8 fN), (g0, .inr (4, [.ref a1, .ref a2, .int (nI ((bfs_run (rv_dn tn) (rv_next tn nw bt) 10000 0 (bfs_mt bfs_0 (0) (0, 0))).2).2.length)])), (a1, zI E n fT), (a2, zI E n fQ)] := by rw [← eS]; exact hD
            exact zz_reti C (rfl) hS (fun _ => 0, fT, fQ, a1, a2) (⟨by rw [← hgo]; exact p1, by rw [← eS]; exact hR, rfl, rfl⟩) hP hD d_Se_endOf_80
        · exact absurd (nI_lt (Nat.lt_of_lt_of_le hlt hlen) (by omega)) c_26

set_option maxHeartbeats 4000000 in
set_option maxRecDepth 100000 in
theorem c_Se_endOf_R (l : Launch) (E : zG) (h0 c1 c2 tn bt : Nat) (fL fN : Nat → Int32) (nw : Nat → Nat) (g0 a1 a2 n : Nat) (fT fQ : Nat → Int32) (mt : Int32) (ht : tn ≤ 8) (hbt : bt ≤ 3) (hN : ∀ j, j < 8 → fN j = nI (nw j) ∧ nw j < 256) (hn : n ≤ 10000) (hnc : 512 ≤ n) : zMet l y_Se_endOf b_Se_endOf 5 (some .int) 2 51 0 0 E [.ref g0, .ref h0] [(h0, .inr (2, [.ref c1, .ref c2, .int (nI tn), .int (nI bt)])), (c1, zI E 8 fL), (c2, zI E 8 fN), (g0, .inr (4, [.ref a1, .ref a2, .int mt])), (a1, zI E n fT), (a2, zI E n fQ)] (zQi E (S := (Nat → Int32) × (Nat → Int32) × (Nat → Int32) × Nat × Nat) (fun r u => r = bfs_o (bfs_run (rv_dn tn) (rv_next tn nw bt) 10000 0 (bfs_mt bfs_0 (0) (0, 0))).1 ∧ bfs_RS n (bfs_run (rv_dn tn) (rv_next tn nw bt) 10000 0 (bfs_mt bfs_0 (0) (0, 0))).2 u.2.1 u.2.2.1 ∧ u.2.2.2.1 = a1 ∧ u.2.2.2.2 = a2) (fun u => [(h0, .inr (2, [.ref c1, .ref c2, .int (nI tn), .int (nI bt)])), (c1, zI E 8 fL), (c2, zI E 8 fN), (g0, .inr (4, [.ref u.2.2.2.1, .ref u.2.2.2.2, .int (nI ((bfs_run (rv_dn tn) (rv_next tn nw bt) 10000 0 (bfs_mt bfs_0 (0) (0, 0))).2).2.length)])), (u.2.2.2.1, zI E n u.2.1), (u.2.2.2.2, zI E n u.2.2.1)])) := by
  refine zz_met (by decide +kernel) (Nat.le_of_ble_eq_true rfl) ?_
  intro p e s m below meth c A ls C hin hA hK hst hP hD hl
  obtain ⟨hx, hb, hr, hml, hown, hts, hlk⟩ := id C
  have hS : va_S A s.heap s.heap [] := va_S.rf
  have hl : lv_has ls 5 [(0, .ref g0), (1, .ref h0)] := hl
  refine lv_aload_n hx hb d_Se_endOf_0 rfl (lv_at hl 0 rfl) ?_
  refine lv_aload_n hx hb d_Se_endOf_1 rfl (lv_at hl 1 rfl) ?_
  refine zz_goi (wr := [(g0, .inr (4, [.ref a1, .ref a2, .int mt])), (a1, zI E n fT), (a2, zI E n fQ)]) [0, 1, 2] [3, 4, 5] rfl rfl (by decide) (by decide) hA hP hD hS (zz_runA (wc := [(h0, .inr (2, [.ref c1, .ref c2, .int (nI tn), .int (nI bt)])), (c1, zI E 8 fL), (c2, zI E 8 fN)]) (As := []) (rest := [.ref g0]) C (c_Rv_stateCount l E h0 c1 c2 tn fL fN (nI bt)) ym_Rv_stateCount wd_ml_Se_18 wd_sm_stateCount wd_se_Rv_stateCount wd_im_Rv_stateCount wd_de_stateCount (by decide +kernel) [0, 1, 2] (by decide) rfl hA hK hst hP hD hS (ci := 2) (q0 := 0) rfl rfl rfl rfl hl.1 rfl (Nat.le_of_ble_eq_true rfl) ⟨Nat.le_of_ble_eq_true rfl, Nat.le_of_ble_eq_true rfl⟩ ⟨Nat.le_of_ble_eq_true rfl, Nat.le_of_ble_eq_true rfl⟩ d_Se_endOf_2) (fun r_29 u H locs hw hP hD hS => ?_)
  have hP : va_P E.1 vwCl [(g0, .inr (4, [.ref a1, .ref a2, .int mt])), (a1, zI E n fT), (a2, zI E n fQ), (h0, .inr (2, [.ref c1, .ref c2, .int (nI tn), .int (nI bt)])), (c1, zI E 8 fL), (c2, zI E 8 fN)] H := hP
  have hD : va_D A [(g0, .inr (4, [.ref a1, .ref a2, .int mt])), (a1, zI E n fT), (a2, zI E n fQ), (h0, .inr (2, [.ref c1, .ref c2, .int (nI tn), .int (nI bt)])), (c1, zI E 8 fL), (c2, zI E 8 fN)] := hD
  subst hw
  have hP := hP.sub (ws' := [(h0, .inr (2, [.ref c1, .ref c2, .int (nI tn), .int (nI bt)])), (c1, zI E 8 fL), (c2, zI E 8 fN), (g0, .inr (4, [.ref a1, .ref a2, .int mt])), (a1, zI E n fT), (a2, zI E n fQ)]) [3, 4, 5, 0, 1, 2] rfl
  have hD := hD.sub (ws' := [(h0, .inr (2, [.ref c1, .ref c2, .int (nI tn), .int (nI bt)])), (c1, zI E 8 fL), (c2, zI E 8 fN), (g0, .inr (4, [.ref a1, .ref a2, .int mt])), (a1, zI E n fT), (a2, zI E n fQ)]) [3, 4, 5, 0, 1, 2] (by decide) rfl
  refine zz_gov (wr := [(h0, .inr (2, [.ref c1, .ref c2, .int (nI tn), .int (nI bt)])), (c1, zI E 8 fL), (c2, zI E 8 fN)]) [3, 4, 5] [0, 1, 2] rfl rfl (by decide) (by decide) hA hP hD hS (zz_runV (wc := [(g0, .inr (4, [.ref a1, .ref a2, .int mt])), (a1, zI E n fT), (a2, zI E n fQ)]) (As := [.int (nI (512))]) (rest := []) C (c_Se_makeRoom_keep l E g0 a1 a2 n (512) fT fQ mt hnc hn) ym_Se_makeRoom wd_ml_Se_24 wd_im_Se_makeRoom wd_se_Se_makeRoom [3, 4, 5] (by decide) rfl hA hK hst hP hD hS (ci := 4) (q0 := 0) rfl rfl rfl rfl hl.1 rfl (Nat.le_of_ble_eq_true rfl) ⟨Nat.le_of_ble_eq_true rfl, Nat.le_of_ble_eq_true rfl⟩ ⟨Nat.le_of_ble_eq_true rfl, Nat.le_of_ble_eq_true rfl⟩ d_Se_endOf_5) (fun u H locs _ hP hD hS => ?_)
  have hP : va_P E.1 vwCl [(h0, .inr (2, [.ref c1, .ref c2, .int (nI tn), .int (nI bt)])), (c1, zI E 8 fL), (c2, zI E 8 fN), (g0, .inr (4, [.ref a1, .ref a2, .int mt])), (a1, zI E n fT), (a2, zI E n fQ)] H := hP
  have hD : va_D A [(h0, .inr (2, [.ref c1, .ref c2, .int (nI tn), .int (nI bt)])), (c1, zI E 8 fL), (c2, zI E 8 fN), (g0, .inr (4, [.ref a1, .ref a2, .int mt])), (a1, zI E n fT), (a2, zI E n fQ)] := hD
  refine lv_aload_n hx hb d_Se_endOf_8 rfl (lv_at hl 0 rfl) ?_
  refine zz_get C hK hP fl_Se_11 3 rfl rfl d_Se_endOf_9 ?_
  refine lv_iconst (v := 0) hx hb d_Se_endOf_12 (by decide) ?_
  refine zz_gov (wr := [(h0, .inr (2, [.ref c1, .ref c2, .int (nI tn), .int (nI bt)])), (c1, zI E 8 fL), (c2, zI E 8 fN), (g0, .inr (4, [.ref a1, .ref a2, .int mt])), (a2, zI E n fQ)]) [4] [0, 1, 2, 3, 5] rfl rfl (by decide) (by decide) hA hP hD hS (zz_runS (wc := [(a1, zI E n fT)]) (As := [.ref a1, .int 0]) (rest := []) C (c_Ar_fill l E a1 n fT 0 hn) ym_Ar_fill wd_ml_Se_28 wd_st_Ar_fill [4] (by decide) rfl hA hK hst hP hD hS rfl hl.1 rfl (Nat.le_of_ble_eq_true rfl) ⟨Nat.le_of_ble_eq_true rfl, Nat.le_of_ble_eq_true rfl⟩ ⟨Nat.le_of_ble_eq_true rfl, Nat.le_of_ble_eq_true rfl⟩ d_Se_endOf_13) (fun u3 H locs hz3 hP hD hS => ?_)
  have hP : va_P E.1 vwCl [(h0, .inr (2, [.ref c1, .ref c2, .int (nI tn), .int (nI bt)])), (c1, zI E 8 fL), (c2, zI E 8 fN), (g0, .inr (4, [.ref a1, .ref a2, .int mt])), (a2, zI E n fQ), (a1, zI E n u3)] H := hP
  have hD : va_D A [(h0, .inr (2, [.ref c1, .ref c2, .int (nI tn), .int (nI bt)])), (c1, zI E 8 fL), (c2, zI E 8 fN), (g0, .inr (4, [.ref a1, .ref a2, .int mt])), (a2, zI E n fQ), (a1, zI E n u3)] := hD
  have hP := hP.sub (ws' := [(h0, .inr (2, [.ref c1, .ref c2, .int (nI tn), .int (nI bt)])), (c1, zI E 8 fL), (c2, zI E 8 fN), (g0, .inr (4, [.ref a1, .ref a2, .int mt])), (a1, zI E n u3), (a2, zI E n fQ)]) [0, 1, 2, 3, 5, 4] rfl
  have hD := hD.sub (ws' := [(h0, .inr (2, [.ref c1, .ref c2, .int (nI tn), .int (nI bt)])), (c1, zI E 8 fL), (c2, zI E 8 fN), (g0, .inr (4, [.ref a1, .ref a2, .int mt])), (a1, zI E n u3), (a2, zI E n fQ)]) [0, 1, 2, 3, 5, 4] (by decide) rfl
  refine lv_aload_n hx hb d_Se_endOf_16 rfl (lv_at hl 0 rfl) ?_
  refine lv_iconst (v := 0) hx hb d_Se_endOf_17 (by decide) ?_
  refine zz_put C hK hP hD hS fl_Se_34 3 rfl rfl rfl (Nat.le_of_ble_eq_true rfl) d_Se_endOf_18 (fun H locs hP hD hS => ?_)
  have hP : va_P E.1 vwCl [(h0, .inr (2, [.ref c1, .ref c2, .int (nI tn), .int (nI bt)])), (c1, zI E 8 fL), (c2, zI E 8 fN), (g0, .inr (4, [.ref a1, .ref a2, .int 0])), (a1, zI E n u3), (a2, zI E n fQ)] H := hP
  have hD : va_D A [(h0, .inr (2, [.ref c1, .ref c2, .int (nI tn), .int (nI bt)])), (c1, zI E 8 fL), (c2, zI E 8 fN), (g0, .inr (4, [.ref a1, .ref a2, .int 0])), (a1, zI E n u3), (a2, zI E n fQ)] := hD
  refine lv_aload_n hx hb d_Se_endOf_21 rfl (lv_at hl 1 rfl) ?_
  refine zz_goi (wr := [(g0, .inr (4, [.ref a1, .ref a2, .int 0])), (a1, zI E n u3), (a2, zI E n fQ)]) [0, 1, 2] [3, 4, 5] rfl rfl (by decide) (by decide) hA hP hD hS (zz_runA (wc := [(h0, .inr (2, [.ref c1, .ref c2, .int (nI tn), .int (nI bt)])), (c1, zI E 8 fL), (c2, zI E 8 fN)]) (As := []) (rest := []) C (c_Rv_startState l E h0 c1 c2 tn fL fN (nI bt)) ym_Rv_startState wd_ml_Se_38 wd_sm_startState wd_se_Rv_startState wd_im_Rv_startState wd_de_startState (by decide +kernel) [0, 1, 2] (by decide) rfl hA hK hst hP hD hS (ci := 2) (q0 := 0) rfl rfl rfl rfl hl.1 rfl (Nat.le_of_ble_eq_true rfl) ⟨Nat.le_of_ble_eq_true rfl, Nat.le_of_ble_eq_true rfl⟩ ⟨Nat.le_of_ble_eq_true rfl, Nat.le_of_ble_eq_true rfl⟩ d_Se_endOf_22) (fun r_32 u H locs hw hP hD hS => ?_)
  have hP : va_P E.1 vwCl [(g0, .inr (4, [.ref a1, .ref a2, .int 0])), (a1, zI E n u3), (a2, zI E n fQ), (h0, .inr (2, [.ref c1, .ref c2, .int (nI tn), .int (nI bt)])), (c1, zI E 8 fL), (c2, zI E 8 fN)] H := hP
  have hD : va_D A [(g0, .inr (4, [.ref a1, .ref a2, .int 0])), (a1, zI E n u3), (a2, zI E n fQ), (h0, .inr (2, [.ref c1, .ref c2, .int (nI tn), .int (nI bt)])), (c1, zI E 8 fL), (c2, zI E 8 fN)] := hD
  subst hw
  have hP := hP.sub (ws' := [(h0, .inr (2, [.ref c1, .ref c2, .int (nI tn), .int (nI bt)])), (c1, zI E 8 fL), (c2, zI E 8 fN), (g0, .inr (4, [.ref a1, .ref a2, .int 0])), (a1, zI E n u3), (a2, zI E n fQ)]) [3, 4, 5, 0, 1, 2] rfl
  have hD := hD.sub (ws' := [(h0, .inr (2, [.ref c1, .ref c2, .int (nI tn), .int (nI bt)])), (c1, zI E 8 fL), (c2, zI E 8 fN), (g0, .inr (4, [.ref a1, .ref a2, .int 0])), (a1, zI E n u3), (a2, zI E n fQ)]) [3, 4, 5, 0, 1, 2] (by decide) rfl
  have hP : va_P E.1 vwCl [(h0, .inr (2, [.ref c1, .ref c2, .int (nI tn), .int (nI bt)])), (c1, zI E 8 fL), (c2, zI E 8 fN), (g0, .inr (4, [.ref a1, .ref a2, .int (nI bfs_0.2.length)])), (a1, zI E n u3), (a2, zI E n fQ)] H := hP
  have hD : va_D A [(h0, .inr (2, [.ref c1, .ref c2, .int (nI tn), .int (nI bt)])), (c1, zI E 8 fL), (c2, zI E 8 fN), (g0, .inr (4, [.ref a1, .ref a2, .int (nI bfs_0.2.length)])), (a1, zI E n u3), (a2, zI E n fQ)] := hD
  have hsP : (fun y => y < 512) (0) := (by decide : 0 < 512)
  refine lv_istore_n (lv' := [(2, .int (nI (0))), (0, .ref g0), (1, .ref h0)]) hx hb d_Se_endOf_25 rfl hl (by decide) rfl (fun ls hl => ?_)
  refine lv_aload_n hx hb d_Se_endOf_26 rfl (lv_at hl 1 rfl) ?_
  refine lv_iload_n hx hb d_Se_endOf_27 rfl (lv_at hl 0 rfl) ?_
  refine lv_iload_n hx hb d_Se_endOf_28 rfl (lv_at hl 0 rfl) ?_
  refine lv_iconst (v := 0) hx hb d_Se_endOf_29 (by decide) ?_
  refine zz_eqi (y := nI 0) rfl ?_
  refine zz_gov (wr := [(h0, .inr (2, [.ref c1, .ref c2, .int (nI tn), .int (nI bt)])), (c1, zI E 8 fL), (c2, zI E 8 fN)]) [3, 4, 5] [0, 1, 2] rfl rfl (by decide) (by decide) hA hP hD hS (zz_runV (wc := [(g0, .inr (4, [.ref a1, .ref a2, .int (nI bfs_0.2.length)])), (a1, zI E n u3), (a2, zI E n fQ)]) (As := [.int (nI (0)), .int (nI (0)), .int (nI 0)]) (rest := []) C (c_Se_meet l E g0 a1 a2 n u3 fQ bfs_0 (0) (0) 0 hn (Nat.lt_of_lt_of_le hsP hnc) (Nat.lt_of_lt_of_le hsP hnc) (by decide) (bfs_0_RS hz3) (bfs_0_WF _)) ym_Se_meet wd_ml_Se_41 wd_im_Se_meet wd_se_Se_meet [3, 4, 5] (by decide) rfl hA hK hst hP hD hS (ci := 4) (q0 := 0) rfl rfl rfl rfl hl.1 rfl (Nat.le_of_ble_eq_true rfl) ⟨Nat.le_of_ble_eq_true rfl, Nat.le_of_ble_eq_true rfl⟩ ⟨Nat.le_of_ble_eq_true rfl, Nat.le_of_ble_eq_true rfl⟩ d_Se_endOf_30) (fun u4 H locs hR4 hP hD hS => ?_)
  have hP : va_P E.1 vwCl [(h0, .inr (2, [.ref c1, .ref c2, .int (nI tn), .int (nI bt)])), (c1, zI E 8 fL), (c2, zI E 8 fN), (g0, .inr (4, [.ref a1, .ref a2, .int (nI (bfs_mt bfs_0 (0) (0, 0)).2.length)])), (a1, zI E n u4.1), (a2, zI E n u4.2)] H := hP
  have hD : va_D A [(h0, .inr (2, [.ref c1, .ref c2, .int (nI tn), .int (nI bt)])), (c1, zI E 8 fL), (c2, zI E 8 fN), (g0, .inr (4, [.ref a1, .ref a2, .int (nI (bfs_mt bfs_0 (0) (0, 0)).2.length)])), (a1, zI E n u4.1), (a2, zI E n u4.2)] := hD
  refine lv_iconst (v := 0) hx hb d_Se_endOf_33 (by decide) ?_
  refine lv_istore_n (lv' := [(3, .int 0), (2, .int (nI (0))), (0, .ref g0), (1, .ref h0)]) hx hb d_Se_endOf_34 rfl hl (by decide) rfl (fun ls hl => ?_)
  have hl := lv_sub (l' := [(0, .ref g0), (1, .ref h0), (2, .int (nI (0))), (3, .int (nI 0))]) hl [2, 3, 1, 0] (rfl)
  exact lp_Se_endOf_R ht hbt hN hn hnc C hA hK hst 10000 0 u4.1 u4.2 (bfs_mt bfs_0 (0) (0, 0)) (by omega) rfl hR4 (bfs_st_J hn (Nat.lt_of_lt_of_le hsP hnc) hsP) _ _ ls hP hD hS hl
end
