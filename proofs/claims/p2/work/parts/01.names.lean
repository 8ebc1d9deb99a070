-- ===== PART A: goes FIRST, ahead of the names: the tables' words, and 'selects' of the private methods out of them =====
/-- a private method of a class that the tables say can be made, by its rows of tables_1 -/
def lw_okq (q : MethodName × Nat) : Prop := (q.1.cls ≠ "java/lang/invoke/MethodHandle" ∧ q.1.cls ≠ "java/lang/invoke/VarHandle") ∧ Cond.instantiable q.1.cls q.2 ∈ tables_1 ∧ Cond.privateMethod q.1 ∈ tables_1 ∧ Cond.instanceMethod q.1 ∈ tables_1
theorem lw_p0 : lw_okq (⟨"StatePuzzles", "find", "(LStatePuzzles$Puzzle;)I"⟩, 6) := ⟨⟨by decide +kernel, by decide +kernel⟩, List.mem_of_getElem? (i := 14) (by decide +kernel), List.mem_of_getElem? (i := 180) (by decide +kernel), List.mem_of_getElem? (i := 181) (by decide +kernel)⟩
theorem lw_p1 : lw_okq (⟨"StatePuzzles$Search", "makeRoom", "(I)V"⟩, 3) := ⟨⟨by decide +kernel, by decide +kernel⟩, List.mem_of_getElem? (i := 80) (by decide +kernel), List.mem_of_getElem? (i := 197) (by decide +kernel), List.mem_of_getElem? (i := 198) (by decide +kernel)⟩
theorem lw_p2 : lw_okq (⟨"StatePuzzles$JugSet", "readLevels", "(I)V"⟩, 5) := ⟨⟨by decide +kernel, by decide +kernel⟩, List.mem_of_getElem? (i := 22) (by decide +kernel), List.mem_of_getElem? (i := 225) (by decide +kernel), List.mem_of_getElem? (i := 226) (by decide +kernel)⟩
theorem lw_p3 : lw_okq (⟨"StatePuzzles$River", "allThings", "()I"⟩, 4) := ⟨⟨by decide +kernel, by decide +kernel⟩, List.mem_of_getElem? (i := 48) (by decide +kernel), List.mem_of_getElem? (i := 232) (by decide +kernel), List.mem_of_getElem? (i := 233) (by decide +kernel)⟩
theorem lw_p4 : lw_okq (⟨"StatePuzzles$JugSet", "roomIn", "(I)I"⟩, 5) := ⟨⟨by decide +kernel, by decide +kernel⟩, List.mem_of_getElem? (i := 22) (by decide +kernel), List.mem_of_getElem? (i := 242) (by decide +kernel), List.mem_of_getElem? (i := 243) (by decide +kernel)⟩
theorem lw_p5 : lw_okq (⟨"StatePuzzles$River", "mayBeLeft", "(I)Z"⟩, 4) := ⟨⟨by decide +kernel, by decide +kernel⟩, List.mem_of_getElem? (i := 48) (by decide +kernel), List.mem_of_getElem? (i := 262) (by decide +kernel), List.mem_of_getElem? (i := 263) (by decide +kernel)⟩
theorem lw_p6 : lw_okq (⟨"StatePuzzles$FoundSteps", "isFound", "(I)Z"⟩, 3) := ⟨⟨by decide +kernel, by decide +kernel⟩, List.mem_of_getElem? (i := 96) (by decide +kernel), List.mem_of_getElem? (i := 306) (by decide +kernel), List.mem_of_getElem? (i := 307) (by decide +kernel)⟩
theorem lw_p7 : lw_okq (⟨"StatePuzzles$RiverText", "readThings", "(LStatePuzzles$River;)I"⟩, 2) := ⟨⟨by decide +kernel, by decide +kernel⟩, List.mem_of_getElem? (i := 67) (by decide +kernel), List.mem_of_getElem? (i := 332) (by decide +kernel), List.mem_of_getElem? (i := 333) (by decide +kernel)⟩
theorem lw_p8 : lw_okq (⟨"StatePuzzles$RiverText", "unitAt", "(I)I"⟩, 2) := ⟨⟨by decide +kernel, by decide +kernel⟩, List.mem_of_getElem? (i := 67) (by decide +kernel), List.mem_of_getElem? (i := 336) (by decide +kernel), List.mem_of_getElem? (i := 337) (by decide +kernel)⟩
theorem lw_p9 : lw_okq (⟨"StatePuzzles$Tower", "tellOfFour", "(JI)I"⟩, 4) := ⟨⟨by decide +kernel, by decide +kernel⟩, List.mem_of_getElem? (i := 112) (by decide +kernel), List.mem_of_getElem? (i := 407) (by decide +kernel), List.mem_of_getElem? (i := 408) (by decide +kernel)⟩
theorem lw_p10 : lw_okq (⟨"StatePuzzlesModel", "code", "()I"⟩, 28) := ⟨⟨by decide +kernel, by decide +kernel⟩, List.mem_of_getElem? (i := 427) (by decide +kernel), List.mem_of_getElem? (i := 536) (by decide +kernel), List.mem_of_getElem? (i := 537) (by decide +kernel)⟩
theorem lw_p11 : lw_okq (⟨"StatePuzzlesModel", "begin", "(I)V"⟩, 28) := ⟨⟨by decide +kernel, by decide +kernel⟩, List.mem_of_getElem? (i := 427) (by decide +kernel), List.mem_of_getElem? (i := 540) (by decide +kernel), List.mem_of_getElem? (i := 541) (by decide +kernel)⟩
theorem lw_p12 : lw_okq (⟨"StatePuzzlesModel", "come", "(IIII)V"⟩, 28) := ⟨⟨by decide +kernel, by decide +kernel⟩, List.mem_of_getElem? (i := 427) (by decide +kernel), List.mem_of_getElem? (i := 544) (by decide +kernel), List.mem_of_getElem? (i := 545) (by decide +kernel)⟩
theorem lw_p13 : lw_okq (⟨"StatePuzzlesModel", "isGoal", "(I)Z"⟩, 28) := ⟨⟨by decide +kernel, by decide +kernel⟩, List.mem_of_getElem? (i := 427) (by decide +kernel), List.mem_of_getElem? (i := 548) (by decide +kernel), List.mem_of_getElem? (i := 549) (by decide +kernel)⟩
theorem lw_p14 : lw_okq (⟨"StatePuzzlesModel", "take", "(I)V"⟩, 28) := ⟨⟨by decide +kernel, by decide +kernel⟩, List.mem_of_getElem? (i := 427) (by decide +kernel), List.mem_of_getElem? (i := 552) (by decide +kernel), List.mem_of_getElem? (i := 553) (by decide +kernel)⟩
theorem lw_p15 : lw_okq (⟨"StatePuzzlesModel", "found", "(I)I"⟩, 28) := ⟨⟨by decide +kernel, by decide +kernel⟩, List.mem_of_getElem? (i := 427) (by decide +kernel), List.mem_of_getElem? (i := 556) (by decide +kernel), List.mem_of_getElem? (i := 557) (by decide +kernel)⟩
def lw_privs_1 : List (MethodName × Nat) := [(⟨"StatePuzzles", "find", "(LStatePuzzles$Puzzle;)I"⟩, 6), (⟨"StatePuzzles$Search", "makeRoom", "(I)V"⟩, 3), (⟨"StatePuzzles$JugSet", "readLevels", "(I)V"⟩, 5), (⟨"StatePuzzles$River", "allThings", "()I"⟩, 4), (⟨"StatePuzzles$JugSet", "roomIn", "(I)I"⟩, 5), (⟨"StatePuzzles$River", "mayBeLeft", "(I)Z"⟩, 4), (⟨"StatePuzzles$FoundSteps", "isFound", "(I)Z"⟩, 3), (⟨"StatePuzzles$RiverText", "readThings", "(LStatePuzzles$River;)I"⟩, 2), (⟨"StatePuzzles$RiverText", "unitAt", "(I)I"⟩, 2), (⟨"StatePuzzles$Tower", "tellOfFour", "(JI)I"⟩, 4), (⟨"StatePuzzlesModel", "code", "()I"⟩, 28), (⟨"StatePuzzlesModel", "begin", "(I)V"⟩, 28), (⟨"StatePuzzlesModel", "come", "(IIII)V"⟩, 28), (⟨"StatePuzzlesModel", "isGoal", "(I)Z"⟩, 28), (⟨"StatePuzzlesModel", "take", "(I)V"⟩, 28), (⟨"StatePuzzlesModel", "found", "(I)I"⟩, 28)]
theorem lw_r1 : ∀ q ∈ lw_privs_1, lw_okq q := List.forall_mem_cons.mpr ⟨lw_p0, List.forall_mem_cons.mpr ⟨lw_p1, List.forall_mem_cons.mpr ⟨lw_p2, List.forall_mem_cons.mpr ⟨lw_p3, List.forall_mem_cons.mpr ⟨lw_p4, List.forall_mem_cons.mpr ⟨lw_p5, List.forall_mem_cons.mpr ⟨lw_p6, List.forall_mem_cons.mpr ⟨lw_p7, List.forall_mem_cons.mpr ⟨lw_p8, List.forall_mem_cons.mpr ⟨lw_p9, List.forall_mem_cons.mpr ⟨lw_p10, List.forall_mem_cons.mpr ⟨lw_p11, List.forall_mem_cons.mpr ⟨lw_p12, List.forall_mem_cons.mpr ⟨lw_p13, List.forall_mem_cons.mpr ⟨lw_p14, List.forall_mem_cons.mpr ⟨lw_p15, fun _ h => absurd h List.not_mem_nil⟩⟩⟩⟩⟩⟩⟩⟩⟩⟩⟩⟩⟩⟩⟩⟩
theorem lw_p16 : lw_okq (⟨"StatePuzzlesModel", "pour", "(II)V"⟩, 28) := ⟨⟨by decide +kernel, by decide +kernel⟩, List.mem_of_getElem? (i := 427) (by decide +kernel), List.mem_of_getElem? (i := 560) (by decide +kernel), List.mem_of_getElem? (i := 561) (by decide +kernel)⟩
theorem lw_p17 : lw_okq (⟨"StatePuzzlesModel", "parse", "()I"⟩, 28) := ⟨⟨by decide +kernel, by decide +kernel⟩, List.mem_of_getElem? (i := 427) (by decide +kernel), List.mem_of_getElem? (i := 572) (by decide +kernel), List.mem_of_getElem? (i := 573) (by decide +kernel)⟩
theorem lw_p18 : lw_okq (⟨"StatePuzzlesModel", "byteAt", "(I)I"⟩, 28) := ⟨⟨by decide +kernel, by decide +kernel⟩, List.mem_of_getElem? (i := 427) (by decide +kernel), List.mem_of_getElem? (i := 576) (by decide +kernel), List.mem_of_getElem? (i := 577) (by decide +kernel)⟩
theorem lw_p19 : lw_okq (⟨"StatePuzzlesModel", "thingOf", "(I)I"⟩, 28) := ⟨⟨by decide +kernel, by decide +kernel⟩, List.mem_of_getElem? (i := 427) (by decide +kernel), List.mem_of_getElem? (i := 580) (by decide +kernel), List.mem_of_getElem? (i := 581) (by decide +kernel)⟩
theorem lw_p20 : lw_okq (⟨"StatePuzzlesModel", "countOf", "(I)I"⟩, 28) := ⟨⟨by decide +kernel, by decide +kernel⟩, List.mem_of_getElem? (i := 427) (by decide +kernel), List.mem_of_getElem? (i := 584) (by decide +kernel), List.mem_of_getElem? (i := 585) (by decide +kernel)⟩
theorem lw_p21 : lw_okq (⟨"StatePuzzlesModel", "mayStay", "(I)Z"⟩, 28) := ⟨⟨by decide +kernel, by decide +kernel⟩, List.mem_of_getElem? (i := 427) (by decide +kernel), List.mem_of_getElem? (i := 588) (by decide +kernel), List.mem_of_getElem? (i := 589) (by decide +kernel)⟩
theorem lw_p22 : lw_okq (⟨"StatePuzzlesModel", "all", "()J"⟩, 28) := ⟨⟨by decide +kernel, by decide +kernel⟩, List.mem_of_getElem? (i := 427) (by decide +kernel), List.mem_of_getElem? (i := 605) (by decide +kernel), List.mem_of_getElem? (i := 606) (by decide +kernel)⟩
theorem lw_p23 : lw_okq (⟨"StatePuzzlesModel", "findThree", "(JIIIII)V"⟩, 28) := ⟨⟨by decide +kernel, by decide +kernel⟩, List.mem_of_getElem? (i := 427) (by decide +kernel), List.mem_of_getElem? (i := 613) (by decide +kernel), List.mem_of_getElem? (i := 614) (by decide +kernel)⟩
theorem lw_p24 : lw_okq (⟨"StatePuzzlesModel", "findFour", "(JI)V"⟩, 28) := ⟨⟨by decide +kernel, by decide +kernel⟩, List.mem_of_getElem? (i := 427) (by decide +kernel), List.mem_of_getElem? (i := 617) (by decide +kernel), List.mem_of_getElem? (i := 618) (by decide +kernel)⟩
def lw_privs_2 : List (MethodName × Nat) := [(⟨"StatePuzzlesModel", "pour", "(II)V"⟩, 28), (⟨"StatePuzzlesModel", "parse", "()I"⟩, 28), (⟨"StatePuzzlesModel", "byteAt", "(I)I"⟩, 28), (⟨"StatePuzzlesModel", "thingOf", "(I)I"⟩, 28), (⟨"StatePuzzlesModel", "countOf", "(I)I"⟩, 28), (⟨"StatePuzzlesModel", "mayStay", "(I)Z"⟩, 28), (⟨"StatePuzzlesModel", "all", "()J"⟩, 28), (⟨"StatePuzzlesModel", "findThree", "(JIIIII)V"⟩, 28), (⟨"StatePuzzlesModel", "findFour", "(JI)V"⟩, 28)]
theorem lw_r2 : ∀ q ∈ lw_privs_2, lw_okq q := List.forall_mem_cons.mpr ⟨lw_p16, List.forall_mem_cons.mpr ⟨lw_p17, List.forall_mem_cons.mpr ⟨lw_p18, List.forall_mem_cons.mpr ⟨lw_p19, List.forall_mem_cons.mpr ⟨lw_p20, List.forall_mem_cons.mpr ⟨lw_p21, List.forall_mem_cons.mpr ⟨lw_p22, List.forall_mem_cons.mpr ⟨lw_p23, List.forall_mem_cons.mpr ⟨lw_p24, fun _ h => absurd h List.not_mem_nil⟩⟩⟩⟩⟩⟩⟩⟩⟩
def lw_privs : List (MethodName × Nat) := lw_privs_1 ++ (lw_privs_2)
def lw_tbl : List Cond := k2_sels lw_privs ++ tables_1
theorem lw_privs_ok : ∀ q ∈ lw_privs, lw_okq q := by
  show ∀ q ∈ lw_privs_1 ++ (lw_privs_2), lw_okq q
  exact List.forall_mem_append.mpr ⟨lw_r1, lw_r2⟩
def R_Fs : String := "StatePuzzles$FoundSteps"
def F_Fs : u_T := fun k => match k with
  | 0 => ("StatePuzzles$FoundSteps", "firsts", "[I", false)
  | 1 => ("StatePuzzles$FoundSteps", "seconds", "[I", false)
  | _ => ("StatePuzzles$FoundSteps", "count", "I", false)
def t_Fs : Nat → FieldType := fun k => match k with
  | 0 => .array .int
  | 1 => .array .int
  | _ => .int
def R_Js : String := "StatePuzzles$JugSet"
def F_Js : u_T := fun k => match k with
  | 0 => ("StatePuzzles$JugSet", "sizes", "[I", true)
  | 1 => ("StatePuzzles$JugSet", "firstLevels", "[I", true)
  | 2 => ("StatePuzzles$JugSet", "wanted", "[I", true)
  | 3 => ("StatePuzzles$JugSet", "levels", "[I", true)
  | _ => ("StatePuzzles$JugSet", "count", "I", false)
def t_Js : Nat → FieldType := fun k => match k with
  | 0 => .array .int
  | 1 => .array .int
  | 2 => .array .int
  | 3 => .array .int
  | _ => .int
def R_Rv : String := "StatePuzzles$River"
def F_Rv : u_T := fun k => match k with
  | 0 => ("StatePuzzles$River", "thingOfLetter", "[I", true)
  | 1 => ("StatePuzzles$River", "notWith", "[I", true)
  | 2 => ("StatePuzzles$River", "things", "I", false)
  | _ => ("StatePuzzles$River", "boat", "I", false)
def t_Rv : Nat → FieldType := fun k => match k with
  | 0 => .array .int
  | 1 => .array .int
  | 2 => .int
  | _ => .int
def R_Rt : String := "StatePuzzles$RiverText"
def F_Rt : u_T := fun k => match k with
  | 0 => ("StatePuzzles$RiverText", "units", "[I", true)
  | _ => ("StatePuzzles$RiverText", "count", "I", false)
def t_Rt : Nat → FieldType := fun k => match k with
  | 0 => .array .int
  | _ => .int
def R_Se : String := "StatePuzzles$Search"
def F_Se : u_T := fun k => match k with
  | 0 => ("StatePuzzles$Search", "trace", "[I", false)
  | 1 => ("StatePuzzles$Search", "queue", "[I", false)
  | _ => ("StatePuzzles$Search", "met", "I", false)
def t_Se : Nat → FieldType := fun k => match k with
  | 0 => .array .int
  | 1 => .array .int
  | _ => .int
def R_Tw : String := "StatePuzzles$Tower"
def F_Tw : u_T := fun k => match k with
  | 0 => ("StatePuzzles$Tower", "fourPegMoves", "[J", true)
  | 1 => ("StatePuzzles$Tower", "leastOnes", "[I", true)
  | 2 => ("StatePuzzles$Tower", "pegs", "I", false)
  | _ => ("StatePuzzles$Tower", "discs", "I", false)
def t_Tw : Nat → FieldType := fun k => match k with
  | 0 => .array .long
  | 1 => .array .int
  | 2 => .int
  | _ => .int
def R_Sp : String := "StatePuzzles"
def F_Sp : u_T := fun k => match k with
  | 0 => ("StatePuzzles", "jugSet", "LStatePuzzles$JugSet;", true)
  | 1 => ("StatePuzzles", "river", "LStatePuzzles$River;", true)
  | 2 => ("StatePuzzles", "riverText", "LStatePuzzles$RiverText;", true)
  | 3 => ("StatePuzzles", "search", "LStatePuzzles$Search;", true)
  | 4 => ("StatePuzzles", "found", "LStatePuzzles$FoundSteps;", true)
  | _ => ("StatePuzzles", "discTower", "LStatePuzzles$Tower;", true)
def t_Sp : Nat → FieldType := fun k => match k with
  | 0 => .object "StatePuzzles$JugSet"
  | 1 => .object "StatePuzzles$River"
  | 2 => .object "StatePuzzles$RiverText"
  | 3 => .object "StatePuzzles$Search"
  | 4 => .object "StatePuzzles$FoundSteps"
  | _ => .object "StatePuzzles$Tower"
def R_Mo : String := "StatePuzzlesModel"
def F_Mo : u_T := fun k => match k with
  | 0 => ("StatePuzzlesModel", "thrown", "I", false)
  | 1 => ("StatePuzzlesModel", "jugs", "I", false)
  | 2 => ("StatePuzzlesModel", "sizes", "[I", true)
  | 3 => ("StatePuzzlesModel", "now", "[I", true)
  | 4 => ("StatePuzzlesModel", "goals", "[I", true)
  | 5 => ("StatePuzzlesModel", "size", "I", false)
  | 6 => ("StatePuzzlesModel", "text", "[I", true)
  | 7 => ("StatePuzzlesModel", "steps", "I", false)
  | 8 => ("StatePuzzlesModel", "first", "[I", true)
  | 9 => ("StatePuzzlesModel", "second", "[I", true)
  | 10 => ("StatePuzzlesModel", "queue", "[I", true)
  | 11 => ("StatePuzzlesModel", "parent", "[I", true)
  | 12 => ("StatePuzzlesModel", "stepFrom", "[I", true)
  | 13 => ("StatePuzzlesModel", "stepTo", "[I", true)
  | 14 => ("StatePuzzlesModel", "seen", "[Z", true)
  | 15 => ("StatePuzzlesModel", "many", "I", false)
  | 16 => ("StatePuzzlesModel", "held", "[I", true)
  | 17 => ("StatePuzzlesModel", "things", "I", false)
  | 18 => ("StatePuzzlesModel", "boat", "I", false)
  | 19 => ("StatePuzzlesModel", "place", "[I", true)
  | 20 => ("StatePuzzlesModel", "apart", "[I", true)
  | 21 => ("StatePuzzlesModel", "pegs", "I", false)
  | 22 => ("StatePuzzlesModel", "discs", "I", false)
  | 23 => ("StatePuzzlesModel", "four", "[J", true)
  | 24 => ("StatePuzzlesModel", "parted", "[I", true)
  | 25 => ("StatePuzzlesModel", "moveDisc", "I", false)
  | 26 => ("StatePuzzlesModel", "moveFrom", "I", false)
  | _ => ("StatePuzzlesModel", "moveTo", "I", false)
def t_Mo : Nat → FieldType := fun k => match k with
  | 0 => .int
  | 1 => .int
  | 2 => .array .int
  | 3 => .array .int
  | 4 => .array .int
  | 5 => .int
  | 6 => .array .int
  | 7 => .int
  | 8 => .array .int
  | 9 => .array .int
  | 10 => .array .int
  | 11 => .array .int
  | 12 => .array .int
  | 13 => .array .int
  | 14 => .array .boolean
  | 15 => .int
  | 16 => .array .int
  | 17 => .int
  | 18 => .int
  | 19 => .array .int
  | 20 => .array .int
  | 21 => .int
  | 22 => .int
  | 23 => .array .long
  | 24 => .array .int
  | 25 => .int
  | 26 => .int
  | _ => .int
def R_Pz : String := "StatePuzzles$Puzzle"
abbrev vwCl : List vw_C := [(R_Fs, F_Fs, 3), (R_Js, F_Js, 5), (R_Rv, F_Rv, 4), (R_Rt, F_Rt, 2), (R_Se, F_Se, 3), (R_Tw, F_Tw, 4), (R_Sp, F_Sp, 6), (R_Mo, F_Mo, 28)]
abbrev b_Sp_init : ByteArray := prog_1_method_1_code
def y_Sp_init : MethodName := ⟨"StatePuzzles", "<init>", "()V"⟩
abbrev b_Sp_crossing : ByteArray := prog_1_method_6_code
def y_Sp_crossing : MethodName := ⟨"StatePuzzles", "crossing", "()I"⟩
abbrev b_Sp_find : ByteArray := prog_1_method_13_code
def y_Sp_find : MethodName := ⟨"StatePuzzles", "find", "(LStatePuzzles$Puzzle;)I"⟩
abbrev b_Sp_goal : ByteArray := prog_1_method_3_code
def y_Sp_goal : MethodName := ⟨"StatePuzzles", "goal", "(II)Z"⟩
abbrev b_Sp_jug : ByteArray := prog_1_method_2_code
def y_Sp_jug : MethodName := ⟨"StatePuzzles", "jug", "(II)I"⟩
abbrev b_Sp_jugs : ByteArray := prog_1_method_4_code
def y_Sp_jugs : MethodName := ⟨"StatePuzzles", "jugs", "()I"⟩
abbrev b_Sp_ring : ByteArray := prog_1_method_12_code
def y_Sp_ring : MethodName := ⟨"StatePuzzles", "ring", "(IJ)J"⟩
abbrev b_Sp_ringSteps : ByteArray := prog_1_method_16_code
def y_Sp_ringSteps : MethodName := ⟨"StatePuzzles", "ringSteps", "(I)J"⟩
abbrev b_Sp_rings : ByteArray := prog_1_method_11_code
def y_Sp_rings : MethodName := ⟨"StatePuzzles", "rings", "(I)J"⟩
abbrev b_Sp_step : ByteArray := prog_1_method_7_code
def y_Sp_step : MethodName := ⟨"StatePuzzles", "step", "(IZ)I"⟩
abbrev b_Sp_tower : ByteArray := prog_1_method_9_code
def y_Sp_tower : MethodName := ⟨"StatePuzzles", "tower", "(II)J"⟩
abbrev b_Sp_towerMove : ByteArray := prog_1_method_10_code
def y_Sp_towerMove : MethodName := ⟨"StatePuzzles", "towerMove", "(JI)I"⟩
abbrev b_Sp_triesForHeavier : ByteArray := prog_1_method_14_code
def y_Sp_triesForHeavier : MethodName := ⟨"StatePuzzles", "triesForHeavier", "(I)I"⟩
abbrev b_Sp_triesForOdd : ByteArray := prog_1_method_15_code
def y_Sp_triesForOdd : MethodName := ⟨"StatePuzzles", "triesForOdd", "(I)I"⟩
abbrev b_Sp_unit : ByteArray := prog_1_method_5_code
def y_Sp_unit : MethodName := ⟨"StatePuzzles", "unit", "(I)Z"⟩
abbrev b_Sp_weigh : ByteArray := prog_1_method_8_code
def y_Sp_weigh : MethodName := ⟨"StatePuzzles", "weigh", "(II)I"⟩
abbrev b_Fs_init : ByteArray := prog_2_method_1_code
def y_Fs_init : MethodName := ⟨"StatePuzzles$FoundSteps", "<init>", "()V"⟩
abbrev b_Fs_first : ByteArray := prog_2_method_5_code
def y_Fs_first : MethodName := ⟨"StatePuzzles$FoundSteps", "first", "(I)I"⟩
abbrev b_Fs_forget : ByteArray := prog_2_method_2_code
def y_Fs_forget : MethodName := ⟨"StatePuzzles$FoundSteps", "forget", "()V"⟩
abbrev b_Fs_isFound : ByteArray := prog_2_method_7_code
def y_Fs_isFound : MethodName := ⟨"StatePuzzles$FoundSteps", "isFound", "(I)Z"⟩
abbrev b_Fs_makeRoom : ByteArray := prog_2_method_3_code
def y_Fs_makeRoom : MethodName := ⟨"StatePuzzles$FoundSteps", "makeRoom", "(I)V"⟩
abbrev b_Fs_put : ByteArray := prog_2_method_4_code
def y_Fs_put : MethodName := ⟨"StatePuzzles$FoundSteps", "put", "(III)V"⟩
abbrev b_Fs_second : ByteArray := prog_2_method_6_code
def y_Fs_second : MethodName := ⟨"StatePuzzles$FoundSteps", "second", "(I)I"⟩
abbrev b_Js_init : ByteArray := prog_3_method_1_code
def y_Js_init : MethodName := ⟨"StatePuzzles$JugSet", "<init>", "()V"⟩
abbrev b_Js_add : ByteArray := prog_3_method_2_code
def y_Js_add : MethodName := ⟨"StatePuzzles$JugSet", "add", "(II)I"⟩
abbrev b_Js_codeOf : ByteArray := prog_3_method_10_code
def y_Js_codeOf : MethodName := ⟨"StatePuzzles$JugSet", "codeOf", "(II)I"⟩
abbrev b_Js_firstTold : ByteArray := prog_3_method_8_code
def y_Js_firstTold : MethodName := ⟨"StatePuzzles$JugSet", "firstTold", "(I)I"⟩
abbrev b_Js_isDone : ByteArray := prog_3_method_6_code
def y_Js_isDone : MethodName := ⟨"StatePuzzles$JugSet", "isDone", "(I)Z"⟩
abbrev b_Js_meetNext : ByteArray := prog_3_method_7_code
def y_Js_meetNext : MethodName := ⟨"StatePuzzles$JugSet", "meetNext", "(ILStatePuzzles$Search;)V"⟩
abbrev b_Js_readLevels : ByteArray := prog_3_method_12_code
def y_Js_readLevels : MethodName := ⟨"StatePuzzles$JugSet", "readLevels", "(I)V"⟩
abbrev b_Js_roomIn : ByteArray := prog_3_method_11_code
def y_Js_roomIn : MethodName := ⟨"StatePuzzles$JugSet", "roomIn", "(I)I"⟩
abbrev b_Js_secondTold : ByteArray := prog_3_method_9_code
def y_Js_secondTold : MethodName := ⟨"StatePuzzles$JugSet", "secondTold", "(II)I"⟩
abbrev b_Js_startState : ByteArray := prog_3_method_5_code
def y_Js_startState : MethodName := ⟨"StatePuzzles$JugSet", "startState", "()I"⟩
abbrev b_Js_stateCount : ByteArray := prog_3_method_4_code
def y_Js_stateCount : MethodName := ⟨"StatePuzzles$JugSet", "stateCount", "()I"⟩
abbrev b_Js_want : ByteArray := prog_3_method_3_code
def y_Js_want : MethodName := ⟨"StatePuzzles$JugSet", "want", "(II)Z"⟩
abbrev b_Pz_init : ByteArray := prog_4_method_1_code
def y_Pz_init : MethodName := ⟨"StatePuzzles$Puzzle", "<init>", "()V"⟩
abbrev b_Rv_init : ByteArray := prog_5_method_1_code
def y_Rv_init : MethodName := ⟨"StatePuzzles$River", "<init>", "()V"⟩
abbrev b_Rv_addThing : ByteArray := prog_5_method_3_code
def y_Rv_addThing : MethodName := ⟨"StatePuzzles$River", "addThing", "(I)Z"⟩
abbrev b_Rv_allThings : ByteArray := prog_5_method_13_code
def y_Rv_allThings : MethodName := ⟨"StatePuzzles$River", "allThings", "()I"⟩
abbrev b_Rv_clear : ByteArray := prog_5_method_2_code
def y_Rv_clear : MethodName := ⟨"StatePuzzles$River", "clear", "()V"⟩
abbrev b_Rv_firstTold : ByteArray := prog_5_method_11_code
def y_Rv_firstTold : MethodName := ⟨"StatePuzzles$River", "firstTold", "(I)I"⟩
abbrev b_Rv_isDone : ByteArray := prog_5_method_9_code
def y_Rv_isDone : MethodName := ⟨"StatePuzzles$River", "isDone", "(I)Z"⟩
abbrev b_Rv_keepApart : ByteArray := prog_5_method_5_code
def y_Rv_keepApart : MethodName := ⟨"StatePuzzles$River", "keepApart", "(II)Z"⟩
abbrev b_Rv_mayBeLeft : ByteArray := prog_5_method_14_code
def y_Rv_mayBeLeft : MethodName := ⟨"StatePuzzles$River", "mayBeLeft", "(I)Z"⟩
abbrev b_Rv_meetNext : ByteArray := prog_5_method_10_code
def y_Rv_meetNext : MethodName := ⟨"StatePuzzles$River", "meetNext", "(ILStatePuzzles$Search;)V"⟩
abbrev b_Rv_secondTold : ByteArray := prog_5_method_12_code
def y_Rv_secondTold : MethodName := ⟨"StatePuzzles$River", "secondTold", "(II)I"⟩
abbrev b_Rv_setBoat : ByteArray := prog_5_method_6_code
def y_Rv_setBoat : MethodName := ⟨"StatePuzzles$River", "setBoat", "(I)Z"⟩
abbrev b_Rv_startState : ByteArray := prog_5_method_8_code
def y_Rv_startState : MethodName := ⟨"StatePuzzles$River", "startState", "()I"⟩
abbrev b_Rv_stateCount : ByteArray := prog_5_method_7_code
def y_Rv_stateCount : MethodName := ⟨"StatePuzzles$River", "stateCount", "()I"⟩
abbrev b_Rv_thingOf : ByteArray := prog_5_method_4_code
def y_Rv_thingOf : MethodName := ⟨"StatePuzzles$River", "thingOf", "(I)I"⟩
abbrev b_Rt_init : ByteArray := prog_6_method_1_code
def y_Rt_init : MethodName := ⟨"StatePuzzles$RiverText", "<init>", "()V"⟩
abbrev b_Rt_add : ByteArray := prog_6_method_2_code
def y_Rt_add : MethodName := ⟨"StatePuzzles$RiverText", "add", "(I)Z"⟩
abbrev b_Rt_forget : ByteArray := prog_6_method_3_code
def y_Rt_forget : MethodName := ⟨"StatePuzzles$RiverText", "forget", "()V"⟩
abbrev b_Rt_readInto : ByteArray := prog_6_method_4_code
def y_Rt_readInto : MethodName := ⟨"StatePuzzles$RiverText", "readInto", "(LStatePuzzles$River;)I"⟩
abbrev b_Rt_readThings : ByteArray := prog_6_method_5_code
def y_Rt_readThings : MethodName := ⟨"StatePuzzles$RiverText", "readThings", "(LStatePuzzles$River;)I"⟩
abbrev b_Rt_unitAt : ByteArray := prog_6_method_6_code
def y_Rt_unitAt : MethodName := ⟨"StatePuzzles$RiverText", "unitAt", "(I)I"⟩
abbrev b_Se_init : ByteArray := prog_7_method_1_code
def y_Se_init : MethodName := ⟨"StatePuzzles$Search", "<init>", "()V"⟩
abbrev b_Se_before : ByteArray := prog_7_method_5_code
def y_Se_before : MethodName := ⟨"StatePuzzles$Search", "before", "(I)I"⟩
abbrev b_Se_endOf : ByteArray := prog_7_method_2_code
def y_Se_endOf : MethodName := ⟨"StatePuzzles$Search", "endOf", "(LStatePuzzles$Puzzle;)I"⟩
abbrev b_Se_makeRoom : ByteArray := prog_7_method_7_code
def y_Se_makeRoom : MethodName := ⟨"StatePuzzles$Search", "makeRoom", "(I)V"⟩
abbrev b_Se_meet : ByteArray := prog_7_method_3_code
def y_Se_meet : MethodName := ⟨"StatePuzzles$Search", "meet", "(III)V"⟩
abbrev b_Se_stepInto : ByteArray := prog_7_method_6_code
def y_Se_stepInto : MethodName := ⟨"StatePuzzles$Search", "stepInto", "(I)I"⟩
abbrev b_Se_stepsTo : ByteArray := prog_7_method_4_code
def y_Se_stepsTo : MethodName := ⟨"StatePuzzles$Search", "stepsTo", "(I)I"⟩
abbrev b_Tw_init : ByteArray := prog_8_method_1_code
def y_Tw_init : MethodName := ⟨"StatePuzzles$Tower", "<init>", "()V"⟩
abbrev b_Tw_lesserFreePeg : ByteArray := prog_8_method_8_code
def y_Tw_lesserFreePeg : MethodName := ⟨"StatePuzzles$Tower", "lesserFreePeg", "(II)I"⟩
abbrev b_Tw_moves : ByteArray := prog_8_method_3_code
def y_Tw_moves : MethodName := ⟨"StatePuzzles$Tower", "moves", "()J"⟩
abbrev b_Tw_set : ByteArray := prog_8_method_2_code
def y_Tw_set : MethodName := ⟨"StatePuzzles$Tower", "set", "(II)Z"⟩
abbrev b_Tw_tellMove : ByteArray := prog_8_method_4_code
def y_Tw_tellMove : MethodName := ⟨"StatePuzzles$Tower", "tellMove", "(JI)I"⟩
abbrev b_Tw_tellOfFour : ByteArray := prog_8_method_5_code
def y_Tw_tellOfFour : MethodName := ⟨"StatePuzzles$Tower", "tellOfFour", "(JI)I"⟩
abbrev b_Tw_tellOfThree : ByteArray := prog_8_method_6_code
def y_Tw_tellOfThree : MethodName := ⟨"StatePuzzles$Tower", "tellOfThree", "(JIIIIII)I"⟩
abbrev b_Tw_threePegMoves : ByteArray := prog_8_method_7_code
def y_Tw_threePegMoves : MethodName := ⟨"StatePuzzles$Tower", "threePegMoves", "(I)J"⟩
abbrev b_Mo_init : ByteArray := prog_10_method_1_code
def y_Mo_init : MethodName := ⟨"StatePuzzlesModel", "<init>", "()V"⟩
abbrev b_Mo_all : ByteArray := prog_10_method_24_code
def y_Mo_all : MethodName := ⟨"StatePuzzlesModel", "all", "()J"⟩
abbrev b_Mo_begin : ByteArray := prog_10_method_10_code
def y_Mo_begin : MethodName := ⟨"StatePuzzlesModel", "begin", "(I)V"⟩
abbrev b_Mo_byteAt : ByteArray := prog_10_method_15_code
def y_Mo_byteAt : MethodName := ⟨"StatePuzzlesModel", "byteAt", "(I)I"⟩
abbrev b_Mo_code : ByteArray := prog_10_method_7_code
def y_Mo_code : MethodName := ⟨"StatePuzzlesModel", "code", "()I"⟩
abbrev b_Mo_come : ByteArray := prog_10_method_11_code
def y_Mo_come : MethodName := ⟨"StatePuzzlesModel", "come", "(IIII)V"⟩
abbrev b_Mo_countOf : ByteArray := prog_10_method_19_code
def y_Mo_countOf : MethodName := ⟨"StatePuzzlesModel", "countOf", "(I)I"⟩
abbrev b_Mo_crossing : ByteArray := prog_10_method_20_code
def y_Mo_crossing : MethodName := ⟨"StatePuzzlesModel", "crossing", "()I"⟩
abbrev b_Mo_findFour : ByteArray := prog_10_method_27_code
def y_Mo_findFour : MethodName := ⟨"StatePuzzlesModel", "findFour", "(JI)V"⟩
abbrev b_Mo_findThree : ByteArray := prog_10_method_25_code
def y_Mo_findThree : MethodName := ⟨"StatePuzzlesModel", "findThree", "(JIIIII)V"⟩
abbrev b_Mo_found : ByteArray := prog_10_method_12_code
def y_Mo_found : MethodName := ⟨"StatePuzzlesModel", "found", "(I)I"⟩
abbrev b_Mo_full : ByteArray := prog_10_method_29_code
def y_Mo_full : MethodName := ⟨"StatePuzzlesModel", "full", "(I)J"⟩
abbrev b_Mo_goal : ByteArray := prog_10_method_5_code
def y_Mo_goal : MethodName := ⟨"StatePuzzlesModel", "goal", "(II)Z"⟩
abbrev b_Mo_isGoal : ByteArray := prog_10_method_9_code
def y_Mo_isGoal : MethodName := ⟨"StatePuzzlesModel", "isGoal", "(I)Z"⟩
abbrev b_Mo_jug : ByteArray := prog_10_method_4_code
def y_Mo_jug : MethodName := ⟨"StatePuzzlesModel", "jug", "(II)I"⟩
abbrev b_Mo_jugs : ByteArray := prog_10_method_13_code
def y_Mo_jugs : MethodName := ⟨"StatePuzzlesModel", "jugs", "()I"⟩
abbrev b_Mo_mayStay : ByteArray := prog_10_method_18_code
def y_Mo_mayStay : MethodName := ⟨"StatePuzzlesModel", "mayStay", "(I)Z"⟩
abbrev b_Mo_parse : ByteArray := prog_10_method_17_code
def y_Mo_parse : MethodName := ⟨"StatePuzzlesModel", "parse", "()I"⟩
abbrev b_Mo_pour : ByteArray := prog_10_method_8_code
def y_Mo_pour : MethodName := ⟨"StatePuzzlesModel", "pour", "(II)V"⟩
abbrev b_Mo_ring : ByteArray := prog_10_method_31_code
def y_Mo_ring : MethodName := ⟨"StatePuzzlesModel", "ring", "(IJ)J"⟩
abbrev b_Mo_rings : ByteArray := prog_10_method_30_code
def y_Mo_rings : MethodName := ⟨"StatePuzzlesModel", "rings", "(I)J"⟩
abbrev b_Mo_spare : ByteArray := prog_10_method_26_code
def y_Mo_spare : MethodName := ⟨"StatePuzzlesModel", "spare", "(IIZ)I"⟩
abbrev b_Mo_step : ByteArray := prog_10_method_21_code
def y_Mo_step : MethodName := ⟨"StatePuzzlesModel", "step", "(IZ)I"⟩
abbrev b_Mo_take : ByteArray := prog_10_method_6_code
def y_Mo_take : MethodName := ⟨"StatePuzzlesModel", "take", "(I)V"⟩
abbrev b_Mo_thingOf : ByteArray := prog_10_method_16_code
def y_Mo_thingOf : MethodName := ⟨"StatePuzzlesModel", "thingOf", "(I)I"⟩
abbrev b_Mo_three : ByteArray := prog_10_method_3_code
def y_Mo_three : MethodName := ⟨"StatePuzzlesModel", "three", "(I)J"⟩
abbrev b_Mo_tower : ByteArray := prog_10_method_23_code
def y_Mo_tower : MethodName := ⟨"StatePuzzlesModel", "tower", "(II)J"⟩
abbrev b_Mo_towerMove : ByteArray := prog_10_method_28_code
def y_Mo_towerMove : MethodName := ⟨"StatePuzzlesModel", "towerMove", "(JI)I"⟩
abbrev b_Mo_unit : ByteArray := prog_10_method_14_code
def y_Mo_unit : MethodName := ⟨"StatePuzzlesModel", "unit", "(I)Z"⟩
abbrev b_Mo_weigh : ByteArray := prog_10_method_22_code
def y_Mo_weigh : MethodName := ⟨"StatePuzzlesModel", "weigh", "(II)I"⟩
abbrev b_Ig_bitCount : ByteArray := prog_11_method_49_code
def y_Ig_bitCount : MethodName := ⟨"java/lang/Integer", "bitCount", "(I)I"⟩
abbrev b_Ma_min : ByteArray := prog_12_method_69_code
def y_Ma_min : MethodName := ⟨"java/lang/Math", "min", "(II)I"⟩
abbrev b_Ar_fill : ByteArray := prog_13_method_103_code
def y_Ar_fill : MethodName := ⟨"java/util/Arrays", "fill", "([II)V"⟩
